/-! calls of the model out of the law -/
theorem lw_qoff {st : Nat} {md : List (Nat × Nat)} {tk : List Nat} (h : ¬ 3 ≤ st) (hq : (lw_qt 0 md tk && lw_qt 1 md tk && lw_qt 2 md tk) = true) : lw_qt st md tk = true := by
  simp only [Bool.and_eq_true] at hq
  match st, h with
  | 0, _ => exact hq.1.1
  | 1, _ => exact hq.1.2
  | 2, _ => exact hq.2
  | n + 3, h => exact absurd (Nat.le_add_left 3 n) h
theorem lw_qon {st : Nat} {md : List (Nat × Nat)} {tk : List Nat} (h : 3 ≤ st) (hq : lw_qt 3 md tk = true) : lw_qt st md tk = true := by
  match st, h with
  | n + 3, _ =>
    refine List.all_eq_true.mpr fun z hz => ?_
    have h9 := List.all_eq_true.mp hq z hz
    have e1 : (n + 3 == 0) = (3 == 0) := by simp
    have e2 : decide (n + 3 ≤ 2) = decide (3 ≤ 2) := by
      rw [decide_eq_decide]
      omega
    have e3 : decide (3 ≤ n + 3) = decide (3 ≤ 3) := by
      rw [decide_eq_decide]
      omega
    rw [e1, e2, e3]
    exact h9
section
variable {tys : List (ClassId × FieldType)} {cO cD : ClassId} {A : Nat → Prop} {sh : en_H} {w : va_W} {qx qo qd : Nat} {LP : en_H → va_W → Prop} {st : Nat} {cx cy : Int32} {fs fs' : List Value} {tk : List Nat} {md : List (Nat × Nat)} {u : en_H × va_W}
theorem lw_w18 (I : lw_I LP tys cO cD qx qo qd sh w st cx cy fs) : w.length = sh.1.length ∧ ∀ x, w[18]? = some x → x.1 = sh.2 18 := ⟨I.hs.1.1, fun x hx => by
  obtain ⟨e9, a1, -⟩ := I.hs.1.2 18 28 I.h28
  rw [Option.some.inj (hx.symm.trans a1)]⟩
theorem lw_ahA (I : lw_I LP tys cO cD qx qo qd sh w st cx cy fs) (h : en_Px tys (en_Pc cx cy) en_KT tk md sh w u) (hw' : u.2[0]? = some (u.1.2 0, .inr (13, fs'))) (hm : (20, 4) ∉ md ∧ (28, 0) ∉ md) (hA : ∃ (a : Nat) (cA : ClassId) (n : Nat) (g : Nat → Int32), fs[4]? = some (.ref a) ∧ w[18]? = some (a, .inl (cA, n, .inl g)) ∧ en_Inv (en_Pc cx cy) en_V27 g) : lw_ah cx cy fs' u.2 := by
  obtain ⟨fs9, g1, g2⟩ := lw_fs I.h20 I.hs.2.1 h
  have e9 : fs9 = fs' := by
    have := Option.some.inj (g1.symm.trans hw')
    exact (Prod.mk.inj (Sum.inr.inj (Prod.mk.inj this).2)).2
  subst e9
  obtain ⟨a, cA, n, g, a1, a2, a3⟩ := hA
  refine Or.inl ⟨a, cA, n, g, (g2 4 hm.1).trans a1, ?_, a3⟩
  have ea : a = sh.2 18 := (lw_w18 I).2 _ a2
  subst ea
  exact wr_keep h I.h28 hm.2 a2
theorem lw_last {κ : en_K} {ρ : List Value} {res : Option Value} (I : lw_I LP tys cO cD qx qo qd sh w st cx cy fs) (ha : κ.2.2.1.all lw_l28 = true) (hD : va_D A u.2) (hw' : u.2[0]? = some (u.1.2 0, .inr (13, fs'))) (h : en_Po tys (en_Pc cx cy) (en_Of cx cy) en_KT κ sh w ρ res u) (hn : 0 < κ.1) (h0 : ρ[0]? = some (.ref (sh.2 0))) : fs'[28]? = some (.int (-1)) := by
  obtain ⟨hpx, o, ho, ρ', h1, h2, -⟩ := h
  refine lw_l28_ok (List.all_eq_true.mp ha o ho) hD hw' ?_ h1
  rw [h2 0 hn, (hpx.1.at I.h20).2]
  exact h0
end
theorem lw_stc {st : Nat} (h : st ≤ 4) : st = 0 ∨ st = 1 ∨ st = 2 ∨ st = 3 ∨ st = 4 := by omega
theorem lw_k16 {x : Int32} (h1 : (1 : Int) ≤ x.toInt) (h2 : x.toInt ≤ 9) : x.toInt = 1 ∨ x.toInt = 2 ∨ x.toInt = 3 ∨ x.toInt = 4 ∨ x.toInt = 5 ∨ x.toInt = 6 ∨ x.toInt = 7 ∨ x.toInt = 8 ∨ x.toInt = 9 := by omega
theorem lw_z35 {PP : Int32 → Int32 → Prop} {sh : en_H} {tys : List (ClassId × FieldType)} {e : va_E} (h : en_C PP sh tys (.inr (2, 6, .inl (.inl (0, 0, 0, 0)))) e) : en_C PP sh tys (.inr (2, 6, .inl (.inl (0, 1, 0, 0)))) e := by
  rcases e with ⟨cA, n, f | f | f | f | f⟩ | o <;> first | exact h.elim | skip
  obtain ⟨d1, d2, d3⟩ := h
  refine ⟨d1, d2, fun j hj => ?_⟩
  have d4 := d3 j hj
  have e1 : (0 : Int) ≤ (f j).toInt := d4.1
  have e2 : (f j).toInt ≤ 0 := d4.2
  exact ⟨e1, by show (f j).toInt ≤ 1; omega⟩
theorem lw_KTz_eq : (∀ k, k ≠ 35 → en_KTz[k]? = en_KT[k]?) ∧ ∀ k, k ≠ 27 → en_KTpz[k]? = en_KTz[k]? := by
  have h2 : ∀ k, ¬ k < 49 → en_KTpz[k]? = none ∧ en_KTz[k]? = none ∧ en_KT[k]? = none := fun k hk => ⟨List.getElem?_eq_none (by have : en_KTpz.length = 49 := rfl; omega), List.getElem?_eq_none (by have : en_KTz.length = 49 := rfl; omega), List.getElem?_eq_none (by have : en_KT.length = 49 := rfl; omega)⟩
  refine ⟨fun k h1 => ?_, fun k h1 => ?_⟩
  · by_cases hk : k < 49
    · match k, hk with
      | 0, _ => rfl
      | 1, _ => rfl
      | 2, _ => rfl
      | 3, _ => rfl
      | 4, _ => rfl
      | 5, _ => rfl
      | 6, _ => rfl
      | 7, _ => rfl
      | 8, _ => rfl
      | 9, _ => rfl
      | 10, _ => rfl
      | 11, _ => rfl
      | 12, _ => rfl
      | 13, _ => rfl
      | 14, _ => rfl
      | 15, _ => rfl
      | 16, _ => rfl
      | 17, _ => rfl
      | 18, _ => rfl
      | 19, _ => rfl
      | 20, _ => rfl
      | 21, _ => rfl
      | 22, _ => rfl
      | 23, _ => rfl
      | 24, _ => rfl
      | 25, _ => rfl
      | 26, _ => rfl
      | 27, _ => rfl
      | 28, _ => rfl
      | 29, _ => rfl
      | 30, _ => rfl
      | 31, _ => rfl
      | 32, _ => rfl
      | 33, _ => rfl
      | 34, _ => rfl
      | 35, _ => exact absurd rfl h1
      | 36, _ => rfl
      | 37, _ => rfl
      | 38, _ => rfl
      | 39, _ => rfl
      | 40, _ => rfl
      | 41, _ => rfl
      | 42, _ => rfl
      | 43, _ => rfl
      | 44, _ => rfl
      | 45, _ => rfl
      | 46, _ => rfl
      | 47, _ => rfl
      | 48, _ => rfl
      | n + 49, hk => omega
    · exact (h2 k hk).2.1.trans (h2 k hk).2.2.symm
  · by_cases hk : k < 49
    · match k, hk with
      | 0, _ => rfl
      | 1, _ => rfl
      | 2, _ => rfl
      | 3, _ => rfl
      | 4, _ => rfl
      | 5, _ => rfl
      | 6, _ => rfl
      | 7, _ => rfl
      | 8, _ => rfl
      | 9, _ => rfl
      | 10, _ => rfl
      | 11, _ => rfl
      | 12, _ => rfl
      | 13, _ => rfl
      | 14, _ => rfl
      | 15, _ => rfl
      | 16, _ => rfl
      | 17, _ => rfl
      | 18, _ => rfl
      | 19, _ => rfl
      | 20, _ => rfl
      | 21, _ => rfl
      | 22, _ => rfl
      | 23, _ => rfl
      | 24, _ => rfl
      | 25, _ => rfl
      | 26, _ => rfl
      | 27, _ => exact absurd rfl h1
      | 28, _ => rfl
      | 29, _ => rfl
      | 30, _ => rfl
      | 31, _ => rfl
      | 32, _ => rfl
      | 33, _ => rfl
      | 34, _ => rfl
      | 35, _ => rfl
      | 36, _ => rfl
      | 37, _ => rfl
      | 38, _ => rfl
      | 39, _ => rfl
      | 40, _ => rfl
      | 41, _ => rfl
      | 42, _ => rfl
      | 43, _ => rfl
      | 44, _ => rfl
      | 45, _ => rfl
      | 46, _ => rfl
      | 47, _ => rfl
      | 48, _ => rfl
      | n + 49, hk => omega
    · exact (h2 k hk).1.trans (h2 k hk).2.1.symm
theorem lw_zx {tys : List (ClassId × FieldType)} {PP : Int32 → Int32 → Prop} {tk : List Nat} {md : List (Nat × Nat)} {sh : en_H} {w : va_W} {u : en_H × va_W} (h : en_Px tys PP en_KTz tk md sh w u) : en_Px tys PP en_KT tk md sh w u := ⟨h.1, ⟨h.2.1.1, fun q k hq => by
  obtain ⟨e, a, b⟩ := h.2.1.2 q k hq
  refine ⟨e, a, fun hk hx => ?_⟩
  obtain ⟨kd, c1, c2⟩ := b hk hx
  by_cases e35 : k = 35
  · subst e35
    have e9 := Option.some.inj (c1.symm.trans (show en_KTz[35]? = some (.inr (2, 6, .inl (.inl (0, 0, 0, 0)))) from rfl))
    subst e9
    exact ⟨_, rfl, lw_z35 c2⟩
  · exact ⟨kd, by rw [← lw_KTz_eq.1 k e35]; exact c1, c2⟩⟩, h.2.2⟩
theorem lw_preZ {tys : List (ClassId × FieldType)} {PP : Int32 → Int32 → Prop} {tk : List Nat} {sh : en_H} {w : va_W} (h : en_W PP (lw_KT 0) lw_TK sh tys (fun _ => False) w) (hs : ∀ k ∈ tk, k < 49) (h27 : 27 ∉ tk) : en_W PP en_KTz tk sh tys (fun _ => False) w := (lw_tk h fun k hk => List.mem_range.mpr (hs k hk)).kt fun k hk => lw_KTz_eq.2 k fun e => h27 (e ▸ hk)
/-! the ball ahead, told by a contract's out -/
def lw_sy (fa : List en_X) (a j : Nat) : Nat := match fa.find? (fun f => f.1 == 1 && (f.2.1 == a && f.2.2.1 == j)) with
  | some f => f.2.2.2.1
  | none => 1000
def lw_vs (fa : List en_X) (a : Nat) : List Nat := (List.range 24).map (lw_sy fa a)
def lw_pl (env : List en_A) : Bool := env.all fun a => match a with
  | .inl r => r.2.2.1 == 0
  | _ => true
theorem lw_pl_ok {PP : Int32 → Int32 → Prop} {Ω : Nat → en_H → va_W → Prop} {sh : en_H} {w : va_W} {o : en_Pt} {ρ : List Value} (h : lw_pl o.1 = true) (hPa : en_Pa PP Ω sh w o ρ) : en_E sh o.1 ρ := ⟨hPa.1, fun i a hi => by
  obtain ⟨v, h1, h2⟩ := hPa.2.1 i a hi
  refine ⟨v, h1, h2, fun lo hi' b o9 e => ?_⟩
  subst e
  have h9 := List.all_eq_true.mp h _ (List.mem_of_getElem? hi)
  simp at h9⟩
def lw_fit (o : en_Pt) : Bool := lw_pl o.1 && o.2.any fun f => f.1 == 0 && (f.2.1 == 0 && (f.2.2.1 == 4 && ((List.range 24).all (fun j => o.2.contains (1, f.2.2.2.1, j, lw_sy o.2 f.2.2.2.1 j, 0, 0)) && (en_clk o.1 en_V27.1 (lw_vs o.2 f.2.2.2.1) && en_V27.2.all (en_cli o.1 o.2 (lw_vs o.2 f.2.2.2.1))))))
theorem lw_fit_ok {PP : Int32 → Int32 → Prop} {Ω : Nat → en_H → va_W → Prop} {sh : en_H} {w : va_W} {A : Nat → Prop} {o : en_Pt} {ρ fs : List Value} (h : lw_fit o = true) (hD : va_D A w) (hw : w[0]? = some (sh.2 0, .inr (13, fs))) (h0 : ρ[0]? = some (.ref (sh.2 0))) (hPa : en_Pa PP Ω sh w o ρ) : ∃ (a q n : Nat) (cA : ClassId) (g : Nat → Int32), fs[4]? = some (.ref a) ∧ w[q]? = some (a, .inl (cA, n, .inl g)) ∧ en_Inv PP en_V27 g := by
  unfold lw_fit at h
  simp only [Bool.and_eq_true] at h
  obtain ⟨hpl, h⟩ := h
  have hE := lw_pl_ok hpl hPa
  obtain ⟨f, hf, h9⟩ := List.any_eq_true.mp h
  obtain ⟨tag, a, b, c, lo, hi⟩ := f
  simp only [Bool.and_eq_true, beq_iff_eq] at h9
  obtain ⟨rfl, rfl, rfl, hc, hk, hi9⟩ := h9
  obtain ⟨q, r9, ci, fs9, v9, b1, b2, b3, b4⟩ := hPa.2.2 _ hf
  have er : r9 = sh.2 0 := Value.ref.inj (Option.some.inj (b1.symm.trans h0))
  subst er
  have eq : q = 0 := hD.1 q 0 _ _ b2 hw rfl
  subst eq
  have e9 : fs9 = fs := (Prod.mk.inj (Sum.inr.inj (Prod.mk.inj (Option.some.inj (b2.symm.trans hw))).2)).2
  subst e9
  have hrow : ∀ j, j < 24 → en_fs PP Ω sh w ρ (1, c, j, lw_sy o.2 c j, 0, 0) := fun j hj => hPa.2.2 _ (List.contains_iff_mem.mp (List.all_eq_true.mp hc j (List.mem_range.mpr hj)))
  obtain ⟨q0, r0, n0, cA0, g, d1, d2, d3, d4⟩ := hrow 0 (by decide)
  have ev : v9 = .ref r0 := Option.some.inj (b4.symm.trans d1)
  subst ev
  have hg : ∀ j, j < 24 → ρ[lw_sy o.2 c j]? = some (.int (g j)) := fun j hj => by
    obtain ⟨q1, r1, n1, cA1, g1, f1, f2, f3, f4⟩ := hrow j hj
    have er : r1 = r0 := Value.ref.inj (Option.some.inj (f1.symm.trans d1))
    subst er
    have eq : q1 = q0 := hD.1 q1 q0 _ _ f2 d2 rfl
    subst eq
    have e9 := Option.some.inj (f2.symm.trans d2)
    simp only [Prod.mk.injEq, Sum.inl.injEq, true_and] at e9
    obtain ⟨-, -, rfl⟩ := e9
    exact f4
  have hvs : ∀ j cx, (lw_vs o.2 c)[j]? = some cx → ρ[cx]? = some (.int (g j)) := fun j cx hj => by
    unfold lw_vs at hj
    rw [List.getElem?_map] at hj
    obtain ⟨j', h1, h2⟩ := Option.map_eq_some_iff.mp hj
    have h3 : j < 24 := by
      have := (List.getElem?_eq_some_iff.mp h1).1
      rw [List.length_range] at this
      exact this
    rw [List.getElem?_range h3] at h1
    have e := Option.some.inj h1
    subst e
    rw [← h2]
    exact hg j h3
  refine ⟨r0, q0, n0, cA0, g, b3, d2, fun j r hr => ?_, fun m hm a1 a2 => ?_⟩
  · have hj : j < (lw_vs o.2 c).length := by rw [← en_clk_len _ _ hk]; exact (List.getElem?_eq_some_iff.mp hr).1
    have hc9 : (lw_vs o.2 c)[j]? = some (lw_vs o.2 c)[j] := List.getElem?_eq_getElem hj
    obtain ⟨x, x1, x2, x3⟩ := en_clk_ok hE _ _ hk j r _ hr hc9
    have ex : x = g j := Value.int.inj (Option.some.inj (x1.symm.trans (hvs j _ hc9)))
    subst ex
    exact ⟨x2, x3⟩
  · have hm2 := List.all_eq_true.mp hi9 m hm
    unfold en_cli at hm2
    split at hm2
    · next fo hop =>
      obtain ⟨a', b', c', p1, p2, p3, p4⟩ := en_opi_ok hop
      subst p4
      have va := hvs _ _ p1
      have vb := hvs _ _ p2
      have vc := hvs _ _ p3
      have h99 := en_has_ok hE hPa.2.2 hm2
      by_cases ht : 100 ≤ m.2.2.2.1
      · rw [if_pos ht] at h99
        obtain ⟨x, y, z, r1, r2, r3, r4⟩ := h99
        have e1 : x = g m.1 := Value.int.inj (Option.some.inj (r1.symm.trans va))
        have e2 : y = g (m.2.2.2.1 % 100) := Value.int.inj (Option.some.inj (r2.symm.trans vb))
        have e3 : z = g m.2.2.2.2 := Value.int.inj (Option.some.inj (r3.symm.trans vc))
        intro hc9
        rw [← e1] at a1 a2
        rw [← e2, ← e3] at hc9 ⊢
        exact r4 a1 a2 (hc9 ht)
      · rw [if_neg ht] at h99
        obtain ⟨x, y, z, r1, r2, r3, r4⟩ := h99
        have e1 : x = g m.1 := Value.int.inj (Option.some.inj (r1.symm.trans va))
        have e2 : y = g (m.2.2.2.1 % 100) := Value.int.inj (Option.some.inj (r2.symm.trans vb))
        have e3 : z = g m.2.2.2.2 := Value.int.inj (Option.some.inj (r3.symm.trans vc))
        intro _
        rw [← e1] at a1 a2
        rw [← e2, ← e3]
        exact r4 a1 a2
    · cases hm2
section
variable {tys : List (ClassId × FieldType)} {cO cD : ClassId} {A : Nat → Prop} {sh : en_H} {w : va_W} {qx qo qd : Nat} {LP : en_H → va_W → Prop} {st : Nat} {cx cy : Int32} {fs fs' : List Value} {tk : List Nat} {md : List (Nat × Nat)} {u : en_H × va_W}
/-- the way to the ball ahead -/
theorem lw_to28 (I : lw_I LP tys cO cD qx qo qd sh w st cx cy fs) {v : Value} (hv : fs[4]? = some v) : v = .ref (sh.2 18) := by
  obtain ⟨e, a, b⟩ := I.hs.1.2 0 20 I.h20
  obtain ⟨kd, c1, c2⟩ := b (by decide) (fun z => z)
  have e9 : e = .inr (13, fs) := (Prod.mk.inj (Option.some.inj (a.symm.trans I.hs.2.1))).2
  subst e9
  rw [lw_KT_eq st 20 (by decide) (by decide)] at c1
  obtain ⟨ts, h1, h2⟩ : ∃ ts, en_KT[20]? = some (.inl (13, ts)) ∧ ts[4]? = some (.inr (.inl 28)) := ⟨_, rfl, rfl⟩
  have e := Option.some.inj (h1.symm.trans c1)
  subst e
  obtain ⟨q, q1, q2⟩ := c2.2.2 4 _ v h2 hv
  rw [I.h28u q q1] at q2
  exact q2
/-- told by an out: the ball ahead fits, or there's no last stroke -/
def lw_ot (o : en_Pt) : Bool := lw_l28 o || lw_fit o
theorem lw_aho {κ : en_K} {ρ : List Value} {res : Option Value} (I : lw_I LP tys cO cD qx qo qd sh w st cx cy fs) (ha : κ.2.2.1.all lw_ot = true) (h4 : (20, 4) ∉ κ.2.2.2.1) (hD : va_D A u.2) (hw' : u.2[0]? = some (u.1.2 0, .inr (13, fs'))) (h : en_Po tys (en_Pc cx cy) (en_Of cx cy) en_KT κ sh w ρ res u) (hn : 0 < κ.1) (h0 : ρ[0]? = some (.ref (sh.2 0))) : lw_ah cx cy fs' u.2 := by
  obtain ⟨hpx, o, ho, ρ', h1, h2, -⟩ := h
  have h0' : ρ'[0]? = some (.ref (u.1.2 0)) := by
    rw [h2 0 hn, (hpx.1.at I.h20).2]
    exact h0
  have h9 := List.all_eq_true.mp ha o ho
  unfold lw_ot at h9
  simp only [Bool.or_eq_true] at h9
  rcases h9 with h9 | h9
  · exact Or.inr (lw_l28_ok h9 hD hw' h0' h1)
  · obtain ⟨a, q, n, cA, g, g1, g2, g3⟩ := lw_fit_ok h9 hD hw' h0' h1
    obtain ⟨fs9, f1, f2⟩ := lw_fs I.h20 I.hs.2.1 hpx
    have e9 : fs9 = fs' := (Prod.mk.inj (Sum.inr.inj (Prod.mk.inj (Option.some.inj (f1.symm.trans hw'))).2)).2
    subst e9
    have ea := lw_to28 I ((f2 4 h4).symm.trans g1)
    have ea := Value.ref.inj ea
    subst ea
    obtain ⟨e8, a1, -⟩ := hpx.2.2 18 28 _ I.h28 (show w[18]? = some (sh.2 18, (w[18]?.getD (0, .inr (0, []))).2) from by
      obtain ⟨e7, z1, -⟩ := I.hs.1.2 18 28 I.h28
      rw [z1]
      rfl)
    have eq : q = 18 := hD.1 q 18 _ _ g2 a1 rfl
    subst eq
    exact Or.inl ⟨_, cA, n, g, g1, g2, g3⟩
theorem lw_ah24 (I : lw_I LP tys cO cD qx qo qd sh w st cx cy fs) (hA : ∃ (a : Nat) (cA : ClassId) (n : Nat) (g : Nat → Int32), fs[4]? = some (.ref a) ∧ w[18]? = some (a, .inl (cA, n, .inl g)) ∧ en_Inv (en_Pc cx cy) en_V27 g) : ∃ (a : Nat) (cA : ClassId) (g : Nat → Int32), fs[4]? = some (.ref (sh.2 18)) ∧ w[18]? = some (sh.2 18, .inl (cA, 24, .inl g)) ∧ en_Inv (en_Pc cx cy) en_V27 g := by
  obtain ⟨a, cA, n, g, a1, a2, a3⟩ := hA
  have e := Value.ref.inj (lw_to28 I a1)
  subst e
  obtain ⟨e9, b1, b2⟩ := I.hs.1.2 18 28 I.h28
  obtain ⟨kd, c1, c2⟩ := b2 (by decide) (fun z => z)
  have ee : e9 = .inl (cA, n, .inl g) := (Prod.mk.inj (Option.some.inj (b1.symm.trans a2))).2
  subst ee
  rw [lw_KT_eq st 28 (by decide) (by decide)] at c1
  have ek := Option.some.inj (c1.symm.trans (show en_KT[28]? = some (.inr (0, 24, .inl (.inl (-2147483648, 2147483647, 0, 0)))) from rfl))
  subst ek
  obtain ⟨-, en, -⟩ := c2
  have en : n = 24 := en
  subst en
  exact ⟨0, cA, g, a1, a2, a3⟩
end
/-! the start of a hole: plain rows, and rows that fit the new cup -/
theorem lw_KTp_eq : ∀ k, k ≠ 27 → en_KTp[k]? = en_KT[k]? := fun k h => by
  by_cases h35 : k = 35
  · subst h35
    rfl
  · exact lw_KT_eq 1 k h h35
theorem lw_27 : en_KT[27]? = some (.inr (0, 24, .inr en_V27)) ∧ en_KTp[27]? = some (.inr (0, 24, .inl (.inl (-2147483648, 2147483647, 0, 0)))) := ⟨rfl, rfl⟩
theorem lw_plain {tys : List (ClassId × FieldType)} {PP : Int32 → Int32 → Prop} {tk : List Nat} {sh : en_H} {ex : Nat → Prop} {w : va_W} (h : en_W PP en_KT tk sh tys ex w) : en_W PP en_KTp tk sh tys ex w := ⟨h.1, fun q k hq => by
  obtain ⟨e, a, b⟩ := h.2 q k hq
  refine ⟨e, a, fun hk hx => ?_⟩
  obtain ⟨kd, c1, c2⟩ := b hk hx
  by_cases e27 : k = 27
  · subst e27
    have e9 := Option.some.inj (c1.symm.trans lw_27.1)
    subst e9
    refine ⟨_, lw_27.2, ?_⟩
    rcases e with ⟨cA, n, f | f | f | f | f⟩ | o <;> first | exact c2.elim | skip
    exact ⟨c2.1, c2.2.1, fun j _ => ⟨en_lo _, en_hi _⟩⟩
  · exact ⟨kd, by rw [lw_KTp_eq k e27]; exact c1, c2⟩⟩
theorem lw_pzp {tys : List (ClassId × FieldType)} {PP : Int32 → Int32 → Prop} {tk : List Nat} {sh : en_H} {ex : Nat → Prop} {w : va_W} (h : en_W PP en_KTpz tk sh tys ex w) : en_W PP en_KTp tk sh tys ex w := ⟨h.1, fun q k hq => by
  obtain ⟨e, a, b⟩ := h.2 q k hq
  refine ⟨e, a, fun hk hx => ?_⟩
  obtain ⟨kd, c1, c2⟩ := b hk hx
  by_cases e35 : k = 35
  · subst e35
    have e9 := Option.some.inj (c1.symm.trans (show en_KTpz[35]? = some (.inr (2, 6, .inl (.inl (0, 0, 0, 0)))) from rfl))
    subst e9
    exact ⟨_, rfl, lw_z35 c2⟩
  · by_cases e27 : k = 27
    · subst e27
      exact ⟨kd, c1, c2⟩
    · exact ⟨kd, by rw [lw_KTp_eq k e27, ← lw_KT_eq 0 k e27 e35]; exact c1, c2⟩⟩
def lw_ni : en_D → Bool
  | .inr (_, _, .inr v) => v.2.isEmpty
  | _ => true
theorem lw_ni_ok {PP PP' : Int32 → Int32 → Prop} {sh : en_H} {tys : List (ClassId × FieldType)} {kd : en_D} {e : va_E} (h : lw_ni kd = true) (hc : en_C PP sh tys kd e) : en_C PP' sh tys kd e := by
  rcases kd with ⟨ci, ts⟩ | ⟨t0, len, (i | k | c) | v⟩ <;> rcases e with ⟨cA, n, f | f | f | f | f⟩ | ⟨co, fs⟩ <;> first | exact hc.elim | skip
  · exact hc
  · exact hc
  · exact hc
  · exact hc
  · obtain ⟨h1, h2, h3, h4⟩ := hc
    refine ⟨h1, h2, h3, h4.1, fun m hm => ?_⟩
    have e : v.2 = [] := List.isEmpty_iff.mp h
    rw [e] at hm
    exact absurd hm List.not_mem_nil
theorem lw_nik : ∀ k kd, k ≠ 27 → en_KT[k]? = some kd → lw_ni kd = true := fun k kd h27 hk => by
  have hall : (List.range 49).all (fun k => k == 27 || match en_KT[k]? with | some kd => lw_ni kd | none => true) = true := by decide +kernel
  have hlt : k < 49 := by
    have := (List.getElem?_eq_some_iff.mp hk).1
    have e : en_KT.length = 49 := rfl
    omega
  have h9 := List.all_eq_true.mp hall k (List.mem_range.mpr hlt)
  rw [hk] at h9
  simp only [Bool.or_eq_true, beq_iff_eq] at h9
  exact h9.resolve_left h27
theorem lw_fitW {tys : List (ClassId × FieldType)} {PP PP' : Int32 → Int32 → Prop} {tk : List Nat} {sh : en_H} {ex : Nat → Prop} {w : va_W} (h : en_W PP en_KTp tk sh tys ex w) (hf : ∀ q, sh.1[q]? = some 27 → ∃ (cB : ClassId) (n : Nat) (g : Nat → Int32), w[q]? = some (sh.2 q, .inl (cB, n, .inl g)) ∧ en_Inv PP' en_V27 g) : en_W PP' en_KT tk sh tys ex w := ⟨h.1, fun q k hq => by
  obtain ⟨e, a, b⟩ := h.2 q k hq
  refine ⟨e, a, fun hk hx => ?_⟩
  obtain ⟨kd, c1, c2⟩ := b hk hx
  by_cases e27 : k = 27
  · subst e27
    have e9 := Option.some.inj (c1.symm.trans lw_27.2)
    subst e9
    obtain ⟨cB, n, g, g1, g2⟩ := hf q hq
    have ee : e = .inl (cB, n, .inl g) := (Prod.mk.inj (Option.some.inj (a.symm.trans g1))).2
    subst ee
    exact ⟨_, lw_27.1, c2.1, c2.2.1, rfl, g2⟩
  · rw [lw_KTp_eq k e27] at c1
    exact ⟨kd, c1, lw_ni_ok (lw_nik k kd e27 c1) c2⟩⟩
def lw_hb (o : en_Pt) (b : Nat × Int × Int) : Bool := o.2.any fun f => f.1 == 0 && (f.2.1 == 0 && (f.2.2.1 == b.1 && (match o.1[f.2.2.2.1]? with | some (.inl r) => decide (b.2.1 ≤ r.1) && decide (r.2.1 ≤ b.2.2) | _ => false)))
theorem lw_hb_ok {PP : Int32 → Int32 → Prop} {Ω : Nat → en_H → va_W → Prop} {sh : en_H} {w : va_W} {A : Nat → Prop} {o : en_Pt} {ρ fs : List Value} {b : Nat × Int × Int} (h : lw_hb o b = true) (hD : va_D A w) (hw : w[0]? = some (sh.2 0, .inr (13, fs))) (h0 : ρ[0]? = some (.ref (sh.2 0))) (hPa : en_Pa PP Ω sh w o ρ) : lw_b fs b := by
  obtain ⟨f, hf, h9⟩ := List.any_eq_true.mp h
  obtain ⟨tag, a, b9, c, lo, hi⟩ := f
  obtain ⟨j, l9, h8⟩ := b
  simp only [Bool.and_eq_true, beq_iff_eq] at h9
  obtain ⟨rfl, rfl, rfl, h9⟩ := h9
  split at h9
  · next r hr =>
    simp only [Bool.and_eq_true, decide_eq_true_eq] at h9
    obtain ⟨v, v1, x, rfl, v2, v3⟩ := hPa.2.1 c _ hr
    obtain ⟨q, r9, ci, fs9, v9, b1, b2, b3, b4⟩ := hPa.2.2 _ hf
    have er : r9 = sh.2 0 := Value.ref.inj (Option.some.inj (b1.symm.trans h0))
    subst er
    have eq : q = 0 := hD.1 q 0 _ _ b2 hw rfl
    subst eq
    have e9 : fs9 = fs := (Prod.mk.inj (Sum.inr.inj (Prod.mk.inj (Option.some.inj (b2.symm.trans hw))).2)).2
    subst e9
    have ex : v9 = .int x := Option.some.inj (b4.symm.trans v1)
    subst ex
    exact ⟨x, b3, Int.le_trans h9.1 v2, Int.le_trans v3 h9.2⟩
  · cases h9
theorem lw_bk {fs fs' : List Value} {j : Nat} {lo hi lo' hi' : Int} (h : lw_b fs (j, lo, hi)) (he : fs'[j]? = fs[j]?) (h1 : lo' ≤ lo) (h2 : hi ≤ hi') : lw_b fs' (j, lo', hi') := by
  obtain ⟨x, a, b, c⟩ := h
  exact ⟨x, he.trans a, Int.le_trans h1 b, Int.le_trans c h2⟩
section
variable {tys : List (ClassId × FieldType)} {cO cD : ClassId} {A : Nat → Prop} {sh : en_H} {w : va_W} {qx qo qd : Nat} {LP : en_H → va_W → Prop} {st : Nat} {cx cy : Int32} {fs fs' : List Value} {tk : List Nat} {md : List (Nat × Nat)} {u : en_H × va_W}
/-- every ball fits, said at the world alone -/
theorem lw_O2 (I : lw_I LP tys cO cD qx qo qd sh w st cx cy fs) (h3 : 3 ≤ st) : en_O2 w := by
  obtain ⟨hW, hw, hB, ⟨m0, cM, fs9, hn, o1, o2, o3, o4⟩, hon⟩ := I.hs
  obtain ⟨-, hOc, hAh⟩ := hon h3
  have ee := Option.some.inj (o1.symm.trans hw)
  simp only [Prod.mk.injEq, Sum.inr.injEq] at ee
  obtain ⟨rfl, rfl, rfl⟩ := ee
  refine ⟨cx, cy, hOc, sh.2 0, 13, fs9, hw, fun j hj => ?_, ?_⟩
  · obtain ⟨b, hb⟩ := o4 j hj
    obtain ⟨a, cA, n, f, x, b1, b2, b3, b4⟩ := hb
    obtain ⟨e, a1, a2⟩ := hW.2 (12 + j) 27 (I.h27b j hj)
    obtain ⟨kd, c1, c2⟩ := a2 (by decide) (fun z => z)
    have hk : (lw_KT st)[27]? = en_KT[27]? := by
      match st, h3 with
      | n + 3, _ => rfl
    rw [hk] at c1
    have e9 := Option.some.inj (c1.symm.trans lw_27.1)
    subst e9
    have ee := Option.some.inj (a1.symm.trans b4)
    simp only [Prod.mk.injEq] at ee
    obtain ⟨eb, rfl⟩ := ee
    rcases x with ⟨cB, n9, g | g | g | g | g⟩ <;> first | exact c2.elim | skip
    exact ⟨b, cB, n9, g, ⟨a, cA, n, f, _, b1, b2, b3, b4⟩, b4, c2.2.2.2⟩
  · rcases hAh with ⟨a, cA, n, g, g1, g2, g3⟩ | h
    · exact Or.inr ⟨a, cA, n, g, g1, g2, g3⟩
    · exact Or.inl h
/-- out of the world alone: the state on -/
theorem lw_on2 (h27 : ∀ q, sh.1[q]? = some 27 → 12 ≤ q ∧ q < 18) (hw : w[0]? = some (sh.2 0, .inr (13, fs))) {PP : Int32 → Int32 → Prop} (hW : en_W PP en_KTp lw_TK sh tys (fun _ => False) w) (h1 : en_O1 w) (h2 : en_O2 w) (hst : 3 ≤ st) (hB : ∀ b ∈ lw_B st, lw_b fs b) (hh : ∃ h n : Int32, fs[25]? = some (.int h) ∧ fs[16]? = some (.int n) ∧ h.toInt < n.toInt) : ∃ cx cy, lw_S tys st cx cy sh w fs := by
  obtain ⟨cx, cy, hOc, m0, cM, fs9, o1, o2, o3⟩ := h2
  have ee := Option.some.inj (o1.symm.trans hw)
  simp only [Prod.mk.injEq, Sum.inr.injEq] at ee
  obtain ⟨rfl, rfl, rfl⟩ := ee
  have hk : lw_KT st = en_KT := by
    match st, hst with
    | n + 3, _ => rfl
  refine ⟨cx, cy, ?_, hw, hB, h1, fun _ => ⟨hh, hOc, ?_⟩⟩
  · rw [hk]
    refine lw_fitW hW fun q hq => ?_
    obtain ⟨a1, a2⟩ := h27 q hq
    obtain ⟨j, rfl⟩ : ∃ j, q = 12 + j := ⟨q - 12, by omega⟩
    obtain ⟨b, cB, n, g, -, g2, g3⟩ := o2 j (by omega)
    obtain ⟨e, z1, -⟩ := hW.2 (12 + j) 27 hq
    have eb : b = sh.2 (12 + j) := (Prod.mk.inj (Option.some.inj (g2.symm.trans z1))).1
    subst eb
    exact ⟨cB, n, g, g2, g3⟩
  · rcases o3 with h | ⟨a, cA, n, g, g1, g2, g3⟩
    · exact Or.inr h
    · exact Or.inl ⟨a, cA, n, g, g1, g2, g3⟩
/-- off again -/
theorem lw_off2 (hw : w[0]? = some (sh.2 0, .inr (13, fs))) (hW : en_W (en_Pc cx cy) (lw_KT st) lw_TK sh tys (fun _ => False) w) (h1 : en_O1 w) (hst : ¬ 3 ≤ st) (hB : ∀ b ∈ lw_B st, lw_b fs b) : lw_S tys st cx cy sh w fs := ⟨hW, hw, hB, h1, fun h => absurd h hst⟩
theorem lw_hh {lo hi lo' hi' : Int} (h1 : lw_b fs (25, lo, hi)) (h2 : lw_b fs (16, lo', hi')) (h : hi < lo') : ∃ h n : Int32, fs[25]? = some (.int h) ∧ fs[16]? = some (.int n) ∧ h.toInt < n.toInt := by
  obtain ⟨x, a1, a2, a3⟩ := h1
  obtain ⟨y, b1, b2, b3⟩ := h2
  refine ⟨x, y, a1, b1, ?_⟩
  have a3 : x.toInt ≤ hi := a3
  have b2 : lo' ≤ y.toInt := b2
  omega
end
theorem lw_chr {x : Int32} (h : (0 : Int) ≤ x.toInt ∧ x.toInt ≤ 65535) : ((109 : Int) ≤ x.toInt ∧ x.toInt ≤ 109) ∨ ((115 : Int) ≤ x.toInt ∧ x.toInt ≤ 115) ∨ ((0 : Int) ≤ x.toInt ∧ x.toInt ≤ 108) ∨ ((110 : Int) ≤ x.toInt ∧ x.toInt ≤ 114) ∨ ((116 : Int) ≤ x.toInt ∧ x.toInt ≤ 65535) := by omega
/-! one row of the course apart from the others -/
def lw_rl (k : Nat) (sh : en_H) : en_H := (sh.1.mapIdx fun i x => if 2 ≤ i ∧ i < 11 ∧ i ≠ 2 + k then 48 else x, sh.2)
def lw_ul (sh : en_H) : en_H := (sh.1.mapIdx fun i x => if 2 ≤ i ∧ i < 11 then 22 else x, sh.2)
/-- no row of the course is referred to -/
def lw_rf : en_D → Bool
  | .inl (_, ts) => ts.all fun a => match a with
    | .inr (.inl k) => k != 22 && k != 48
    | _ => true
  | .inr (_, _, .inl (.inr (.inl k))) => k != 22 && k != 48
  | .inr (_, _, .inl (.inr (.inr _))) => false
  | _ => true
theorem lw_Cm {PP : Int32 → Int32 → Prop} {sh sh' : en_H} {tys : List (ClassId × FieldType)} {kd : en_D} {e : va_E} (h : lw_rf kd = true) (hs : ∀ q k, k ≠ 22 → k ≠ 48 → sh.1[q]? = some k → sh'.1[q]? = some k) (h2 : sh'.2 = sh.2) (hc : en_C PP sh tys kd e) : en_C PP sh' tys kd e := by
  rcases kd with ⟨ci, ts⟩ | ⟨t0, len, (i | k | c) | v⟩ <;> rcases e with ⟨cA, n, f | f | f | f | f⟩ | ⟨co, fs⟩ <;> first | exact hc.elim | skip
  · obtain ⟨a1, a2, a3⟩ := hc
    refine ⟨a1, a2, fun j t v hj hv => ?_⟩
    have h9 := List.all_eq_true.mp h t (List.mem_of_getElem? hj)
    have hv9 := a3 j t v hj hv
    rcases t with i | k | c
    · exact hv9
    · obtain ⟨q, q1, q2⟩ := hv9
      simp only [Bool.and_eq_true, bne_iff_ne] at h9
      exact ⟨q, hs q k h9.1 h9.2 q1, by rw [h2]; exact q2⟩
    · exact hv9
  · exact hc
  · obtain ⟨a1, a2, a3⟩ := hc
    have h9 : (k != 22 && k != 48) = true := h
    simp only [Bool.and_eq_true, bne_iff_ne] at h9
    refine ⟨a1, a2, fun j hj => ?_⟩
    obtain ⟨q, q1, q2⟩ := a3 j hj
    exact ⟨q, hs q k h9.1 h9.2 q1, by rw [h2]; exact q2⟩
  · exact Bool.noConfusion h
  · exact hc
theorem lw_rfk : ∀ k kd, k ≠ 21 → en_KT[k]? = some kd → lw_rf kd = true := fun k kd h21 hk => by
  have hall : (List.range 49).all (fun k => k == 21 || match en_KT[k]? with | some kd => lw_rf kd | none => true) = true := by decide +kernel
  have hlt : k < 49 := by
    have := (List.getElem?_eq_some_iff.mp hk).1
    have e : en_KT.length = 49 := rfl
    omega
  have h9 := List.all_eq_true.mp hall k (List.mem_range.mpr hlt)
  rw [hk] at h9
  simp only [Bool.or_eq_true, beq_iff_eq] at h9
  exact h9.resolve_left h21
def lw_KTs : Nat → List en_D
  | 0 => en_KTs0
  | 1 => en_KTs1
  | 2 => en_KTs2
  | 3 => en_KTs3
  | 4 => en_KTs4
  | 5 => en_KTs5
  | 6 => en_KTs6
  | 7 => en_KTs7
  | _ => en_KTs8
theorem lw_KTs_eq : ∀ k, k < 9 → (lw_KTs k)[21]? = some (.inr (5, 9, .inl (.inr (.inr (k + 2200 + 480000))))) ∧ ∀ j, j ≠ 21 → (lw_KTs k)[j]? = en_KT[j]? := by
  have key : ∀ (K : List en_D) (v : en_D), K = en_KT.set 21 v → K[21]? = some v ∧ ∀ j, j ≠ 21 → K[j]? = en_KT[j]? := fun K v h => by
    subst h
    exact ⟨List.getElem?_set_self (show 21 < en_KT.length from by decide +kernel), fun j hj => List.getElem?_set_ne (fun e => hj e.symm)⟩
  intro k hk
  match k, hk with
  | 0, _ => exact key en_KTs0 _ rfl
  | 1, _ => exact key en_KTs1 _ rfl
  | 2, _ => exact key en_KTs2 _ rfl
  | 3, _ => exact key en_KTs3 _ rfl
  | 4, _ => exact key en_KTs4 _ rfl
  | 5, _ => exact key en_KTs5 _ rfl
  | 6, _ => exact key en_KTs6 _ rfl
  | 7, _ => exact key en_KTs7 _ rfl
  | 8, _ => exact key en_KTs8 _ rfl
  | n + 9, h => exact absurd h (by omega)
theorem lw_21 : en_KT[21]? = some (.inr (5, 9, .inl (.inr (.inl 22)))) ∧ en_KT[48]? = en_KT[22]? := ⟨rfl, rfl⟩
section
variable {tys : List (ClassId × FieldType)} {cO cD : ClassId} {A : Nat → Prop} {sh : en_H} {w : va_W} {qx qo qd : Nat} {LP : en_H → va_W → Prop} {st : Nat} {cx cy : Int32} {fs fs' : List Value} {tk : List Nat} {md : List (Nat × Nat)} {u : en_H × va_W} {PP : Int32 → Int32 → Prop} {k : Nat}
theorem lw_rlat {q : Nat} : (lw_rl k sh).1[q]? = (sh.1[q]?).map fun x => if 2 ≤ q ∧ q < 11 ∧ q ≠ 2 + k then 48 else x := List.getElem?_mapIdx
theorem lw_ulat {q : Nat} : (lw_ul sh).1[q]? = (sh.1[q]?).map fun x => if 2 ≤ q ∧ q < 11 then 22 else x := List.getElem?_mapIdx
theorem lw_rls (h22 : ∀ j, j < 9 → sh.1[2 + j]? = some 22) : ∀ q x, x ≠ 22 → x ≠ 48 → sh.1[q]? = some x → (lw_rl k sh).1[q]? = some x := fun q x h1 _ hq => by
  rw [lw_rlat, hq]
  show some (if 2 ≤ q ∧ q < 11 ∧ q ≠ 2 + k then 48 else x) = some x
  rw [if_neg ?_]
  intro h
  obtain ⟨j, rfl⟩ : ∃ j, q = 2 + j := ⟨q - 2, by omega⟩
  exact h1 (Option.some.inj (hq.symm.trans (h22 j (by omega))))
/-- the rows apart -/
theorem lw_toS (hk : k < 9) (h22 : ∀ j, j < 9 → sh.1[2 + j]? = some 22) (hn : ∀ q, sh.1[q]? = some 22 → 2 ≤ q ∧ q < 11) (h48 : ∀ q, sh.1[q]? ≠ some 48) (hc : ∀ q, sh.1[q]? = some 21 → q = 1) {cA : ClassId} {f : Nat → Option Nat} (hw1 : w[1]? = some (sh.2 1, .inl (cA, 9, .inr (.inr (.inr (.inr f)))))) (hf : ∀ j, j < 9 → f j = some (sh.2 (2 + j))) (hW : en_W PP en_KT tk sh tys (fun _ => False) w) (ht : 22 ∈ tk ∨ 48 ∉ tk) : en_W PP (lw_KTs k) tk (lw_rl k sh) tys (fun _ => False) w := by
  obtain ⟨s1, s2⟩ := lw_KTs_eq k hk
  refine ⟨hW.1.trans (by show _ = (sh.1.mapIdx _).length; rw [List.length_mapIdx]), fun q x hq => ?_⟩
  have hq0 := hq
  rw [lw_rlat] at hq
  obtain ⟨x0, hx0, hx⟩ := Option.map_eq_some_iff.mp hq
  obtain ⟨e, a, b⟩ := hW.2 q x0 hx0
  refine ⟨e, a, fun hT _ => ?_⟩
  by_cases hr : 2 ≤ q ∧ q < 11 ∧ q ≠ 2 + k
  · rw [if_pos hr] at hx
    subst hx
    obtain ⟨j, rfl⟩ : ∃ j, q = 2 + j := ⟨q - 2, by omega⟩
    have e22 : x0 = 22 := Option.some.inj (hx0.symm.trans (h22 j (by omega)))
    subst e22
    rcases ht with ht | ht
    · obtain ⟨kd, c1, c2⟩ := b ht (fun z => z)
      refine ⟨kd, by rw [s2 48 (by decide), lw_21.2]; exact c1, lw_Cm (lw_rfk 22 kd (by decide) c1) (lw_rls h22) rfl c2⟩
    · exact absurd hT ht
  · rw [if_neg hr] at hx
    subst hx
    obtain ⟨kd, c1, c2⟩ := b hT (fun z => z)
    by_cases e21 : x0 = 21
    · subst e21
      have eq := hc q hx0
      subst eq
      have e9 := Option.some.inj (c1.symm.trans lw_21.1)
      subst e9
      have ee : e = .inl (cA, 9, .inr (.inr (.inr (.inr f)))) := (Prod.mk.inj (Option.some.inj (a.symm.trans hw1))).2
      subst ee
      refine ⟨_, s1, c2.1, c2.2.1, fun j hj => ⟨2 + j, ?_, hf j hj⟩⟩
      rw [lw_rlat, h22 j hj]
      show some (if 2 ≤ 2 + j ∧ 2 + j < 11 ∧ 2 + j ≠ 2 + k then 48 else 22) = some (en_sk (k + 2200 + 480000) j)
      unfold en_sk
      have m1 : (k + 2200 + 480000) % 100 = k := by omega
      have m2 : (k + 2200 + 480000) / 100 % 100 = 22 := by omega
      have m3 : (k + 2200 + 480000) / 10000 = 48 := by omega
      rw [m1, m2, m3]
      by_cases hjk : j = k
      · rw [if_pos hjk, if_neg (by omega)]
      · rw [if_neg hjk, if_pos (by omega)]
    · exact ⟨kd, by rw [s2 x0 e21]; exact c1, lw_Cm (lw_rfk x0 kd e21 c1) (lw_rls h22) rfl c2⟩
/-- and together again -/
theorem lw_ofS (hk : k < 9) (h22 : ∀ j, j < 9 → sh.1[2 + j]? = some 22) (hn : ∀ q, sh.1[q]? = some 22 → 2 ≤ q ∧ q < 11) (h48 : ∀ q, sh.1[q]? ≠ some 48) (hm48 : ∀ z ∈ md, z.1 ≠ 48) (ht : 22 ∈ tk → 48 ∈ tk) (h : en_Px tys PP (lw_KTs k) tk md (lw_rl k sh) w u) (h0 : en_W PP en_KT tk sh tys (fun _ => False) w) (hm : ∀ z ∈ md, z.1 ∈ tk) : en_Px tys PP en_KT tk md sh w (lw_ul u.1, u.2) ∧ ∀ j, j < 9 → j ≠ k → ∀ e, w[2 + j]? = some (sh.2 (2 + j), e) → u.2[2 + j]? = some (sh.2 (2 + j), e) := by
  obtain ⟨s1, s2⟩ := lw_KTs_eq k hk
  obtain ⟨hg, hW, hF⟩ := h
  obtain ⟨⟨t, ht1, ht2⟩, hg2⟩ := hg
  have hlen : (lw_rl k sh).1.length = sh.1.length := List.length_mapIdx
  have h11 : 11 ≤ sh.1.length := by
    have := (List.getElem?_eq_some_iff.mp (h22 8 (by decide))).1
    omega
  have hul : (lw_ul u.1).1 = sh.1 ++ t := by
    refine List.ext_getElem? fun q => ?_
    rw [lw_ulat, ht1]
    rcases Nat.lt_or_ge q sh.1.length with hlt | hge
    · rw [List.getElem?_append_left (by rw [hlen]; exact hlt), List.getElem?_append_left hlt, lw_rlat]
      have hx := List.getElem?_eq_getElem hlt
      generalize sh.1[q] = x at hx
      rw [hx]
      show some (if 2 ≤ q ∧ q < 11 then 22 else if 2 ≤ q ∧ q < 11 ∧ q ≠ 2 + k then 48 else x) = some x
      by_cases hr : 2 ≤ q ∧ q < 11
      · rw [if_pos hr]
        obtain ⟨j, rfl⟩ : ∃ j, q = 2 + j := ⟨q - 2, by omega⟩
        rw [Option.some.inj (hx.symm.trans (h22 j (by omega)))]
      · rw [if_neg hr, if_neg (by omega)]
    · rw [List.getElem?_append_right (by rw [hlen]; exact hge), List.getElem?_append_right hge, hlen]
      have : ¬ (2 ≤ q ∧ q < 11) := by omega
      rw [if_neg this]
      exact Option.map_id' _
  have hgr : en_Gr tk sh (lw_ul u.1) := ⟨⟨t, hul, ht2⟩, fun q hq => hg2 q (by rw [hlen]; exact hq)⟩
  have hat : ∀ q x, u.1.1[q]? = some x → x ≠ 22 → x ≠ 48 → (lw_ul u.1).1[q]? = some x := fun q x hq h1 h2 => by
    rw [lw_ulat, hq]
    show some (if 2 ≤ q ∧ q < 11 then 22 else x) = some x
    rw [if_neg ?_]
    intro hr
    obtain ⟨j, rfl⟩ : ∃ j, q = 2 + j := ⟨q - 2, by omega⟩
    rw [ht1, List.getElem?_append_left (by rw [hlen]; omega), lw_rlat, h22 j (by omega)] at hq
    have hq : some (if 2 ≤ 2 + j ∧ 2 + j < 11 ∧ 2 + j ≠ 2 + k then 48 else 22) = some x := hq
    split at hq
    · exact h2 (Option.some.inj hq).symm
    · exact h1 (Option.some.inj hq).symm
  have hbk : ∀ q, (u.1.1[q]? = some 22 ∨ u.1.1[q]? = some 48) → (lw_ul u.1).1[q]? = some 22 := fun q hq => by
    have hlt : q < sh.1.length := by
      refine Classical.byContradiction fun hge => ?_
      have hnk : ∀ x, u.1.1[q]? = some x → en_nk x := fun x hx => by
        rw [ht1, List.getElem?_append_right (by rw [hlen]; omega)] at hx
        exact (ht2 x (List.mem_of_getElem? hx)).2
      rcases hq with hq | hq
      · exact absurd (hnk _ hq) (by decide)
      · exact absurd (hnk _ hq) (by decide)
    have hsh : ∃ x, sh.1[q]? = some x ∧ (x = 22 ∨ (2 ≤ q ∧ q < 11) ∨ x = 48) := by
      have hx := List.getElem?_eq_getElem hlt
      refine ⟨_, hx, ?_⟩
      have e9 : u.1.1[q]? = (sh.1[q]?).map fun x => if 2 ≤ q ∧ q < 11 ∧ q ≠ 2 + k then 48 else x := by
        rw [ht1, List.getElem?_append_left (by rw [hlen]; exact hlt), lw_rlat]
      rw [hx] at e9
      rw [e9] at hq
      by_cases hr : 2 ≤ q ∧ q < 11
      · exact Or.inr (Or.inl hr)
      · have hr' : ¬ (2 ≤ q ∧ q < 11 ∧ q ≠ 2 + k) := fun z => hr ⟨z.1, z.2.1⟩
        rcases hq with hq | hq
        · have hq : some (if 2 ≤ q ∧ q < 11 ∧ q ≠ 2 + k then 48 else sh.1[q]) = some 22 := hq
          rw [if_neg hr'] at hq
          exact Or.inl (Option.some.inj hq)
        · have hq : some (if 2 ≤ q ∧ q < 11 ∧ q ≠ 2 + k then 48 else sh.1[q]) = some 48 := hq
          rw [if_neg hr'] at hq
          exact Or.inr (Or.inr (Option.some.inj hq))
    obtain ⟨x, hx, h9⟩ := hsh
    have hr : 2 ≤ q ∧ q < 11 := by
      rcases h9 with h9 | h9 | h9
      · subst h9
        exact hn q hx
      · exact h9
      · subst h9
        exact absurd hx (h48 q)
    obtain ⟨j, rfl⟩ : ∃ j, q = 2 + j := ⟨q - 2, by omega⟩
    exact (hgr.at (h22 j (by omega))).1
  have hrow : ∀ j, j < 9 → j ≠ k → ∀ e, w[2 + j]? = some (sh.2 (2 + j), e) → u.2[2 + j]? = some (sh.2 (2 + j), e) := fun j hj hjk e hw => by
    have h9 : (lw_rl k sh).1[2 + j]? = some 48 := by
      rw [lw_rlat, h22 j hj]
      show some (if 2 ≤ 2 + j ∧ 2 + j < 11 ∧ 2 + j ≠ 2 + k then 48 else 22) = some 48
      rw [if_pos (by omega)]
    obtain ⟨e9, a1, a2⟩ := hF (2 + j) 48 e h9 hw
    rw [lw_Fc0 a2 hm48] at a1
    exact a1
  refine ⟨⟨hgr, ⟨hW.1.trans (by rw [hul, ht1, List.length_append, List.length_append, hlen]), fun q x hq => ?_⟩, fun q x e0 hq h1 => ?_⟩, hrow⟩
  · by_cases hr : 2 ≤ q ∧ q < 11
    · obtain ⟨j, rfl⟩ : ∃ j, q = 2 + j := ⟨q - 2, by omega⟩
      have e22 : x = 22 := Option.some.inj (hq.symm.trans (hgr.at (h22 j (by omega))).1)
      subst e22
      by_cases hjk : j = k
      · have h9 : u.1.1[2 + j]? = some 22 := by
          rw [ht1, List.getElem?_append_left (by rw [hlen]; omega), lw_rlat, h22 j (by omega)]
          show some (if 2 ≤ 2 + j ∧ 2 + j < 11 ∧ 2 + j ≠ 2 + k then 48 else 22) = some 22
          rw [if_neg (by omega)]
        obtain ⟨e, a, b⟩ := hW.2 (2 + j) 22 h9
        refine ⟨e, a, fun hT hx => ?_⟩
        obtain ⟨kd, c1, c2⟩ := b hT hx
        rw [s2 22 (by decide)] at c1
        exact ⟨kd, c1, lw_Cm (lw_rfk 22 kd (by decide) c1) (fun q k h1 h2 h3 => hat q k h3 h1 h2) rfl c2⟩
      · have h9 : u.1.1[2 + j]? = some 48 := by
          rw [ht1, List.getElem?_append_left (by rw [hlen]; omega), lw_rlat, h22 j (by omega)]
          show some (if 2 ≤ 2 + j ∧ 2 + j < 11 ∧ 2 + j ≠ 2 + k then 48 else 22) = some 48
          rw [if_pos (by omega)]
        obtain ⟨e, a, b⟩ := hW.2 (2 + j) 48 h9
        refine ⟨e, a, fun hT hx => ?_⟩
        obtain ⟨kd, c1, c2⟩ := b (ht hT) hx
        rw [s2 48 (by decide), lw_21.2] at c1
        exact ⟨kd, c1, lw_Cm (lw_rfk 22 kd (by decide) c1) (fun q k h1 h2 h3 => hat q k h3 h1 h2) rfl c2⟩
    · have h9 : u.1.1[q]? = some x := by
        rw [lw_ulat] at hq
        obtain ⟨x0, g1, g2⟩ := Option.map_eq_some_iff.mp hq
        rw [if_neg hr] at g2
        rw [g1, g2]
      obtain ⟨e, a, b⟩ := hW.2 q x h9
      refine ⟨e, a, fun hT hx => ?_⟩
      obtain ⟨kd, c1, c2⟩ := b hT hx
      by_cases e21 : x = 21
      · subst e21
        have e9 := Option.some.inj (c1.symm.trans s1)
        subst e9
        rcases e with ⟨cA, n, f | f | f | f | f⟩ | o <;> first | exact c2.elim | skip
        refine ⟨_, lw_21.1, c2.1, c2.2.1, fun j hj => ?_⟩
        obtain ⟨q9, q1, q2⟩ := c2.2.2 j hj
        refine ⟨q9, hbk q9 ?_, q2⟩
        unfold en_sk at q1
        have m2 : (k + 2200 + 480000) / 100 % 100 = 22 := by omega
        have m3 : (k + 2200 + 480000) / 10000 = 48 := by omega
        rw [m2, m3] at q1
        split at q1
        · exact Or.inl q1
        · exact Or.inr q1
      · rw [s2 x e21] at c1
        exact ⟨kd, c1, lw_Cm (lw_rfk x kd e21 c1) (fun q k h1 h2 h3 => hat q k h3 h1 h2) rfl c2⟩
  · by_cases hr : 2 ≤ q ∧ q < 11 ∧ q ≠ 2 + k
    · obtain ⟨j, rfl⟩ : ∃ j, q = 2 + j := ⟨q - 2, by omega⟩
      exact ⟨e0, hrow j (by omega) (by omega) e0 h1, en_Fc.rf e0⟩
    · have h9 : (lw_rl k sh).1[q]? = some x := by
        rw [lw_rlat, hq]
        show some (if 2 ≤ q ∧ q < 11 ∧ q ≠ 2 + k then 48 else x) = some x
        rw [if_neg hr]
      exact hF q x e0 h9 h1
end
theorem cwl82 : Cond.initialized RX7 ∈ en_cw := cw_at 82 (by decide +kernel) (by decide +kernel)
theorem cwl1592 : Cond.methodLink RL 238 yX7_thrown ∈ en_cw := cw_at 1592 (by decide +kernel) (by decide +kernel)
theorem cwl1593 : Cond.instanceMethod yX7_thrown ∈ en_cw := cw_at 1593 (by decide +kernel) (by decide +kernel)
theorem cwl1594 : Cond.selects RX7 yX7_thrown yX7_thrown ∈ en_cw := cw_at 1594 (by decide +kernel) (by decide +kernel)
theorem cwl1595 : Cond.code yX7_thrown cX7_thrown 1 (some .int) ∈ en_cw := cw_at 1595 (by decide +kernel) (by decide +kernel)
theorem cwl1622 : Cond.methodLink RL 218 yX7_kindAt ∈ en_cw := cw_at 1622 (by decide +kernel) (by decide +kernel)
theorem cwl1623 : Cond.instanceMethod yX7_kindAt ∈ en_cw := cw_at 1623 (by decide +kernel) (by decide +kernel)
theorem cwl1624 : Cond.selects RX7 yX7_kindAt yX7_kindAt ∈ en_cw := cw_at 1624 (by decide +kernel) (by decide +kernel)
theorem cwl1625 : Cond.code yX7_kindAt cX7_kindAt 4 (some .char) ∈ en_cw := cw_at 1625 (by decide +kernel) (by decide +kernel)
theorem cwl1626 : Cond.methodLink RL 222 yX7_player ∈ en_cw := cw_at 1626 (by decide +kernel) (by decide +kernel)
theorem cwl1627 : Cond.instanceMethod yX7_player ∈ en_cw := cw_at 1627 (by decide +kernel) (by decide +kernel)
theorem cwl1628 : Cond.selects RX7 yX7_player yX7_player ∈ en_cw := cw_at 1628 (by decide +kernel) (by decide +kernel)
theorem cwl1629 : Cond.code yX7_player cX7_player 1 (some .int) ∈ en_cw := cw_at 1629 (by decide +kernel) (by decide +kernel)
theorem cwl1630 : Cond.methodLink RL 226 yX7_setHandicap ∈ en_cw := cw_at 1630 (by decide +kernel) (by decide +kernel)
theorem cwl1631 : Cond.instanceMethod yX7_setHandicap ∈ en_cw := cw_at 1631 (by decide +kernel) (by decide +kernel)
theorem cwl1632 : Cond.selects RX7 yX7_setHandicap yX7_setHandicap ∈ en_cw := cw_at 1632 (by decide +kernel) (by decide +kernel)
theorem cwl1633 : Cond.code yX7_setHandicap cX7_setHandicap 4 (some .int) ∈ en_cw := cw_at 1633 (by decide +kernel) (by decide +kernel)
theorem cwl1638 : Cond.methodLink RL 229 yX7_gets ∈ en_cw := cw_at 1638 (by decide +kernel) (by decide +kernel)
theorem cwl1639 : Cond.instanceMethod yX7_gets ∈ en_cw := cw_at 1639 (by decide +kernel) (by decide +kernel)
theorem cwl1640 : Cond.selects RX7 yX7_gets yX7_gets ∈ en_cw := cw_at 1640 (by decide +kernel) (by decide +kernel)
theorem cwl1641 : Cond.code yX7_gets cX7_gets 3 (some .int) ∈ en_cw := cw_at 1641 (by decide +kernel) (by decide +kernel)
theorem cwl1646 : Cond.methodLink RL 233 yX7_setSeed ∈ en_cw := cw_at 1646 (by decide +kernel) (by decide +kernel)
theorem cwl1647 : Cond.instanceMethod yX7_setSeed ∈ en_cw := cw_at 1647 (by decide +kernel) (by decide +kernel)
theorem cwl1648 : Cond.selects RX7 yX7_setSeed yX7_setSeed ∈ en_cw := cw_at 1648 (by decide +kernel) (by decide +kernel)
theorem cwl1649 : Cond.code yX7_setSeed cX7_setSeed 3 (some .int) ∈ en_cw := cw_at 1649 (by decide +kernel) (by decide +kernel)
theorem cwl1654 : Cond.methodLink RL 243 yX7_begin ∈ en_cw := cw_at 1654 (by decide +kernel) (by decide +kernel)
theorem cwl1655 : Cond.instanceMethod yX7_begin ∈ en_cw := cw_at 1655 (by decide +kernel) (by decide +kernel)
theorem cwl1656 : Cond.selects RX7 yX7_begin yX7_begin ∈ en_cw := cw_at 1656 (by decide +kernel) (by decide +kernel)
theorem cwl1657 : Cond.code yX7_begin cX7_begin 4 (some .int) ∈ en_cw := cw_at 1657 (by decide +kernel) (by decide +kernel)
theorem cwl1662 : Cond.methodLink RL 246 yX7_holeOn ∈ en_cw := cw_at 1662 (by decide +kernel) (by decide +kernel)
theorem cwl1663 : Cond.instanceMethod yX7_holeOn ∈ en_cw := cw_at 1663 (by decide +kernel) (by decide +kernel)
theorem cwl1664 : Cond.selects RX7 yX7_holeOn yX7_holeOn ∈ en_cw := cw_at 1664 (by decide +kernel) (by decide +kernel)
theorem cwl1665 : Cond.code yX7_holeOn cX7_holeOn 1 (some .int) ∈ en_cw := cw_at 1665 (by decide +kernel) (by decide +kernel)
theorem cwl1666 : Cond.methodLink RL 249 yX7_away ∈ en_cw := cw_at 1666 (by decide +kernel) (by decide +kernel)
theorem cwl1667 : Cond.instanceMethod yX7_away ∈ en_cw := cw_at 1667 (by decide +kernel) (by decide +kernel)
theorem cwl1668 : Cond.selects RX7 yX7_away yX7_away ∈ en_cw := cw_at 1668 (by decide +kernel) (by decide +kernel)
theorem cwl1669 : Cond.code yX7_away cX7_away 1 (some .int) ∈ en_cw := cw_at 1669 (by decide +kernel) (by decide +kernel)
theorem cwl1697 : Cond.methodLink RL 252 yX7_stroke ∈ en_cw := cw_at 1697 (by decide +kernel) (by decide +kernel)
theorem cwl1698 : Cond.instanceMethod yX7_stroke ∈ en_cw := cw_at 1698 (by decide +kernel) (by decide +kernel)
theorem cwl1699 : Cond.selects RX7 yX7_stroke yX7_stroke ∈ en_cw := cw_at 1699 (by decide +kernel) (by decide +kernel)
theorem cwl1700 : Cond.code yX7_stroke cX7_stroke 6 (some .char) ∈ en_cw := cw_at 1700 (by decide +kernel) (by decide +kernel)
theorem cwl1734 : Cond.methodLink RL 256 yX7_odds ∈ en_cw := cw_at 1734 (by decide +kernel) (by decide +kernel)
theorem cwl1735 : Cond.instanceMethod yX7_odds ∈ en_cw := cw_at 1735 (by decide +kernel) (by decide +kernel)
theorem cwl1736 : Cond.selects RX7 yX7_odds yX7_odds ∈ en_cw := cw_at 1736 (by decide +kernel) (by decide +kernel)
theorem cwl1737 : Cond.code yX7_odds cX7_odds 12 (some .int) ∈ en_cw := cw_at 1737 (by decide +kernel) (by decide +kernel)
theorem cwl1741 : Cond.methodLink RL 259 yX7_provisional ∈ en_cw := cw_at 1741 (by decide +kernel) (by decide +kernel)
theorem cwl1742 : Cond.instanceMethod yX7_provisional ∈ en_cw := cw_at 1742 (by decide +kernel) (by decide +kernel)
theorem cwl1743 : Cond.selects RX7 yX7_provisional yX7_provisional ∈ en_cw := cw_at 1743 (by decide +kernel) (by decide +kernel)
theorem cwl1744 : Cond.code yX7_provisional cX7_provisional 10 (some .char) ∈ en_cw := cw_at 1744 (by decide +kernel) (by decide +kernel)
theorem cwl1745 : Cond.methodLink RL 263 yX7_search ∈ en_cw := cw_at 1745 (by decide +kernel) (by decide +kernel)
theorem cwl1746 : Cond.instanceMethod yX7_search ∈ en_cw := cw_at 1746 (by decide +kernel) (by decide +kernel)
theorem cwl1747 : Cond.selects RX7 yX7_search yX7_search ∈ en_cw := cw_at 1747 (by decide +kernel) (by decide +kernel)
theorem cwl1748 : Cond.code yX7_search cX7_search 5 (some .char) ∈ en_cw := cw_at 1748 (by decide +kernel) (by decide +kernel)
theorem cwl1749 : Cond.methodLink RL 266 yX7_again ∈ en_cw := cw_at 1749 (by decide +kernel) (by decide +kernel)
theorem cwl1750 : Cond.instanceMethod yX7_again ∈ en_cw := cw_at 1750 (by decide +kernel) (by decide +kernel)
theorem cwl1751 : Cond.selects RX7 yX7_again yX7_again ∈ en_cw := cw_at 1751 (by decide +kernel) (by decide +kernel)
theorem cwl1752 : Cond.code yX7_again cX7_again 4 (some .int) ∈ en_cw := cw_at 1752 (by decide +kernel) (by decide +kernel)
theorem cwl1756 : Cond.methodLink RL 269 yX7_line ∈ en_cw := cw_at 1756 (by decide +kernel) (by decide +kernel)
theorem cwl1757 : Cond.instanceMethod yX7_line ∈ en_cw := cw_at 1757 (by decide +kernel) (by decide +kernel)
theorem cwl1758 : Cond.selects RX7 yX7_line yX7_line ∈ en_cw := cw_at 1758 (by decide +kernel) (by decide +kernel)
theorem cwl1759 : Cond.code yX7_line cX7_line 9 (some .int) ∈ en_cw := cw_at 1759 (by decide +kernel) (by decide +kernel)
theorem cwl1776 : Cond.methodLink RL 272 yX7_aside ∈ en_cw := cw_at 1776 (by decide +kernel) (by decide +kernel)
theorem cwl1777 : Cond.instanceMethod yX7_aside ∈ en_cw := cw_at 1777 (by decide +kernel) (by decide +kernel)
theorem cwl1778 : Cond.selects RX7 yX7_aside yX7_aside ∈ en_cw := cw_at 1778 (by decide +kernel) (by decide +kernel)
theorem cwl1779 : Cond.code yX7_aside cX7_aside 6 (some .int) ∈ en_cw := cw_at 1779 (by decide +kernel) (by decide +kernel)
theorem cwl1780 : Cond.methodLink RL 276 yX7_point ∈ en_cw := cw_at 1780 (by decide +kernel) (by decide +kernel)
theorem cwl1781 : Cond.instanceMethod yX7_point ∈ en_cw := cw_at 1781 (by decide +kernel) (by decide +kernel)
theorem cwl1782 : Cond.selects RX7 yX7_point yX7_point ∈ en_cw := cw_at 1782 (by decide +kernel) (by decide +kernel)
theorem cwl1783 : Cond.code yX7_point cX7_point 4 (some .int) ∈ en_cw := cw_at 1783 (by decide +kernel) (by decide +kernel)
theorem cwl1792 : Cond.methodLink RL 279 yX7_free ∈ en_cw := cw_at 1792 (by decide +kernel) (by decide +kernel)
theorem cwl1793 : Cond.instanceMethod yX7_free ∈ en_cw := cw_at 1793 (by decide +kernel) (by decide +kernel)
theorem cwl1794 : Cond.selects RX7 yX7_free yX7_free ∈ en_cw := cw_at 1794 (by decide +kernel) (by decide +kernel)
theorem cwl1795 : Cond.code yX7_free cX7_free 10 (some .char) ∈ en_cw := cw_at 1795 (by decide +kernel) (by decide +kernel)
theorem cwl1796 : Cond.methodLink RL 282 yX7_wrongPlace ∈ en_cw := cw_at 1796 (by decide +kernel) (by decide +kernel)
theorem cwl1797 : Cond.instanceMethod yX7_wrongPlace ∈ en_cw := cw_at 1797 (by decide +kernel) (by decide +kernel)
theorem cwl1798 : Cond.selects RX7 yX7_wrongPlace yX7_wrongPlace ∈ en_cw := cw_at 1798 (by decide +kernel) (by decide +kernel)
theorem cwl1799 : Cond.code yX7_wrongPlace cX7_wrongPlace 6 (some .boolean) ∈ en_cw := cw_at 1799 (by decide +kernel) (by decide +kernel)
theorem cwl1800 : Cond.methodLink RL 285 yX7_correct ∈ en_cw := cw_at 1800 (by decide +kernel) (by decide +kernel)
theorem cwl1801 : Cond.instanceMethod yX7_correct ∈ en_cw := cw_at 1801 (by decide +kernel) (by decide +kernel)
theorem cwl1802 : Cond.selects RX7 yX7_correct yX7_correct ∈ en_cw := cw_at 1802 (by decide +kernel) (by decide +kernel)
theorem cwl1803 : Cond.code yX7_correct cX7_correct 3 (some .int) ∈ en_cw := cw_at 1803 (by decide +kernel) (by decide +kernel)
theorem cwl1804 : Cond.methodLink RL 289 yX7_move ∈ en_cw := cw_at 1804 (by decide +kernel) (by decide +kernel)
theorem cwl1805 : Cond.instanceMethod yX7_move ∈ en_cw := cw_at 1805 (by decide +kernel) (by decide +kernel)
theorem cwl1806 : Cond.selects RX7 yX7_move yX7_move ∈ en_cw := cw_at 1806 (by decide +kernel) (by decide +kernel)
theorem cwl1807 : Cond.code yX7_move cX7_move 9 (some .int) ∈ en_cw := cw_at 1807 (by decide +kernel) (by decide +kernel)
theorem cwl1808 : Cond.methodLink RL 292 yX7_wrongBall ∈ en_cw := cw_at 1808 (by decide +kernel) (by decide +kernel)
theorem cwl1809 : Cond.instanceMethod yX7_wrongBall ∈ en_cw := cw_at 1809 (by decide +kernel) (by decide +kernel)
theorem cwl1810 : Cond.selects RX7 yX7_wrongBall yX7_wrongBall ∈ en_cw := cw_at 1810 (by decide +kernel) (by decide +kernel)
theorem cwl1811 : Cond.code yX7_wrongBall cX7_wrongBall 4 (some .int) ∈ en_cw := cw_at 1811 (by decide +kernel) (by decide +kernel)
theorem cwl1812 : Cond.methodLink RL 295 yX7_pickUp ∈ en_cw := cw_at 1812 (by decide +kernel) (by decide +kernel)
theorem cwl1813 : Cond.instanceMethod yX7_pickUp ∈ en_cw := cw_at 1813 (by decide +kernel) (by decide +kernel)
theorem cwl1814 : Cond.selects RX7 yX7_pickUp yX7_pickUp ∈ en_cw := cw_at 1814 (by decide +kernel) (by decide +kernel)
theorem cwl1815 : Cond.code yX7_pickUp cX7_pickUp 2 (some .int) ∈ en_cw := cw_at 1815 (by decide +kernel) (by decide +kernel)
theorem cwl1816 : Cond.methodLink RL 299 yX7_suspend ∈ en_cw := cw_at 1816 (by decide +kernel) (by decide +kernel)
theorem cwl1817 : Cond.instanceMethod yX7_suspend ∈ en_cw := cw_at 1817 (by decide +kernel) (by decide +kernel)
theorem cwl1818 : Cond.selects RX7 yX7_suspend yX7_suspend ∈ en_cw := cw_at 1818 (by decide +kernel) (by decide +kernel)
theorem cwl1819 : Cond.code yX7_suspend cX7_suspend 3 (some .boolean) ∈ en_cw := cw_at 1819 (by decide +kernel) (by decide +kernel)
theorem cwl1820 : Cond.methodLink RL 302 yX7_cancel ∈ en_cw := cw_at 1820 (by decide +kernel) (by decide +kernel)
theorem cwl1821 : Cond.instanceMethod yX7_cancel ∈ en_cw := cw_at 1821 (by decide +kernel) (by decide +kernel)
theorem cwl1822 : Cond.selects RX7 yX7_cancel yX7_cancel ∈ en_cw := cw_at 1822 (by decide +kernel) (by decide +kernel)
theorem cwl1823 : Cond.code yX7_cancel cX7_cancel 2 (some .boolean) ∈ en_cw := cw_at 1823 (by decide +kernel) (by decide +kernel)
theorem cwl1824 : Cond.methodLink RL 306 yX7_concede ∈ en_cw := cw_at 1824 (by decide +kernel) (by decide +kernel)
theorem cwl1825 : Cond.instanceMethod yX7_concede ∈ en_cw := cw_at 1825 (by decide +kernel) (by decide +kernel)
theorem cwl1826 : Cond.selects RX7 yX7_concede yX7_concede ∈ en_cw := cw_at 1826 (by decide +kernel) (by decide +kernel)
theorem cwl1827 : Cond.code yX7_concede cX7_concede 6 (some .int) ∈ en_cw := cw_at 1827 (by decide +kernel) (by decide +kernel)
theorem cwl1832 : Cond.methodLink RL 309 yX7_nextHole ∈ en_cw := cw_at 1832 (by decide +kernel) (by decide +kernel)
theorem cwl1833 : Cond.instanceMethod yX7_nextHole ∈ en_cw := cw_at 1833 (by decide +kernel) (by decide +kernel)
theorem cwl1834 : Cond.selects RX7 yX7_nextHole yX7_nextHole ∈ en_cw := cw_at 1834 (by decide +kernel) (by decide +kernel)
theorem cwl1835 : Cond.code yX7_nextHole cX7_nextHole 4 (some .int) ∈ en_cw := cw_at 1835 (by decide +kernel) (by decide +kernel)
theorem cwl1844 : Cond.methodLink RL 312 yX7_state ∈ en_cw := cw_at 1844 (by decide +kernel) (by decide +kernel)
theorem cwl1845 : Cond.instanceMethod yX7_state ∈ en_cw := cw_at 1845 (by decide +kernel) (by decide +kernel)
theorem cwl1846 : Cond.selects RX7 yX7_state yX7_state ∈ en_cw := cw_at 1846 (by decide +kernel) (by decide +kernel)
theorem cwl1847 : Cond.code yX7_state cX7_state 2 (some .char) ∈ en_cw := cw_at 1847 (by decide +kernel) (by decide +kernel)
theorem cwl1852 : Cond.methodLink RL 315 yX7_lie ∈ en_cw := cw_at 1852 (by decide +kernel) (by decide +kernel)
theorem cwl1853 : Cond.instanceMethod yX7_lie ∈ en_cw := cw_at 1853 (by decide +kernel) (by decide +kernel)
theorem cwl1854 : Cond.selects RX7 yX7_lie yX7_lie ∈ en_cw := cw_at 1854 (by decide +kernel) (by decide +kernel)
theorem cwl1855 : Cond.code yX7_lie cX7_lie 3 (some .int) ∈ en_cw := cw_at 1855 (by decide +kernel) (by decide +kernel)
theorem cwl1856 : Cond.methodLink RL 318 yX7_strokes ∈ en_cw := cw_at 1856 (by decide +kernel) (by decide +kernel)
theorem cwl1857 : Cond.instanceMethod yX7_strokes ∈ en_cw := cw_at 1857 (by decide +kernel) (by decide +kernel)
theorem cwl1858 : Cond.selects RX7 yX7_strokes yX7_strokes ∈ en_cw := cw_at 1858 (by decide +kernel) (by decide +kernel)
theorem cwl1859 : Cond.code yX7_strokes cX7_strokes 2 (some .int) ∈ en_cw := cw_at 1859 (by decide +kernel) (by decide +kernel)
theorem cwl1860 : Cond.methodLink RL 321 yX7_penalties ∈ en_cw := cw_at 1860 (by decide +kernel) (by decide +kernel)
theorem cwl1861 : Cond.instanceMethod yX7_penalties ∈ en_cw := cw_at 1861 (by decide +kernel) (by decide +kernel)
theorem cwl1862 : Cond.selects RX7 yX7_penalties yX7_penalties ∈ en_cw := cw_at 1862 (by decide +kernel) (by decide +kernel)
theorem cwl1863 : Cond.code yX7_penalties cX7_penalties 2 (some .int) ∈ en_cw := cw_at 1863 (by decide +kernel) (by decide +kernel)
theorem cwl1864 : Cond.methodLink RL 324 yX7_isOut ∈ en_cw := cw_at 1864 (by decide +kernel) (by decide +kernel)
theorem cwl1865 : Cond.instanceMethod yX7_isOut ∈ en_cw := cw_at 1865 (by decide +kernel) (by decide +kernel)
theorem cwl1866 : Cond.selects RX7 yX7_isOut yX7_isOut ∈ en_cw := cw_at 1866 (by decide +kernel) (by decide +kernel)
theorem cwl1867 : Cond.code yX7_isOut cX7_isOut 2 (some .boolean) ∈ en_cw := cw_at 1867 (by decide +kernel) (by decide +kernel)
theorem cwl1868 : Cond.methodLink RL 327 yX7_score ∈ en_cw := cw_at 1868 (by decide +kernel) (by decide +kernel)
theorem cwl1869 : Cond.instanceMethod yX7_score ∈ en_cw := cw_at 1869 (by decide +kernel) (by decide +kernel)
theorem cwl1870 : Cond.selects RX7 yX7_score yX7_score ∈ en_cw := cw_at 1870 (by decide +kernel) (by decide +kernel)
theorem cwl1871 : Cond.code yX7_score cX7_score 3 (some .int) ∈ en_cw := cw_at 1871 (by decide +kernel) (by decide +kernel)
theorem cwl1872 : Cond.methodLink RL 330 yX7_up ∈ en_cw := cw_at 1872 (by decide +kernel) (by decide +kernel)
theorem cwl1873 : Cond.instanceMethod yX7_up ∈ en_cw := cw_at 1873 (by decide +kernel) (by decide +kernel)
theorem cwl1874 : Cond.selects RX7 yX7_up yX7_up ∈ en_cw := cw_at 1874 (by decide +kernel) (by decide +kernel)
theorem cwl1875 : Cond.code yX7_up cX7_up 1 (some .int) ∈ en_cw := cw_at 1875 (by decide +kernel) (by decide +kernel)
theorem cwl1876 : Cond.methodLink RL 333 yX7_isMatchOver ∈ en_cw := cw_at 1876 (by decide +kernel) (by decide +kernel)
theorem cwl1877 : Cond.instanceMethod yX7_isMatchOver ∈ en_cw := cw_at 1877 (by decide +kernel) (by decide +kernel)
theorem cwl1878 : Cond.selects RX7 yX7_isMatchOver yX7_isMatchOver ∈ en_cw := cw_at 1878 (by decide +kernel) (by decide +kernel)
theorem cwl1879 : Cond.code yX7_isMatchOver cX7_isMatchOver 2 (some .boolean) ∈ en_cw := cw_at 1879 (by decide +kernel) (by decide +kernel)
theorem cwl1880 : Cond.methodLink RL 336 yX7_write ∈ en_cw := cw_at 1880 (by decide +kernel) (by decide +kernel)
theorem cwl1881 : Cond.instanceMethod yX7_write ∈ en_cw := cw_at 1881 (by decide +kernel) (by decide +kernel)
theorem cwl1882 : Cond.selects RX7 yX7_write yX7_write ∈ en_cw := cw_at 1882 (by decide +kernel) (by decide +kernel)
theorem cwl1883 : Cond.code yX7_write cX7_write 5 (some .int) ∈ en_cw := cw_at 1883 (by decide +kernel) (by decide +kernel)
theorem cwl1888 : Cond.methodLink RL 339 yX7_sign ∈ en_cw := cw_at 1888 (by decide +kernel) (by decide +kernel)
theorem cwl1889 : Cond.instanceMethod yX7_sign ∈ en_cw := cw_at 1889 (by decide +kernel) (by decide +kernel)
theorem cwl1890 : Cond.selects RX7 yX7_sign yX7_sign ∈ en_cw := cw_at 1890 (by decide +kernel) (by decide +kernel)
theorem cwl1891 : Cond.code yX7_sign cX7_sign 5 (some .boolean) ∈ en_cw := cw_at 1891 (by decide +kernel) (by decide +kernel)
theorem cwl1892 : Cond.methodLink RL 342 yX7_total ∈ en_cw := cw_at 1892 (by decide +kernel) (by decide +kernel)
theorem cwl1893 : Cond.instanceMethod yX7_total ∈ en_cw := cw_at 1893 (by decide +kernel) (by decide +kernel)
theorem cwl1894 : Cond.selects RX7 yX7_total yX7_total ∈ en_cw := cw_at 1894 (by decide +kernel) (by decide +kernel)
theorem cwl1895 : Cond.code yX7_total cX7_total 2 (some .int) ∈ en_cw := cw_at 1895 (by decide +kernel) (by decide +kernel)
theorem cwl1904 : Cond.methodLink RL 345 yX7_stableford ∈ en_cw := cw_at 1904 (by decide +kernel) (by decide +kernel)
theorem cwl1905 : Cond.instanceMethod yX7_stableford ∈ en_cw := cw_at 1905 (by decide +kernel) (by decide +kernel)
theorem cwl1906 : Cond.selects RX7 yX7_stableford yX7_stableford ∈ en_cw := cw_at 1906 (by decide +kernel) (by decide +kernel)
theorem cwl1907 : Cond.code yX7_stableford cX7_stableford 4 (some .int) ∈ en_cw := cw_at 1907 (by decide +kernel) (by decide +kernel)
theorem cwl1913 : Cond.methodLink RL 348 yX7_parPlay ∈ en_cw := cw_at 1913 (by decide +kernel) (by decide +kernel)
theorem cwl1914 : Cond.instanceMethod yX7_parPlay ∈ en_cw := cw_at 1914 (by decide +kernel) (by decide +kernel)
theorem cwl1915 : Cond.selects RX7 yX7_parPlay yX7_parPlay ∈ en_cw := cw_at 1915 (by decide +kernel) (by decide +kernel)
theorem cwl1916 : Cond.code yX7_parPlay cX7_parPlay 4 (some .int) ∈ en_cw := cw_at 1916 (by decide +kernel) (by decide +kernel)
theorem cwl1918 : Cond.methodLink RL 351 yX7_together ∈ en_cw := cw_at 1918 (by decide +kernel) (by decide +kernel)
theorem cwl1919 : Cond.instanceMethod yX7_together ∈ en_cw := cw_at 1919 (by decide +kernel) (by decide +kernel)
theorem cwl1920 : Cond.selects RX7 yX7_together yX7_together ∈ en_cw := cw_at 1920 (by decide +kernel) (by decide +kernel)
theorem cwl1921 : Cond.code yX7_together cX7_together 8 (some .int) ∈ en_cw := cw_at 1921 (by decide +kernel) (by decide +kernel)
theorem cwl1923 : Cond.methodLink RL 354 yX7_skins ∈ en_cw := cw_at 1923 (by decide +kernel) (by decide +kernel)
theorem cwl1924 : Cond.instanceMethod yX7_skins ∈ en_cw := cw_at 1924 (by decide +kernel) (by decide +kernel)
theorem cwl1925 : Cond.selects RX7 yX7_skins yX7_skins ∈ en_cw := cw_at 1925 (by decide +kernel) (by decide +kernel)
theorem cwl1926 : Cond.code yX7_skins cX7_skins 9 (some .int) ∈ en_cw := cw_at 1926 (by decide +kernel) (by decide +kernel)
theorem cwl1927 : Cond.methodLink RL 357 yX7_rank ∈ en_cw := cw_at 1927 (by decide +kernel) (by decide +kernel)
theorem cwl1928 : Cond.instanceMethod yX7_rank ∈ en_cw := cw_at 1928 (by decide +kernel) (by decide +kernel)
theorem cwl1929 : Cond.selects RX7 yX7_rank yX7_rank ∈ en_cw := cw_at 1929 (by decide +kernel) (by decide +kernel)
theorem cwl1930 : Cond.code yX7_rank cX7_rank 2 (some .int) ∈ en_cw := cw_at 1930 (by decide +kernel) (by decide +kernel)
theorem cwl1939 : Cond.methodLink RL 360 yX7_isAhead ∈ en_cw := cw_at 1939 (by decide +kernel) (by decide +kernel)
theorem cwl1940 : Cond.instanceMethod yX7_isAhead ∈ en_cw := cw_at 1940 (by decide +kernel) (by decide +kernel)
theorem cwl1941 : Cond.selects RX7 yX7_isAhead yX7_isAhead ∈ en_cw := cw_at 1941 (by decide +kernel) (by decide +kernel)
theorem cwl1942 : Cond.code yX7_isAhead cX7_isAhead 9 (some .boolean) ∈ en_cw := cw_at 1942 (by decide +kernel) (by decide +kernel)
theorem cwl1943 : Cond.methodLink RL 363 yX7_cut ∈ en_cw := cw_at 1943 (by decide +kernel) (by decide +kernel)
theorem cwl1944 : Cond.instanceMethod yX7_cut ∈ en_cw := cw_at 1944 (by decide +kernel) (by decide +kernel)
theorem cwl1945 : Cond.selects RX7 yX7_cut yX7_cut ∈ en_cw := cw_at 1945 (by decide +kernel) (by decide +kernel)
theorem cwl1946 : Cond.code yX7_cut cX7_cut 4 (some .int) ∈ en_cw := cw_at 1946 (by decide +kernel) (by decide +kernel)
theorem cwl1947 : Cond.methodLink RL 366 yX7_conditions ∈ en_cw := cw_at 1947 (by decide +kernel) (by decide +kernel)
theorem cwl1948 : Cond.instanceMethod yX7_conditions ∈ en_cw := cw_at 1948 (by decide +kernel) (by decide +kernel)
theorem cwl1949 : Cond.selects RX7 yX7_conditions yX7_conditions ∈ en_cw := cw_at 1949 (by decide +kernel) (by decide +kernel)
theorem cwl1950 : Cond.code yX7_conditions cX7_conditions 3 (some .int) ∈ en_cw := cw_at 1950 (by decide +kernel) (by decide +kernel)
theorem cwl2331 : Cond.methodLink RL 383 yX7_checksum ∈ en_cw := cw_at 2331 (by decide +kernel) (by decide +kernel)
theorem cwl2332 : Cond.instanceMethod yX7_checksum ∈ en_cw := cw_at 2332 (by decide +kernel) (by decide +kernel)
theorem cwl2333 : Cond.selects RX7 yX7_checksum yX7_checksum ∈ en_cw := cw_at 2333 (by decide +kernel) (by decide +kernel)
theorem cwl2334 : Cond.code yX7_checksum cX7_checksum 5 (some .long) ∈ en_cw := cw_at 2334 (by decide +kernel) (by decide +kernel)
theorem cwl2337 : Cond.methodLink RL 387 yX7_penaltyShare ∈ en_cw := cw_at 2337 (by decide +kernel) (by decide +kernel)
theorem cwl2338 : Cond.instanceMethod yX7_penaltyShare ∈ en_cw := cw_at 2338 (by decide +kernel) (by decide +kernel)
theorem cwl2339 : Cond.selects RX7 yX7_penaltyShare yX7_penaltyShare ∈ en_cw := cw_at 2339 (by decide +kernel) (by decide +kernel)
theorem cwl2340 : Cond.code yX7_penaltyShare cX7_penaltyShare 5 (some .float) ∈ en_cw := cw_at 2340 (by decide +kernel) (by decide +kernel)
theorem cwl2341 : Cond.methodLink RL 390 yX7_meanScore ∈ en_cw := cw_at 2341 (by decide +kernel) (by decide +kernel)
theorem cwl2342 : Cond.instanceMethod yX7_meanScore ∈ en_cw := cw_at 2342 (by decide +kernel) (by decide +kernel)
theorem cwl2343 : Cond.selects RX7 yX7_meanScore yX7_meanScore ∈ en_cw := cw_at 2343 (by decide +kernel) (by decide +kernel)
theorem cwl2344 : Cond.code yX7_meanScore cX7_meanScore 5 (some .double) ∈ en_cw := cw_at 2344 (by decide +kernel) (by decide +kernel)
theorem cwl2345 : Cond.methodLink RL 394 yX7_isSound ∈ en_cw := cw_at 2345 (by decide +kernel) (by decide +kernel)
theorem cwl2346 : Cond.instanceMethod yX7_isSound ∈ en_cw := cw_at 2346 (by decide +kernel) (by decide +kernel)
theorem cwl2347 : Cond.selects RX7 yX7_isSound yX7_isSound ∈ en_cw := cw_at 2347 (by decide +kernel) (by decide +kernel)
theorem cwl2348 : Cond.code yX7_isSound cX7_isSound 1 (some .boolean) ∈ en_cw := cw_at 2348 (by decide +kernel) (by decide +kernel)
theorem dlw_977 : decode cL_law 977 = .ok (.invokevirtual 266, 3) := by decide +kernel
theorem gm_X7_again : en_CV en_cw RL 266 yX7_again RX7 cX7_again 4 (some .int) 1 := en_gv cwl1749 cwl1750 cwl1751 cwl82 cwl1752 ⟨rfl, by decide, by decide, by decide +kernel⟩
theorem dlw_1069 : decode cL_law 1069 = .ok (.invokevirtual 272, 3) := by decide +kernel
theorem gm_X7_aside : en_CV en_cw RL 272 yX7_aside RX7 cX7_aside 6 (some .int) 3 := en_gv cwl1776 cwl1777 cwl1778 cwl82 cwl1779 ⟨rfl, by decide, by decide, by decide +kernel⟩
theorem dlw_751 : decode cL_law 751 = .ok (.invokevirtual 249, 3) := by decide +kernel
theorem gm_X7_away : en_CV en_cw RL 249 yX7_away RX7 cX7_away 1 (some .int) 0 := en_gv cwl1666 cwl1667 cwl1668 cwl82 cwl1669 ⟨rfl, by decide, by decide, by decide +kernel⟩
theorem dlw_719 : decode cL_law 719 = .ok (.invokevirtual 243, 3) := by decide +kernel
theorem gm_X7_begin : en_CV en_cw RL 243 yX7_begin RX7 cX7_begin 4 (some .int) 1 := en_gv cwl1654 cwl1655 cwl1656 cwl82 cwl1657 ⟨rfl, by decide, by decide, by decide +kernel⟩
theorem dlw_1463 : decode cL_law 1463 = .ok (.invokevirtual 302, 3) := by decide +kernel
theorem gm_X7_cancel : en_CV en_cw RL 302 yX7_cancel RX7 cX7_cancel 2 (some .boolean) 1 := en_gv cwl1820 cwl1821 cwl1822 cwl82 cwl1823 ⟨rfl, by decide, by decide, by decide +kernel⟩
theorem dlw_2279 : decode cL_law 2279 = .ok (.invokevirtual 383, 3) := by decide +kernel
theorem gm_X7_checksum : en_CV en_cw RL 383 yX7_checksum RX7 cX7_checksum 5 (some .long) 0 := en_gv cwl2331 cwl2332 cwl2333 cwl82 cwl2334 ⟨rfl, by decide, by decide, by decide +kernel⟩
theorem dlw_1505 : decode cL_law 1505 = .ok (.invokevirtual 306, 3) := by decide +kernel
theorem gm_X7_concede : en_CV en_cw RL 306 yX7_concede RX7 cX7_concede 6 (some .int) 2 := en_gv cwl1824 cwl1825 cwl1826 cwl82 cwl1827 ⟨rfl, by decide, by decide, by decide +kernel⟩
theorem dlw_2117 : decode cL_law 2117 = .ok (.invokevirtual 366, 3) := by decide +kernel
theorem gm_X7_conditions : en_CV en_cw RL 366 yX7_conditions RX7 cX7_conditions 3 (some .int) 1 := en_gv cwl1947 cwl1948 cwl1949 cwl82 cwl1950 ⟨rfl, by decide, by decide, by decide +kernel⟩
theorem dlw_1257 : decode cL_law 1257 = .ok (.invokevirtual 285, 3) := by decide +kernel
theorem gm_X7_correct : en_CV en_cw RL 285 yX7_correct RX7 cX7_correct 3 (some .int) 1 := en_gv cwl1800 cwl1801 cwl1802 cwl82 cwl1803 ⟨rfl, by decide, by decide, by decide +kernel⟩
theorem dlw_2089 : decode cL_law 2089 = .ok (.invokevirtual 363, 3) := by decide +kernel
theorem gm_X7_cut : en_CV en_cw RL 363 yX7_cut RX7 cX7_cut 4 (some .int) 1 := en_gv cwl1943 cwl1944 cwl1945 cwl82 cwl1946 ⟨rfl, by decide, by decide, by decide +kernel⟩
theorem dlw_1177 : decode cL_law 1177 = .ok (.invokevirtual 279, 3) := by decide +kernel
theorem gm_X7_free : en_CV en_cw RL 279 yX7_free RX7 cX7_free 10 (some .char) 3 := en_gv cwl1792 cwl1793 cwl1794 cwl82 cwl1795 ⟨rfl, by decide, by decide, by decide +kernel⟩
theorem dlw_606 : decode cL_law 606 = .ok (.invokevirtual 229, 3) := by decide +kernel
theorem gm_X7_gets : en_CV en_cw RL 229 yX7_gets RX7 cX7_gets 3 (some .int) 2 := en_gv cwl1638 cwl1639 cwl1640 cwl82 cwl1641 ⟨rfl, by decide, by decide, by decide +kernel⟩
theorem dlw_735 : decode cL_law 735 = .ok (.invokevirtual 246, 3) := by decide +kernel
theorem gm_X7_holeOn : en_CV en_cw RL 246 yX7_holeOn RX7 cX7_holeOn 1 (some .int) 0 := en_gv cwl1662 cwl1663 cwl1664 cwl82 cwl1665 ⟨rfl, by decide, by decide, by decide +kernel⟩
theorem dlw_2061 : decode cL_law 2061 = .ok (.invokevirtual 360, 3) := by decide +kernel
theorem gm_X7_isAhead : en_CV en_cw RL 360 yX7_isAhead RX7 cX7_isAhead 9 (some .boolean) 2 := en_gv cwl1939 cwl1940 cwl1941 cwl82 cwl1942 ⟨rfl, by decide, by decide, by decide +kernel⟩
theorem dlw_1761 : decode cL_law 1761 = .ok (.invokevirtual 333, 3) := by decide +kernel
theorem gm_X7_isMatchOver : en_CV en_cw RL 333 yX7_isMatchOver RX7 cX7_isMatchOver 2 (some .boolean) 0 := en_gv cwl1876 cwl1877 cwl1878 cwl82 cwl1879 ⟨rfl, by decide, by decide, by decide +kernel⟩
theorem dlw_1689 : decode cL_law 1689 = .ok (.invokevirtual 324, 3) := by decide +kernel
theorem gm_X7_isOut : en_CV en_cw RL 324 yX7_isOut RX7 cX7_isOut 2 (some .boolean) 1 := en_gv cwl1864 cwl1865 cwl1866 cwl82 cwl1867 ⟨rfl, by decide, by decide, by decide +kernel⟩
theorem dlw_2350 : decode cL_law 2350 = .ok (.invokevirtual 394, 3) := by decide +kernel
theorem gm_X7_isSound : en_CV en_cw RL 394 yX7_isSound RX7 cX7_isSound 1 (some .boolean) 0 := en_gv cwl2345 cwl2346 cwl2347 cwl82 cwl2348 ⟨rfl, by decide, by decide, by decide +kernel⟩
theorem dlw_510 : decode cL_law 510 = .ok (.invokevirtual 218, 3) := by decide +kernel
theorem gm_X7_kindAt : en_CV en_cw RL 218 yX7_kindAt RX7 cX7_kindAt 4 (some .char) 3 := en_gv cwl1622 cwl1623 cwl1624 cwl82 cwl1625 ⟨rfl, by decide, by decide, by decide +kernel⟩
theorem dlw_1605 : decode cL_law 1605 = .ok (.invokevirtual 315, 3) := by decide +kernel
theorem gm_X7_lie : en_CV en_cw RL 315 yX7_lie RX7 cX7_lie 3 (some .int) 2 := en_gv cwl1852 cwl1853 cwl1854 cwl82 cwl1855 ⟨rfl, by decide, by decide, by decide +kernel⟩
theorem dlw_1017 : decode cL_law 1017 = .ok (.invokevirtual 269, 3) := by decide +kernel
theorem gm_X7_line : en_CV en_cw RL 269 yX7_line RX7 cX7_line 9 (some .int) 2 := en_gv cwl1756 cwl1757 cwl1758 cwl82 cwl1759 ⟨rfl, by decide, by decide, by decide +kernel⟩
theorem dlw_2336 : decode cL_law 2336 = .ok (.invokevirtual 390, 3) := by decide +kernel
theorem gm_X7_meanScore : en_CV en_cw RL 390 yX7_meanScore RX7 cX7_meanScore 5 (some .double) 1 := en_gv cwl2341 cwl2342 cwl2343 cwl82 cwl2344 ⟨rfl, by decide, by decide, by decide +kernel⟩
theorem dlw_1323 : decode cL_law 1323 = .ok (.invokevirtual 289, 3) := by decide +kernel
theorem gm_X7_move : en_CV en_cw RL 289 yX7_move RX7 cX7_move 9 (some .int) 4 := en_gv cwl1804 cwl1805 cwl1806 cwl82 cwl1807 ⟨rfl, by decide, by decide, by decide +kernel⟩
theorem dlw_1521 : decode cL_law 1521 = .ok (.invokevirtual 309, 3) := by decide +kernel
theorem gm_X7_nextHole : en_CV en_cw RL 309 yX7_nextHole RX7 cX7_nextHole 4 (some .int) 0 := en_gv cwl1832 cwl1833 cwl1834 cwl82 cwl1835 ⟨rfl, by decide, by decide, by decide +kernel⟩
theorem dlw_869 : decode cL_law 869 = .ok (.invokevirtual 256, 3) := by decide +kernel
theorem gm_X7_odds : en_CV en_cw RL 256 yX7_odds RX7 cX7_odds 12 (some .int) 4 := en_gv cwl1734 cwl1735 cwl1736 cwl82 cwl1737 ⟨rfl, by decide, by decide, by decide +kernel⟩
theorem dlw_1925 : decode cL_law 1925 = .ok (.invokevirtual 348, 3) := by decide +kernel
theorem gm_X7_parPlay : en_CV en_cw RL 348 yX7_parPlay RX7 cX7_parPlay 4 (some .int) 1 := en_gv cwl1913 cwl1914 cwl1915 cwl82 cwl1916 ⟨rfl, by decide, by decide, by decide +kernel⟩
theorem dlw_1661 : decode cL_law 1661 = .ok (.invokevirtual 321, 3) := by decide +kernel
theorem gm_X7_penalties : en_CV en_cw RL 321 yX7_penalties RX7 cX7_penalties 2 (some .int) 1 := en_gv cwl1860 cwl1861 cwl1862 cwl82 cwl1863 ⟨rfl, by decide, by decide, by decide +kernel⟩
theorem dlw_2307 : decode cL_law 2307 = .ok (.invokevirtual 387, 3) := by decide +kernel
theorem gm_X7_penaltyShare : en_CV en_cw RL 387 yX7_penaltyShare RX7 cX7_penaltyShare 5 (some .float) 1 := en_gv cwl2337 cwl2338 cwl2339 cwl82 cwl2340 ⟨rfl, by decide, by decide, by decide +kernel⟩
theorem dlw_1391 : decode cL_law 1391 = .ok (.invokevirtual 295, 3) := by decide +kernel
theorem gm_X7_pickUp : en_CV en_cw RL 295 yX7_pickUp RX7 cX7_pickUp 2 (some .int) 1 := en_gv cwl1812 cwl1813 cwl1814 cwl82 cwl1815 ⟨rfl, by decide, by decide, by decide +kernel⟩
theorem dlw_526 : decode cL_law 526 = .ok (.invokevirtual 222, 3) := by decide +kernel
theorem gm_X7_player : en_CV en_cw RL 222 yX7_player RX7 cX7_player 1 (some .int) 0 := en_gv cwl1626 cwl1627 cwl1628 cwl82 cwl1629 ⟨rfl, by decide, by decide, by decide +kernel⟩
theorem dlw_1125 : decode cL_law 1125 = .ok (.invokevirtual 276, 3) := by decide +kernel
theorem gm_X7_point : en_CV en_cw RL 276 yX7_point RX7 cX7_point 4 (some .int) 2 := en_gv cwl1780 cwl1781 cwl1782 cwl82 cwl1783 ⟨rfl, by decide, by decide, by decide +kernel⟩
theorem dlw_921 : decode cL_law 921 = .ok (.invokevirtual 259, 3) := by decide +kernel
theorem gm_X7_provisional : en_CV en_cw RL 259 yX7_provisional RX7 cX7_provisional 10 (some .char) 3 := en_gv cwl1741 cwl1742 cwl1743 cwl82 cwl1744 ⟨rfl, by decide, by decide, by decide +kernel⟩
theorem dlw_2021 : decode cL_law 2021 = .ok (.invokevirtual 357, 3) := by decide +kernel
theorem gm_X7_rank : en_CV en_cw RL 357 yX7_rank RX7 cX7_rank 2 (some .int) 1 := en_gv cwl1927 cwl1928 cwl1929 cwl82 cwl1930 ⟨rfl, by decide, by decide, by decide +kernel⟩
theorem dlw_1729 : decode cL_law 1729 = .ok (.invokevirtual 327, 3) := by decide +kernel
theorem gm_X7_score : en_CV en_cw RL 327 yX7_score RX7 cX7_score 3 (some .int) 2 := en_gv cwl1868 cwl1869 cwl1870 cwl82 cwl1871 ⟨rfl, by decide, by decide, by decide +kernel⟩
theorem dlw_949 : decode cL_law 949 = .ok (.invokevirtual 263, 3) := by decide +kernel
theorem gm_X7_search : en_CV en_cw RL 263 yX7_search RX7 cX7_search 5 (some .char) 1 := en_gv cwl1745 cwl1746 cwl1747 cwl82 cwl1748 ⟨rfl, by decide, by decide, by decide +kernel⟩
theorem dlw_566 : decode cL_law 566 = .ok (.invokevirtual 226, 3) := by decide +kernel
theorem gm_X7_setHandicap : en_CV en_cw RL 226 yX7_setHandicap RX7 cX7_setHandicap 4 (some .int) 2 := en_gv cwl1630 cwl1631 cwl1632 cwl82 cwl1633 ⟨rfl, by decide, by decide, by decide +kernel⟩
theorem dlw_632 : decode cL_law 632 = .ok (.invokevirtual 233, 3) := by decide +kernel
theorem gm_X7_setSeed : en_CV en_cw RL 233 yX7_setSeed RX7 cX7_setSeed 3 (some .int) 1 := en_gv cwl1646 cwl1647 cwl1648 cwl82 cwl1649 ⟨rfl, by decide, by decide, by decide +kernel⟩
theorem dlw_1841 : decode cL_law 1841 = .ok (.invokevirtual 339, 3) := by decide +kernel
theorem gm_X7_sign : en_CV en_cw RL 339 yX7_sign RX7 cX7_sign 5 (some .boolean) 1 := en_gv cwl1888 cwl1889 cwl1890 cwl82 cwl1891 ⟨rfl, by decide, by decide, by decide +kernel⟩
theorem dlw_1993 : decode cL_law 1993 = .ok (.invokevirtual 354, 3) := by decide +kernel
theorem gm_X7_skins : en_CV en_cw RL 354 yX7_skins RX7 cX7_skins 9 (some .int) 1 := en_gv cwl1923 cwl1924 cwl1925 cwl82 cwl1926 ⟨rfl, by decide, by decide, by decide +kernel⟩
theorem dlw_1897 : decode cL_law 1897 = .ok (.invokevirtual 345, 3) := by decide +kernel
theorem gm_X7_stableford : en_CV en_cw RL 345 yX7_stableford RX7 cX7_stableford 4 (some .int) 1 := en_gv cwl1904 cwl1905 cwl1906 cwl82 cwl1907 ⟨rfl, by decide, by decide, by decide +kernel⟩
theorem dlw_1549 : decode cL_law 1549 = .ok (.invokevirtual 312, 3) := by decide +kernel
theorem gm_X7_state : en_CV en_cw RL 312 yX7_state RX7 cX7_state 2 (some .char) 1 := en_gv cwl1844 cwl1845 cwl1846 cwl82 cwl1847 ⟨rfl, by decide, by decide, by decide +kernel⟩
theorem dlw_803 : decode cL_law 803 = .ok (.invokevirtual 252, 3) := by decide +kernel
theorem gm_X7_stroke : en_CV en_cw RL 252 yX7_stroke RX7 cX7_stroke 6 (some .char) 3 := en_gv cwl1697 cwl1698 cwl1699 cwl82 cwl1700 ⟨rfl, by decide, by decide, by decide +kernel⟩
theorem dlw_1633 : decode cL_law 1633 = .ok (.invokevirtual 318, 3) := by decide +kernel
theorem gm_X7_strokes : en_CV en_cw RL 318 yX7_strokes RX7 cX7_strokes 2 (some .int) 1 := en_gv cwl1856 cwl1857 cwl1858 cwl82 cwl1859 ⟨rfl, by decide, by decide, by decide +kernel⟩
theorem dlw_1435 : decode cL_law 1435 = .ok (.invokevirtual 299, 3) := by decide +kernel
theorem gm_X7_suspend : en_CV en_cw RL 299 yX7_suspend RX7 cX7_suspend 3 (some .boolean) 1 := en_gv cwl1816 cwl1817 cwl1818 cwl82 cwl1819 ⟨rfl, by decide, by decide, by decide +kernel⟩
theorem dlw_667 : decode cL_law 667 = .ok (.invokevirtual 238, 3) := by decide +kernel
theorem gm_X7_thrown : en_CV en_cw RL 238 yX7_thrown RX7 cX7_thrown 1 (some .int) 0 := en_gv cwl1592 cwl1593 cwl1594 cwl82 cwl1595 ⟨rfl, by decide, by decide, by decide +kernel⟩
theorem dlw_1965 : decode cL_law 1965 = .ok (.invokevirtual 351, 3) := by decide +kernel
theorem gm_X7_together : en_CV en_cw RL 351 yX7_together RX7 cX7_together 8 (some .int) 2 := en_gv cwl1918 cwl1919 cwl1920 cwl82 cwl1921 ⟨rfl, by decide, by decide, by decide +kernel⟩
theorem dlw_1869 : decode cL_law 1869 = .ok (.invokevirtual 342, 3) := by decide +kernel
theorem gm_X7_total : en_CV en_cw RL 342 yX7_total RX7 cX7_total 2 (some .int) 1 := en_gv cwl1892 cwl1893 cwl1894 cwl82 cwl1895 ⟨rfl, by decide, by decide, by decide +kernel⟩
theorem dlw_1745 : decode cL_law 1745 = .ok (.invokevirtual 330, 3) := by decide +kernel
theorem gm_X7_up : en_CV en_cw RL 330 yX7_up RX7 cX7_up 1 (some .int) 0 := en_gv cwl1872 cwl1873 cwl1874 cwl82 cwl1875 ⟨rfl, by decide, by decide, by decide +kernel⟩
theorem dlw_1813 : decode cL_law 1813 = .ok (.invokevirtual 336, 3) := by decide +kernel
theorem gm_X7_write : en_CV en_cw RL 336 yX7_write RX7 cX7_write 5 (some .int) 3 := en_gv cwl1880 cwl1881 cwl1882 cwl82 cwl1883 ⟨rfl, by decide, by decide, by decide +kernel⟩
theorem dlw_1363 : decode cL_law 1363 = .ok (.invokevirtual 292, 3) := by decide +kernel
theorem gm_X7_wrongBall : en_CV en_cw RL 292 yX7_wrongBall RX7 cX7_wrongBall 4 (some .int) 2 := en_gv cwl1808 cwl1809 cwl1810 cwl82 cwl1811 ⟨rfl, by decide, by decide, by decide +kernel⟩
theorem dlw_1229 : decode cL_law 1229 = .ok (.invokevirtual 282, 3) := by decide +kernel
theorem gm_X7_wrongPlace : en_CV en_cw RL 282 yX7_wrongPlace RX7 cX7_wrongPlace 6 (some .boolean) 3 := en_gv cwl1796 cwl1797 cwl1798 cwl82 cwl1799 ⟨rfl, by decide, by decide, by decide +kernel⟩
