/-! calls of the model out of the law -/
theorem lw_qoff {st : Nat} {md : List (Nat × Nat)} {tk : List Nat} (h : ¬ 3 ≤ st) (hq : (lw_qt 0 md tk && lw_qt 1 md tk && lw_qt 2 md tk) = true) : lw_qt st md tk = true := by
  simp only [Bool.and_eq_true] at hq
  match st, h with
  | 0, _ => exact hq.1.1
  | 1, _ => exact hq.1.2
  | 2, _ => exact hq.2
  | n + 3, h => exact absurd (Nat.le_add_left 3 n) h
theorem lw_qon {st : Nat} {md : List (Nat × Nat)} {tk : List Nat} (h : 3 ≤ st) (hq : lw_qt 3 md tk = true) : lw_qt st md tk = true := by
  match st, h with
  | n + 3, _ =>
    refine List.all_eq_true.mpr fun z hz => ?_
    have h9 := List.all_eq_true.mp hq z hz
    have e1 : (n + 3 == 0) = (3 == 0) := by simp
    have e2 : decide (n + 3 ≤ 2) = decide (3 ≤ 2) := by
      rw [decide_eq_decide]
      omega
    have e3 : decide (3 ≤ n + 3) = decide (3 ≤ 3) := by
      rw [decide_eq_decide]
      omega
    rw [e1, e2, e3]
    exact h9
section
variable {tys : List (ClassId × FieldType)} {cO cD : ClassId} {A : Nat → Prop} {sh : en_H} {w : va_W} {qx qo qd : Nat} {E : Int32 → Int32 → Prop} {LP : en_H → va_W → Prop} {st : Nat} {cx cy : Int32} {fs fs' : List Value} {tk : List Nat} {md : List (Nat × Nat)} {u : en_H × va_W}
theorem lw_w18 (I : lw_I E LP tys cO cD qx qo qd sh w st cx cy fs) : w.length = sh.1.length ∧ ∀ x, w[18]? = some x → x.1 = sh.2 18 := ⟨I.hs.1.1, fun x hx => by
  obtain ⟨e9, a1, -⟩ := I.hs.1.2 18 28 I.h28
  rw [Option.some.inj (hx.symm.trans a1)]⟩
theorem lw_ahA (I : lw_I E LP tys cO cD qx qo qd sh w st cx cy fs) (h : en_Px tys (en_Pc cx cy) en_KT tk md sh w u) (hw' : u.2[0]? = some (u.1.2 0, .inr (13, fs'))) (hm : (20, 4) ∉ md ∧ (28, 0) ∉ md) (hA : ∃ (a : Nat) (cA : ClassId) (n : Nat) (g : Nat → Int32), fs[4]? = some (.ref a) ∧ w[18]? = some (a, .inl (cA, n, .inl g)) ∧ en_Inv (en_Pc cx cy) en_V27 g) : lw_ah cx cy fs' u.2 := by
  obtain ⟨fs9, g1, g2⟩ := lw_fs I.h20 I.hs.2.1 h
  have e9 : fs9 = fs' := by
    have := Option.some.inj (g1.symm.trans hw')
    exact (Prod.mk.inj (Sum.inr.inj (Prod.mk.inj this).2)).2
  subst e9
  obtain ⟨a, cA, n, g, a1, a2, a3⟩ := hA
  refine Or.inl ⟨a, cA, n, g, (g2 4 hm.1).trans a1, ?_, a3⟩
  have ea : a = sh.2 18 := (lw_w18 I).2 _ a2
  subst ea
  exact wr_keep h I.h28 hm.2 a2
theorem lw_last {κ : en_K} {ρ : List Value} {res : Option Value} (I : lw_I E LP tys cO cD qx qo qd sh w st cx cy fs) (ha : κ.2.2.1.all lw_l28 = true) (hD : va_D A u.2) (hw' : u.2[0]? = some (u.1.2 0, .inr (13, fs'))) (h : en_Po tys (en_Pc cx cy) (en_Of cx cy) en_KT κ sh w ρ res u) (hn : 0 < κ.1) (h0 : ρ[0]? = some (.ref (sh.2 0))) : fs'[28]? = some (.int (-1)) := by
  obtain ⟨hpx, o, ho, ρ', h1, h2, -⟩ := h
  refine lw_l28_ok (List.all_eq_true.mp ha o ho) hD hw' ?_ h1
  rw [h2 0 hn, (hpx.1.at I.h20).2]
  exact h0
end
theorem lw_stc {st : Nat} (h : st ≤ 4) : st = 0 ∨ st = 1 ∨ st = 2 ∨ st = 3 ∨ st = 4 := by omega
theorem lw_k16 {x : Int32} (h1 : (1 : Int) ≤ x.toInt) (h2 : x.toInt ≤ 9) : x.toInt = 1 ∨ x.toInt = 2 ∨ x.toInt = 3 ∨ x.toInt = 4 ∨ x.toInt = 5 ∨ x.toInt = 6 ∨ x.toInt = 7 ∨ x.toInt = 8 ∨ x.toInt = 9 := by omega
theorem lw_z35 {PP : Int32 → Int32 → Prop} {sh : en_H} {tys : List (ClassId × FieldType)} {e : va_E} (h : en_C PP sh tys (.inr (2, 6, .inl (.inl (0, 0, 0, 0)))) e) : en_C PP sh tys (.inr (2, 6, .inl (.inl (0, 1, 0, 0)))) e := by
  rcases e with ⟨cA, n, f | f | f | f | f⟩ | o <;> first | exact h.elim | skip
  obtain ⟨d1, d2, d3⟩ := h
  refine ⟨d1, d2, fun j hj => ?_⟩
  have d4 := d3 j hj
  have e1 : (0 : Int) ≤ (f j).toInt := d4.1
  have e2 : (f j).toInt ≤ 0 := d4.2
  exact ⟨e1, by show (f j).toInt ≤ 1; omega⟩
theorem lw_KTz_eq : (∀ k, k ≠ 35 → en_KTz[k]? = en_KT[k]?) ∧ ∀ k, k ≠ 27 → en_KTpz[k]? = en_KTz[k]? := by
  have h2 : ∀ k, ¬ k < 49 → en_KTpz[k]? = none ∧ en_KTz[k]? = none ∧ en_KT[k]? = none := fun k hk => ⟨List.getElem?_eq_none (by have : en_KTpz.length = 49 := rfl; omega), List.getElem?_eq_none (by have : en_KTz.length = 49 := rfl; omega), List.getElem?_eq_none (by have : en_KT.length = 49 := rfl; omega)⟩
  refine ⟨fun k h1 => ?_, fun k h1 => ?_⟩
  · by_cases hk : k < 49
    · match k, hk with
      | 0, _ => rfl
      | 1, _ => rfl
      | 2, _ => rfl
      | 3, _ => rfl
      | 4, _ => rfl
      | 5, _ => rfl
      | 6, _ => rfl
      | 7, _ => rfl
      | 8, _ => rfl
      | 9, _ => rfl
      | 10, _ => rfl
      | 11, _ => rfl
      | 12, _ => rfl
      | 13, _ => rfl
      | 14, _ => rfl
      | 15, _ => rfl
      | 16, _ => rfl
      | 17, _ => rfl
      | 18, _ => rfl
      | 19, _ => rfl
      | 20, _ => rfl
      | 21, _ => rfl
      | 22, _ => rfl
      | 23, _ => rfl
      | 24, _ => rfl
      | 25, _ => rfl
      | 26, _ => rfl
      | 27, _ => rfl
      | 28, _ => rfl
      | 29, _ => rfl
      | 30, _ => rfl
      | 31, _ => rfl
      | 32, _ => rfl
      | 33, _ => rfl
      | 34, _ => rfl
      | 35, _ => exact absurd rfl h1
      | 36, _ => rfl
      | 37, _ => rfl
      | 38, _ => rfl
      | 39, _ => rfl
      | 40, _ => rfl
      | 41, _ => rfl
      | 42, _ => rfl
      | 43, _ => rfl
      | 44, _ => rfl
      | 45, _ => rfl
      | 46, _ => rfl
      | 47, _ => rfl
      | 48, _ => rfl
      | n + 49, hk => omega
    · exact (h2 k hk).2.1.trans (h2 k hk).2.2.symm
  · by_cases hk : k < 49
    · match k, hk with
      | 0, _ => rfl
      | 1, _ => rfl
      | 2, _ => rfl
      | 3, _ => rfl
      | 4, _ => rfl
      | 5, _ => rfl
      | 6, _ => rfl
      | 7, _ => rfl
      | 8, _ => rfl
      | 9, _ => rfl
      | 10, _ => rfl
      | 11, _ => rfl
      | 12, _ => rfl
      | 13, _ => rfl
      | 14, _ => rfl
      | 15, _ => rfl
      | 16, _ => rfl
      | 17, _ => rfl
      | 18, _ => rfl
      | 19, _ => rfl
      | 20, _ => rfl
      | 21, _ => rfl
      | 22, _ => rfl
      | 23, _ => rfl
      | 24, _ => rfl
      | 25, _ => rfl
      | 26, _ => rfl
      | 27, _ => exact absurd rfl h1
      | 28, _ => rfl
      | 29, _ => rfl
      | 30, _ => rfl
      | 31, _ => rfl
      | 32, _ => rfl
      | 33, _ => rfl
      | 34, _ => rfl
      | 35, _ => rfl
      | 36, _ => rfl
      | 37, _ => rfl
      | 38, _ => rfl
      | 39, _ => rfl
      | 40, _ => rfl
      | 41, _ => rfl
      | 42, _ => rfl
      | 43, _ => rfl
      | 44, _ => rfl
      | 45, _ => rfl
      | 46, _ => rfl
      | 47, _ => rfl
      | 48, _ => rfl
      | n + 49, hk => omega
    · exact (h2 k hk).1.trans (h2 k hk).2.1.symm
theorem lw_zx {tys : List (ClassId × FieldType)} {PP : Int32 → Int32 → Prop} {tk : List Nat} {md : List (Nat × Nat)} {sh : en_H} {w : va_W} {u : en_H × va_W} (h : en_Px tys PP en_KTz tk md sh w u) : en_Px tys PP en_KT tk md sh w u := ⟨h.1, ⟨h.2.1.1, fun q k hq => by
  obtain ⟨e, a, b⟩ := h.2.1.2 q k hq
  refine ⟨e, a, fun hk hx => ?_⟩
  obtain ⟨kd, c1, c2⟩ := b hk hx
  by_cases e35 : k = 35
  · subst e35
    have e9 := Option.some.inj (c1.symm.trans (show en_KTz[35]? = some (.inr (2, 6, .inl (.inl (0, 0, 0, 0)))) from rfl))
    subst e9
    exact ⟨_, rfl, lw_z35 c2⟩
  · exact ⟨kd, by rw [← lw_KTz_eq.1 k e35]; exact c1, c2⟩⟩, h.2.2⟩
theorem lw_preZ {tys : List (ClassId × FieldType)} {PP : Int32 → Int32 → Prop} {tk : List Nat} {sh : en_H} {w : va_W} (h : en_W PP (lw_KT 0) lw_TK sh tys (fun _ => False) w) (hs : ∀ k ∈ tk, k < 49) (h27 : 27 ∉ tk) : en_W PP en_KTz tk sh tys (fun _ => False) w := (lw_tk h fun k hk => List.mem_range.mpr (hs k hk)).kt fun k hk => lw_KTz_eq.2 k fun e => h27 (e ▸ hk)
/-! the ball ahead, told by a contract's out -/
def lw_sy (fa : List en_X) (a j : Nat) : Nat := match fa.find? (fun f => f.1 == 1 && (f.2.1 == a && f.2.2.1 == j)) with
  | some f => f.2.2.2.1
  | none => 1000
def lw_vs (fa : List en_X) (a : Nat) : List Nat := (List.range 24).map (lw_sy fa a)
def lw_pl (env : List en_A) : Bool := env.all fun a => match a with
  | .inl r => r.2.2.1 == 0
  | _ => true
theorem lw_pl_ok {PP : Int32 → Int32 → Prop} {Ω : Nat → en_H → va_W → Prop} {sh : en_H} {w : va_W} {o : en_Pt} {ρ : List Value} (h : lw_pl o.1 = true) (hPa : en_Pa PP Ω sh w o ρ) : en_E sh o.1 ρ := ⟨hPa.1, fun i a hi => by
  obtain ⟨v, h1, h2⟩ := hPa.2.1 i a hi
  refine ⟨v, h1, h2, fun lo hi' b o9 e => ?_⟩
  subst e
  have h9 := List.all_eq_true.mp h _ (List.mem_of_getElem? hi)
  simp at h9⟩
def lw_fit (o : en_Pt) : Bool := lw_pl o.1 && o.2.any fun f => f.1 == 0 && (f.2.1 == 0 && (f.2.2.1 == 4 && ((List.range 24).all (fun j => o.2.contains (1, f.2.2.2.1, j, lw_sy o.2 f.2.2.2.1 j, 0, 0)) && (en_clk o.1 en_V27.1 (lw_vs o.2 f.2.2.2.1) && en_V27.2.all (en_cli o.1 o.2 (lw_vs o.2 f.2.2.2.1))))))
theorem lw_fit_ok {PP : Int32 → Int32 → Prop} {Ω : Nat → en_H → va_W → Prop} {sh : en_H} {w : va_W} {A : Nat → Prop} {o : en_Pt} {ρ fs : List Value} (h : lw_fit o = true) (hD : va_D A w) (hw : w[0]? = some (sh.2 0, .inr (13, fs))) (h0 : ρ[0]? = some (.ref (sh.2 0))) (hPa : en_Pa PP Ω sh w o ρ) : ∃ (a q n : Nat) (cA : ClassId) (g : Nat → Int32), fs[4]? = some (.ref a) ∧ w[q]? = some (a, .inl (cA, n, .inl g)) ∧ en_Inv PP en_V27 g := by
  unfold lw_fit at h
  simp only [Bool.and_eq_true] at h
  obtain ⟨hpl, h⟩ := h
  have hE := lw_pl_ok hpl hPa
  obtain ⟨f, hf, h9⟩ := List.any_eq_true.mp h
  obtain ⟨tag, a, b, c, lo, hi⟩ := f
  simp only [Bool.and_eq_true, beq_iff_eq] at h9
  obtain ⟨rfl, rfl, rfl, hc, hk, hi9⟩ := h9
  obtain ⟨q, r9, ci, fs9, v9, b1, b2, b3, b4⟩ := hPa.2.2 _ hf
  have er : r9 = sh.2 0 := Value.ref.inj (Option.some.inj (b1.symm.trans h0))
  subst er
  have eq : q = 0 := hD.1 q 0 _ _ b2 hw rfl
  subst eq
  have e9 : fs9 = fs := (Prod.mk.inj (Sum.inr.inj (Prod.mk.inj (Option.some.inj (b2.symm.trans hw))).2)).2
  subst e9
  have hrow : ∀ j, j < 24 → en_fs PP Ω sh w ρ (1, c, j, lw_sy o.2 c j, 0, 0) := fun j hj => hPa.2.2 _ (List.contains_iff_mem.mp (List.all_eq_true.mp hc j (List.mem_range.mpr hj)))
  obtain ⟨q0, r0, n0, cA0, g, d1, d2, d3, d4⟩ := hrow 0 (by decide)
  have ev : v9 = .ref r0 := Option.some.inj (b4.symm.trans d1)
  subst ev
  have hg : ∀ j, j < 24 → ρ[lw_sy o.2 c j]? = some (.int (g j)) := fun j hj => by
    obtain ⟨q1, r1, n1, cA1, g1, f1, f2, f3, f4⟩ := hrow j hj
    have er : r1 = r0 := Value.ref.inj (Option.some.inj (f1.symm.trans d1))
    subst er
    have eq : q1 = q0 := hD.1 q1 q0 _ _ f2 d2 rfl
    subst eq
    have e9 := Option.some.inj (f2.symm.trans d2)
    simp only [Prod.mk.injEq, Sum.inl.injEq, true_and] at e9
    obtain ⟨-, -, rfl⟩ := e9
    exact f4
  have hvs : ∀ j cx, (lw_vs o.2 c)[j]? = some cx → ρ[cx]? = some (.int (g j)) := fun j cx hj => by
    unfold lw_vs at hj
    rw [List.getElem?_map] at hj
    obtain ⟨j', h1, h2⟩ := Option.map_eq_some_iff.mp hj
    have h3 : j < 24 := by
      have := (List.getElem?_eq_some_iff.mp h1).1
      rw [List.length_range] at this
      exact this
    rw [List.getElem?_range h3] at h1
    have e := Option.some.inj h1
    subst e
    rw [← h2]
    exact hg j h3
  refine ⟨r0, q0, n0, cA0, g, b3, d2, fun j r hr => ?_, fun m hm a1 a2 => ?_⟩
  · have hj : j < (lw_vs o.2 c).length := by rw [← en_clk_len _ _ hk]; exact (List.getElem?_eq_some_iff.mp hr).1
    have hc9 : (lw_vs o.2 c)[j]? = some (lw_vs o.2 c)[j] := List.getElem?_eq_getElem hj
    obtain ⟨x, x1, x2, x3⟩ := en_clk_ok hE _ _ hk j r _ hr hc9
    have ex : x = g j := Value.int.inj (Option.some.inj (x1.symm.trans (hvs j _ hc9)))
    subst ex
    exact ⟨x2, x3⟩
  · have hm2 := List.all_eq_true.mp hi9 m hm
    unfold en_cli at hm2
    split at hm2
    · next fo hop =>
      obtain ⟨a', b', c', p1, p2, p3, p4⟩ := en_opi_ok hop
      subst p4
      have va := hvs _ _ p1
      have vb := hvs _ _ p2
      have vc := hvs _ _ p3
      have h99 := en_has_ok hE hPa.2.2 hm2
      by_cases ht : 100 ≤ m.2.2.2.1
      · rw [if_pos ht] at h99
        obtain ⟨x, y, z, r1, r2, r3, r4⟩ := h99
        have e1 : x = g m.1 := Value.int.inj (Option.some.inj (r1.symm.trans va))
        have e2 : y = g (m.2.2.2.1 % 100) := Value.int.inj (Option.some.inj (r2.symm.trans vb))
        have e3 : z = g m.2.2.2.2 := Value.int.inj (Option.some.inj (r3.symm.trans vc))
        intro hc9
        rw [← e1] at a1 a2
        rw [← e2, ← e3] at hc9 ⊢
        exact r4 a1 a2 (hc9 ht)
      · rw [if_neg ht] at h99
        obtain ⟨x, y, z, r1, r2, r3, r4⟩ := h99
        have e1 : x = g m.1 := Value.int.inj (Option.some.inj (r1.symm.trans va))
        have e2 : y = g (m.2.2.2.1 % 100) := Value.int.inj (Option.some.inj (r2.symm.trans vb))
        have e3 : z = g m.2.2.2.2 := Value.int.inj (Option.some.inj (r3.symm.trans vc))
        intro _
        rw [← e1] at a1 a2
        rw [← e2, ← e3]
        exact r4 a1 a2
    · cases hm2
section
variable {tys : List (ClassId × FieldType)} {cO cD : ClassId} {A : Nat → Prop} {sh : en_H} {w : va_W} {qx qo qd : Nat} {E : Int32 → Int32 → Prop} {LP : en_H → va_W → Prop} {st : Nat} {cx cy : Int32} {fs fs' : List Value} {tk : List Nat} {md : List (Nat × Nat)} {u : en_H × va_W}
/-- the way to the ball ahead -/
theorem lw_to28 (I : lw_I E LP tys cO cD qx qo qd sh w st cx cy fs) {v : Value} (hv : fs[4]? = some v) : v = .ref (sh.2 18) := by
  obtain ⟨e, a, b⟩ := I.hs.1.2 0 20 I.h20
  obtain ⟨kd, c1, c2⟩ := b (by decide) (fun z => z)
  have e9 : e = .inr (13, fs) := (Prod.mk.inj (Option.some.inj (a.symm.trans I.hs.2.1))).2
  subst e9
  rw [lw_KT_eq st 20 (by decide) (by decide)] at c1
  obtain ⟨ts, h1, h2⟩ : ∃ ts, en_KT[20]? = some (.inl (13, ts)) ∧ ts[4]? = some (.inr (.inl 28)) := ⟨_, rfl, rfl⟩
  have e := Option.some.inj (h1.symm.trans c1)
  subst e
  obtain ⟨q, q1, q2⟩ := c2.2.2 4 _ v h2 hv
  rw [I.h28u q q1] at q2
  exact q2
/-- told by an out: the ball ahead fits, or there's no last stroke -/
def lw_ot (o : en_Pt) : Bool := lw_l28 o || lw_fit o
theorem lw_aho {κ : en_K} {ρ : List Value} {res : Option Value} (I : lw_I E LP tys cO cD qx qo qd sh w st cx cy fs) (ha : κ.2.2.1.all lw_ot = true) (h4 : (20, 4) ∉ κ.2.2.2.1) (hD : va_D A u.2) (hw' : u.2[0]? = some (u.1.2 0, .inr (13, fs'))) (h : en_Po tys (en_Pc cx cy) (en_Of cx cy) en_KT κ sh w ρ res u) (hn : 0 < κ.1) (h0 : ρ[0]? = some (.ref (sh.2 0))) : lw_ah cx cy fs' u.2 := by
  obtain ⟨hpx, o, ho, ρ', h1, h2, -⟩ := h
  have h0' : ρ'[0]? = some (.ref (u.1.2 0)) := by
    rw [h2 0 hn, (hpx.1.at I.h20).2]
    exact h0
  have h9 := List.all_eq_true.mp ha o ho
  unfold lw_ot at h9
  simp only [Bool.or_eq_true] at h9
  rcases h9 with h9 | h9
  · exact Or.inr (lw_l28_ok h9 hD hw' h0' h1)
  · obtain ⟨a, q, n, cA, g, g1, g2, g3⟩ := lw_fit_ok h9 hD hw' h0' h1
    obtain ⟨fs9, f1, f2⟩ := lw_fs I.h20 I.hs.2.1 hpx
    have e9 : fs9 = fs' := (Prod.mk.inj (Sum.inr.inj (Prod.mk.inj (Option.some.inj (f1.symm.trans hw'))).2)).2
    subst e9
    have ea := lw_to28 I ((f2 4 h4).symm.trans g1)
    have ea := Value.ref.inj ea
    subst ea
    obtain ⟨e8, a1, -⟩ := hpx.2.2 18 28 _ I.h28 (show w[18]? = some (sh.2 18, (w[18]?.getD (0, .inr (0, []))).2) from by
      obtain ⟨e7, z1, -⟩ := I.hs.1.2 18 28 I.h28
      rw [z1]
      rfl)
    have eq : q = 18 := hD.1 q 18 _ _ g2 a1 rfl
    subst eq
    exact Or.inl ⟨_, cA, n, g, g1, g2, g3⟩
theorem lw_ah24 (I : lw_I E LP tys cO cD qx qo qd sh w st cx cy fs) (hA : ∃ (a : Nat) (cA : ClassId) (n : Nat) (g : Nat → Int32), fs[4]? = some (.ref a) ∧ w[18]? = some (a, .inl (cA, n, .inl g)) ∧ en_Inv (en_Pc cx cy) en_V27 g) : ∃ (a : Nat) (cA : ClassId) (g : Nat → Int32), fs[4]? = some (.ref (sh.2 18)) ∧ w[18]? = some (sh.2 18, .inl (cA, 24, .inl g)) ∧ en_Inv (en_Pc cx cy) en_V27 g := by
  obtain ⟨a, cA, n, g, a1, a2, a3⟩ := hA
  have e := Value.ref.inj (lw_to28 I a1)
  subst e
  obtain ⟨e9, b1, b2⟩ := I.hs.1.2 18 28 I.h28
  obtain ⟨kd, c1, c2⟩ := b2 (by decide) (fun z => z)
  have ee : e9 = .inl (cA, n, .inl g) := (Prod.mk.inj (Option.some.inj (b1.symm.trans a2))).2
  subst ee
  rw [lw_KT_eq st 28 (by decide) (by decide)] at c1
  have ek := Option.some.inj (c1.symm.trans (show en_KT[28]? = some (.inr (0, 24, .inl (.inl (-2147483648, 2147483647, 0, 0)))) from rfl))
  subst ek
  obtain ⟨-, en, -⟩ := c2
  have en : n = 24 := en
  subst en
  exact ⟨0, cA, g, a1, a2, a3⟩
end
/-! the start of a hole: plain rows, and rows that fit the new cup -/
theorem lw_KTp_eq : ∀ k, k ≠ 27 → en_KTp[k]? = en_KT[k]? := fun k h => by
  by_cases h35 : k = 35
  · subst h35
    rfl
  · exact lw_KT_eq 1 k h h35
theorem lw_27 : en_KT[27]? = some (.inr (0, 24, .inr en_V27)) ∧ en_KTp[27]? = some (.inr (0, 24, .inl (.inl (-2147483648, 2147483647, 0, 0)))) := ⟨rfl, rfl⟩
theorem lw_plain {tys : List (ClassId × FieldType)} {PP : Int32 → Int32 → Prop} {tk : List Nat} {sh : en_H} {ex : Nat → Prop} {w : va_W} (h : en_W PP en_KT tk sh tys ex w) : en_W PP en_KTp tk sh tys ex w := ⟨h.1, fun q k hq => by
  obtain ⟨e, a, b⟩ := h.2 q k hq
  refine ⟨e, a, fun hk hx => ?_⟩
  obtain ⟨kd, c1, c2⟩ := b hk hx
  by_cases e27 : k = 27
  · subst e27
    have e9 := Option.some.inj (c1.symm.trans lw_27.1)
    subst e9
    refine ⟨_, lw_27.2, ?_⟩
    rcases e with ⟨cA, n, f | f | f | f | f⟩ | o <;> first | exact c2.elim | skip
    exact ⟨c2.1, c2.2.1, fun j _ => ⟨en_lo _, en_hi _⟩⟩
  · exact ⟨kd, by rw [lw_KTp_eq k e27]; exact c1, c2⟩⟩
theorem lw_pzp {tys : List (ClassId × FieldType)} {PP : Int32 → Int32 → Prop} {tk : List Nat} {sh : en_H} {ex : Nat → Prop} {w : va_W} (h : en_W PP en_KTpz tk sh tys ex w) : en_W PP en_KTp tk sh tys ex w := ⟨h.1, fun q k hq => by
  obtain ⟨e, a, b⟩ := h.2 q k hq
  refine ⟨e, a, fun hk hx => ?_⟩
  obtain ⟨kd, c1, c2⟩ := b hk hx
  by_cases e35 : k = 35
  · subst e35
    have e9 := Option.some.inj (c1.symm.trans (show en_KTpz[35]? = some (.inr (2, 6, .inl (.inl (0, 0, 0, 0)))) from rfl))
    subst e9
    exact ⟨_, rfl, lw_z35 c2⟩
  · by_cases e27 : k = 27
    · subst e27
      exact ⟨kd, c1, c2⟩
    · exact ⟨kd, by rw [lw_KTp_eq k e27, ← lw_KT_eq 0 k e27 e35]; exact c1, c2⟩⟩
def lw_ni : en_D → Bool
  | .inr (_, _, .inr v) => v.2.isEmpty
  | _ => true
theorem lw_ni_ok {PP PP' : Int32 → Int32 → Prop} {sh : en_H} {tys : List (ClassId × FieldType)} {kd : en_D} {e : va_E} (h : lw_ni kd = true) (hc : en_C PP sh tys kd e) : en_C PP' sh tys kd e := by
  rcases kd with ⟨ci, ts⟩ | ⟨t0, len, (i | k | c) | v⟩ <;> rcases e with ⟨cA, n, f | f | f | f | f⟩ | ⟨co, fs⟩ <;> first | exact hc.elim | skip
  · exact hc
  · exact hc
  · exact hc
  · exact hc
  · obtain ⟨h1, h2, h3, h4⟩ := hc
    refine ⟨h1, h2, h3, h4.1, fun m hm => ?_⟩
    have e : v.2 = [] := List.isEmpty_iff.mp h
    rw [e] at hm
    exact absurd hm List.not_mem_nil
theorem lw_nik : ∀ k kd, k ≠ 27 → en_KT[k]? = some kd → lw_ni kd = true := fun k kd h27 hk => by
  have hall : (List.range 49).all (fun k => k == 27 || match en_KT[k]? with | some kd => lw_ni kd | none => true) = true := by decide +kernel
  have hlt : k < 49 := by
    have := (List.getElem?_eq_some_iff.mp hk).1
    have e : en_KT.length = 49 := rfl
    omega
  have h9 := List.all_eq_true.mp hall k (List.mem_range.mpr hlt)
  rw [hk] at h9
  simp only [Bool.or_eq_true, beq_iff_eq] at h9
  exact h9.resolve_left h27
theorem lw_fitW {tys : List (ClassId × FieldType)} {PP PP' : Int32 → Int32 → Prop} {tk : List Nat} {sh : en_H} {ex : Nat → Prop} {w : va_W} (h : en_W PP en_KTp tk sh tys ex w) (hf : ∀ q, sh.1[q]? = some 27 → ∃ (cB : ClassId) (n : Nat) (g : Nat → Int32), w[q]? = some (sh.2 q, .inl (cB, n, .inl g)) ∧ en_Inv PP' en_V27 g) : en_W PP' en_KT tk sh tys ex w := ⟨h.1, fun q k hq => by
  obtain ⟨e, a, b⟩ := h.2 q k hq
  refine ⟨e, a, fun hk hx => ?_⟩
  obtain ⟨kd, c1, c2⟩ := b hk hx
  by_cases e27 : k = 27
  · subst e27
    have e9 := Option.some.inj (c1.symm.trans lw_27.2)
    subst e9
    obtain ⟨cB, n, g, g1, g2⟩ := hf q hq
    have ee : e = .inl (cB, n, .inl g) := (Prod.mk.inj (Option.some.inj (a.symm.trans g1))).2
    subst ee
    exact ⟨_, lw_27.1, c2.1, c2.2.1, rfl, g2⟩
  · rw [lw_KTp_eq k e27] at c1
    exact ⟨kd, c1, lw_ni_ok (lw_nik k kd e27 c1) c2⟩⟩
def lw_hb (o : en_Pt) (b : Nat × Int × Int) : Bool := o.2.any fun f => f.1 == 0 && (f.2.1 == 0 && (f.2.2.1 == b.1 && (match o.1[f.2.2.2.1]? with | some (.inl r) => decide (b.2.1 ≤ r.1) && decide (r.2.1 ≤ b.2.2) | _ => false)))
theorem lw_hb_ok {PP : Int32 → Int32 → Prop} {Ω : Nat → en_H → va_W → Prop} {sh : en_H} {w : va_W} {A : Nat → Prop} {o : en_Pt} {ρ fs : List Value} {b : Nat × Int × Int} (h : lw_hb o b = true) (hD : va_D A w) (hw : w[0]? = some (sh.2 0, .inr (13, fs))) (h0 : ρ[0]? = some (.ref (sh.2 0))) (hPa : en_Pa PP Ω sh w o ρ) : lw_b fs b := by
  obtain ⟨f, hf, h9⟩ := List.any_eq_true.mp h
  obtain ⟨tag, a, b9, c, lo, hi⟩ := f
  obtain ⟨j, l9, h8⟩ := b
  simp only [Bool.and_eq_true, beq_iff_eq] at h9
  obtain ⟨rfl, rfl, rfl, h9⟩ := h9
  split at h9
  · next r hr =>
    simp only [Bool.and_eq_true, decide_eq_true_eq] at h9
    obtain ⟨v, v1, x, rfl, v2, v3⟩ := hPa.2.1 c _ hr
    obtain ⟨q, r9, ci, fs9, v9, b1, b2, b3, b4⟩ := hPa.2.2 _ hf
    have er : r9 = sh.2 0 := Value.ref.inj (Option.some.inj (b1.symm.trans h0))
    subst er
    have eq : q = 0 := hD.1 q 0 _ _ b2 hw rfl
    subst eq
    have e9 : fs9 = fs := (Prod.mk.inj (Sum.inr.inj (Prod.mk.inj (Option.some.inj (b2.symm.trans hw))).2)).2
    subst e9
    have ex : v9 = .int x := Option.some.inj (b4.symm.trans v1)
    subst ex
    exact ⟨x, b3, Int.le_trans h9.1 v2, Int.le_trans v3 h9.2⟩
  · cases h9
theorem lw_bk {fs fs' : List Value} {j : Nat} {lo hi lo' hi' : Int} (h : lw_b fs (j, lo, hi)) (he : fs'[j]? = fs[j]?) (h1 : lo' ≤ lo) (h2 : hi ≤ hi') : lw_b fs' (j, lo', hi') := by
  obtain ⟨x, a, b, c⟩ := h
  exact ⟨x, he.trans a, Int.le_trans h1 b, Int.le_trans c h2⟩
section
variable {tys : List (ClassId × FieldType)} {cO cD : ClassId} {A : Nat → Prop} {sh : en_H} {w : va_W} {qx qo qd : Nat} {E : Int32 → Int32 → Prop} {LP : en_H → va_W → Prop} {st : Nat} {cx cy : Int32} {fs fs' : List Value} {tk : List Nat} {md : List (Nat × Nat)} {u : en_H × va_W}
/-- every ball fits, said at the world alone -/
theorem lw_O2 (I : lw_I E LP tys cO cD qx qo qd sh w st cx cy fs) (h3 : 3 ≤ st) : en_O2 w := by
  obtain ⟨hW, hw, hB, ⟨m0, cM, fs9, hn, o1, o2, o3, o4⟩, hon⟩ := I.hs
  obtain ⟨-, hOc, hAh⟩ := hon h3
  have ee := Option.some.inj (o1.symm.trans hw)
  simp only [Prod.mk.injEq, Sum.inr.injEq] at ee
  obtain ⟨rfl, rfl, rfl⟩ := ee
  refine ⟨cx, cy, hOc, sh.2 0, 13, fs9, hw, fun j hj => ?_, ?_⟩
  · obtain ⟨b, hb⟩ := o4 j hj
    obtain ⟨a, cA, n, f, x, b1, b2, b3, b4⟩ := hb
    obtain ⟨e, a1, a2⟩ := hW.2 (12 + j) 27 (I.h27b j hj)
    obtain ⟨kd, c1, c2⟩ := a2 (by decide) (fun z => z)
    have hk : (lw_KT st)[27]? = en_KT[27]? := by
      match st, h3 with
      | n + 3, _ => rfl
    rw [hk] at c1
    have e9 := Option.some.inj (c1.symm.trans lw_27.1)
    subst e9
    have ee := Option.some.inj (a1.symm.trans b4)
    simp only [Prod.mk.injEq] at ee
    obtain ⟨eb, rfl⟩ := ee
    rcases x with ⟨cB, n9, g | g | g | g | g⟩ <;> first | exact c2.elim | skip
    exact ⟨b, cB, n9, g, ⟨a, cA, n, f, _, b1, b2, b3, b4⟩, b4, c2.2.2.2⟩
  · rcases hAh with ⟨a, cA, n, g, g1, g2, g3⟩ | h
    · exact Or.inr ⟨a, cA, n, g, g1, g2, g3⟩
    · exact Or.inl h
/-- out of the world alone: the state on -/
theorem lw_on2 (h27 : ∀ q, sh.1[q]? = some 27 → 12 ≤ q ∧ q < 18) (hw : w[0]? = some (sh.2 0, .inr (13, fs))) {PP : Int32 → Int32 → Prop} (hW : en_W PP en_KTp lw_TK sh tys (fun _ => False) w) (h1 : en_O1 w) (h2 : en_O2 w) (hst : 3 ≤ st) (hB : ∀ b ∈ lw_B st, lw_b fs b) (hh : ∃ h n : Int32, fs[25]? = some (.int h) ∧ fs[16]? = some (.int n) ∧ h.toInt < n.toInt) : ∃ cx cy, lw_S tys st cx cy sh w fs := by
  obtain ⟨cx, cy, hOc, m0, cM, fs9, o1, o2, o3⟩ := h2
  have ee := Option.some.inj (o1.symm.trans hw)
  simp only [Prod.mk.injEq, Sum.inr.injEq] at ee
  obtain ⟨rfl, rfl, rfl⟩ := ee
  have hk : lw_KT st = en_KT := by
    match st, hst with
    | n + 3, _ => rfl
  refine ⟨cx, cy, ?_, hw, hB, h1, fun _ => ⟨hh, hOc, ?_⟩⟩
  · rw [hk]
    refine lw_fitW hW fun q hq => ?_
    obtain ⟨a1, a2⟩ := h27 q hq
    obtain ⟨j, rfl⟩ : ∃ j, q = 12 + j := ⟨q - 12, by omega⟩
    obtain ⟨b, cB, n, g, -, g2, g3⟩ := o2 j (by omega)
    obtain ⟨e, z1, -⟩ := hW.2 (12 + j) 27 hq
    have eb : b = sh.2 (12 + j) := (Prod.mk.inj (Option.some.inj (g2.symm.trans z1))).1
    subst eb
    exact ⟨cB, n, g, g2, g3⟩
  · rcases o3 with h | ⟨a, cA, n, g, g1, g2, g3⟩
    · exact Or.inr h
    · exact Or.inl ⟨a, cA, n, g, g1, g2, g3⟩
/-- off again -/
theorem lw_off2 (hw : w[0]? = some (sh.2 0, .inr (13, fs))) (hW : en_W (en_Pc cx cy) (lw_KT st) lw_TK sh tys (fun _ => False) w) (h1 : en_O1 w) (hst : ¬ 3 ≤ st) (hB : ∀ b ∈ lw_B st, lw_b fs b) : lw_S tys st cx cy sh w fs := ⟨hW, hw, hB, h1, fun h => absurd h hst⟩
theorem lw_hh {lo hi lo' hi' : Int} (h1 : lw_b fs (25, lo, hi)) (h2 : lw_b fs (16, lo', hi')) (h : hi < lo') : ∃ h n : Int32, fs[25]? = some (.int h) ∧ fs[16]? = some (.int n) ∧ h.toInt < n.toInt := by
  obtain ⟨x, a1, a2, a3⟩ := h1
  obtain ⟨y, b1, b2, b3⟩ := h2
  refine ⟨x, y, a1, b1, ?_⟩
  have a3 : x.toInt ≤ hi := a3
  have b2 : lo' ≤ y.toInt := b2
  omega
end
theorem lw_chr {x : Int32} (h : (0 : Int) ≤ x.toInt ∧ x.toInt ≤ 65535) : ((109 : Int) ≤ x.toInt ∧ x.toInt ≤ 109) ∨ ((115 : Int) ≤ x.toInt ∧ x.toInt ≤ 115) ∨ ((0 : Int) ≤ x.toInt ∧ x.toInt ≤ 108) ∨ ((110 : Int) ≤ x.toInt ∧ x.toInt ≤ 114) ∨ ((116 : Int) ≤ x.toInt ∧ x.toInt ≤ 65535) := by omega
/-! one row of the course apart from the others -/
def lw_rl (k : Nat) (sh : en_H) : en_H := (sh.1.mapIdx fun i x => if 2 ≤ i ∧ i < 11 ∧ i ≠ 2 + k then 48 else x, sh.2)
def lw_ul (sh : en_H) : en_H := (sh.1.mapIdx fun i x => if 2 ≤ i ∧ i < 11 then 22 else x, sh.2)
/-- no row of the course is referred to -/
def lw_rf : en_D → Bool
  | .inl (_, ts) => ts.all fun a => match a with
    | .inr (.inl k) => k != 22 && k != 48
    | _ => true
  | .inr (_, _, .inl (.inr (.inl k))) => k != 22 && k != 48
  | .inr (_, _, .inl (.inr (.inr _))) => false
  | _ => true
theorem lw_Cm {PP : Int32 → Int32 → Prop} {sh sh' : en_H} {tys : List (ClassId × FieldType)} {kd : en_D} {e : va_E} (h : lw_rf kd = true) (hs : ∀ q k, k ≠ 22 → k ≠ 48 → sh.1[q]? = some k → sh'.1[q]? = some k) (h2 : sh'.2 = sh.2) (hc : en_C PP sh tys kd e) : en_C PP sh' tys kd e := by
  rcases kd with ⟨ci, ts⟩ | ⟨t0, len, (i | k | c) | v⟩ <;> rcases e with ⟨cA, n, f | f | f | f | f⟩ | ⟨co, fs⟩ <;> first | exact hc.elim | skip
  · obtain ⟨a1, a2, a3⟩ := hc
    refine ⟨a1, a2, fun j t v hj hv => ?_⟩
    have h9 := List.all_eq_true.mp h t (List.mem_of_getElem? hj)
    have hv9 := a3 j t v hj hv
    rcases t with i | k | c
    · exact hv9
    · obtain ⟨q, q1, q2⟩ := hv9
      simp only [Bool.and_eq_true, bne_iff_ne] at h9
      exact ⟨q, hs q k h9.1 h9.2 q1, by rw [h2]; exact q2⟩
    · exact hv9
  · exact hc
  · obtain ⟨a1, a2, a3⟩ := hc
    have h9 : (k != 22 && k != 48) = true := h
    simp only [Bool.and_eq_true, bne_iff_ne] at h9
    refine ⟨a1, a2, fun j hj => ?_⟩
    obtain ⟨q, q1, q2⟩ := a3 j hj
    exact ⟨q, hs q k h9.1 h9.2 q1, by rw [h2]; exact q2⟩
  · exact Bool.noConfusion h
  · exact hc
theorem lw_rfk : ∀ k kd, k ≠ 21 → en_KT[k]? = some kd → lw_rf kd = true := fun k kd h21 hk => by
  have hall : (List.range 49).all (fun k => k == 21 || match en_KT[k]? with | some kd => lw_rf kd | none => true) = true := by decide +kernel
  have hlt : k < 49 := by
    have := (List.getElem?_eq_some_iff.mp hk).1
    have e : en_KT.length = 49 := rfl
    omega
  have h9 := List.all_eq_true.mp hall k (List.mem_range.mpr hlt)
  rw [hk] at h9
  simp only [Bool.or_eq_true, beq_iff_eq] at h9
  exact h9.resolve_left h21
def lw_KTs : Nat → List en_D
  | 0 => en_KTs0
  | 1 => en_KTs1
  | 2 => en_KTs2
  | 3 => en_KTs3
  | 4 => en_KTs4
  | 5 => en_KTs5
  | 6 => en_KTs6
  | 7 => en_KTs7
  | _ => en_KTs8
theorem lw_KTs_eq : ∀ k, k < 9 → (lw_KTs k)[21]? = some (.inr (5, 9, .inl (.inr (.inr (k + 2200 + 480000))))) ∧ ∀ j, j ≠ 21 → (lw_KTs k)[j]? = en_KT[j]? := by
  have key : ∀ (K : List en_D) (v : en_D), K = en_KT.set 21 v → K[21]? = some v ∧ ∀ j, j ≠ 21 → K[j]? = en_KT[j]? := fun K v h => by
    subst h
    exact ⟨List.getElem?_set_self (show 21 < en_KT.length from by decide +kernel), fun j hj => List.getElem?_set_ne (fun e => hj e.symm)⟩
  intro k hk
  match k, hk with
  | 0, _ => exact key en_KTs0 _ rfl
  | 1, _ => exact key en_KTs1 _ rfl
  | 2, _ => exact key en_KTs2 _ rfl
  | 3, _ => exact key en_KTs3 _ rfl
  | 4, _ => exact key en_KTs4 _ rfl
  | 5, _ => exact key en_KTs5 _ rfl
  | 6, _ => exact key en_KTs6 _ rfl
  | 7, _ => exact key en_KTs7 _ rfl
  | 8, _ => exact key en_KTs8 _ rfl
  | n + 9, h => exact absurd h (by omega)
theorem lw_21 : en_KT[21]? = some (.inr (5, 9, .inl (.inr (.inl 22)))) ∧ en_KT[48]? = en_KT[22]? := ⟨rfl, rfl⟩
section
variable {tys : List (ClassId × FieldType)} {cO cD : ClassId} {A : Nat → Prop} {sh : en_H} {w : va_W} {qx qo qd : Nat} {E : Int32 → Int32 → Prop} {LP : en_H → va_W → Prop} {st : Nat} {cx cy : Int32} {fs fs' : List Value} {tk : List Nat} {md : List (Nat × Nat)} {u : en_H × va_W} {PP : Int32 → Int32 → Prop} {k : Nat}
theorem lw_rlat {q : Nat} : (lw_rl k sh).1[q]? = (sh.1[q]?).map fun x => if 2 ≤ q ∧ q < 11 ∧ q ≠ 2 + k then 48 else x := List.getElem?_mapIdx
theorem lw_ulat {q : Nat} : (lw_ul sh).1[q]? = (sh.1[q]?).map fun x => if 2 ≤ q ∧ q < 11 then 22 else x := List.getElem?_mapIdx
theorem lw_rls (h22 : ∀ j, j < 9 → sh.1[2 + j]? = some 22) : ∀ q x, x ≠ 22 → x ≠ 48 → sh.1[q]? = some x → (lw_rl k sh).1[q]? = some x := fun q x h1 _ hq => by
  rw [lw_rlat, hq]
  show some (if 2 ≤ q ∧ q < 11 ∧ q ≠ 2 + k then 48 else x) = some x
  rw [if_neg ?_]
  intro h
  obtain ⟨j, rfl⟩ : ∃ j, q = 2 + j := ⟨q - 2, by omega⟩
  exact h1 (Option.some.inj (hq.symm.trans (h22 j (by omega))))
/-- the rows apart -/
theorem lw_toS (hk : k < 9) (h22 : ∀ j, j < 9 → sh.1[2 + j]? = some 22) (hn : ∀ q, sh.1[q]? = some 22 → 2 ≤ q ∧ q < 11) (h48 : ∀ q, sh.1[q]? ≠ some 48) (hc : ∀ q, sh.1[q]? = some 21 → q = 1) {cA : ClassId} {f : Nat → Option Nat} (hw1 : w[1]? = some (sh.2 1, .inl (cA, 9, .inr (.inr (.inr (.inr f)))))) (hf : ∀ j, j < 9 → f j = some (sh.2 (2 + j))) (hW : en_W PP en_KT tk sh tys (fun _ => False) w) (ht : 22 ∈ tk ∨ 48 ∉ tk) : en_W PP (lw_KTs k) tk (lw_rl k sh) tys (fun _ => False) w := by
  obtain ⟨s1, s2⟩ := lw_KTs_eq k hk
  refine ⟨hW.1.trans (by show _ = (sh.1.mapIdx _).length; rw [List.length_mapIdx]), fun q x hq => ?_⟩
  have hq0 := hq
  rw [lw_rlat] at hq
  obtain ⟨x0, hx0, hx⟩ := Option.map_eq_some_iff.mp hq
  obtain ⟨e, a, b⟩ := hW.2 q x0 hx0
  refine ⟨e, a, fun hT _ => ?_⟩
  by_cases hr : 2 ≤ q ∧ q < 11 ∧ q ≠ 2 + k
  · rw [if_pos hr] at hx
    subst hx
    obtain ⟨j, rfl⟩ : ∃ j, q = 2 + j := ⟨q - 2, by omega⟩
    have e22 : x0 = 22 := Option.some.inj (hx0.symm.trans (h22 j (by omega)))
    subst e22
    rcases ht with ht | ht
    · obtain ⟨kd, c1, c2⟩ := b ht (fun z => z)
      refine ⟨kd, by rw [s2 48 (by decide), lw_21.2]; exact c1, lw_Cm (lw_rfk 22 kd (by decide) c1) (lw_rls h22) rfl c2⟩
    · exact absurd hT ht
  · rw [if_neg hr] at hx
    subst hx
    obtain ⟨kd, c1, c2⟩ := b hT (fun z => z)
    by_cases e21 : x0 = 21
    · subst e21
      have eq := hc q hx0
      subst eq
      have e9 := Option.some.inj (c1.symm.trans lw_21.1)
      subst e9
      have ee : e = .inl (cA, 9, .inr (.inr (.inr (.inr f)))) := (Prod.mk.inj (Option.some.inj (a.symm.trans hw1))).2
      subst ee
      refine ⟨_, s1, c2.1, c2.2.1, fun j hj => ⟨2 + j, ?_, hf j hj⟩⟩
      rw [lw_rlat, h22 j hj]
      show some (if 2 ≤ 2 + j ∧ 2 + j < 11 ∧ 2 + j ≠ 2 + k then 48 else 22) = some (en_sk (k + 2200 + 480000) j)
      unfold en_sk
      have m1 : (k + 2200 + 480000) % 100 = k := by omega
      have m2 : (k + 2200 + 480000) / 100 % 100 = 22 := by omega
      have m3 : (k + 2200 + 480000) / 10000 = 48 := by omega
      rw [m1, m2, m3]
      by_cases hjk : j = k
      · rw [if_pos hjk, if_neg (by omega)]
      · rw [if_neg hjk, if_pos (by omega)]
    · exact ⟨kd, by rw [s2 x0 e21]; exact c1, lw_Cm (lw_rfk x0 kd e21 c1) (lw_rls h22) rfl c2⟩
/-- and together again -/
theorem lw_ofS (hk : k < 9) (h22 : ∀ j, j < 9 → sh.1[2 + j]? = some 22) (hn : ∀ q, sh.1[q]? = some 22 → 2 ≤ q ∧ q < 11) (h48 : ∀ q, sh.1[q]? ≠ some 48) (hm48 : ∀ z ∈ md, z.1 ≠ 48) (ht : 22 ∈ tk → 48 ∈ tk) (h : en_Px tys PP (lw_KTs k) tk md (lw_rl k sh) w u) (h0 : en_W PP en_KT tk sh tys (fun _ => False) w) (hm : ∀ z ∈ md, z.1 ∈ tk) : en_Px tys PP en_KT tk md sh w (lw_ul u.1, u.2) ∧ ∀ j, j < 9 → j ≠ k → ∀ e, w[2 + j]? = some (sh.2 (2 + j), e) → u.2[2 + j]? = some (sh.2 (2 + j), e) := by
  obtain ⟨s1, s2⟩ := lw_KTs_eq k hk
  obtain ⟨hg, hW, hF⟩ := h
  obtain ⟨⟨t, ht1, ht2⟩, hg2⟩ := hg
  have hlen : (lw_rl k sh).1.length = sh.1.length := List.length_mapIdx
  have h11 : 11 ≤ sh.1.length := by
    have := (List.getElem?_eq_some_iff.mp (h22 8 (by decide))).1
    omega
  have hul : (lw_ul u.1).1 = sh.1 ++ t := by
    refine List.ext_getElem? fun q => ?_
    rw [lw_ulat, ht1]
    rcases Nat.lt_or_ge q sh.1.length with hlt | hge
    · rw [List.getElem?_append_left (by rw [hlen]; exact hlt), List.getElem?_append_left hlt, lw_rlat]
      have hx := List.getElem?_eq_getElem hlt
      generalize sh.1[q] = x at hx
      rw [hx]
      show some (if 2 ≤ q ∧ q < 11 then 22 else if 2 ≤ q ∧ q < 11 ∧ q ≠ 2 + k then 48 else x) = some x
      by_cases hr : 2 ≤ q ∧ q < 11
      · rw [if_pos hr]
        obtain ⟨j, rfl⟩ : ∃ j, q = 2 + j := ⟨q - 2, by omega⟩
        rw [Option.some.inj (hx.symm.trans (h22 j (by omega)))]
      · rw [if_neg hr, if_neg (by omega)]
    · rw [List.getElem?_append_right (by rw [hlen]; exact hge), List.getElem?_append_right hge, hlen]
      have : ¬ (2 ≤ q ∧ q < 11) := by omega
      rw [if_neg this]
      exact Option.map_id' _
  have hgr : en_Gr tk sh (lw_ul u.1) := ⟨⟨t, hul, ht2⟩, fun q hq => hg2 q (by rw [hlen]; exact hq)⟩
  have hat : ∀ q x, u.1.1[q]? = some x → x ≠ 22 → x ≠ 48 → (lw_ul u.1).1[q]? = some x := fun q x hq h1 h2 => by
    rw [lw_ulat, hq]
    show some (if 2 ≤ q ∧ q < 11 then 22 else x) = some x
    rw [if_neg ?_]
    intro hr
    obtain ⟨j, rfl⟩ : ∃ j, q = 2 + j := ⟨q - 2, by omega⟩
    rw [ht1, List.getElem?_append_left (by rw [hlen]; omega), lw_rlat, h22 j (by omega)] at hq
    have hq : some (if 2 ≤ 2 + j ∧ 2 + j < 11 ∧ 2 + j ≠ 2 + k then 48 else 22) = some x := hq
    split at hq
    · exact h2 (Option.some.inj hq).symm
    · exact h1 (Option.some.inj hq).symm
  have hbk : ∀ q, (u.1.1[q]? = some 22 ∨ u.1.1[q]? = some 48) → (lw_ul u.1).1[q]? = some 22 := fun q hq => by
    have hlt : q < sh.1.length := by
      refine Classical.byContradiction fun hge => ?_
      have hnk : ∀ x, u.1.1[q]? = some x → en_nk x := fun x hx => by
        rw [ht1, List.getElem?_append_right (by rw [hlen]; omega)] at hx
        exact (ht2 x (List.mem_of_getElem? hx)).2
      rcases hq with hq | hq
      · exact absurd (hnk _ hq) (by decide)
      · exact absurd (hnk _ hq) (by decide)
    have hsh : ∃ x, sh.1[q]? = some x ∧ (x = 22 ∨ (2 ≤ q ∧ q < 11) ∨ x = 48) := by
      have hx := List.getElem?_eq_getElem hlt
      refine ⟨_, hx, ?_⟩
      have e9 : u.1.1[q]? = (sh.1[q]?).map fun x => if 2 ≤ q ∧ q < 11 ∧ q ≠ 2 + k then 48 else x := by
        rw [ht1, List.getElem?_append_left (by rw [hlen]; exact hlt), lw_rlat]
      rw [hx] at e9
      rw [e9] at hq
      by_cases hr : 2 ≤ q ∧ q < 11
      · exact Or.inr (Or.inl hr)
      · have hr' : ¬ (2 ≤ q ∧ q < 11 ∧ q ≠ 2 + k) := fun z => hr ⟨z.1, z.2.1⟩
        rcases hq with hq | hq
        · have hq : some (if 2 ≤ q ∧ q < 11 ∧ q ≠ 2 + k then 48 else sh.1[q]) = some 22 := hq
          rw [if_neg hr'] at hq
          exact Or.inl (Option.some.inj hq)
        · have hq : some (if 2 ≤ q ∧ q < 11 ∧ q ≠ 2 + k then 48 else sh.1[q]) = some 48 := hq
          rw [if_neg hr'] at hq
          exact Or.inr (Or.inr (Option.some.inj hq))
    obtain ⟨x, hx, h9⟩ := hsh
    have hr : 2 ≤ q ∧ q < 11 := by
      rcases h9 with h9 | h9 | h9
      · subst h9
        exact hn q hx
      · exact h9
      · subst h9
        exact absurd hx (h48 q)
    obtain ⟨j, rfl⟩ : ∃ j, q = 2 + j := ⟨q - 2, by omega⟩
    exact (hgr.at (h22 j (by omega))).1
  have hrow : ∀ j, j < 9 → j ≠ k → ∀ e, w[2 + j]? = some (sh.2 (2 + j), e) → u.2[2 + j]? = some (sh.2 (2 + j), e) := fun j hj hjk e hw => by
    have h9 : (lw_rl k sh).1[2 + j]? = some 48 := by
      rw [lw_rlat, h22 j hj]
      show some (if 2 ≤ 2 + j ∧ 2 + j < 11 ∧ 2 + j ≠ 2 + k then 48 else 22) = some 48
      rw [if_pos (by omega)]
    obtain ⟨e9, a1, a2⟩ := hF (2 + j) 48 e h9 hw
    rw [lw_Fc0 a2 hm48] at a1
    exact a1
  refine ⟨⟨hgr, ⟨hW.1.trans (by rw [hul, ht1, List.length_append, List.length_append, hlen]), fun q x hq => ?_⟩, fun q x e0 hq h1 => ?_⟩, hrow⟩
  · by_cases hr : 2 ≤ q ∧ q < 11
    · obtain ⟨j, rfl⟩ : ∃ j, q = 2 + j := ⟨q - 2, by omega⟩
      have e22 : x = 22 := Option.some.inj (hq.symm.trans (hgr.at (h22 j (by omega))).1)
      subst e22
      by_cases hjk : j = k
      · have h9 : u.1.1[2 + j]? = some 22 := by
          rw [ht1, List.getElem?_append_left (by rw [hlen]; omega), lw_rlat, h22 j (by omega)]
          show some (if 2 ≤ 2 + j ∧ 2 + j < 11 ∧ 2 + j ≠ 2 + k then 48 else 22) = some 22
          rw [if_neg (by omega)]
        obtain ⟨e, a, b⟩ := hW.2 (2 + j) 22 h9
        refine ⟨e, a, fun hT hx => ?_⟩
        obtain ⟨kd, c1, c2⟩ := b hT hx
        rw [s2 22 (by decide)] at c1
        exact ⟨kd, c1, lw_Cm (lw_rfk 22 kd (by decide) c1) (fun q k h1 h2 h3 => hat q k h3 h1 h2) rfl c2⟩
      · have h9 : u.1.1[2 + j]? = some 48 := by
          rw [ht1, List.getElem?_append_left (by rw [hlen]; omega), lw_rlat, h22 j (by omega)]
          show some (if 2 ≤ 2 + j ∧ 2 + j < 11 ∧ 2 + j ≠ 2 + k then 48 else 22) = some 48
          rw [if_pos (by omega)]
        obtain ⟨e, a, b⟩ := hW.2 (2 + j) 48 h9
        refine ⟨e, a, fun hT hx => ?_⟩
        obtain ⟨kd, c1, c2⟩ := b (ht hT) hx
        rw [s2 48 (by decide), lw_21.2] at c1
        exact ⟨kd, c1, lw_Cm (lw_rfk 22 kd (by decide) c1) (fun q k h1 h2 h3 => hat q k h3 h1 h2) rfl c2⟩
    · have h9 : u.1.1[q]? = some x := by
        rw [lw_ulat] at hq
        obtain ⟨x0, g1, g2⟩ := Option.map_eq_some_iff.mp hq
        rw [if_neg hr] at g2
        rw [g1, g2]
      obtain ⟨e, a, b⟩ := hW.2 q x h9
      refine ⟨e, a, fun hT hx => ?_⟩
      obtain ⟨kd, c1, c2⟩ := b hT hx
      by_cases e21 : x = 21
      · subst e21
        have e9 := Option.some.inj (c1.symm.trans s1)
        subst e9
        rcases e with ⟨cA, n, f | f | f | f | f⟩ | o <;> first | exact c2.elim | skip
        refine ⟨_, lw_21.1, c2.1, c2.2.1, fun j hj => ?_⟩
        obtain ⟨q9, q1, q2⟩ := c2.2.2 j hj
        refine ⟨q9, hbk q9 ?_, q2⟩
        unfold en_sk at q1
        have m2 : (k + 2200 + 480000) / 100 % 100 = 22 := by omega
        have m3 : (k + 2200 + 480000) / 10000 = 48 := by omega
        rw [m2, m3] at q1
        split at q1
        · exact Or.inl q1
        · exact Or.inr q1
      · rw [s2 x e21] at c1
        exact ⟨kd, c1, lw_Cm (lw_rfk x kd e21 c1) (fun q k h1 h2 h3 => hat q k h3 h1 h2) rfl c2⟩
  · by_cases hr : 2 ≤ q ∧ q < 11 ∧ q ≠ 2 + k
    · obtain ⟨j, rfl⟩ : ∃ j, q = 2 + j := ⟨q - 2, by omega⟩
      exact ⟨e0, hrow j (by omega) (by omega) e0 h1, en_Fc.rf e0⟩
    · have h9 : (lw_rl k sh).1[q]? = some x := by
        rw [lw_rlat, hq]
        show some (if 2 ≤ q ∧ q < 11 ∧ q ≠ 2 + k then 48 else x) = some x
        rw [if_neg hr]
      exact hF q x e0 h9 h1
end
/-! Omega is stable -/
def lw_om (sh : en_H) : Prop := sh.1[0]? = some 20 ∧ sh.1[1]? = some 21 ∧ (∀ j, j < 9 → sh.1[2 + j]? = some 22 ∨ sh.1[2 + j]? = some 48) ∧ sh.1[11]? = some 26 ∧ (∀ j, j < 6 → sh.1[12 + j]? = some 27) ∧ sh.1[18]? = some 28 ∧ ∀ q, sh.1[q]? = some 20 → q = 0
theorem lw_Om {cx cy : Int32} {sh : en_H} (h : lw_om sh) : en_Om en_om0 sh (en_Of cx cy) := by
  obtain ⟨h0, h1, hr, h11, hb, h18, hu⟩ := h
  have hlen : 19 ≤ sh.1.length := (List.getElem?_eq_some_iff.mp h18).1
  refine ⟨fun a md tk sh' ws ws' hg hmd hF hΩ => ?_, fun a tk tk' sh1 sh2 ws g1 g2 hΩ => ?_, hu⟩
  · have nm : ∀ z, (a, z) ∈ en_om0 → z ∉ md := fun z hz hm => hmd z hm hz
    have lab : ∀ q k, sh.1[q]? = some k → sh'.1[q]? = some k := fun q k hq => (hg.at hq).1
    by_cases ha : 3 ≤ a
    · match a, ha with
      | n + 3, _ => exact True.intro
    have had : en_ad sh' ws := by
      match a, ha with
      | 0, _ => exact hΩ.1
      | 1, _ => exact hΩ.1
      | 2, _ => exact hΩ.1
      | n + 3, ha => exact absurd (Nat.le_add_left 3 n) ha
    have stp : ∀ (q k r : Nat) (e0 : va_E), q < 19 → sh.1[q]? = some k → ws[q]? = some (r, e0) → ∃ e, ws'[q]? = some (r, e) ∧ en_Fc md k e0 e := fun q k r e0 hq hk hw => by
      obtain ⟨e9, h9⟩ := had q hq
      have er : r = sh'.2 q := (Prod.mk.inj (Option.some.inj (hw.symm.trans h9))).1
      subst er
      exact hF q k e0 (lab q k hk) hw
    have had' : en_ad sh' ws' := fun q hq => by
      obtain ⟨e9, h9⟩ := had q hq
      obtain ⟨e, a1, -⟩ := stp q _ _ e9 hq (List.getElem?_eq_getElem (show q < sh.1.length by omega)) h9
      exact ⟨e, a1⟩
    have obj : ∀ (m0 cM : Nat) (fs : List Value), ws[0]? = some (m0, .inr (cM, fs)) → ∃ fs', ws'[0]? = some (m0, .inr (cM, fs')) ∧ ∀ j, (20, j) ∉ md → fs'[j]? = fs[j]? := fun m0 cM fs hw => by
      obtain ⟨e, a1, a2⟩ := stp 0 20 _ _ (by decide) h0 hw
      rcases e with x | ⟨ci, fs'⟩
      · exact a2.elim
      · obtain ⟨b1, -, b3⟩ := a2
        have b1 : ci = cM := b1
        subst b1
        exact ⟨fs', a1, b3⟩
    have arr : ∀ (q k r : Nat) (x : ClassId × vp_A), q < 19 → sh.1[q]? = some k → (k, 0) ∉ md → ws[q]? = some (r, .inl x) → ws'[q]? = some (r, .inl x) := fun q k r x hq hk hm hw => by
      obtain ⟨e, a1, a2⟩ := stp q k r _ hq hk hw
      rcases e with x' | o
      · rw [a1, a2.2.2 hm]
      · exact a2.elim
    have crow : ∀ (fs fs' : List Value) (h : Nat) (g : Nat → Int32), fs'[0]? = fs[0]? → (21, 0) ∉ md → (22, 0) ∉ md → (48, 0) ∉ md → h < 9 → en_cr ws fs h g → en_cr ws' fs' h g := fun fs fs' h g e m1 m2 m3 hh hc => by
      obtain ⟨a, cA, n, f, b, cB, n2, c1, c2, c3, c4⟩ := hc
      refine ⟨a, cA, n, f, b, cB, n2, e.trans c1, arr 1 21 _ _ (by decide) h1 m1 c2, c3, ?_⟩
      rcases hr h hh with hk | hk
      · exact arr (2 + h) 22 _ _ (by omega) hk m2 c4
      · exact arr (2 + h) 48 _ _ (by omega) hk m3 c4
    have brow : ∀ (fs fs' : List Value) (j b : Nat), fs'[3]? = fs[3]? → (26, 0) ∉ md → j < 6 → en_br ws fs j b → en_br ws' fs' j b := fun fs fs' j b e m1 hj hc => by
      obtain ⟨a, cA, n, f, x, c1, c2, c3, c4⟩ := hc
      obtain ⟨e9, a1, a2⟩ := stp (12 + j) 27 _ _ (by omega) (hb j hj) c4
      rcases e9 with x' | o
      · exact ⟨a, cA, n, f, x', e.trans c1, arr 11 26 _ _ (by decide) h11 m1 c2, c3, a1⟩
      · exact a2.elim
    match a, ha with
    | 0, _ =>
      obtain ⟨-, m0, cM, fs, h, g, o1, o2, o3, o4, o5, o6⟩ := hΩ
      obtain ⟨fs', p1, p2⟩ := obj _ _ _ o1
      exact ⟨had', m0, cM, fs', h, g, p1, (p2 25 (nm (20, 25) (by decide))).trans o2, crow fs fs' _ g (p2 0 (nm (20, 0) (by decide))) (nm (21, 0) (by decide)) (nm (22, 0) (by decide)) (nm (48, 0) (by decide)) o6 o3, o4, o5, o6⟩
    | 1, _ =>
      obtain ⟨-, m0, cM, fs, hn, o1, o2, o3, o4⟩ := hΩ
      obtain ⟨fs', p1, p2⟩ := obj _ _ _ o1
      refine ⟨had', m0, cM, fs', hn, p1, (p2 16 (nm (20, 16) (by decide))).trans o2, fun h h8 h9 => ?_, fun j hj => ?_⟩
      · obtain ⟨g, g1, g2⟩ := o3 h h8 h9
        exact ⟨g, crow fs fs' _ g (p2 0 (nm (20, 0) (by decide))) (nm (21, 0) (by decide)) (nm (22, 0) (by decide)) (nm (48, 0) (by decide)) h9 g1, g2⟩
      · obtain ⟨b, hb9⟩ := o4 j hj
        exact ⟨b, brow fs fs' j b (p2 3 (nm (20, 3) (by decide))) (nm (26, 0) (by decide)) hj hb9⟩
    | 2, _ =>
      obtain ⟨-, cx9, cy9, ⟨m1, cM1, fs1, h, g, q1, q2, q3, q4, q5, q6⟩, m0, cM, fs, o1, o2, o3⟩ := hΩ
      have ee := Option.some.inj (q1.symm.trans o1)
      simp only [Prod.mk.injEq, Sum.inr.injEq] at ee
      obtain ⟨rfl, rfl, rfl⟩ := ee
      obtain ⟨fs', p1, p2⟩ := obj _ _ _ o1
      refine ⟨had', cx9, cy9, ⟨m1, cM1, fs', h, g, p1, (p2 25 (nm (20, 25) (by decide))).trans q2, crow fs1 fs' _ g (p2 0 (nm (20, 0) (by decide))) (nm (21, 0) (by decide)) (nm (22, 0) (by decide)) (nm (48, 0) (by decide)) q6 q3, q4, q5, q6⟩, m1, cM1, fs', p1, fun j hj => ?_, ?_⟩
      · obtain ⟨b, cB, n, g9, b1, b2, b3⟩ := o2 j hj
        exact ⟨b, cB, n, g9, brow fs1 fs' j b (p2 3 (nm (20, 3) (by decide))) (nm (26, 0) (by decide)) hj b1, arr (12 + j) 27 _ _ (by omega) (hb j hj) (nm (27, 0) (by decide)) b2, b3⟩
      · rcases o3 with h9 | ⟨a9, cA, n, g9, g1, g2, g3⟩
        · exact Or.inl ((p2 28 (nm (20, 28) (by decide))).trans h9)
        · exact Or.inr ⟨a9, cA, n, g9, (p2 4 (nm (20, 4) (by decide))).trans g1, arr 18 28 _ _ (by decide) h18 (nm (28, 0) (by decide)) g2, g3⟩
    | n + 3, ha => exact absurd (Nat.le_add_left 3 n) ha
  · have hl1 : 19 ≤ sh1.1.length := Nat.le_trans hlen g1.len
    have key : en_ad sh1 ws → en_ad sh2 ws := fun had q hq => by
      obtain ⟨e, h9⟩ := had q hq
      exact ⟨e, by rw [g2.2 q (by omega)]; exact h9⟩
    match a, hΩ with
    | 0, hΩ => exact ⟨key hΩ.1, hΩ.2⟩
    | 1, hΩ => exact ⟨key hΩ.1, hΩ.2⟩
    | 2, hΩ => exact ⟨key hΩ.1, hΩ.2⟩
    | n + 3, _ => exact True.intro
/-- of the shape with one row apart -/
theorem lw_omr {sh : en_H} {k : Nat} (h : lw_om sh) (hs : lw_sp sh) : lw_om (lw_rl k sh) := by
  obtain ⟨h0, h1, hr, h11, hb, h18, hu⟩ := h
  have at9 : ∀ q x, ¬ (2 ≤ q ∧ q < 11) → sh.1[q]? = some x → (lw_rl k sh).1[q]? = some x := fun q x hq hx => by
    rw [lw_rlat, hx]
    show some (if 2 ≤ q ∧ q < 11 ∧ q ≠ 2 + k then 48 else x) = some x
    rw [if_neg fun z => hq ⟨z.1, z.2.1⟩]
  refine ⟨at9 0 _ (by omega) h0, at9 1 _ (by omega) h1, fun j hj => ?_, at9 11 _ (by omega) h11, fun j hj => at9 _ _ (by omega) (hb j hj), at9 18 _ (by omega) h18, fun q hq => ?_⟩
  · rw [lw_rlat, hs.1 j hj]
    show some (if 2 ≤ 2 + j ∧ 2 + j < 11 ∧ 2 + j ≠ 2 + k then 48 else 22) = some 22 ∨ some (if 2 ≤ 2 + j ∧ 2 + j < 11 ∧ 2 + j ≠ 2 + k then 48 else 22) = some 48
    split
    · exact Or.inr rfl
    · exact Or.inl rfl
  · rw [lw_rlat] at hq
    obtain ⟨x, x1, x2⟩ := Option.map_eq_some_iff.mp hq
    split at x2
    · cases x2
    · subst x2
      exact hu q x1
/-! a hole told, an area told -/
/-- told by an out: cup and tee of row k differ -/
def lw_rw (k : Nat) (o : en_Pt) : Bool := o.2.any fun f => f.1 == 0 && (f.2.1 == 0 && (f.2.2.1 == 0 && o.2.any fun e => e.1 == 4 && (e.2.1 == f.2.2.2.1 && ((match o.1[e.2.2.1]? with | some (.inl r) => decide ((k : Int) ≤ r.1) && decide (r.2.1 ≤ (k : Int)) | _ => false) && o.2.any fun d => d.1 == 12 && ((o.2.contains (1, e.2.2.2.1, 2, d.2.1, 0, 0) && o.2.contains (1, e.2.2.2.1, 4, d.2.2.1, 0, 0)) || (o.2.contains (1, e.2.2.2.1, 3, d.2.1, 0, 0) && o.2.contains (1, e.2.2.2.1, 5, d.2.2.1, 0, 0)))))))
theorem lw_rw_ok {k : Nat} {PP : Int32 → Int32 → Prop} {Ω : Nat → en_H → va_W → Prop} {sh sh' : en_H} {w : va_W} {A : Nat → Prop} {o : en_Pt} {ρ fs : List Value} (hk : k < 9) (h : lw_rw k o = true) (hD : va_D A w) (hw : w[0]? = some (sh.2 0, .inr (13, fs))) (h0 : ρ[0]? = some (.ref (sh.2 0))) (hPa : en_Pa PP Ω sh' w o ρ) (hc : lw_cr sh w) (h00 : fs[0]? = some (.ref (sh.2 1))) (hr : ∃ e, w[2 + k]? = some (sh.2 (2 + k), e)) : ∃ g, en_cr w fs k g ∧ ¬ (g 2 = g 4 ∧ g 3 = g 5) := by
  obtain ⟨cA, f, hw1, hf⟩ := hc
  obtain ⟨fa, hfa, h9⟩ := List.any_eq_true.mp h
  obtain ⟨t1, a1, b1, c1, l1, u1⟩ := fa
  simp only [Bool.and_eq_true, beq_iff_eq] at h9
  obtain ⟨rfl, rfl, rfl, h9⟩ := h9
  obtain ⟨fb, hfb, h9⟩ := List.any_eq_true.mp h9
  obtain ⟨t2, a2, b2, c2, l2, u2⟩ := fb
  simp only [Bool.and_eq_true, beq_iff_eq] at h9
  obtain ⟨rfl, rfl, h8, h9⟩ := h9
  obtain ⟨fd, hfd, h9⟩ := List.any_eq_true.mp h9
  obtain ⟨t3, a3, b3, c3, l3, u3⟩ := fd
  simp only [Bool.and_eq_true, Bool.or_eq_true, beq_iff_eq] at h9
  obtain ⟨rfl, h9⟩ := h9
  -- the course
  obtain ⟨q, r9, ci, fs9, v9, d1, d2, d3, d4⟩ := hPa.2.2 _ hfa
  have er : r9 = sh.2 0 := Value.ref.inj (Option.some.inj (d1.symm.trans h0))
  subst er
  have eq : q = 0 := hD.1 q 0 _ _ d2 hw rfl
  subst eq
  have e9 : fs9 = fs := (Prod.mk.inj (Sum.inr.inj (Prod.mk.inj (Option.some.inj (d2.symm.trans hw))).2)).2
  subst e9
  obtain ⟨q1, r1, n1, cA1, f1, i, y, e1, e2, e3, e4, e5⟩ := hPa.2.2 _ hfb
  have ev : v9 = .ref r1 := Option.some.inj (d4.symm.trans e1)
  subst ev
  have hi : i.toNatClampNeg = k := by
    split at h8
    · next r hr9 =>
      simp only [Bool.and_eq_true, decide_eq_true_eq] at h8
      obtain ⟨v, v1, x, rfl, v2, v3⟩ := hPa.2.1 b2 _ hr9
      have ex : i = x := Value.int.inj (Option.some.inj (e3.symm.trans v1))
      subst ex
      have : i.toInt = (k : Int) := by omega
      have := en_cN (x := i) (by omega)
      omega
    · cases h8
  rw [hi] at e4
  -- a row of it
  have row : ∀ j c x9, en_fs PP Ω sh' w ρ (1, c2, j, c, 0, 0) → ρ[c]? = some (.int x9) → ∃ (q n : Nat) (cB : ClassId) (g : Nat → Int32), w[q]? = some (y, .inl (cB, n, .inl g)) ∧ g j = x9 := fun j c x9 hfs hc => by
    obtain ⟨q2, r2, n2, cA2, g, g1, g2, g3, g4⟩ := hfs
    have er : r2 = y := Value.ref.inj (Option.some.inj (g1.symm.trans e5))
    subst er
    exact ⟨q2, n2, cA2, g, g2, Value.int.inj (Option.some.inj (g4.symm.trans hc))⟩
  obtain ⟨x, z, m1, m2, m3⟩ := hPa.2.2 _ hfd
  have er : r1 = sh.2 1 := Value.ref.inj (Option.some.inj (d3.symm.trans h00))
  subst er
  have eq1 : q1 = 1 := hD.1 q1 1 _ _ e2 hw1 rfl
  subst eq1
  have ee := Option.some.inj (e2.symm.trans hw1)
  simp only [Prod.mk.injEq, Sum.inl.injEq, Sum.inr.injEq, true_and] at ee
  obtain ⟨rfl, rfl, rfl⟩ := ee
  have ey : y = sh.2 (2 + k) := Option.some.inj (e4.symm.trans (hf k hk))
  subst ey
  obtain ⟨er9, hr9⟩ := hr
  have mk : ∀ (j1 j2 : Nat), ((j1 = 2 ∧ j2 = 4) ∨ (j1 = 3 ∧ j2 = 5)) → en_fs PP Ω sh' w ρ (1, c2, j1, a3, 0, 0) → en_fs PP Ω sh' w ρ (1, c2, j2, b3, 0, 0) → ∃ g, en_cr w fs9 k g ∧ ¬ (g 2 = g 4 ∧ g 3 = g 5) := fun j1 j2 hj g1 g2 => by
    obtain ⟨qa, na, cB, g, p1, p2⟩ := row _ _ _ g1 m1
    obtain ⟨qb, nb, cB', g', p3, p4⟩ := row _ _ _ g2 m2
    have ea : qa = 2 + k := hD.1 qa (2 + k) _ _ p1 hr9 rfl
    have eb : qb = 2 + k := hD.1 qb (2 + k) _ _ p3 hr9 rfl
    subst ea
    rw [eb] at p3
    have e8 := Option.some.inj (p1.symm.trans p3)
    simp only [Prod.mk.injEq, Sum.inl.injEq, true_and] at e8
    obtain ⟨-, -, rfl⟩ := e8
    refine ⟨g, ⟨_, _, _, _, _, _, _, h00, hw1, hf k hk, p1⟩, fun hh => m3 ?_⟩
    rcases hj with ⟨rfl, rfl⟩ | ⟨rfl, rfl⟩
    · rw [← p2, ← p4]
      exact hh.1
    · rw [← p2, ← p4]
      exact hh.2
  rcases h9 with ⟨h1, h2⟩ | ⟨h1, h2⟩
  · exact mk 2 4 (Or.inl ⟨rfl, rfl⟩) (hPa.2.2 _ (List.contains_iff_mem.mp h1)) (hPa.2.2 _ (List.contains_iff_mem.mp h2))
  · exact mk 3 5 (Or.inr ⟨rfl, rfl⟩) (hPa.2.2 _ (List.contains_iff_mem.mp h1)) (hPa.2.2 _ (List.contains_iff_mem.mp h2))
section
variable {tys : List (ClassId × FieldType)} {cO cD : ClassId} {A : Nat → Prop} {sh : en_H} {w : va_W} {qx qo qd : Nat} {E : Int32 → Int32 → Prop} {LP : en_H → va_W → Prop} {cx cy : Int32} {fs fs' : List Value} {st : Nat} {PP : Int32 → Int32 → Prop} {k : Nat}
theorem lw_to1 (I : lw_I E LP tys cO cD qx qo qd sh w st cx cy fs) : fs[0]? = some (.ref (sh.2 1)) := by
  obtain ⟨e, a, b⟩ := I.hs.1.2 0 20 I.h20
  obtain ⟨kd, c1, c2⟩ := b (by decide) (fun z => z)
  have e9 : e = .inr (13, fs) := (Prod.mk.inj (Option.some.inj (a.symm.trans I.hs.2.1))).2
  subst e9
  rw [lw_KT_eq st 20 (by decide) (by decide)] at c1
  obtain ⟨ts, h1, h2, h3⟩ : ∃ ts, en_KT[20]? = some (.inl (13, ts)) ∧ ts[0]? = some (.inr (.inl 21)) ∧ ts.length = 31 := ⟨_, rfl, rfl, rfl⟩
  have e := Option.some.inj (h1.symm.trans c1)
  subst e
  have hl : fs.length = 31 := c2.2.1.trans h3
  have hv := List.getElem?_eq_getElem (show 0 < fs.length by omega)
  obtain ⟨q, q1, q2⟩ := c2.2.2 0 _ _ h2 hv
  rw [hv, q2, I.hsp.2.2.2.1 q q1]
/-- the number of holes told lies in its bounds -/
theorem lw_b16 {KT : List en_D} {tk : List Nat} (hW : en_W PP KT tk sh tys (fun _ => False) w) (h20 : sh.1[0]? = some 20) (ht : 20 ∈ tk) (hk : KT[20]? = en_KT[20]?) (hw : w[0]? = some (sh.2 0, .inr (13, fs))) : lw_b fs (16, 0, 9) := by
  obtain ⟨e, a, b⟩ := hW.2 0 20 h20
  obtain ⟨kd, c1, c2⟩ := b ht (fun z => z)
  have e9 : e = .inr (13, fs) := (Prod.mk.inj (Option.some.inj (a.symm.trans hw))).2
  subst e9
  rw [hk] at c1
  obtain ⟨ts, h1, h2, h3⟩ : ∃ ts, en_KT[20]? = some (.inl (13, ts)) ∧ ts[16]? = some (.inl (0, 9, 0, 0)) ∧ ts.length = 31 := ⟨_, rfl, rfl, rfl⟩
  have e := Option.some.inj (h1.symm.trans c1)
  subst e
  have hl : fs.length = 31 := c2.2.1.trans h3
  have hv := List.getElem?_eq_getElem (show 16 < fs.length by omega)
  obtain ⟨x, x1, x2, x3⟩ := c2.2.2 16 _ _ h2 hv
  exact ⟨x, by rw [hv, x1], x2, x3⟩
/-- behind a call that knows one row of the course apart -/
theorem lw_row {κ : en_K} {ρ : List Value} {res : Option Value} {u : en_H × va_W} (hLP : lw_st LP) (hk : k < 9) (I : lw_I E LP tys cO cD qx qo qd sh w 0 cx cy fs) (hD : va_D A u.2) (h : en_Po tys (en_Pc cx cy) (en_Of cx cy) (lw_KTs k) κ (lw_rl k sh) w ρ res u) (h0 : ρ[0]? = some (.ref (sh.2 0))) (hn : 0 < κ.1)
    (c1 : (κ.2.2.2.1.all fun z => κ.2.2.2.2.1.contains z.1 && (z.1 == 22 || z.1 == 45 || z.1 == 43 || z == (20, 16) || z == (20, 30))) = true) (c2 : 22 ∈ κ.2.2.2.2.1 → 48 ∈ κ.2.2.2.2.1) (c3 : (∀ k ∈ κ.2.2.2.2.1, k < 49) ∧ 27 ∉ κ.2.2.2.2.1)
    (hO : ∀ o ∈ κ.2.2.1, ∀ ρ' fs', (∀ i, i < κ.1 → ρ'[i]? = ρ[i]?) → u.2[0]? = some (u.1.2 0, .inr (13, fs')) → (∀ j, j ≠ 16 → j ≠ 30 → fs'[j]? = fs[j]?) → en_Pa (en_Pc cx cy) (en_Of cx cy) u.1 u.2 o ρ' → ∀ y y0 : Int32, fs'[16]? = some (.int y) → fs[16]? = some (.int y0) → (∀ h, h < y.toNatClampNeg → h ≠ k → h < y0.toNatClampNeg) ∧ (k < y.toNatClampNeg → lw_rw k o = true)) : ∃ fs', lw_I E LP tys cO cD qx qo qd (lw_ul u.1) u.2 0 cx cy fs' := by
  obtain ⟨hpx0, o, ho, ρ', hPa, hi, -⟩ := h
  have hmd : ∀ z ∈ κ.2.2.2.1, z.1 ∈ κ.2.2.2.2.1 ∧ (z.1 = 22 ∨ z.1 = 45 ∨ z.1 = 43 ∨ z = (20, 16) ∨ z = (20, 30)) := fun z hz => by
    have h9 := List.all_eq_true.mp c1 z hz
    simp only [Bool.and_eq_true, Bool.or_eq_true, beq_iff_eq, List.contains_eq_mem, decide_eq_true_eq] at h9
    refine ⟨h9.1, ?_⟩
    rcases h9.2 with (((h | h) | h) | h) | h
    · exact Or.inl h
    · exact Or.inr (Or.inl h)
    · exact Or.inr (Or.inr (Or.inl h))
    · exact Or.inr (Or.inr (Or.inr (Or.inl h)))
    · exact Or.inr (Or.inr (Or.inr (Or.inr h)))
  have nin : ∀ z : Nat × Nat, z.1 ≠ 22 → z.1 ≠ 45 → z.1 ≠ 43 → z ≠ (20, 16) → z ≠ (20, 30) → z ∉ κ.2.2.2.1 := fun z a b c d e hz => by
    rcases (hmd z hz).2 with h | h | h | h | h
    · exact a h
    · exact b h
    · exact c h
    · exact d h
    · exact e h
  have hW0 : en_W (en_Pc cx cy) en_KT κ.2.2.2.2.1 sh tys (fun _ => False) w := lw_pre I.hs.1 c3.1 (Or.inr c3.2)
  obtain ⟨s1, s2, s3, s4, s5⟩ := I.hsp
  obtain ⟨hpx, hrow⟩ := lw_ofS hk s1 s2 s3 (fun z hz => by
    rcases (hmd z hz).2 with h | h | h | h | h
    · rw [h]; decide
    · rw [h]; decide
    · rw [h]; decide
    · rw [h]; decide
    · rw [h]; decide) c2 hpx0 hW0 (fun z hz => (hmd z hz).1)
  obtain ⟨fs', g1, g2⟩ := lw_fs I.h20 I.hs.2.1 hpx
  have hfs : ∀ j, j ≠ 16 → j ≠ 30 → fs'[j]? = fs[j]? := fun j a b => g2 j (nin (20, j) (by decide) (by decide) (by decide) (fun e => a (Prod.mk.inj e).2) (fun e => b (Prod.mk.inj e).2))
  have hWu := lw_wd I.hs.1 hpx (fun z hz => Or.inl (hmd z hz).1) (fun j => by
    by_cases e27 : j = 27
    · exact Or.inr ⟨fun z hz e => absurd ((hmd z hz).2) (by rw [e, e27]; rintro (h | h | h | h | h) <;> first | cases h | (rw [h] at e; subst e27; cases e)), by subst e27; decide⟩
    · by_cases e35 : j = 35
      · exact Or.inr ⟨fun z hz e => absurd ((hmd z hz).2) (by rw [e, e35]; rintro (h | h | h | h | h) <;> first | cases h | (rw [h] at e; subst e35; cases e)), by subst e35; decide⟩
      · exact Or.inl (lw_KT_eq 0 j e27 e35))
  have hcr := lw_crg hpx (nin (21, 0) (by decide) (by decide) (by decide) (by decide) (by decide)) I.hsp I.hcr
  have hsp := lw_spg hpx.1 I.hsp
  have hb16 := lw_b16 hWu (lw_ag hpx.1 I.h20) (by decide) rfl g1
  obtain ⟨y, y1, -, -⟩ := hb16
  obtain ⟨y0, z1, -, -⟩ := I.hs.2.2.1 (16, 0, 9) (by decide)
  have had := I.had
  have hO1 : en_O1 u.2 := by
    obtain ⟨m0, cM, fs9, hn9, o1, o2, o3, o4⟩ := I.hs.2.2.2.1
    have ee := Option.some.inj (o1.symm.trans I.hs.2.1)
    simp only [Prod.mk.injEq, Sum.inr.injEq] at ee
    obtain ⟨rfl, rfl, rfl⟩ := ee
    have ey : hn9 = y0 := Value.int.inj (Option.some.inj (o2.symm.trans z1))
    subst ey
    have g0' : ρ'[0]? = some (.ref (u.1.2 0)) := by
      rw [hi 0 hn, h0]
      exact congrArg (fun q => some (Value.ref q)) (hpx.1.at I.h20).2.symm
    obtain ⟨p1, p2⟩ := hO o ho ρ' fs' hi g1 hfs hPa y hn9 y1 z1
    have e00 : fs'[0]? = some (.ref ((lw_ul u.1).2 1)) := by
      rw [hfs 0 (by decide) (by decide), lw_to1 I]
      exact congrArg (fun q => some (Value.ref q)) (hpx.1.at s5).2.symm
    refine ⟨_, 13, fs', y, g1, y1, fun h h8 h9 => ?_, fun j hj => ?_⟩
    · by_cases hhk : h = k
      · subst hhk
        obtain ⟨e9, a9, -⟩ := hpx.2.1.2 (2 + h) 22 (lw_ag hpx.1 (s1 h h9))
        exact lw_rw_ok (sh := lw_ul u.1) h9 (p2 h8) hD g1 g0' hPa hcr e00 ⟨e9, a9⟩
      · obtain ⟨g, ⟨a, cA, n, f, b, cB, n2, r1, r2, r3, r4⟩, g9⟩ := o3 h (p1 h h8 hhk) h9
        have eb : b = sh.2 (2 + h) := by
          obtain ⟨e9, a9, -⟩ := hW0.2 (2 + h) 22 (s1 h h9)
          exact (Prod.mk.inj (Option.some.inj (r4.symm.trans a9))).1
        have ea : a = sh.2 1 := by
          obtain ⟨e9, a9, -⟩ := hW0.2 1 21 s5
          exact (Prod.mk.inj (Option.some.inj (r2.symm.trans a9))).1
        subst eb
        subst ea
        exact ⟨g, ⟨_, cA, n, f, _, cB, n2, (hfs 0 (by decide) (by decide)).trans r1, wr_keep hpx s5 (nin (21, 0) (by decide) (by decide) (by decide) (by decide) (by decide)) r2, r3, hrow h h9 hhk _ r4⟩, g9⟩
    · obtain ⟨b, a, cA, n, f, x, b1, b2, b3, b4⟩ := o4 j hj
      have e11 : sh.1[11]? = some 26 := I.h26
      have ea : a = sh.2 11 := by
        obtain ⟨e9, a9, -⟩ := hW0.2 11 26 e11
        exact (Prod.mk.inj (Option.some.inj (b2.symm.trans a9))).1
      have eb : b = sh.2 (12 + j) := by
        obtain ⟨e9, a9, -⟩ := hW0.2 (12 + j) 27 (I.h27b j hj)
        exact (Prod.mk.inj (Option.some.inj (b4.symm.trans a9))).1
      subst ea
      subst eb
      exact ⟨_, _, cA, n, f, x, (hfs 3 (by decide) (by decide)).trans b1, wr_keep hpx e11 (nin (26, 0) (by decide) (by decide) (by decide) (by decide) (by decide)) b2, b3, wr_keep hpx (I.h27b j hj) (nin (27, 0) (by decide) (by decide) (by decide) (by decide) (by decide)) b4⟩
  refine ⟨fs', lw_Iq (u := (lw_ul u.1, u.2)) hLP I hpx ?_ g1 (by decide) (lw_Io I hpx (nin (56, 0) (by decide) (by decide) (by decide) (by decide) (by decide))) (lw_Id I hpx (nin (57, 0) (by decide) (by decide) (by decide) (by decide) (by decide))) ⟨hWu, g1, fun b hb => ?_, hO1, fun h3 => absurd h3 (by decide)⟩⟩
  · refine List.all_eq_true.mpr fun z hz => ?_
    rcases (hmd z hz).2 with h | h | h | h | h <;> obtain ⟨za, zb⟩ := z <;> simp only at h
    · subst h; simp
    · subst h; simp
    · subst h; simp
    · rw [h]; rfl
    · rw [h]; rfl
  · have hb4 : b ∈ [(22, (0 : Int), (0 : Int)), (21, 0, 0), (20, 0, 0), (16, 0, 9)] := hb
    simp only [List.mem_cons, List.not_mem_nil, or_false] at hb4
    rcases hb4 with rfl | rfl | rfl | rfl
    · exact lw_bk (I.hs.2.2.1 (22, 0, 0) (by decide)) (hfs 22 (by decide) (by decide)) (by decide) (by decide)
    · exact lw_bk (I.hs.2.2.1 (21, 0, 0) (by decide)) (hfs 21 (by decide) (by decide)) (by decide) (by decide)
    · exact lw_bk (I.hs.2.2.1 (20, 0, 0) (by decide)) (hfs 20 (by decide) (by decide)) (by decide) (by decide)
    · exact lw_b16 hWu (lw_ag hpx.1 I.h20) (by decide) rfl g1
theorem lw_0 {κ : en_K} {ρ ρ' : List Value} {u : en_H × va_W} {tk : List Nat} {k : Nat} (hi : ∀ i, i < κ.1 → ρ'[i]? = ρ[i]?) (hn : 0 < κ.1) (g : en_Gr tk (lw_rl k sh) u.1) (h20 : sh.1[0]? = some 20) (h0 : ρ[0]? = some (.ref (sh.2 0))) : ρ'[0]? = some (.ref (u.1.2 0)) := by
  have hlen : (lw_rl k sh).1.length = sh.1.length := List.length_mapIdx
  rw [hi 0 hn, h0, g.2 0 (by rw [hlen]; exact (List.getElem?_eq_some_iff.mp h20).1)]
  rfl
/-- a hole told -/
theorem lw_rowH {κ : en_K} {ρ : List Value} {res : Option Value} {u : en_H × va_W} (hLP : lw_st LP) (hk : k < 9) (I : lw_I E LP tys cO cD qx qo qd sh w 0 cx cy fs) (hD : va_D A u.2) (h : en_Po tys (en_Pc cx cy) (en_Of cx cy) (lw_KTs k) κ (lw_rl k sh) w ρ res u) (h0 : ρ[0]? = some (.ref (sh.2 0))) (hn : 0 < κ.1)
    (c1 : (κ.2.2.2.1.all fun z => κ.2.2.2.2.1.contains z.1 && (z.1 == 22 || z.1 == 45 || z.1 == 43 || z == (20, 16) || z == (20, 30))) = true) (c2 : 22 ∈ κ.2.2.2.2.1 → 48 ∈ κ.2.2.2.2.1) (c3 : (∀ k ∈ κ.2.2.2.2.1, k < 49) ∧ 27 ∉ κ.2.2.2.2.1) {x16 : Int32} (f16 : fs[16]? = some (.int x16)) (e16 : x16.toInt = (k : Int)) (ha : (κ.2.2.1.all fun o => lw_hb o (16, 0, (k : Int)) || (lw_hb o (16, 0, (k : Int) + 1) && lw_rw k o)) = true) : ∃ fs', lw_I E LP tys cO cD qx qo qd (lw_ul u.1) u.2 0 cx cy fs' := by
  have hg := h.1.1
  refine lw_row hLP hk I hD h h0 hn c1 c2 c3 fun o ho ρ' fs' hi g1 hfs hPa y y0 hy hy0 => ?_
  have e0 : y0 = x16 := Value.int.inj (Option.some.inj (hy0.symm.trans f16))
  subst e0
  have h09 := lw_0 hi hn hg I.h20 h0
  have c0 := en_cN (x := y0) (by omega)
  have h9 := List.all_eq_true.mp ha o ho
  simp only [Bool.or_eq_true, Bool.and_eq_true] at h9
  rcases h9 with h9 | ⟨h9, h8⟩
  · obtain ⟨x, x1, x2, x3⟩ := lw_hb_ok h9 hD g1 h09 hPa
    have ex : x = y := Value.int.inj (Option.some.inj (x1.symm.trans hy))
    subst ex
    have x2 : (0 : Int) ≤ x.toInt := x2
    have x3 : x.toInt ≤ (k : Int) := x3
    have c1 := en_cN (x := x) (by omega)
    exact ⟨fun h a b => by omega, fun h => by omega⟩
  · obtain ⟨x, x1, x2, x3⟩ := lw_hb_ok h9 hD g1 h09 hPa
    have ex : x = y := Value.int.inj (Option.some.inj (x1.symm.trans hy))
    subst ex
    have x2 : (0 : Int) ≤ x.toInt := x2
    have x3 : x.toInt ≤ (k : Int) + 1 := x3
    have c1 := en_cN (x := x) (by omega)
    exact ⟨fun h a b => by omega, fun _ => h8⟩
/-- an area told -/
theorem lw_rowA {κ : en_K} {ρ : List Value} {res : Option Value} {u : en_H × va_W} (hLP : lw_st LP) (hk : k < 9) (I : lw_I E LP tys cO cD qx qo qd sh w 0 cx cy fs) (hD : va_D A u.2) (h : en_Po tys (en_Pc cx cy) (en_Of cx cy) (lw_KTs k) κ (lw_rl k sh) w ρ res u) (h0 : ρ[0]? = some (.ref (sh.2 0))) (hn : 0 < κ.1)
    (c1 : (κ.2.2.2.1.all fun z => κ.2.2.2.2.1.contains z.1 && (z.1 == 22 || z.1 == 45 || z.1 == 43 || z == (20, 16) || z == (20, 30))) = true) (c2 : 22 ∈ κ.2.2.2.2.1 → 48 ∈ κ.2.2.2.2.1) (c3 : (∀ k ∈ κ.2.2.2.2.1, k < 49) ∧ 27 ∉ κ.2.2.2.2.1) (h16 : (20, 16) ∉ κ.2.2.2.1) (ha : (κ.2.2.1.all (lw_rw k)) = true) : ∃ fs', lw_I E LP tys cO cD qx qo qd (lw_ul u.1) u.2 0 cx cy fs' := by
  have hF := h.1.2.2
  have h20 := I.h20
  have hw0 := I.hs.2.1
  refine lw_row hLP hk I hD h h0 hn c1 c2 c3 fun o ho ρ' fs' hi g1 hfs hPa y y0 hy hy0 => ?_
  have h9 : (lw_rl k sh).1[0]? = some 20 := by
    rw [lw_rlat, h20]
    show some (if 2 ≤ 0 ∧ 0 < 11 ∧ 0 ≠ 2 + k then 48 else 20) = some 20
    rw [if_neg (by omega)]
  obtain ⟨e, a1, a2⟩ := hF 0 20 _ h9 hw0
  rcases e with x | ⟨ci, fs9⟩
  · exact a2.elim
  have e9 : fs9 = fs' := (Prod.mk.inj (Sum.inr.inj (Prod.mk.inj (Option.some.inj (a1.symm.trans g1))).2)).2
  subst e9
  have ey : y = y0 := Value.int.inj (Option.some.inj (hy.symm.trans ((a2.2.2 16 h16).trans hy0)))
  subst ey
  exact ⟨fun h a _ => a, fun _ => List.all_eq_true.mp ha o ho⟩
/-- cup and tee of a told hole differ, by the first or by the second number -/
theorem lw_cup {k : Nat} {x16 : Int32} (I : lw_I E LP tys cO cD qx qo qd sh w st cx cy fs) (hk : k < 9) (f16 : fs[16]? = some (.int x16)) (h : (k : Int) < x16.toInt) : ∃ (cA cB : ClassId) (f : Nat → Option Nat) (g : Nat → Int32), fs[0]? = some (.ref (sh.2 1)) ∧ w[1]? = some (sh.2 1, .inl (cA, 9, .inr (.inr (.inr (.inr f))))) ∧ f k = some (sh.2 (2 + k)) ∧ w[2 + k]? = some (sh.2 (2 + k), .inl (cB, 7, .inl g)) ∧ (¬ g 2 = g 4 ∨ ¬ g 3 = g 5) ∧ (0 ≤ (g 2).toInt ∧ (g 2).toInt ≤ 29) ∧ (0 ≤ (g 3).toInt ∧ (g 3).toInt ≤ 19) ∧ (0 ≤ (g 4).toInt ∧ (g 4).toInt ≤ 29) ∧ (0 ≤ (g 5).toInt ∧ (g 5).toInt ≤ 19) := by
  obtain ⟨m0, cM, fs9, hn9, o1, o2, o3, o4⟩ := I.hs.2.2.2.1
  have ee := Option.some.inj (o1.symm.trans I.hs.2.1)
  simp only [Prod.mk.injEq, Sum.inr.injEq] at ee
  obtain ⟨rfl, rfl, rfl⟩ := ee
  have ey : hn9 = x16 := Value.int.inj (Option.some.inj (o2.symm.trans f16))
  subst ey
  have c0 := en_cN (x := hn9) (by omega)
  obtain ⟨g, ⟨a, cA, n, f, b, cB, n2, r1, r2, r3, r4⟩, g9⟩ := o3 k (by omega) hk
  obtain ⟨cA1, f1, hw1, hf1⟩ := I.hcr
  have ea : a = sh.2 1 := Value.ref.inj (Option.some.inj (r1.symm.trans (lw_to1 I)))
  subst ea
  have e1 := Option.some.inj (r2.symm.trans hw1)
  simp only [Prod.mk.injEq, Sum.inl.injEq, Sum.inr.injEq, true_and] at e1
  obtain ⟨rfl, rfl, rfl⟩ := e1
  have eb : b = sh.2 (2 + k) := Option.some.inj (r3.symm.trans (hf1 k hk))
  subst eb
  obtain ⟨e9, a9, b9⟩ := I.hs.1.2 (2 + k) 22 (I.hsp.1 k hk)
  obtain ⟨kd, c1, c2⟩ := b9 (by decide) (fun z => z)
  rw [lw_KT_eq st 22 (by decide) (by decide)] at c1
  have ek := Option.some.inj (c1.symm.trans (show en_KT[22]? = some (.inr (0, 7, .inr ([(-2147483648, 2147483647), (-2147483648, 2147483647), (0, 29), (0, 19), (0, 29), (0, 19), (-2147483648, 2147483647)], []))) from rfl))
  subst ek
  have ee9 : e9 = .inl (cB, n2, .inl g) := (Prod.mk.inj (Option.some.inj (a9.symm.trans r4))).2
  subst ee9
  obtain ⟨-, en, -, hb, -⟩ := c2
  have en : n2 = 7 := en
  subst en
  refine ⟨cA, cB, f, g, lw_to1 I, hw1, hf1 k hk, r4, ?_, hb 2 _ rfl, hb 3 _ rfl, hb 4 _ rfl, hb 5 _ rfl⟩
  by_cases h2 : g 2 = g 4
  · exact Or.inr fun h3 => g9 ⟨h2, h3⟩
  · exact Or.inl h2
theorem lw_I.om (I : lw_I E LP tys cO cD qx qo qd sh w st cx cy fs) : lw_om sh := ⟨I.h20, I.hsp.2.2.2.2, fun j hj => Or.inl (I.hsp.1 j hj), I.h26, I.h27b, I.h28, (I.hO 0 0).2.2⟩
end
theorem lw_k09 {x : Int32} (h1 : (0 : Int) ≤ x.toInt) (h2 : x.toInt ≤ 9) : x.toInt = 0 ∨ x.toInt = 1 ∨ x.toInt = 2 ∨ x.toInt = 3 ∨ x.toInt = 4 ∨ x.toInt = 5 ∨ x.toInt = 6 ∨ x.toInt = 7 ∨ x.toInt = 8 ∨ x.toInt = 9 := by omega
theorem lw_b21 {st : Nat} {fs : List Value} (h : 1 ≤ st) (hst : st ≤ 4) (hB : ∀ b ∈ lw_B st, lw_b fs b) : lw_b fs (21, 1, 1) := by
  obtain rfl | rfl | rfl | rfl | rfl := lw_stc hst
  · exact absurd h (by decide)
  · exact hB _ (by decide)
  · exact hB _ (by decide)
  · exact hB _ (by decide)
  · exact hB _ (by decide)
theorem lw_q1 {st : Nat} {md : List (Nat × Nat)} {tk : List Nat} (h : 1 ≤ st) (hst : st ≤ 4) (hq : (lw_qt 1 md tk && lw_qt 2 md tk && lw_qt 3 md tk && lw_qt 4 md tk) = true) : lw_qt st md tk = true := by
  simp only [Bool.and_eq_true] at hq
  obtain rfl | rfl | rfl | rfl | rfl := lw_stc hst
  · exact absurd h (by decide)
  · exact hq.1.1.1
  · exact hq.1.1.2
  · exact hq.1.2
  · exact hq.2
theorem lw_k08 {x : Int32} (h1 : (0 : Int) ≤ x.toInt) (h2 : x.toInt ≤ 8) : x.toInt = 0 ∨ x.toInt = 1 ∨ x.toInt = 2 ∨ x.toInt = 3 ∨ x.toInt = 4 ∨ x.toInt = 5 ∨ x.toInt = 6 ∨ x.toInt = 7 ∨ x.toInt = 8 := by omega
theorem lw_r20 {sh : en_H} {k : Nat} (h : sh.1[0]? = some 20) : (lw_rl k sh).1[0]? = some 20 := by
  rw [lw_rlat, h]
  show some (if 2 ≤ 0 ∧ 0 < 11 ∧ 0 ≠ 2 + k then 48 else 20) = some 20
  rw [if_neg (by omega)]
theorem lw_r21 {sh : en_H} {k : Nat} (h : sh.1[1]? = some 21) : (lw_rl k sh).1[1]? = some 21 := by
  rw [lw_rlat, h]
  show some (if 2 ≤ 1 ∧ 1 < 11 ∧ 1 ≠ 2 + k then 48 else 21) = some 21
  rw [if_neg (by omega)]
theorem lw_r22 {sh : en_H} {k : Nat} (h : sh.1[2 + k]? = some 22) : (lw_rl k sh).1[2 + k]? = some 22 := by
  rw [lw_rlat, h]
  show some (if 2 ≤ 2 + k ∧ 2 + k < 11 ∧ 2 + k ≠ 2 + k then 48 else 22) = some 22
  rw [if_neg (by omega)]
theorem cwl74 : Cond.initialized RL ∈ en_cw := cw_at 74 (by decide +kernel) (by decide +kernel)
theorem cwl82 : Cond.initialized RX7 ∈ en_cw := cw_at 82 (by decide +kernel) (by decide +kernel)
theorem cwl371 : Cond.methodLink RL 230 yX6_setSeed ∈ en_cw := cw_at 371 (by decide +kernel) (by decide +kernel)
theorem cwl372 : Cond.instanceMethod yX6_setSeed ∈ en_cw := cw_at 372 (by decide +kernel) (by decide +kernel)
theorem cwl373 : Cond.selects RX6 yX6_setSeed yX6_setSeed ∈ en_cw := cw_at 373 (by decide +kernel) (by decide +kernel)
theorem cwl374 : Cond.code yX6_setSeed cX6_setSeed 3 (some .int) ∈ en_cw := cw_at 374 (by decide +kernel) (by decide +kernel)
theorem cwl375 : Cond.methodLink RL 379 yX6_checksum ∈ en_cw := cw_at 375 (by decide +kernel) (by decide +kernel)
theorem cwl376 : Cond.instanceMethod yX6_checksum ∈ en_cw := cw_at 376 (by decide +kernel) (by decide +kernel)
theorem cwl377 : Cond.selects RX6 yX6_checksum yX6_checksum ∈ en_cw := cw_at 377 (by decide +kernel) (by decide +kernel)
theorem cwl378 : Cond.code yX6_checksum cX6_checksum 6 (some .long) ∈ en_cw := cw_at 378 (by decide +kernel) (by decide +kernel)
theorem cwl385 : Cond.methodLink RL 391 yX6_isSound ∈ en_cw := cw_at 385 (by decide +kernel) (by decide +kernel)
theorem cwl386 : Cond.instanceMethod yX6_isSound ∈ en_cw := cw_at 386 (by decide +kernel) (by decide +kernel)
theorem cwl387 : Cond.selects RX6 yX6_isSound yX6_isSound ∈ en_cw := cw_at 387 (by decide +kernel) (by decide +kernel)
theorem cwl388 : Cond.code yX6_isSound cX6_isSound 3 (some .boolean) ∈ en_cw := cw_at 388 (by decide +kernel) (by decide +kernel)
theorem cwl495 : Cond.methodLink RL 205 yL_hole ∈ en_cw := cw_at 495 (by decide +kernel) (by decide +kernel)
theorem cwl496 : Cond.static yL_hole ∈ en_cw := cw_at 496 (by decide +kernel) (by decide +kernel)
theorem cwl497 : Cond.codeWith yL_hole cL_hole 9 (some .int) [(0, 18, 21, 13), (0, 18, 25, 15), (0, 18, 29, 17)] ∈ en_cw := cw_at 497 (by decide +kernel) (by decide +kernel)
theorem cwl616 : Cond.methodLink RL 211 yL_area ∈ en_cw := cw_at 616 (by decide +kernel) (by decide +kernel)
theorem cwl617 : Cond.static yL_area ∈ en_cw := cw_at 617 (by decide +kernel) (by decide +kernel)
theorem cwl618 : Cond.codeWith yL_area cL_area 9 (some .int) [(0, 18, 21, 23), (0, 18, 25, 13), (0, 18, 29, 15)] ∈ en_cw := cw_at 618 (by decide +kernel) (by decide +kernel)
theorem cwl673 : Cond.methodLink RL 215 yL_kindAt ∈ en_cw := cw_at 673 (by decide +kernel) (by decide +kernel)
theorem cwl674 : Cond.static yL_kindAt ∈ en_cw := cw_at 674 (by decide +kernel) (by decide +kernel)
theorem cwl675 : Cond.codeWith yL_kindAt cL_kindAt 6 (some .int) [(0, 12, 15, 23)] ∈ en_cw := cw_at 675 (by decide +kernel) (by decide +kernel)
theorem cwl684 : Cond.methodLink RL 219 yL_player ∈ en_cw := cw_at 684 (by decide +kernel) (by decide +kernel)
theorem cwl685 : Cond.static yL_player ∈ en_cw := cw_at 685 (by decide +kernel) (by decide +kernel)
theorem cwl686 : Cond.codeWith yL_player cL_player 3 (some .int) [(0, 8, 11, 15)] ∈ en_cw := cw_at 686 (by decide +kernel) (by decide +kernel)
theorem cwl692 : Cond.methodLink RL 223 yL_setHandicap ∈ en_cw := cw_at 692 (by decide +kernel) (by decide +kernel)
theorem cwl693 : Cond.static yL_setHandicap ∈ en_cw := cw_at 693 (by decide +kernel) (by decide +kernel)
theorem cwl694 : Cond.codeWith yL_setHandicap cL_setHandicap 5 (some .int) [(0, 10, 13, 23), (0, 10, 17, 13), (0, 10, 21, 15)] ∈ en_cw := cw_at 694 (by decide +kernel) (by decide +kernel)
theorem cwl706 : Cond.methodLink RL 227 yL_gets ∈ en_cw := cw_at 706 (by decide +kernel) (by decide +kernel)
theorem cwl707 : Cond.static yL_gets ∈ en_cw := cw_at 707 (by decide +kernel) (by decide +kernel)
theorem cwl708 : Cond.codeWith yL_gets cL_gets 5 (some .int) [(0, 10, 13, 23)] ∈ en_cw := cw_at 708 (by decide +kernel) (by decide +kernel)
theorem cwl721 : Cond.methodLink RL 241 yL_begin ∈ en_cw := cw_at 721 (by decide +kernel) (by decide +kernel)
theorem cwl722 : Cond.static yL_begin ∈ en_cw := cw_at 722 (by decide +kernel) (by decide +kernel)
theorem cwl723 : Cond.codeWith yL_begin cL_begin 4 (some .int) [(0, 9, 12, 13), (0, 9, 15, 17)] ∈ en_cw := cw_at 723 (by decide +kernel) (by decide +kernel)
theorem cwl750 : Cond.methodLink RL 244 yL_holeOn ∈ en_cw := cw_at 750 (by decide +kernel) (by decide +kernel)
theorem cwl751 : Cond.static yL_holeOn ∈ en_cw := cw_at 751 (by decide +kernel) (by decide +kernel)
theorem cwl752 : Cond.codeWith yL_holeOn cL_holeOn 3 (some .int) [(0, 8, 11, 15)] ∈ en_cw := cw_at 752 (by decide +kernel) (by decide +kernel)
theorem cwl762 : Cond.methodLink RL 247 yL_away ∈ en_cw := cw_at 762 (by decide +kernel) (by decide +kernel)
theorem cwl763 : Cond.static yL_away ∈ en_cw := cw_at 763 (by decide +kernel) (by decide +kernel)
theorem cwl764 : Cond.codeWith yL_away cL_away 3 (some .int) [(0, 8, 11, 15), (0, 8, 14, 54)] ∈ en_cw := cw_at 764 (by decide +kernel) (by decide +kernel)
theorem cwl803 : Cond.methodLink RL 250 yL_stroke ∈ en_cw := cw_at 803 (by decide +kernel) (by decide +kernel)
theorem cwl804 : Cond.static yL_stroke ∈ en_cw := cw_at 804 (by decide +kernel) (by decide +kernel)
theorem cwl805 : Cond.codeWith yL_stroke cL_stroke 6 (some .int) [(0, 12, 15, 23), (0, 12, 19, 15), (0, 12, 23, 17)] ∈ en_cw := cw_at 805 (by decide +kernel) (by decide +kernel)
theorem cwl876 : Cond.methodLink RL 253 yL_odds ∈ en_cw := cw_at 876 (by decide +kernel) (by decide +kernel)
theorem cwl877 : Cond.static yL_odds ∈ en_cw := cw_at 877 (by decide +kernel) (by decide +kernel)
theorem cwl878 : Cond.codeWith yL_odds cL_odds 7 (some .int) [(0, 14, 17, 23), (0, 14, 21, 13), (0, 14, 25, 15), (0, 14, 29, 17)] ∈ en_cw := cw_at 878 (by decide +kernel) (by decide +kernel)
theorem cwl884 : Cond.methodLink RL 257 yL_provisional ∈ en_cw := cw_at 884 (by decide +kernel) (by decide +kernel)
theorem cwl885 : Cond.static yL_provisional ∈ en_cw := cw_at 885 (by decide +kernel) (by decide +kernel)
theorem cwl886 : Cond.codeWith yL_provisional cL_provisional 6 (some .int) [(0, 12, 15, 23), (0, 12, 19, 15), (0, 12, 23, 17)] ∈ en_cw := cw_at 886 (by decide +kernel) (by decide +kernel)
theorem cwl892 : Cond.methodLink RL 260 yL_search ∈ en_cw := cw_at 892 (by decide +kernel) (by decide +kernel)
theorem cwl893 : Cond.static yL_search ∈ en_cw := cw_at 893 (by decide +kernel) (by decide +kernel)
theorem cwl894 : Cond.codeWith yL_search cL_search 4 (some .int) [(0, 9, 12, 23), (0, 9, 15, 15), (0, 9, 18, 17)] ∈ en_cw := cw_at 894 (by decide +kernel) (by decide +kernel)
theorem cwl908 : Cond.methodLink RL 264 yL_again ∈ en_cw := cw_at 908 (by decide +kernel) (by decide +kernel)
theorem cwl909 : Cond.static yL_again ∈ en_cw := cw_at 909 (by decide +kernel) (by decide +kernel)
theorem cwl910 : Cond.codeWith yL_again cL_again 4 (some .int) [(0, 9, 12, 23), (0, 9, 15, 15), (0, 9, 18, 17)] ∈ en_cw := cw_at 910 (by decide +kernel) (by decide +kernel)
theorem cwl928 : Cond.methodLink RL 267 yL_line ∈ en_cw := cw_at 928 (by decide +kernel) (by decide +kernel)
theorem cwl929 : Cond.static yL_line ∈ en_cw := cw_at 929 (by decide +kernel) (by decide +kernel)
theorem cwl930 : Cond.codeWith yL_line cL_line 5 (some .int) [(0, 10, 13, 23), (0, 10, 17, 13), (0, 10, 21, 15), (0, 10, 25, 17)] ∈ en_cw := cw_at 930 (by decide +kernel) (by decide +kernel)
theorem cwl953 : Cond.methodLink RL 270 yL_aside ∈ en_cw := cw_at 953 (by decide +kernel) (by decide +kernel)
theorem cwl954 : Cond.static yL_aside ∈ en_cw := cw_at 954 (by decide +kernel) (by decide +kernel)
theorem cwl955 : Cond.codeWith yL_aside cL_aside 6 (some .int) [(0, 12, 15, 23), (0, 12, 19, 15), (0, 12, 23, 17)] ∈ en_cw := cw_at 955 (by decide +kernel) (by decide +kernel)
theorem cwl970 : Cond.methodLink RL 273 yL_point ∈ en_cw := cw_at 970 (by decide +kernel) (by decide +kernel)
theorem cwl971 : Cond.static yL_point ∈ en_cw := cw_at 971 (by decide +kernel) (by decide +kernel)
theorem cwl972 : Cond.codeWith yL_point cL_point 5 (some .int) [(0, 10, 13, 23), (0, 10, 17, 15), (0, 10, 21, 17), (0, 10, 25, 54)] ∈ en_cw := cw_at 972 (by decide +kernel) (by decide +kernel)
theorem cwl979 : Cond.methodLink RL 277 yL_free ∈ en_cw := cw_at 979 (by decide +kernel) (by decide +kernel)
theorem cwl980 : Cond.static yL_free ∈ en_cw := cw_at 980 (by decide +kernel) (by decide +kernel)
theorem cwl981 : Cond.codeWith yL_free cL_free 6 (some .int) [(0, 12, 15, 23), (0, 12, 19, 15), (0, 12, 23, 17), (0, 12, 27, 54)] ∈ en_cw := cw_at 981 (by decide +kernel) (by decide +kernel)
theorem cwl989 : Cond.methodLink RL 280 yL_wrongPlace ∈ en_cw := cw_at 989 (by decide +kernel) (by decide +kernel)
theorem cwl990 : Cond.static yL_wrongPlace ∈ en_cw := cw_at 990 (by decide +kernel) (by decide +kernel)
theorem cwl991 : Cond.codeWith yL_wrongPlace cL_wrongPlace 6 (some .int) [(0, 19, 22, 23), (0, 19, 26, 15), (0, 19, 30, 17)] ∈ en_cw := cw_at 991 (by decide +kernel) (by decide +kernel)
theorem cwl1002 : Cond.methodLink RL 283 yL_correct ∈ en_cw := cw_at 1002 (by decide +kernel) (by decide +kernel)
theorem cwl1003 : Cond.static yL_correct ∈ en_cw := cw_at 1003 (by decide +kernel) (by decide +kernel)
theorem cwl1004 : Cond.codeWith yL_correct cL_correct 4 (some .int) [(0, 9, 12, 23), (0, 9, 15, 15), (0, 9, 18, 17)] ∈ en_cw := cw_at 1004 (by decide +kernel) (by decide +kernel)
theorem cwl1014 : Cond.methodLink RL 286 yL_move ∈ en_cw := cw_at 1014 (by decide +kernel) (by decide +kernel)
theorem cwl1015 : Cond.static yL_move ∈ en_cw := cw_at 1015 (by decide +kernel) (by decide +kernel)
theorem cwl1016 : Cond.codeWith yL_move cL_move 7 (some .int) [(0, 14, 17, 23), (0, 14, 21, 13), (0, 14, 25, 15), (0, 14, 29, 17)] ∈ en_cw := cw_at 1016 (by decide +kernel) (by decide +kernel)
theorem cwl1023 : Cond.methodLink RL 290 yL_wrongBall ∈ en_cw := cw_at 1023 (by decide +kernel) (by decide +kernel)
theorem cwl1024 : Cond.static yL_wrongBall ∈ en_cw := cw_at 1024 (by decide +kernel) (by decide +kernel)
theorem cwl1025 : Cond.codeWith yL_wrongBall cL_wrongBall 5 (some .int) [(0, 10, 13, 23), (0, 10, 17, 15), (0, 10, 21, 17)] ∈ en_cw := cw_at 1025 (by decide +kernel) (by decide +kernel)
theorem cwl1031 : Cond.methodLink RL 293 yL_pickUp ∈ en_cw := cw_at 1031 (by decide +kernel) (by decide +kernel)
theorem cwl1032 : Cond.static yL_pickUp ∈ en_cw := cw_at 1032 (by decide +kernel) (by decide +kernel)
theorem cwl1033 : Cond.codeWith yL_pickUp cL_pickUp 4 (some .int) [(0, 9, 12, 23), (0, 9, 15, 15), (0, 9, 18, 17)] ∈ en_cw := cw_at 1033 (by decide +kernel) (by decide +kernel)
theorem cwl1043 : Cond.methodLink RL 296 yL_suspend ∈ en_cw := cw_at 1043 (by decide +kernel) (by decide +kernel)
theorem cwl1044 : Cond.static yL_suspend ∈ en_cw := cw_at 1044 (by decide +kernel) (by decide +kernel)
theorem cwl1045 : Cond.codeWith yL_suspend cL_suspend 4 (some .int) [(0, 16, 19, 15)] ∈ en_cw := cw_at 1045 (by decide +kernel) (by decide +kernel)
theorem cwl1050 : Cond.methodLink RL 300 yL_cancel ∈ en_cw := cw_at 1050 (by decide +kernel) (by decide +kernel)
theorem cwl1051 : Cond.static yL_cancel ∈ en_cw := cw_at 1051 (by decide +kernel) (by decide +kernel)
theorem cwl1052 : Cond.codeWith yL_cancel cL_cancel 4 (some .int) [(0, 16, 19, 23), (0, 16, 22, 15), (0, 16, 25, 17)] ∈ en_cw := cw_at 1052 (by decide +kernel) (by decide +kernel)
theorem cwl1058 : Cond.methodLink RL 303 yL_concede ∈ en_cw := cw_at 1058 (by decide +kernel) (by decide +kernel)
theorem cwl1059 : Cond.static yL_concede ∈ en_cw := cw_at 1059 (by decide +kernel) (by decide +kernel)
theorem cwl1060 : Cond.codeWith yL_concede cL_concede 5 (some .int) [(0, 10, 13, 23), (0, 10, 17, 13), (0, 10, 21, 15), (0, 10, 25, 17)] ∈ en_cw := cw_at 1060 (by decide +kernel) (by decide +kernel)
theorem cwl1082 : Cond.methodLink RL 307 yL_nextHole ∈ en_cw := cw_at 1082 (by decide +kernel) (by decide +kernel)
theorem cwl1083 : Cond.static yL_nextHole ∈ en_cw := cw_at 1083 (by decide +kernel) (by decide +kernel)
theorem cwl1084 : Cond.codeWith yL_nextHole cL_nextHole 3 (some .int) [(0, 8, 11, 15), (0, 8, 14, 17)] ∈ en_cw := cw_at 1084 (by decide +kernel) (by decide +kernel)
theorem cwl1116 : Cond.methodLink RL 310 yL_state ∈ en_cw := cw_at 1116 (by decide +kernel) (by decide +kernel)
theorem cwl1117 : Cond.static yL_state ∈ en_cw := cw_at 1117 (by decide +kernel) (by decide +kernel)
theorem cwl1118 : Cond.codeWith yL_state cL_state 4 (some .int) [(0, 9, 12, 23), (0, 9, 15, 15)] ∈ en_cw := cw_at 1118 (by decide +kernel) (by decide +kernel)
theorem cwl1123 : Cond.methodLink RL 313 yL_lie ∈ en_cw := cw_at 1123 (by decide +kernel) (by decide +kernel)
theorem cwl1124 : Cond.static yL_lie ∈ en_cw := cw_at 1124 (by decide +kernel) (by decide +kernel)
theorem cwl1125 : Cond.codeWith yL_lie cL_lie 5 (some .int) [(0, 10, 13, 23), (0, 10, 17, 15), (0, 10, 21, 54)] ∈ en_cw := cw_at 1125 (by decide +kernel) (by decide +kernel)
theorem cwl1131 : Cond.methodLink RL 316 yL_strokes ∈ en_cw := cw_at 1131 (by decide +kernel) (by decide +kernel)
theorem cwl1132 : Cond.static yL_strokes ∈ en_cw := cw_at 1132 (by decide +kernel) (by decide +kernel)
theorem cwl1133 : Cond.codeWith yL_strokes cL_strokes 4 (some .int) [(0, 9, 12, 23), (0, 9, 15, 15)] ∈ en_cw := cw_at 1133 (by decide +kernel) (by decide +kernel)
theorem cwl1138 : Cond.methodLink RL 319 yL_penalties ∈ en_cw := cw_at 1138 (by decide +kernel) (by decide +kernel)
theorem cwl1139 : Cond.static yL_penalties ∈ en_cw := cw_at 1139 (by decide +kernel) (by decide +kernel)
theorem cwl1140 : Cond.codeWith yL_penalties cL_penalties 4 (some .int) [(0, 9, 12, 23), (0, 9, 15, 15)] ∈ en_cw := cw_at 1140 (by decide +kernel) (by decide +kernel)
theorem cwl1145 : Cond.methodLink RL 322 yL_isOut ∈ en_cw := cw_at 1145 (by decide +kernel) (by decide +kernel)
theorem cwl1146 : Cond.static yL_isOut ∈ en_cw := cw_at 1146 (by decide +kernel) (by decide +kernel)
theorem cwl1147 : Cond.codeWith yL_isOut cL_isOut 4 (some .int) [(0, 16, 19, 23)] ∈ en_cw := cw_at 1147 (by decide +kernel) (by decide +kernel)
theorem cwl1152 : Cond.methodLink RL 325 yL_score ∈ en_cw := cw_at 1152 (by decide +kernel) (by decide +kernel)
theorem cwl1153 : Cond.static yL_score ∈ en_cw := cw_at 1153 (by decide +kernel) (by decide +kernel)
theorem cwl1154 : Cond.codeWith yL_score cL_score 5 (some .int) [(0, 10, 13, 23), (0, 10, 17, 54)] ∈ en_cw := cw_at 1154 (by decide +kernel) (by decide +kernel)
theorem cwl1160 : Cond.methodLink RL 328 yL_up ∈ en_cw := cw_at 1160 (by decide +kernel) (by decide +kernel)
theorem cwl1161 : Cond.static yL_up ∈ en_cw := cw_at 1161 (by decide +kernel) (by decide +kernel)
theorem cwl1162 : Cond.codeWith yL_up cL_up 3 (some .int) [(0, 8, 11, 17)] ∈ en_cw := cw_at 1162 (by decide +kernel) (by decide +kernel)
theorem cwl1172 : Cond.methodLink RL 331 yL_isMatchOver ∈ en_cw := cw_at 1172 (by decide +kernel) (by decide +kernel)
theorem cwl1173 : Cond.static yL_isMatchOver ∈ en_cw := cw_at 1173 (by decide +kernel) (by decide +kernel)
theorem cwl1174 : Cond.codeWith yL_isMatchOver cL_isMatchOver 3 (some .int) [(0, 15, 18, 17)] ∈ en_cw := cw_at 1174 (by decide +kernel) (by decide +kernel)
theorem cwl1182 : Cond.methodLink RL 334 yL_write ∈ en_cw := cw_at 1182 (by decide +kernel) (by decide +kernel)
theorem cwl1183 : Cond.static yL_write ∈ en_cw := cw_at 1183 (by decide +kernel) (by decide +kernel)
theorem cwl1184 : Cond.codeWith yL_write cL_write 6 (some .int) [(0, 12, 15, 23), (0, 12, 19, 13), (0, 12, 23, 17)] ∈ en_cw := cw_at 1184 (by decide +kernel) (by decide +kernel)
theorem cwl1191 : Cond.methodLink RL 337 yL_sign ∈ en_cw := cw_at 1191 (by decide +kernel) (by decide +kernel)
theorem cwl1192 : Cond.static yL_sign ∈ en_cw := cw_at 1192 (by decide +kernel) (by decide +kernel)
theorem cwl1193 : Cond.codeWith yL_sign cL_sign 4 (some .int) [(0, 16, 19, 23), (0, 16, 22, 17), (0, 16, 25, 54)] ∈ en_cw := cw_at 1193 (by decide +kernel) (by decide +kernel)
theorem cwl1210 : Cond.methodLink RL 340 yL_total ∈ en_cw := cw_at 1210 (by decide +kernel) (by decide +kernel)
theorem cwl1211 : Cond.static yL_total ∈ en_cw := cw_at 1211 (by decide +kernel) (by decide +kernel)
theorem cwl1212 : Cond.codeWith yL_total cL_total 4 (some .int) [(0, 9, 12, 23), (0, 9, 15, 54)] ∈ en_cw := cw_at 1212 (by decide +kernel) (by decide +kernel)
theorem cwl1226 : Cond.methodLink RL 343 yL_stableford ∈ en_cw := cw_at 1226 (by decide +kernel) (by decide +kernel)
theorem cwl1227 : Cond.static yL_stableford ∈ en_cw := cw_at 1227 (by decide +kernel) (by decide +kernel)
theorem cwl1228 : Cond.codeWith yL_stableford cL_stableford 4 (some .int) [(0, 9, 12, 23)] ∈ en_cw := cw_at 1228 (by decide +kernel) (by decide +kernel)
theorem cwl1236 : Cond.methodLink RL 346 yL_parPlay ∈ en_cw := cw_at 1236 (by decide +kernel) (by decide +kernel)
theorem cwl1237 : Cond.static yL_parPlay ∈ en_cw := cw_at 1237 (by decide +kernel) (by decide +kernel)
theorem cwl1238 : Cond.codeWith yL_parPlay cL_parPlay 4 (some .int) [(0, 9, 12, 23), (0, 9, 15, 54)] ∈ en_cw := cw_at 1238 (by decide +kernel) (by decide +kernel)
theorem cwl1248 : Cond.methodLink RL 349 yL_together ∈ en_cw := cw_at 1248 (by decide +kernel) (by decide +kernel)
theorem cwl1249 : Cond.static yL_together ∈ en_cw := cw_at 1249 (by decide +kernel) (by decide +kernel)
theorem cwl1250 : Cond.codeWith yL_together cL_together 5 (some .int) [(0, 10, 13, 23), (0, 10, 17, 13), (0, 10, 21, 54)] ∈ en_cw := cw_at 1250 (by decide +kernel) (by decide +kernel)
theorem cwl1258 : Cond.methodLink RL 352 yL_skins ∈ en_cw := cw_at 1258 (by decide +kernel) (by decide +kernel)
theorem cwl1259 : Cond.static yL_skins ∈ en_cw := cw_at 1259 (by decide +kernel) (by decide +kernel)
theorem cwl1260 : Cond.codeWith yL_skins cL_skins 4 (some .int) [(0, 9, 12, 23), (0, 9, 15, 54)] ∈ en_cw := cw_at 1260 (by decide +kernel) (by decide +kernel)
theorem cwl1265 : Cond.methodLink RL 355 yL_rank ∈ en_cw := cw_at 1265 (by decide +kernel) (by decide +kernel)
theorem cwl1266 : Cond.static yL_rank ∈ en_cw := cw_at 1266 (by decide +kernel) (by decide +kernel)
theorem cwl1267 : Cond.codeWith yL_rank cL_rank 4 (some .int) [(0, 9, 12, 23), (0, 9, 15, 54)] ∈ en_cw := cw_at 1267 (by decide +kernel) (by decide +kernel)
theorem cwl1289 : Cond.methodLink RL 358 yL_isAhead ∈ en_cw := cw_at 1289 (by decide +kernel) (by decide +kernel)
theorem cwl1290 : Cond.static yL_isAhead ∈ en_cw := cw_at 1290 (by decide +kernel) (by decide +kernel)
theorem cwl1291 : Cond.codeWith yL_isAhead cL_isAhead 5 (some .int) [(0, 17, 20, 23), (0, 17, 24, 54)] ∈ en_cw := cw_at 1291 (by decide +kernel) (by decide +kernel)
theorem cwl1296 : Cond.methodLink RL 361 yL_cut ∈ en_cw := cw_at 1296 (by decide +kernel) (by decide +kernel)
theorem cwl1297 : Cond.static yL_cut ∈ en_cw := cw_at 1297 (by decide +kernel) (by decide +kernel)
theorem cwl1298 : Cond.codeWith yL_cut cL_cut 4 (some .int) [(0, 9, 12, 13)] ∈ en_cw := cw_at 1298 (by decide +kernel) (by decide +kernel)
theorem cwl1304 : Cond.methodLink RL 364 yL_conditions ∈ en_cw := cw_at 1304 (by decide +kernel) (by decide +kernel)
theorem cwl1305 : Cond.static yL_conditions ∈ en_cw := cw_at 1305 (by decide +kernel) (by decide +kernel)
theorem cwl1306 : Cond.codeWith yL_conditions cL_conditions 4 (some .int) [(0, 9, 12, 13)] ∈ en_cw := cw_at 1306 (by decide +kernel) (by decide +kernel)
theorem cwl1312 : Cond.methodLink RL 367 yL_post ∈ en_cw := cw_at 1312 (by decide +kernel) (by decide +kernel)
theorem cwl1313 : Cond.static yL_post ∈ en_cw := cw_at 1313 (by decide +kernel) (by decide +kernel)
theorem cwl1314 : Cond.codeWith yL_post cL_post 6 (some .int) [(0, 12, 15, 23), (0, 12, 19, 13), (0, 12, 23, 17)] ∈ en_cw := cw_at 1314 (by decide +kernel) (by decide +kernel)
theorem cwl1337 : Cond.methodLink RL 370 yL_difference ∈ en_cw := cw_at 1337 (by decide +kernel) (by decide +kernel)
theorem cwl1338 : Cond.static yL_difference ∈ en_cw := cw_at 1338 (by decide +kernel) (by decide +kernel)
theorem cwl1339 : Cond.codeWith yL_difference cL_difference 5 (some .int) [(0, 10, 13, 23)] ∈ en_cw := cw_at 1339 (by decide +kernel) (by decide +kernel)
theorem cwl1346 : Cond.methodLink RL 373 yL_index ∈ en_cw := cw_at 1346 (by decide +kernel) (by decide +kernel)
theorem cwl1347 : Cond.static yL_index ∈ en_cw := cw_at 1347 (by decide +kernel) (by decide +kernel)
theorem cwl1348 : Cond.codeWith yL_index cL_index 4 (some .int) [(0, 9, 12, 23), (0, 9, 15, 54)] ∈ en_cw := cw_at 1348 (by decide +kernel) (by decide +kernel)
theorem cwl1358 : Cond.methodLink RL 376 yL_lowIndex ∈ en_cw := cw_at 1358 (by decide +kernel) (by decide +kernel)
theorem cwl1359 : Cond.static yL_lowIndex ∈ en_cw := cw_at 1359 (by decide +kernel) (by decide +kernel)
theorem cwl1360 : Cond.codeWith yL_lowIndex cL_lowIndex 4 (some .int) [(0, 9, 12, 23), (0, 9, 15, 54)] ∈ en_cw := cw_at 1360 (by decide +kernel) (by decide +kernel)
theorem cwl1365 : Cond.methodLink RL 384 yL_penaltyShare ∈ en_cw := cw_at 1365 (by decide +kernel) (by decide +kernel)
theorem cwl1366 : Cond.static yL_penaltyShare ∈ en_cw := cw_at 1366 (by decide +kernel) (by decide +kernel)
theorem cwl1367 : Cond.codeWith yL_penaltyShare cL_penaltyShare 4 (some .int) [(0, 9, 12, 23), (0, 9, 15, 195)] ∈ en_cw := cw_at 1367 (by decide +kernel) (by decide +kernel)
theorem cwl1388 : Cond.methodLink RL 388 yL_meanScore ∈ en_cw := cw_at 1388 (by decide +kernel) (by decide +kernel)
theorem cwl1389 : Cond.static yL_meanScore ∈ en_cw := cw_at 1389 (by decide +kernel) (by decide +kernel)
theorem cwl1390 : Cond.codeWith yL_meanScore cL_meanScore 4 (some .int) [(0, 8, 11, 23), (0, 8, 14, 195)] ∈ en_cw := cw_at 1390 (by decide +kernel) (by decide +kernel)
theorem cwl1592 : Cond.methodLink RL 238 yX7_thrown ∈ en_cw := cw_at 1592 (by decide +kernel) (by decide +kernel)
theorem cwl1593 : Cond.instanceMethod yX7_thrown ∈ en_cw := cw_at 1593 (by decide +kernel) (by decide +kernel)
theorem cwl1594 : Cond.selects RX7 yX7_thrown yX7_thrown ∈ en_cw := cw_at 1594 (by decide +kernel) (by decide +kernel)
theorem cwl1595 : Cond.code yX7_thrown cX7_thrown 1 (some .int) ∈ en_cw := cw_at 1595 (by decide +kernel) (by decide +kernel)
theorem cwl1596 : Cond.methodLink RL 210 yX7_hole ∈ en_cw := cw_at 1596 (by decide +kernel) (by decide +kernel)
theorem cwl1597 : Cond.instanceMethod yX7_hole ∈ en_cw := cw_at 1597 (by decide +kernel) (by decide +kernel)
theorem cwl1598 : Cond.selects RX7 yX7_hole yX7_hole ∈ en_cw := cw_at 1598 (by decide +kernel) (by decide +kernel)
theorem cwl1599 : Cond.code yX7_hole cX7_hole 11 (some .int) ∈ en_cw := cw_at 1599 (by decide +kernel) (by decide +kernel)
theorem cwl1611 : Cond.methodLink RL 214 yX7_area ∈ en_cw := cw_at 1611 (by decide +kernel) (by decide +kernel)
theorem cwl1612 : Cond.instanceMethod yX7_area ∈ en_cw := cw_at 1612 (by decide +kernel) (by decide +kernel)
theorem cwl1613 : Cond.selects RX7 yX7_area yX7_area ∈ en_cw := cw_at 1613 (by decide +kernel) (by decide +kernel)
theorem cwl1614 : Cond.code yX7_area cX7_area 10 (some .int) ∈ en_cw := cw_at 1614 (by decide +kernel) (by decide +kernel)
theorem cwl1622 : Cond.methodLink RL 218 yX7_kindAt ∈ en_cw := cw_at 1622 (by decide +kernel) (by decide +kernel)
theorem cwl1623 : Cond.instanceMethod yX7_kindAt ∈ en_cw := cw_at 1623 (by decide +kernel) (by decide +kernel)
theorem cwl1624 : Cond.selects RX7 yX7_kindAt yX7_kindAt ∈ en_cw := cw_at 1624 (by decide +kernel) (by decide +kernel)
theorem cwl1625 : Cond.code yX7_kindAt cX7_kindAt 4 (some .char) ∈ en_cw := cw_at 1625 (by decide +kernel) (by decide +kernel)
theorem cwl1626 : Cond.methodLink RL 222 yX7_player ∈ en_cw := cw_at 1626 (by decide +kernel) (by decide +kernel)
theorem cwl1627 : Cond.instanceMethod yX7_player ∈ en_cw := cw_at 1627 (by decide +kernel) (by decide +kernel)
theorem cwl1628 : Cond.selects RX7 yX7_player yX7_player ∈ en_cw := cw_at 1628 (by decide +kernel) (by decide +kernel)
theorem cwl1629 : Cond.code yX7_player cX7_player 1 (some .int) ∈ en_cw := cw_at 1629 (by decide +kernel) (by decide +kernel)
theorem cwl1630 : Cond.methodLink RL 226 yX7_setHandicap ∈ en_cw := cw_at 1630 (by decide +kernel) (by decide +kernel)
theorem cwl1631 : Cond.instanceMethod yX7_setHandicap ∈ en_cw := cw_at 1631 (by decide +kernel) (by decide +kernel)
theorem cwl1632 : Cond.selects RX7 yX7_setHandicap yX7_setHandicap ∈ en_cw := cw_at 1632 (by decide +kernel) (by decide +kernel)
theorem cwl1633 : Cond.code yX7_setHandicap cX7_setHandicap 4 (some .int) ∈ en_cw := cw_at 1633 (by decide +kernel) (by decide +kernel)
theorem cwl1638 : Cond.methodLink RL 229 yX7_gets ∈ en_cw := cw_at 1638 (by decide +kernel) (by decide +kernel)
theorem cwl1639 : Cond.instanceMethod yX7_gets ∈ en_cw := cw_at 1639 (by decide +kernel) (by decide +kernel)
theorem cwl1640 : Cond.selects RX7 yX7_gets yX7_gets ∈ en_cw := cw_at 1640 (by decide +kernel) (by decide +kernel)
theorem cwl1641 : Cond.code yX7_gets cX7_gets 3 (some .int) ∈ en_cw := cw_at 1641 (by decide +kernel) (by decide +kernel)
theorem cwl1646 : Cond.methodLink RL 233 yX7_setSeed ∈ en_cw := cw_at 1646 (by decide +kernel) (by decide +kernel)
theorem cwl1647 : Cond.instanceMethod yX7_setSeed ∈ en_cw := cw_at 1647 (by decide +kernel) (by decide +kernel)
theorem cwl1648 : Cond.selects RX7 yX7_setSeed yX7_setSeed ∈ en_cw := cw_at 1648 (by decide +kernel) (by decide +kernel)
theorem cwl1649 : Cond.code yX7_setSeed cX7_setSeed 3 (some .int) ∈ en_cw := cw_at 1649 (by decide +kernel) (by decide +kernel)
theorem cwl1654 : Cond.methodLink RL 243 yX7_begin ∈ en_cw := cw_at 1654 (by decide +kernel) (by decide +kernel)
theorem cwl1655 : Cond.instanceMethod yX7_begin ∈ en_cw := cw_at 1655 (by decide +kernel) (by decide +kernel)
theorem cwl1656 : Cond.selects RX7 yX7_begin yX7_begin ∈ en_cw := cw_at 1656 (by decide +kernel) (by decide +kernel)
theorem cwl1657 : Cond.code yX7_begin cX7_begin 4 (some .int) ∈ en_cw := cw_at 1657 (by decide +kernel) (by decide +kernel)
theorem cwl1662 : Cond.methodLink RL 246 yX7_holeOn ∈ en_cw := cw_at 1662 (by decide +kernel) (by decide +kernel)
theorem cwl1663 : Cond.instanceMethod yX7_holeOn ∈ en_cw := cw_at 1663 (by decide +kernel) (by decide +kernel)
theorem cwl1664 : Cond.selects RX7 yX7_holeOn yX7_holeOn ∈ en_cw := cw_at 1664 (by decide +kernel) (by decide +kernel)
theorem cwl1665 : Cond.code yX7_holeOn cX7_holeOn 1 (some .int) ∈ en_cw := cw_at 1665 (by decide +kernel) (by decide +kernel)
theorem cwl1666 : Cond.methodLink RL 249 yX7_away ∈ en_cw := cw_at 1666 (by decide +kernel) (by decide +kernel)
theorem cwl1667 : Cond.instanceMethod yX7_away ∈ en_cw := cw_at 1667 (by decide +kernel) (by decide +kernel)
theorem cwl1668 : Cond.selects RX7 yX7_away yX7_away ∈ en_cw := cw_at 1668 (by decide +kernel) (by decide +kernel)
theorem cwl1669 : Cond.code yX7_away cX7_away 1 (some .int) ∈ en_cw := cw_at 1669 (by decide +kernel) (by decide +kernel)
theorem cwl1697 : Cond.methodLink RL 252 yX7_stroke ∈ en_cw := cw_at 1697 (by decide +kernel) (by decide +kernel)
theorem cwl1698 : Cond.instanceMethod yX7_stroke ∈ en_cw := cw_at 1698 (by decide +kernel) (by decide +kernel)
theorem cwl1699 : Cond.selects RX7 yX7_stroke yX7_stroke ∈ en_cw := cw_at 1699 (by decide +kernel) (by decide +kernel)
theorem cwl1700 : Cond.code yX7_stroke cX7_stroke 6 (some .char) ∈ en_cw := cw_at 1700 (by decide +kernel) (by decide +kernel)
theorem cwl1734 : Cond.methodLink RL 256 yX7_odds ∈ en_cw := cw_at 1734 (by decide +kernel) (by decide +kernel)
theorem cwl1735 : Cond.instanceMethod yX7_odds ∈ en_cw := cw_at 1735 (by decide +kernel) (by decide +kernel)
theorem cwl1736 : Cond.selects RX7 yX7_odds yX7_odds ∈ en_cw := cw_at 1736 (by decide +kernel) (by decide +kernel)
theorem cwl1737 : Cond.code yX7_odds cX7_odds 12 (some .int) ∈ en_cw := cw_at 1737 (by decide +kernel) (by decide +kernel)
theorem cwl1741 : Cond.methodLink RL 259 yX7_provisional ∈ en_cw := cw_at 1741 (by decide +kernel) (by decide +kernel)
theorem cwl1742 : Cond.instanceMethod yX7_provisional ∈ en_cw := cw_at 1742 (by decide +kernel) (by decide +kernel)
theorem cwl1743 : Cond.selects RX7 yX7_provisional yX7_provisional ∈ en_cw := cw_at 1743 (by decide +kernel) (by decide +kernel)
theorem cwl1744 : Cond.code yX7_provisional cX7_provisional 10 (some .char) ∈ en_cw := cw_at 1744 (by decide +kernel) (by decide +kernel)
theorem cwl1745 : Cond.methodLink RL 263 yX7_search ∈ en_cw := cw_at 1745 (by decide +kernel) (by decide +kernel)
theorem cwl1746 : Cond.instanceMethod yX7_search ∈ en_cw := cw_at 1746 (by decide +kernel) (by decide +kernel)
theorem cwl1747 : Cond.selects RX7 yX7_search yX7_search ∈ en_cw := cw_at 1747 (by decide +kernel) (by decide +kernel)
theorem cwl1748 : Cond.code yX7_search cX7_search 5 (some .char) ∈ en_cw := cw_at 1748 (by decide +kernel) (by decide +kernel)
theorem cwl1749 : Cond.methodLink RL 266 yX7_again ∈ en_cw := cw_at 1749 (by decide +kernel) (by decide +kernel)
theorem cwl1750 : Cond.instanceMethod yX7_again ∈ en_cw := cw_at 1750 (by decide +kernel) (by decide +kernel)
theorem cwl1751 : Cond.selects RX7 yX7_again yX7_again ∈ en_cw := cw_at 1751 (by decide +kernel) (by decide +kernel)
theorem cwl1752 : Cond.code yX7_again cX7_again 4 (some .int) ∈ en_cw := cw_at 1752 (by decide +kernel) (by decide +kernel)
theorem cwl1756 : Cond.methodLink RL 269 yX7_line ∈ en_cw := cw_at 1756 (by decide +kernel) (by decide +kernel)
theorem cwl1757 : Cond.instanceMethod yX7_line ∈ en_cw := cw_at 1757 (by decide +kernel) (by decide +kernel)
theorem cwl1758 : Cond.selects RX7 yX7_line yX7_line ∈ en_cw := cw_at 1758 (by decide +kernel) (by decide +kernel)
theorem cwl1759 : Cond.code yX7_line cX7_line 9 (some .int) ∈ en_cw := cw_at 1759 (by decide +kernel) (by decide +kernel)
theorem cwl1776 : Cond.methodLink RL 272 yX7_aside ∈ en_cw := cw_at 1776 (by decide +kernel) (by decide +kernel)
theorem cwl1777 : Cond.instanceMethod yX7_aside ∈ en_cw := cw_at 1777 (by decide +kernel) (by decide +kernel)
theorem cwl1778 : Cond.selects RX7 yX7_aside yX7_aside ∈ en_cw := cw_at 1778 (by decide +kernel) (by decide +kernel)
theorem cwl1779 : Cond.code yX7_aside cX7_aside 6 (some .int) ∈ en_cw := cw_at 1779 (by decide +kernel) (by decide +kernel)
theorem cwl1780 : Cond.methodLink RL 276 yX7_point ∈ en_cw := cw_at 1780 (by decide +kernel) (by decide +kernel)
theorem cwl1781 : Cond.instanceMethod yX7_point ∈ en_cw := cw_at 1781 (by decide +kernel) (by decide +kernel)
theorem cwl1782 : Cond.selects RX7 yX7_point yX7_point ∈ en_cw := cw_at 1782 (by decide +kernel) (by decide +kernel)
theorem cwl1783 : Cond.code yX7_point cX7_point 4 (some .int) ∈ en_cw := cw_at 1783 (by decide +kernel) (by decide +kernel)
theorem cwl1792 : Cond.methodLink RL 279 yX7_free ∈ en_cw := cw_at 1792 (by decide +kernel) (by decide +kernel)
theorem cwl1793 : Cond.instanceMethod yX7_free ∈ en_cw := cw_at 1793 (by decide +kernel) (by decide +kernel)
theorem cwl1794 : Cond.selects RX7 yX7_free yX7_free ∈ en_cw := cw_at 1794 (by decide +kernel) (by decide +kernel)
theorem cwl1795 : Cond.code yX7_free cX7_free 10 (some .char) ∈ en_cw := cw_at 1795 (by decide +kernel) (by decide +kernel)
theorem cwl1796 : Cond.methodLink RL 282 yX7_wrongPlace ∈ en_cw := cw_at 1796 (by decide +kernel) (by decide +kernel)
theorem cwl1797 : Cond.instanceMethod yX7_wrongPlace ∈ en_cw := cw_at 1797 (by decide +kernel) (by decide +kernel)
theorem cwl1798 : Cond.selects RX7 yX7_wrongPlace yX7_wrongPlace ∈ en_cw := cw_at 1798 (by decide +kernel) (by decide +kernel)
theorem cwl1799 : Cond.code yX7_wrongPlace cX7_wrongPlace 6 (some .boolean) ∈ en_cw := cw_at 1799 (by decide +kernel) (by decide +kernel)
theorem cwl1800 : Cond.methodLink RL 285 yX7_correct ∈ en_cw := cw_at 1800 (by decide +kernel) (by decide +kernel)
theorem cwl1801 : Cond.instanceMethod yX7_correct ∈ en_cw := cw_at 1801 (by decide +kernel) (by decide +kernel)
theorem cwl1802 : Cond.selects RX7 yX7_correct yX7_correct ∈ en_cw := cw_at 1802 (by decide +kernel) (by decide +kernel)
theorem cwl1803 : Cond.code yX7_correct cX7_correct 3 (some .int) ∈ en_cw := cw_at 1803 (by decide +kernel) (by decide +kernel)
theorem cwl1804 : Cond.methodLink RL 289 yX7_move ∈ en_cw := cw_at 1804 (by decide +kernel) (by decide +kernel)
theorem cwl1805 : Cond.instanceMethod yX7_move ∈ en_cw := cw_at 1805 (by decide +kernel) (by decide +kernel)
theorem cwl1806 : Cond.selects RX7 yX7_move yX7_move ∈ en_cw := cw_at 1806 (by decide +kernel) (by decide +kernel)
theorem cwl1807 : Cond.code yX7_move cX7_move 9 (some .int) ∈ en_cw := cw_at 1807 (by decide +kernel) (by decide +kernel)
theorem cwl1808 : Cond.methodLink RL 292 yX7_wrongBall ∈ en_cw := cw_at 1808 (by decide +kernel) (by decide +kernel)
theorem cwl1809 : Cond.instanceMethod yX7_wrongBall ∈ en_cw := cw_at 1809 (by decide +kernel) (by decide +kernel)
theorem cwl1810 : Cond.selects RX7 yX7_wrongBall yX7_wrongBall ∈ en_cw := cw_at 1810 (by decide +kernel) (by decide +kernel)
theorem cwl1811 : Cond.code yX7_wrongBall cX7_wrongBall 4 (some .int) ∈ en_cw := cw_at 1811 (by decide +kernel) (by decide +kernel)
theorem cwl1812 : Cond.methodLink RL 295 yX7_pickUp ∈ en_cw := cw_at 1812 (by decide +kernel) (by decide +kernel)
theorem cwl1813 : Cond.instanceMethod yX7_pickUp ∈ en_cw := cw_at 1813 (by decide +kernel) (by decide +kernel)
theorem cwl1814 : Cond.selects RX7 yX7_pickUp yX7_pickUp ∈ en_cw := cw_at 1814 (by decide +kernel) (by decide +kernel)
theorem cwl1815 : Cond.code yX7_pickUp cX7_pickUp 2 (some .int) ∈ en_cw := cw_at 1815 (by decide +kernel) (by decide +kernel)
theorem cwl1816 : Cond.methodLink RL 299 yX7_suspend ∈ en_cw := cw_at 1816 (by decide +kernel) (by decide +kernel)
theorem cwl1817 : Cond.instanceMethod yX7_suspend ∈ en_cw := cw_at 1817 (by decide +kernel) (by decide +kernel)
theorem cwl1818 : Cond.selects RX7 yX7_suspend yX7_suspend ∈ en_cw := cw_at 1818 (by decide +kernel) (by decide +kernel)
theorem cwl1819 : Cond.code yX7_suspend cX7_suspend 3 (some .boolean) ∈ en_cw := cw_at 1819 (by decide +kernel) (by decide +kernel)
theorem cwl1820 : Cond.methodLink RL 302 yX7_cancel ∈ en_cw := cw_at 1820 (by decide +kernel) (by decide +kernel)
theorem cwl1821 : Cond.instanceMethod yX7_cancel ∈ en_cw := cw_at 1821 (by decide +kernel) (by decide +kernel)
theorem cwl1822 : Cond.selects RX7 yX7_cancel yX7_cancel ∈ en_cw := cw_at 1822 (by decide +kernel) (by decide +kernel)
theorem cwl1823 : Cond.code yX7_cancel cX7_cancel 2 (some .boolean) ∈ en_cw := cw_at 1823 (by decide +kernel) (by decide +kernel)
theorem cwl1824 : Cond.methodLink RL 306 yX7_concede ∈ en_cw := cw_at 1824 (by decide +kernel) (by decide +kernel)
theorem cwl1825 : Cond.instanceMethod yX7_concede ∈ en_cw := cw_at 1825 (by decide +kernel) (by decide +kernel)
theorem cwl1826 : Cond.selects RX7 yX7_concede yX7_concede ∈ en_cw := cw_at 1826 (by decide +kernel) (by decide +kernel)
theorem cwl1827 : Cond.code yX7_concede cX7_concede 6 (some .int) ∈ en_cw := cw_at 1827 (by decide +kernel) (by decide +kernel)
theorem cwl1832 : Cond.methodLink RL 309 yX7_nextHole ∈ en_cw := cw_at 1832 (by decide +kernel) (by decide +kernel)
theorem cwl1833 : Cond.instanceMethod yX7_nextHole ∈ en_cw := cw_at 1833 (by decide +kernel) (by decide +kernel)
theorem cwl1834 : Cond.selects RX7 yX7_nextHole yX7_nextHole ∈ en_cw := cw_at 1834 (by decide +kernel) (by decide +kernel)
theorem cwl1835 : Cond.code yX7_nextHole cX7_nextHole 4 (some .int) ∈ en_cw := cw_at 1835 (by decide +kernel) (by decide +kernel)
theorem cwl1844 : Cond.methodLink RL 312 yX7_state ∈ en_cw := cw_at 1844 (by decide +kernel) (by decide +kernel)
theorem cwl1845 : Cond.instanceMethod yX7_state ∈ en_cw := cw_at 1845 (by decide +kernel) (by decide +kernel)
theorem cwl1846 : Cond.selects RX7 yX7_state yX7_state ∈ en_cw := cw_at 1846 (by decide +kernel) (by decide +kernel)
theorem cwl1847 : Cond.code yX7_state cX7_state 2 (some .char) ∈ en_cw := cw_at 1847 (by decide +kernel) (by decide +kernel)
theorem cwl1852 : Cond.methodLink RL 315 yX7_lie ∈ en_cw := cw_at 1852 (by decide +kernel) (by decide +kernel)
theorem cwl1853 : Cond.instanceMethod yX7_lie ∈ en_cw := cw_at 1853 (by decide +kernel) (by decide +kernel)
theorem cwl1854 : Cond.selects RX7 yX7_lie yX7_lie ∈ en_cw := cw_at 1854 (by decide +kernel) (by decide +kernel)
theorem cwl1855 : Cond.code yX7_lie cX7_lie 3 (some .int) ∈ en_cw := cw_at 1855 (by decide +kernel) (by decide +kernel)
theorem cwl1856 : Cond.methodLink RL 318 yX7_strokes ∈ en_cw := cw_at 1856 (by decide +kernel) (by decide +kernel)
theorem cwl1857 : Cond.instanceMethod yX7_strokes ∈ en_cw := cw_at 1857 (by decide +kernel) (by decide +kernel)
theorem cwl1858 : Cond.selects RX7 yX7_strokes yX7_strokes ∈ en_cw := cw_at 1858 (by decide +kernel) (by decide +kernel)
theorem cwl1859 : Cond.code yX7_strokes cX7_strokes 2 (some .int) ∈ en_cw := cw_at 1859 (by decide +kernel) (by decide +kernel)
theorem cwl1860 : Cond.methodLink RL 321 yX7_penalties ∈ en_cw := cw_at 1860 (by decide +kernel) (by decide +kernel)
theorem cwl1861 : Cond.instanceMethod yX7_penalties ∈ en_cw := cw_at 1861 (by decide +kernel) (by decide +kernel)
theorem cwl1862 : Cond.selects RX7 yX7_penalties yX7_penalties ∈ en_cw := cw_at 1862 (by decide +kernel) (by decide +kernel)
theorem cwl1863 : Cond.code yX7_penalties cX7_penalties 2 (some .int) ∈ en_cw := cw_at 1863 (by decide +kernel) (by decide +kernel)
theorem cwl1864 : Cond.methodLink RL 324 yX7_isOut ∈ en_cw := cw_at 1864 (by decide +kernel) (by decide +kernel)
theorem cwl1865 : Cond.instanceMethod yX7_isOut ∈ en_cw := cw_at 1865 (by decide +kernel) (by decide +kernel)
theorem cwl1866 : Cond.selects RX7 yX7_isOut yX7_isOut ∈ en_cw := cw_at 1866 (by decide +kernel) (by decide +kernel)
theorem cwl1867 : Cond.code yX7_isOut cX7_isOut 2 (some .boolean) ∈ en_cw := cw_at 1867 (by decide +kernel) (by decide +kernel)
theorem cwl1868 : Cond.methodLink RL 327 yX7_score ∈ en_cw := cw_at 1868 (by decide +kernel) (by decide +kernel)
theorem cwl1869 : Cond.instanceMethod yX7_score ∈ en_cw := cw_at 1869 (by decide +kernel) (by decide +kernel)
theorem cwl1870 : Cond.selects RX7 yX7_score yX7_score ∈ en_cw := cw_at 1870 (by decide +kernel) (by decide +kernel)
theorem cwl1871 : Cond.code yX7_score cX7_score 3 (some .int) ∈ en_cw := cw_at 1871 (by decide +kernel) (by decide +kernel)
theorem cwl1872 : Cond.methodLink RL 330 yX7_up ∈ en_cw := cw_at 1872 (by decide +kernel) (by decide +kernel)
theorem cwl1873 : Cond.instanceMethod yX7_up ∈ en_cw := cw_at 1873 (by decide +kernel) (by decide +kernel)
theorem cwl1874 : Cond.selects RX7 yX7_up yX7_up ∈ en_cw := cw_at 1874 (by decide +kernel) (by decide +kernel)
theorem cwl1875 : Cond.code yX7_up cX7_up 1 (some .int) ∈ en_cw := cw_at 1875 (by decide +kernel) (by decide +kernel)
theorem cwl1876 : Cond.methodLink RL 333 yX7_isMatchOver ∈ en_cw := cw_at 1876 (by decide +kernel) (by decide +kernel)
theorem cwl1877 : Cond.instanceMethod yX7_isMatchOver ∈ en_cw := cw_at 1877 (by decide +kernel) (by decide +kernel)
theorem cwl1878 : Cond.selects RX7 yX7_isMatchOver yX7_isMatchOver ∈ en_cw := cw_at 1878 (by decide +kernel) (by decide +kernel)
theorem cwl1879 : Cond.code yX7_isMatchOver cX7_isMatchOver 2 (some .boolean) ∈ en_cw := cw_at 1879 (by decide +kernel) (by decide +kernel)
theorem cwl1880 : Cond.methodLink RL 336 yX7_write ∈ en_cw := cw_at 1880 (by decide +kernel) (by decide +kernel)
theorem cwl1881 : Cond.instanceMethod yX7_write ∈ en_cw := cw_at 1881 (by decide +kernel) (by decide +kernel)
theorem cwl1882 : Cond.selects RX7 yX7_write yX7_write ∈ en_cw := cw_at 1882 (by decide +kernel) (by decide +kernel)
theorem cwl1883 : Cond.code yX7_write cX7_write 5 (some .int) ∈ en_cw := cw_at 1883 (by decide +kernel) (by decide +kernel)
theorem cwl1888 : Cond.methodLink RL 339 yX7_sign ∈ en_cw := cw_at 1888 (by decide +kernel) (by decide +kernel)
theorem cwl1889 : Cond.instanceMethod yX7_sign ∈ en_cw := cw_at 1889 (by decide +kernel) (by decide +kernel)
theorem cwl1890 : Cond.selects RX7 yX7_sign yX7_sign ∈ en_cw := cw_at 1890 (by decide +kernel) (by decide +kernel)
theorem cwl1891 : Cond.code yX7_sign cX7_sign 5 (some .boolean) ∈ en_cw := cw_at 1891 (by decide +kernel) (by decide +kernel)
theorem cwl1892 : Cond.methodLink RL 342 yX7_total ∈ en_cw := cw_at 1892 (by decide +kernel) (by decide +kernel)
theorem cwl1893 : Cond.instanceMethod yX7_total ∈ en_cw := cw_at 1893 (by decide +kernel) (by decide +kernel)
theorem cwl1894 : Cond.selects RX7 yX7_total yX7_total ∈ en_cw := cw_at 1894 (by decide +kernel) (by decide +kernel)
theorem cwl1895 : Cond.code yX7_total cX7_total 2 (some .int) ∈ en_cw := cw_at 1895 (by decide +kernel) (by decide +kernel)
theorem cwl1904 : Cond.methodLink RL 345 yX7_stableford ∈ en_cw := cw_at 1904 (by decide +kernel) (by decide +kernel)
theorem cwl1905 : Cond.instanceMethod yX7_stableford ∈ en_cw := cw_at 1905 (by decide +kernel) (by decide +kernel)
theorem cwl1906 : Cond.selects RX7 yX7_stableford yX7_stableford ∈ en_cw := cw_at 1906 (by decide +kernel) (by decide +kernel)
theorem cwl1907 : Cond.code yX7_stableford cX7_stableford 4 (some .int) ∈ en_cw := cw_at 1907 (by decide +kernel) (by decide +kernel)
theorem cwl1913 : Cond.methodLink RL 348 yX7_parPlay ∈ en_cw := cw_at 1913 (by decide +kernel) (by decide +kernel)
theorem cwl1914 : Cond.instanceMethod yX7_parPlay ∈ en_cw := cw_at 1914 (by decide +kernel) (by decide +kernel)
theorem cwl1915 : Cond.selects RX7 yX7_parPlay yX7_parPlay ∈ en_cw := cw_at 1915 (by decide +kernel) (by decide +kernel)
theorem cwl1916 : Cond.code yX7_parPlay cX7_parPlay 4 (some .int) ∈ en_cw := cw_at 1916 (by decide +kernel) (by decide +kernel)
theorem cwl1918 : Cond.methodLink RL 351 yX7_together ∈ en_cw := cw_at 1918 (by decide +kernel) (by decide +kernel)
theorem cwl1919 : Cond.instanceMethod yX7_together ∈ en_cw := cw_at 1919 (by decide +kernel) (by decide +kernel)
theorem cwl1920 : Cond.selects RX7 yX7_together yX7_together ∈ en_cw := cw_at 1920 (by decide +kernel) (by decide +kernel)
theorem cwl1921 : Cond.code yX7_together cX7_together 8 (some .int) ∈ en_cw := cw_at 1921 (by decide +kernel) (by decide +kernel)
theorem cwl1923 : Cond.methodLink RL 354 yX7_skins ∈ en_cw := cw_at 1923 (by decide +kernel) (by decide +kernel)
theorem cwl1924 : Cond.instanceMethod yX7_skins ∈ en_cw := cw_at 1924 (by decide +kernel) (by decide +kernel)
theorem cwl1925 : Cond.selects RX7 yX7_skins yX7_skins ∈ en_cw := cw_at 1925 (by decide +kernel) (by decide +kernel)
theorem cwl1926 : Cond.code yX7_skins cX7_skins 9 (some .int) ∈ en_cw := cw_at 1926 (by decide +kernel) (by decide +kernel)
theorem cwl1927 : Cond.methodLink RL 357 yX7_rank ∈ en_cw := cw_at 1927 (by decide +kernel) (by decide +kernel)
theorem cwl1928 : Cond.instanceMethod yX7_rank ∈ en_cw := cw_at 1928 (by decide +kernel) (by decide +kernel)
theorem cwl1929 : Cond.selects RX7 yX7_rank yX7_rank ∈ en_cw := cw_at 1929 (by decide +kernel) (by decide +kernel)
theorem cwl1930 : Cond.code yX7_rank cX7_rank 2 (some .int) ∈ en_cw := cw_at 1930 (by decide +kernel) (by decide +kernel)
theorem cwl1939 : Cond.methodLink RL 360 yX7_isAhead ∈ en_cw := cw_at 1939 (by decide +kernel) (by decide +kernel)
theorem cwl1940 : Cond.instanceMethod yX7_isAhead ∈ en_cw := cw_at 1940 (by decide +kernel) (by decide +kernel)
theorem cwl1941 : Cond.selects RX7 yX7_isAhead yX7_isAhead ∈ en_cw := cw_at 1941 (by decide +kernel) (by decide +kernel)
theorem cwl1942 : Cond.code yX7_isAhead cX7_isAhead 9 (some .boolean) ∈ en_cw := cw_at 1942 (by decide +kernel) (by decide +kernel)
theorem cwl1943 : Cond.methodLink RL 363 yX7_cut ∈ en_cw := cw_at 1943 (by decide +kernel) (by decide +kernel)
theorem cwl1944 : Cond.instanceMethod yX7_cut ∈ en_cw := cw_at 1944 (by decide +kernel) (by decide +kernel)
theorem cwl1945 : Cond.selects RX7 yX7_cut yX7_cut ∈ en_cw := cw_at 1945 (by decide +kernel) (by decide +kernel)
theorem cwl1946 : Cond.code yX7_cut cX7_cut 4 (some .int) ∈ en_cw := cw_at 1946 (by decide +kernel) (by decide +kernel)
theorem cwl1947 : Cond.methodLink RL 366 yX7_conditions ∈ en_cw := cw_at 1947 (by decide +kernel) (by decide +kernel)
theorem cwl1948 : Cond.instanceMethod yX7_conditions ∈ en_cw := cw_at 1948 (by decide +kernel) (by decide +kernel)
theorem cwl1949 : Cond.selects RX7 yX7_conditions yX7_conditions ∈ en_cw := cw_at 1949 (by decide +kernel) (by decide +kernel)
theorem cwl1950 : Cond.code yX7_conditions cX7_conditions 3 (some .int) ∈ en_cw := cw_at 1950 (by decide +kernel) (by decide +kernel)
theorem cwl2331 : Cond.methodLink RL 383 yX7_checksum ∈ en_cw := cw_at 2331 (by decide +kernel) (by decide +kernel)
theorem cwl2332 : Cond.instanceMethod yX7_checksum ∈ en_cw := cw_at 2332 (by decide +kernel) (by decide +kernel)
theorem cwl2333 : Cond.selects RX7 yX7_checksum yX7_checksum ∈ en_cw := cw_at 2333 (by decide +kernel) (by decide +kernel)
theorem cwl2334 : Cond.code yX7_checksum cX7_checksum 5 (some .long) ∈ en_cw := cw_at 2334 (by decide +kernel) (by decide +kernel)
theorem cwl2337 : Cond.methodLink RL 387 yX7_penaltyShare ∈ en_cw := cw_at 2337 (by decide +kernel) (by decide +kernel)
theorem cwl2338 : Cond.instanceMethod yX7_penaltyShare ∈ en_cw := cw_at 2338 (by decide +kernel) (by decide +kernel)
theorem cwl2339 : Cond.selects RX7 yX7_penaltyShare yX7_penaltyShare ∈ en_cw := cw_at 2339 (by decide +kernel) (by decide +kernel)
theorem cwl2340 : Cond.code yX7_penaltyShare cX7_penaltyShare 5 (some .float) ∈ en_cw := cw_at 2340 (by decide +kernel) (by decide +kernel)
theorem cwl2341 : Cond.methodLink RL 390 yX7_meanScore ∈ en_cw := cw_at 2341 (by decide +kernel) (by decide +kernel)
theorem cwl2342 : Cond.instanceMethod yX7_meanScore ∈ en_cw := cw_at 2342 (by decide +kernel) (by decide +kernel)
theorem cwl2343 : Cond.selects RX7 yX7_meanScore yX7_meanScore ∈ en_cw := cw_at 2343 (by decide +kernel) (by decide +kernel)
theorem cwl2344 : Cond.code yX7_meanScore cX7_meanScore 5 (some .double) ∈ en_cw := cw_at 2344 (by decide +kernel) (by decide +kernel)
theorem cwl2345 : Cond.methodLink RL 394 yX7_isSound ∈ en_cw := cw_at 2345 (by decide +kernel) (by decide +kernel)
theorem cwl2346 : Cond.instanceMethod yX7_isSound ∈ en_cw := cw_at 2346 (by decide +kernel) (by decide +kernel)
theorem cwl2347 : Cond.selects RX7 yX7_isSound yX7_isSound ∈ en_cw := cw_at 2347 (by decide +kernel) (by decide +kernel)
theorem cwl2348 : Cond.code yX7_isSound cX7_isSound 1 (some .boolean) ∈ en_cw := cw_at 2348 (by decide +kernel) (by decide +kernel)
theorem dlw_977 : decode cL_law 977 = .ok (.invokevirtual 266, 3) := by decide +kernel
theorem gm_X7_again : en_CV en_cw RL 266 yX7_again RX7 cX7_again 4 (some .int) 1 := en_gv cwl1749 cwl1750 cwl1751 cwl82 cwl1752 ⟨rfl, by decide, by decide, by decide +kernel⟩
theorem dlw_458 : decode cL_law 458 = .ok (.invokevirtual 214, 3) := by decide +kernel
theorem gm_X7_area : en_CV en_cw RL 214 yX7_area RX7 cX7_area 10 (some .int) 6 := en_gv cwl1611 cwl1612 cwl1613 cwl82 cwl1614 ⟨rfl, by decide, by decide, by decide +kernel⟩
theorem dlw_1069 : decode cL_law 1069 = .ok (.invokevirtual 272, 3) := by decide +kernel
theorem gm_X7_aside : en_CV en_cw RL 272 yX7_aside RX7 cX7_aside 6 (some .int) 3 := en_gv cwl1776 cwl1777 cwl1778 cwl82 cwl1779 ⟨rfl, by decide, by decide, by decide +kernel⟩
theorem dlw_751 : decode cL_law 751 = .ok (.invokevirtual 249, 3) := by decide +kernel
theorem gm_X7_away : en_CV en_cw RL 249 yX7_away RX7 cX7_away 1 (some .int) 0 := en_gv cwl1666 cwl1667 cwl1668 cwl82 cwl1669 ⟨rfl, by decide, by decide, by decide +kernel⟩
theorem dlw_719 : decode cL_law 719 = .ok (.invokevirtual 243, 3) := by decide +kernel
theorem gm_X7_begin : en_CV en_cw RL 243 yX7_begin RX7 cX7_begin 4 (some .int) 1 := en_gv cwl1654 cwl1655 cwl1656 cwl82 cwl1657 ⟨rfl, by decide, by decide, by decide +kernel⟩
theorem dlw_1463 : decode cL_law 1463 = .ok (.invokevirtual 302, 3) := by decide +kernel
theorem gm_X7_cancel : en_CV en_cw RL 302 yX7_cancel RX7 cX7_cancel 2 (some .boolean) 1 := en_gv cwl1820 cwl1821 cwl1822 cwl82 cwl1823 ⟨rfl, by decide, by decide, by decide +kernel⟩
theorem dlw_2279 : decode cL_law 2279 = .ok (.invokevirtual 383, 3) := by decide +kernel
theorem gm_X7_checksum : en_CV en_cw RL 383 yX7_checksum RX7 cX7_checksum 5 (some .long) 0 := en_gv cwl2331 cwl2332 cwl2333 cwl82 cwl2334 ⟨rfl, by decide, by decide, by decide +kernel⟩
theorem dlw_1505 : decode cL_law 1505 = .ok (.invokevirtual 306, 3) := by decide +kernel
theorem gm_X7_concede : en_CV en_cw RL 306 yX7_concede RX7 cX7_concede 6 (some .int) 2 := en_gv cwl1824 cwl1825 cwl1826 cwl82 cwl1827 ⟨rfl, by decide, by decide, by decide +kernel⟩
theorem dlw_2117 : decode cL_law 2117 = .ok (.invokevirtual 366, 3) := by decide +kernel
theorem gm_X7_conditions : en_CV en_cw RL 366 yX7_conditions RX7 cX7_conditions 3 (some .int) 1 := en_gv cwl1947 cwl1948 cwl1949 cwl82 cwl1950 ⟨rfl, by decide, by decide, by decide +kernel⟩
theorem dlw_1257 : decode cL_law 1257 = .ok (.invokevirtual 285, 3) := by decide +kernel
theorem gm_X7_correct : en_CV en_cw RL 285 yX7_correct RX7 cX7_correct 3 (some .int) 1 := en_gv cwl1800 cwl1801 cwl1802 cwl82 cwl1803 ⟨rfl, by decide, by decide, by decide +kernel⟩
theorem dlw_2089 : decode cL_law 2089 = .ok (.invokevirtual 363, 3) := by decide +kernel
theorem gm_X7_cut : en_CV en_cw RL 363 yX7_cut RX7 cX7_cut 4 (some .int) 1 := en_gv cwl1943 cwl1944 cwl1945 cwl82 cwl1946 ⟨rfl, by decide, by decide, by decide +kernel⟩
theorem dlw_1177 : decode cL_law 1177 = .ok (.invokevirtual 279, 3) := by decide +kernel
theorem gm_X7_free : en_CV en_cw RL 279 yX7_free RX7 cX7_free 10 (some .char) 3 := en_gv cwl1792 cwl1793 cwl1794 cwl82 cwl1795 ⟨rfl, by decide, by decide, by decide +kernel⟩
theorem dlw_606 : decode cL_law 606 = .ok (.invokevirtual 229, 3) := by decide +kernel
theorem gm_X7_gets : en_CV en_cw RL 229 yX7_gets RX7 cX7_gets 3 (some .int) 2 := en_gv cwl1638 cwl1639 cwl1640 cwl82 cwl1641 ⟨rfl, by decide, by decide, by decide +kernel⟩
theorem dlw_366 : decode cL_law 366 = .ok (.invokevirtual 210, 3) := by decide +kernel
theorem gm_X7_hole : en_CV en_cw RL 210 yX7_hole RX7 cX7_hole 11 (some .int) 6 := en_gv cwl1596 cwl1597 cwl1598 cwl82 cwl1599 ⟨rfl, by decide, by decide, by decide +kernel⟩
theorem dlw_735 : decode cL_law 735 = .ok (.invokevirtual 246, 3) := by decide +kernel
theorem gm_X7_holeOn : en_CV en_cw RL 246 yX7_holeOn RX7 cX7_holeOn 1 (some .int) 0 := en_gv cwl1662 cwl1663 cwl1664 cwl82 cwl1665 ⟨rfl, by decide, by decide, by decide +kernel⟩
theorem dlw_2061 : decode cL_law 2061 = .ok (.invokevirtual 360, 3) := by decide +kernel
theorem gm_X7_isAhead : en_CV en_cw RL 360 yX7_isAhead RX7 cX7_isAhead 9 (some .boolean) 2 := en_gv cwl1939 cwl1940 cwl1941 cwl82 cwl1942 ⟨rfl, by decide, by decide, by decide +kernel⟩
theorem dlw_1761 : decode cL_law 1761 = .ok (.invokevirtual 333, 3) := by decide +kernel
theorem gm_X7_isMatchOver : en_CV en_cw RL 333 yX7_isMatchOver RX7 cX7_isMatchOver 2 (some .boolean) 0 := en_gv cwl1876 cwl1877 cwl1878 cwl82 cwl1879 ⟨rfl, by decide, by decide, by decide +kernel⟩
theorem dlw_1689 : decode cL_law 1689 = .ok (.invokevirtual 324, 3) := by decide +kernel
theorem gm_X7_isOut : en_CV en_cw RL 324 yX7_isOut RX7 cX7_isOut 2 (some .boolean) 1 := en_gv cwl1864 cwl1865 cwl1866 cwl82 cwl1867 ⟨rfl, by decide, by decide, by decide +kernel⟩
theorem dlw_2350 : decode cL_law 2350 = .ok (.invokevirtual 394, 3) := by decide +kernel
theorem gm_X7_isSound : en_CV en_cw RL 394 yX7_isSound RX7 cX7_isSound 1 (some .boolean) 0 := en_gv cwl2345 cwl2346 cwl2347 cwl82 cwl2348 ⟨rfl, by decide, by decide, by decide +kernel⟩
theorem dlw_510 : decode cL_law 510 = .ok (.invokevirtual 218, 3) := by decide +kernel
theorem gm_X7_kindAt : en_CV en_cw RL 218 yX7_kindAt RX7 cX7_kindAt 4 (some .char) 3 := en_gv cwl1622 cwl1623 cwl1624 cwl82 cwl1625 ⟨rfl, by decide, by decide, by decide +kernel⟩
theorem dlw_1605 : decode cL_law 1605 = .ok (.invokevirtual 315, 3) := by decide +kernel
theorem gm_X7_lie : en_CV en_cw RL 315 yX7_lie RX7 cX7_lie 3 (some .int) 2 := en_gv cwl1852 cwl1853 cwl1854 cwl82 cwl1855 ⟨rfl, by decide, by decide, by decide +kernel⟩
theorem dlw_1017 : decode cL_law 1017 = .ok (.invokevirtual 269, 3) := by decide +kernel
theorem gm_X7_line : en_CV en_cw RL 269 yX7_line RX7 cX7_line 9 (some .int) 2 := en_gv cwl1756 cwl1757 cwl1758 cwl82 cwl1759 ⟨rfl, by decide, by decide, by decide +kernel⟩
theorem dlw_2336 : decode cL_law 2336 = .ok (.invokevirtual 390, 3) := by decide +kernel
theorem gm_X7_meanScore : en_CV en_cw RL 390 yX7_meanScore RX7 cX7_meanScore 5 (some .double) 1 := en_gv cwl2341 cwl2342 cwl2343 cwl82 cwl2344 ⟨rfl, by decide, by decide, by decide +kernel⟩
theorem dlw_1323 : decode cL_law 1323 = .ok (.invokevirtual 289, 3) := by decide +kernel
theorem gm_X7_move : en_CV en_cw RL 289 yX7_move RX7 cX7_move 9 (some .int) 4 := en_gv cwl1804 cwl1805 cwl1806 cwl82 cwl1807 ⟨rfl, by decide, by decide, by decide +kernel⟩
theorem dlw_1521 : decode cL_law 1521 = .ok (.invokevirtual 309, 3) := by decide +kernel
theorem gm_X7_nextHole : en_CV en_cw RL 309 yX7_nextHole RX7 cX7_nextHole 4 (some .int) 0 := en_gv cwl1832 cwl1833 cwl1834 cwl82 cwl1835 ⟨rfl, by decide, by decide, by decide +kernel⟩
theorem dlw_869 : decode cL_law 869 = .ok (.invokevirtual 256, 3) := by decide +kernel
theorem gm_X7_odds : en_CV en_cw RL 256 yX7_odds RX7 cX7_odds 12 (some .int) 4 := en_gv cwl1734 cwl1735 cwl1736 cwl82 cwl1737 ⟨rfl, by decide, by decide, by decide +kernel⟩
theorem dlw_1925 : decode cL_law 1925 = .ok (.invokevirtual 348, 3) := by decide +kernel
theorem gm_X7_parPlay : en_CV en_cw RL 348 yX7_parPlay RX7 cX7_parPlay 4 (some .int) 1 := en_gv cwl1913 cwl1914 cwl1915 cwl82 cwl1916 ⟨rfl, by decide, by decide, by decide +kernel⟩
theorem dlw_1661 : decode cL_law 1661 = .ok (.invokevirtual 321, 3) := by decide +kernel
theorem gm_X7_penalties : en_CV en_cw RL 321 yX7_penalties RX7 cX7_penalties 2 (some .int) 1 := en_gv cwl1860 cwl1861 cwl1862 cwl82 cwl1863 ⟨rfl, by decide, by decide, by decide +kernel⟩
theorem dlw_2307 : decode cL_law 2307 = .ok (.invokevirtual 387, 3) := by decide +kernel
theorem gm_X7_penaltyShare : en_CV en_cw RL 387 yX7_penaltyShare RX7 cX7_penaltyShare 5 (some .float) 1 := en_gv cwl2337 cwl2338 cwl2339 cwl82 cwl2340 ⟨rfl, by decide, by decide, by decide +kernel⟩
theorem dlw_1391 : decode cL_law 1391 = .ok (.invokevirtual 295, 3) := by decide +kernel
theorem gm_X7_pickUp : en_CV en_cw RL 295 yX7_pickUp RX7 cX7_pickUp 2 (some .int) 1 := en_gv cwl1812 cwl1813 cwl1814 cwl82 cwl1815 ⟨rfl, by decide, by decide, by decide +kernel⟩
theorem dlw_526 : decode cL_law 526 = .ok (.invokevirtual 222, 3) := by decide +kernel
theorem gm_X7_player : en_CV en_cw RL 222 yX7_player RX7 cX7_player 1 (some .int) 0 := en_gv cwl1626 cwl1627 cwl1628 cwl82 cwl1629 ⟨rfl, by decide, by decide, by decide +kernel⟩
theorem dlw_1125 : decode cL_law 1125 = .ok (.invokevirtual 276, 3) := by decide +kernel
theorem gm_X7_point : en_CV en_cw RL 276 yX7_point RX7 cX7_point 4 (some .int) 2 := en_gv cwl1780 cwl1781 cwl1782 cwl82 cwl1783 ⟨rfl, by decide, by decide, by decide +kernel⟩
theorem dlw_921 : decode cL_law 921 = .ok (.invokevirtual 259, 3) := by decide +kernel
theorem gm_X7_provisional : en_CV en_cw RL 259 yX7_provisional RX7 cX7_provisional 10 (some .char) 3 := en_gv cwl1741 cwl1742 cwl1743 cwl82 cwl1744 ⟨rfl, by decide, by decide, by decide +kernel⟩
theorem dlw_2021 : decode cL_law 2021 = .ok (.invokevirtual 357, 3) := by decide +kernel
theorem gm_X7_rank : en_CV en_cw RL 357 yX7_rank RX7 cX7_rank 2 (some .int) 1 := en_gv cwl1927 cwl1928 cwl1929 cwl82 cwl1930 ⟨rfl, by decide, by decide, by decide +kernel⟩
theorem dlw_1729 : decode cL_law 1729 = .ok (.invokevirtual 327, 3) := by decide +kernel
theorem gm_X7_score : en_CV en_cw RL 327 yX7_score RX7 cX7_score 3 (some .int) 2 := en_gv cwl1868 cwl1869 cwl1870 cwl82 cwl1871 ⟨rfl, by decide, by decide, by decide +kernel⟩
theorem dlw_949 : decode cL_law 949 = .ok (.invokevirtual 263, 3) := by decide +kernel
theorem gm_X7_search : en_CV en_cw RL 263 yX7_search RX7 cX7_search 5 (some .char) 1 := en_gv cwl1745 cwl1746 cwl1747 cwl82 cwl1748 ⟨rfl, by decide, by decide, by decide +kernel⟩
theorem dlw_566 : decode cL_law 566 = .ok (.invokevirtual 226, 3) := by decide +kernel
theorem gm_X7_setHandicap : en_CV en_cw RL 226 yX7_setHandicap RX7 cX7_setHandicap 4 (some .int) 2 := en_gv cwl1630 cwl1631 cwl1632 cwl82 cwl1633 ⟨rfl, by decide, by decide, by decide +kernel⟩
theorem dlw_632 : decode cL_law 632 = .ok (.invokevirtual 233, 3) := by decide +kernel
theorem gm_X7_setSeed : en_CV en_cw RL 233 yX7_setSeed RX7 cX7_setSeed 3 (some .int) 1 := en_gv cwl1646 cwl1647 cwl1648 cwl82 cwl1649 ⟨rfl, by decide, by decide, by decide +kernel⟩
theorem dlw_1841 : decode cL_law 1841 = .ok (.invokevirtual 339, 3) := by decide +kernel
theorem gm_X7_sign : en_CV en_cw RL 339 yX7_sign RX7 cX7_sign 5 (some .boolean) 1 := en_gv cwl1888 cwl1889 cwl1890 cwl82 cwl1891 ⟨rfl, by decide, by decide, by decide +kernel⟩
theorem dlw_1993 : decode cL_law 1993 = .ok (.invokevirtual 354, 3) := by decide +kernel
theorem gm_X7_skins : en_CV en_cw RL 354 yX7_skins RX7 cX7_skins 9 (some .int) 1 := en_gv cwl1923 cwl1924 cwl1925 cwl82 cwl1926 ⟨rfl, by decide, by decide, by decide +kernel⟩
theorem dlw_1897 : decode cL_law 1897 = .ok (.invokevirtual 345, 3) := by decide +kernel
theorem gm_X7_stableford : en_CV en_cw RL 345 yX7_stableford RX7 cX7_stableford 4 (some .int) 1 := en_gv cwl1904 cwl1905 cwl1906 cwl82 cwl1907 ⟨rfl, by decide, by decide, by decide +kernel⟩
theorem dlw_1549 : decode cL_law 1549 = .ok (.invokevirtual 312, 3) := by decide +kernel
theorem gm_X7_state : en_CV en_cw RL 312 yX7_state RX7 cX7_state 2 (some .char) 1 := en_gv cwl1844 cwl1845 cwl1846 cwl82 cwl1847 ⟨rfl, by decide, by decide, by decide +kernel⟩
theorem dlw_803 : decode cL_law 803 = .ok (.invokevirtual 252, 3) := by decide +kernel
theorem gm_X7_stroke : en_CV en_cw RL 252 yX7_stroke RX7 cX7_stroke 6 (some .char) 3 := en_gv cwl1697 cwl1698 cwl1699 cwl82 cwl1700 ⟨rfl, by decide, by decide, by decide +kernel⟩
theorem dlw_1633 : decode cL_law 1633 = .ok (.invokevirtual 318, 3) := by decide +kernel
theorem gm_X7_strokes : en_CV en_cw RL 318 yX7_strokes RX7 cX7_strokes 2 (some .int) 1 := en_gv cwl1856 cwl1857 cwl1858 cwl82 cwl1859 ⟨rfl, by decide, by decide, by decide +kernel⟩
theorem dlw_1435 : decode cL_law 1435 = .ok (.invokevirtual 299, 3) := by decide +kernel
theorem gm_X7_suspend : en_CV en_cw RL 299 yX7_suspend RX7 cX7_suspend 3 (some .boolean) 1 := en_gv cwl1816 cwl1817 cwl1818 cwl82 cwl1819 ⟨rfl, by decide, by decide, by decide +kernel⟩
theorem dlw_667 : decode cL_law 667 = .ok (.invokevirtual 238, 3) := by decide +kernel
theorem gm_X7_thrown : en_CV en_cw RL 238 yX7_thrown RX7 cX7_thrown 1 (some .int) 0 := en_gv cwl1592 cwl1593 cwl1594 cwl82 cwl1595 ⟨rfl, by decide, by decide, by decide +kernel⟩
theorem dlw_1965 : decode cL_law 1965 = .ok (.invokevirtual 351, 3) := by decide +kernel
theorem gm_X7_together : en_CV en_cw RL 351 yX7_together RX7 cX7_together 8 (some .int) 2 := en_gv cwl1918 cwl1919 cwl1920 cwl82 cwl1921 ⟨rfl, by decide, by decide, by decide +kernel⟩
theorem dlw_1869 : decode cL_law 1869 = .ok (.invokevirtual 342, 3) := by decide +kernel
theorem gm_X7_total : en_CV en_cw RL 342 yX7_total RX7 cX7_total 2 (some .int) 1 := en_gv cwl1892 cwl1893 cwl1894 cwl82 cwl1895 ⟨rfl, by decide, by decide, by decide +kernel⟩
theorem dlw_1745 : decode cL_law 1745 = .ok (.invokevirtual 330, 3) := by decide +kernel
theorem gm_X7_up : en_CV en_cw RL 330 yX7_up RX7 cX7_up 1 (some .int) 0 := en_gv cwl1872 cwl1873 cwl1874 cwl82 cwl1875 ⟨rfl, by decide, by decide, by decide +kernel⟩
theorem dlw_1813 : decode cL_law 1813 = .ok (.invokevirtual 336, 3) := by decide +kernel
theorem gm_X7_write : en_CV en_cw RL 336 yX7_write RX7 cX7_write 5 (some .int) 3 := en_gv cwl1880 cwl1881 cwl1882 cwl82 cwl1883 ⟨rfl, by decide, by decide, by decide +kernel⟩
theorem dlw_1363 : decode cL_law 1363 = .ok (.invokevirtual 292, 3) := by decide +kernel
theorem gm_X7_wrongBall : en_CV en_cw RL 292 yX7_wrongBall RX7 cX7_wrongBall 4 (some .int) 2 := en_gv cwl1808 cwl1809 cwl1810 cwl82 cwl1811 ⟨rfl, by decide, by decide, by decide +kernel⟩
theorem dlw_1229 : decode cL_law 1229 = .ok (.invokevirtual 282, 3) := by decide +kernel
theorem gm_X7_wrongPlace : en_CV en_cw RL 282 yX7_wrongPlace RX7 cX7_wrongPlace 6 (some .boolean) 3 := en_gv cwl1796 cwl1797 cwl1798 cwl82 cwl1799 ⟨rfl, by decide, by decide, by decide +kernel⟩
theorem dlw_965 : decode cL_law 965 = .ok (.invokestatic 264, 3) := by decide +kernel
theorem gx_again : GoodIn en_cw (va_wsS RL 264 yL_again (Cond.codeWith yL_again cL_again 4 (some .int) [(0, 9, 12, 23), (0, 9, 15, 15), (0, 9, 18, 17)] :: en_cw)) ∧ (yL_again.cls ≠ "java/lang/invoke/MethodHandle" ∧ yL_again.cls ≠ "java/lang/invoke/VarHandle" ∧ (parseMethodDescriptor yL_again.desc).map (fun d => d.parameters.length) = some 3) := ⟨cw_g (cw_c cwl908 (cw_c cwl909 (cw_c cwl74 (cw_c cwl910 fun _ h => h)))), by decide, by decide, by decide +kernel⟩
theorem dlw_414 : decode cL_law 414 = .ok (.invokestatic 211, 3) := by decide +kernel
theorem gx_area : GoodIn en_cw (va_wsS RL 211 yL_area (Cond.codeWith yL_area cL_area 9 (some .int) [(0, 18, 21, 23), (0, 18, 25, 13), (0, 18, 29, 15)] :: en_cw)) ∧ (yL_area.cls ≠ "java/lang/invoke/MethodHandle" ∧ yL_area.cls ≠ "java/lang/invoke/VarHandle" ∧ (parseMethodDescriptor yL_area.desc).map (fun d => d.parameters.length) = some 8) := ⟨cw_g (cw_c cwl616 (cw_c cwl617 (cw_c cwl74 (cw_c cwl618 fun _ h => h)))), by decide, by decide, by decide +kernel⟩
theorem dlw_1045 : decode cL_law 1045 = .ok (.invokestatic 270, 3) := by decide +kernel
theorem gx_aside : GoodIn en_cw (va_wsS RL 270 yL_aside (Cond.codeWith yL_aside cL_aside 6 (some .int) [(0, 12, 15, 23), (0, 12, 19, 15), (0, 12, 23, 17)] :: en_cw)) ∧ (yL_aside.cls ≠ "java/lang/invoke/MethodHandle" ∧ yL_aside.cls ≠ "java/lang/invoke/VarHandle" ∧ (parseMethodDescriptor yL_aside.desc).map (fun d => d.parameters.length) = some 5) := ⟨cw_g (cw_c cwl953 (cw_c cwl954 (cw_c cwl74 (cw_c cwl955 fun _ h => h)))), by decide, by decide, by decide +kernel⟩
theorem dlw_745 : decode cL_law 745 = .ok (.invokestatic 247, 3) := by decide +kernel
theorem gx_away : GoodIn en_cw (va_wsS RL 247 yL_away (Cond.codeWith yL_away cL_away 3 (some .int) [(0, 8, 11, 15), (0, 8, 14, 54)] :: en_cw)) ∧ (yL_away.cls ≠ "java/lang/invoke/MethodHandle" ∧ yL_away.cls ≠ "java/lang/invoke/VarHandle" ∧ (parseMethodDescriptor yL_away.desc).map (fun d => d.parameters.length) = some 2) := ⟨cw_g (cw_c cwl762 (cw_c cwl763 (cw_c cwl74 (cw_c cwl764 fun _ h => h)))), by decide, by decide, by decide +kernel⟩
theorem dlw_706 : decode cL_law 706 = .ok (.invokestatic 241, 3) := by decide +kernel
theorem gx_begin : GoodIn en_cw (va_wsS RL 241 yL_begin (Cond.codeWith yL_begin cL_begin 4 (some .int) [(0, 9, 12, 13), (0, 9, 15, 17)] :: en_cw)) ∧ (yL_begin.cls ≠ "java/lang/invoke/MethodHandle" ∧ yL_begin.cls ≠ "java/lang/invoke/VarHandle" ∧ (parseMethodDescriptor yL_begin.desc).map (fun d => d.parameters.length) = some 3) := ⟨cw_g (cw_c cwl721 (cw_c cwl722 (cw_c cwl74 (cw_c cwl723 fun _ h => h)))), by decide, by decide, by decide +kernel⟩
theorem dlw_1451 : decode cL_law 1451 = .ok (.invokestatic 300, 3) := by decide +kernel
theorem gx_cancel : GoodIn en_cw (va_wsS RL 300 yL_cancel (Cond.codeWith yL_cancel cL_cancel 4 (some .int) [(0, 16, 19, 23), (0, 16, 22, 15), (0, 16, 25, 17)] :: en_cw)) ∧ (yL_cancel.cls ≠ "java/lang/invoke/MethodHandle" ∧ yL_cancel.cls ≠ "java/lang/invoke/VarHandle" ∧ (parseMethodDescriptor yL_cancel.desc).map (fun d => d.parameters.length) = some 3) := ⟨cw_g (cw_c cwl1050 (cw_c cwl1051 (cw_c cwl74 (cw_c cwl1052 fun _ h => h)))), by decide, by decide, by decide +kernel⟩
theorem dlw_1486 : decode cL_law 1486 = .ok (.invokestatic 303, 3) := by decide +kernel
theorem gx_concede : GoodIn en_cw (va_wsS RL 303 yL_concede (Cond.codeWith yL_concede cL_concede 5 (some .int) [(0, 10, 13, 23), (0, 10, 17, 13), (0, 10, 21, 15), (0, 10, 25, 17)] :: en_cw)) ∧ (yL_concede.cls ≠ "java/lang/invoke/MethodHandle" ∧ yL_concede.cls ≠ "java/lang/invoke/VarHandle" ∧ (parseMethodDescriptor yL_concede.desc).map (fun d => d.parameters.length) = some 4) := ⟨cw_g (cw_c cwl1058 (cw_c cwl1059 (cw_c cwl74 (cw_c cwl1060 fun _ h => h)))), by decide, by decide, by decide +kernel⟩
theorem dlw_2105 : decode cL_law 2105 = .ok (.invokestatic 364, 3) := by decide +kernel
theorem gx_conditions : GoodIn en_cw (va_wsS RL 364 yL_conditions (Cond.codeWith yL_conditions cL_conditions 4 (some .int) [(0, 9, 12, 13)] :: en_cw)) ∧ (yL_conditions.cls ≠ "java/lang/invoke/MethodHandle" ∧ yL_conditions.cls ≠ "java/lang/invoke/VarHandle" ∧ (parseMethodDescriptor yL_conditions.desc).map (fun d => d.parameters.length) = some 3) := ⟨cw_g (cw_c cwl1304 (cw_c cwl1305 (cw_c cwl74 (cw_c cwl1306 fun _ h => h)))), by decide, by decide, by decide +kernel⟩
theorem dlw_1245 : decode cL_law 1245 = .ok (.invokestatic 283, 3) := by decide +kernel
theorem gx_correct : GoodIn en_cw (va_wsS RL 283 yL_correct (Cond.codeWith yL_correct cL_correct 4 (some .int) [(0, 9, 12, 23), (0, 9, 15, 15), (0, 9, 18, 17)] :: en_cw)) ∧ (yL_correct.cls ≠ "java/lang/invoke/MethodHandle" ∧ yL_correct.cls ≠ "java/lang/invoke/VarHandle" ∧ (parseMethodDescriptor yL_correct.desc).map (fun d => d.parameters.length) = some 3) := ⟨cw_g (cw_c cwl1002 (cw_c cwl1003 (cw_c cwl74 (cw_c cwl1004 fun _ h => h)))), by decide, by decide, by decide +kernel⟩
theorem dlw_2077 : decode cL_law 2077 = .ok (.invokestatic 361, 3) := by decide +kernel
theorem gx_cut : GoodIn en_cw (va_wsS RL 361 yL_cut (Cond.codeWith yL_cut cL_cut 4 (some .int) [(0, 9, 12, 13)] :: en_cw)) ∧ (yL_cut.cls ≠ "java/lang/invoke/MethodHandle" ∧ yL_cut.cls ≠ "java/lang/invoke/VarHandle" ∧ (parseMethodDescriptor yL_cut.desc).map (fun d => d.parameters.length) = some 3) := ⟨cw_g (cw_c cwl1296 (cw_c cwl1297 (cw_c cwl74 (cw_c cwl1298 fun _ h => h)))), by decide, by decide, by decide +kernel⟩
theorem dlw_2191 : decode cL_law 2191 = .ok (.invokestatic 370, 3) := by decide +kernel
theorem gx_difference : GoodIn en_cw (va_wsS RL 370 yL_difference (Cond.codeWith yL_difference cL_difference 5 (some .int) [(0, 10, 13, 23)] :: en_cw)) ∧ (yL_difference.cls ≠ "java/lang/invoke/MethodHandle" ∧ yL_difference.cls ≠ "java/lang/invoke/VarHandle" ∧ (parseMethodDescriptor yL_difference.desc).map (fun d => d.parameters.length) = some 4) := ⟨cw_g (cw_c cwl1337 (cw_c cwl1338 (cw_c cwl74 (cw_c cwl1339 fun _ h => h)))), by decide, by decide, by decide +kernel⟩
theorem dlw_1153 : decode cL_law 1153 = .ok (.invokestatic 277, 3) := by decide +kernel
theorem gx_free : GoodIn en_cw (va_wsS RL 277 yL_free (Cond.codeWith yL_free cL_free 6 (some .int) [(0, 12, 15, 23), (0, 12, 19, 15), (0, 12, 23, 17), (0, 12, 27, 54)] :: en_cw)) ∧ (yL_free.cls ≠ "java/lang/invoke/MethodHandle" ∧ yL_free.cls ≠ "java/lang/invoke/VarHandle" ∧ (parseMethodDescriptor yL_free.desc).map (fun d => d.parameters.length) = some 5) := ⟨cw_g (cw_c cwl979 (cw_c cwl980 (cw_c cwl74 (cw_c cwl981 fun _ h => h)))), by decide, by decide, by decide +kernel⟩
theorem dlw_588 : decode cL_law 588 = .ok (.invokestatic 227, 3) := by decide +kernel
theorem gx_gets : GoodIn en_cw (va_wsS RL 227 yL_gets (Cond.codeWith yL_gets cL_gets 5 (some .int) [(0, 10, 13, 23)] :: en_cw)) ∧ (yL_gets.cls ≠ "java/lang/invoke/MethodHandle" ∧ yL_gets.cls ≠ "java/lang/invoke/VarHandle" ∧ (parseMethodDescriptor yL_gets.desc).map (fun d => d.parameters.length) = some 4) := ⟨cw_g (cw_c cwl706 (cw_c cwl707 (cw_c cwl74 (cw_c cwl708 fun _ h => h)))), by decide, by decide, by decide +kernel⟩
theorem dlw_323 : decode cL_law 323 = .ok (.invokestatic 205, 3) := by decide +kernel
theorem gx_hole : GoodIn en_cw (va_wsS RL 205 yL_hole (Cond.codeWith yL_hole cL_hole 9 (some .int) [(0, 18, 21, 13), (0, 18, 25, 15), (0, 18, 29, 17)] :: en_cw)) ∧ (yL_hole.cls ≠ "java/lang/invoke/MethodHandle" ∧ yL_hole.cls ≠ "java/lang/invoke/VarHandle" ∧ (parseMethodDescriptor yL_hole.desc).map (fun d => d.parameters.length) = some 8) := ⟨cw_g (cw_c cwl495 (cw_c cwl496 (cw_c cwl74 (cw_c cwl497 fun _ h => h)))), by decide, by decide, by decide +kernel⟩
theorem dlw_729 : decode cL_law 729 = .ok (.invokestatic 244, 3) := by decide +kernel
theorem gx_holeOn : GoodIn en_cw (va_wsS RL 244 yL_holeOn (Cond.codeWith yL_holeOn cL_holeOn 3 (some .int) [(0, 8, 11, 15)] :: en_cw)) ∧ (yL_holeOn.cls ≠ "java/lang/invoke/MethodHandle" ∧ yL_holeOn.cls ≠ "java/lang/invoke/VarHandle" ∧ (parseMethodDescriptor yL_holeOn.desc).map (fun d => d.parameters.length) = some 2) := ⟨cw_g (cw_c cwl750 (cw_c cwl751 (cw_c cwl74 (cw_c cwl752 fun _ h => h)))), by decide, by decide, by decide +kernel⟩
theorem dlw_2225 : decode cL_law 2225 = .ok (.invokestatic 373, 3) := by decide +kernel
theorem gx_index : GoodIn en_cw (va_wsS RL 373 yL_index (Cond.codeWith yL_index cL_index 4 (some .int) [(0, 9, 12, 23), (0, 9, 15, 54)] :: en_cw)) ∧ (yL_index.cls ≠ "java/lang/invoke/MethodHandle" ∧ yL_index.cls ≠ "java/lang/invoke/VarHandle" ∧ (parseMethodDescriptor yL_index.desc).map (fun d => d.parameters.length) = some 3) := ⟨cw_g (cw_c cwl1346 (cw_c cwl1347 (cw_c cwl74 (cw_c cwl1348 fun _ h => h)))), by decide, by decide, by decide +kernel⟩
theorem dlw_2043 : decode cL_law 2043 = .ok (.invokestatic 358, 3) := by decide +kernel
theorem gx_isAhead : GoodIn en_cw (va_wsS RL 358 yL_isAhead (Cond.codeWith yL_isAhead cL_isAhead 5 (some .int) [(0, 17, 20, 23), (0, 17, 24, 54)] :: en_cw)) ∧ (yL_isAhead.cls ≠ "java/lang/invoke/MethodHandle" ∧ yL_isAhead.cls ≠ "java/lang/invoke/VarHandle" ∧ (parseMethodDescriptor yL_isAhead.desc).map (fun d => d.parameters.length) = some 4) := ⟨cw_g (cw_c cwl1289 (cw_c cwl1290 (cw_c cwl74 (cw_c cwl1291 fun _ h => h)))), by decide, by decide, by decide +kernel⟩
theorem dlw_1755 : decode cL_law 1755 = .ok (.invokestatic 331, 3) := by decide +kernel
theorem gx_isMatchOver : GoodIn en_cw (va_wsS RL 331 yL_isMatchOver (Cond.codeWith yL_isMatchOver cL_isMatchOver 3 (some .int) [(0, 15, 18, 17)] :: en_cw)) ∧ (yL_isMatchOver.cls ≠ "java/lang/invoke/MethodHandle" ∧ yL_isMatchOver.cls ≠ "java/lang/invoke/VarHandle" ∧ (parseMethodDescriptor yL_isMatchOver.desc).map (fun d => d.parameters.length) = some 2) := ⟨cw_g (cw_c cwl1172 (cw_c cwl1173 (cw_c cwl74 (cw_c cwl1174 fun _ h => h)))), by decide, by decide, by decide +kernel⟩
theorem dlw_1677 : decode cL_law 1677 = .ok (.invokestatic 322, 3) := by decide +kernel
theorem gx_isOut : GoodIn en_cw (va_wsS RL 322 yL_isOut (Cond.codeWith yL_isOut cL_isOut 4 (some .int) [(0, 16, 19, 23)] :: en_cw)) ∧ (yL_isOut.cls ≠ "java/lang/invoke/MethodHandle" ∧ yL_isOut.cls ≠ "java/lang/invoke/VarHandle" ∧ (parseMethodDescriptor yL_isOut.desc).map (fun d => d.parameters.length) = some 3) := ⟨cw_g (cw_c cwl1145 (cw_c cwl1146 (cw_c cwl74 (cw_c cwl1147 fun _ h => h)))), by decide, by decide, by decide +kernel⟩
theorem dlw_486 : decode cL_law 486 = .ok (.invokestatic 215, 3) := by decide +kernel
theorem gx_kindAt : GoodIn en_cw (va_wsS RL 215 yL_kindAt (Cond.codeWith yL_kindAt cL_kindAt 6 (some .int) [(0, 12, 15, 23)] :: en_cw)) ∧ (yL_kindAt.cls ≠ "java/lang/invoke/MethodHandle" ∧ yL_kindAt.cls ≠ "java/lang/invoke/VarHandle" ∧ (parseMethodDescriptor yL_kindAt.desc).map (fun d => d.parameters.length) = some 5) := ⟨cw_g (cw_c cwl673 (cw_c cwl674 (cw_c cwl74 (cw_c cwl675 fun _ h => h)))), by decide, by decide, by decide +kernel⟩
theorem dlw_1579 : decode cL_law 1579 = .ok (.invokestatic 313, 3) := by decide +kernel
theorem gx_lie : GoodIn en_cw (va_wsS RL 313 yL_lie (Cond.codeWith yL_lie cL_lie 5 (some .int) [(0, 10, 13, 23), (0, 10, 17, 15), (0, 10, 21, 54)] :: en_cw)) ∧ (yL_lie.cls ≠ "java/lang/invoke/MethodHandle" ∧ yL_lie.cls ≠ "java/lang/invoke/VarHandle" ∧ (parseMethodDescriptor yL_lie.desc).map (fun d => d.parameters.length) = some 4) := ⟨cw_g (cw_c cwl1123 (cw_c cwl1124 (cw_c cwl74 (cw_c cwl1125 fun _ h => h)))), by decide, by decide, by decide +kernel⟩
theorem dlw_999 : decode cL_law 999 = .ok (.invokestatic 267, 3) := by decide +kernel
theorem gx_line : GoodIn en_cw (va_wsS RL 267 yL_line (Cond.codeWith yL_line cL_line 5 (some .int) [(0, 10, 13, 23), (0, 10, 17, 13), (0, 10, 21, 15), (0, 10, 25, 17)] :: en_cw)) ∧ (yL_line.cls ≠ "java/lang/invoke/MethodHandle" ∧ yL_line.cls ≠ "java/lang/invoke/VarHandle" ∧ (parseMethodDescriptor yL_line.desc).map (fun d => d.parameters.length) = some 4) := ⟨cw_g (cw_c cwl928 (cw_c cwl929 (cw_c cwl74 (cw_c cwl930 fun _ h => h)))), by decide, by decide, by decide +kernel⟩
theorem dlw_2253 : decode cL_law 2253 = .ok (.invokestatic 376, 3) := by decide +kernel
theorem gx_lowIndex : GoodIn en_cw (va_wsS RL 376 yL_lowIndex (Cond.codeWith yL_lowIndex cL_lowIndex 4 (some .int) [(0, 9, 12, 23), (0, 9, 15, 54)] :: en_cw)) ∧ (yL_lowIndex.cls ≠ "java/lang/invoke/MethodHandle" ∧ yL_lowIndex.cls ≠ "java/lang/invoke/VarHandle" ∧ (parseMethodDescriptor yL_lowIndex.desc).map (fun d => d.parameters.length) = some 3) := ⟨cw_g (cw_c cwl1358 (cw_c cwl1359 (cw_c cwl74 (cw_c cwl1360 fun _ h => h)))), by decide, by decide, by decide +kernel⟩
theorem dlw_2324 : decode cL_law 2324 = .ok (.invokestatic 388, 3) := by decide +kernel
theorem gx_meanScore : GoodIn en_cw (va_wsS RL 388 yL_meanScore (Cond.codeWith yL_meanScore cL_meanScore 4 (some .int) [(0, 8, 11, 23), (0, 8, 14, 195)] :: en_cw)) ∧ (yL_meanScore.cls ≠ "java/lang/invoke/MethodHandle" ∧ yL_meanScore.cls ≠ "java/lang/invoke/VarHandle" ∧ (parseMethodDescriptor yL_meanScore.desc).map (fun d => d.parameters.length) = some 3) := ⟨cw_g (cw_c cwl1388 (cw_c cwl1389 (cw_c cwl74 (cw_c cwl1390 fun _ h => h)))), by decide, by decide, by decide +kernel⟩
theorem dlw_1292 : decode cL_law 1292 = .ok (.invokestatic 286, 3) := by decide +kernel
theorem gx_move : GoodIn en_cw (va_wsS RL 286 yL_move (Cond.codeWith yL_move cL_move 7 (some .int) [(0, 14, 17, 23), (0, 14, 21, 13), (0, 14, 25, 15), (0, 14, 29, 17)] :: en_cw)) ∧ (yL_move.cls ≠ "java/lang/invoke/MethodHandle" ∧ yL_move.cls ≠ "java/lang/invoke/VarHandle" ∧ (parseMethodDescriptor yL_move.desc).map (fun d => d.parameters.length) = some 6) := ⟨cw_g (cw_c cwl1014 (cw_c cwl1015 (cw_c cwl74 (cw_c cwl1016 fun _ h => h)))), by decide, by decide, by decide +kernel⟩
theorem dlw_1515 : decode cL_law 1515 = .ok (.invokestatic 307, 3) := by decide +kernel
theorem gx_nextHole : GoodIn en_cw (va_wsS RL 307 yL_nextHole (Cond.codeWith yL_nextHole cL_nextHole 3 (some .int) [(0, 8, 11, 15), (0, 8, 14, 17)] :: en_cw)) ∧ (yL_nextHole.cls ≠ "java/lang/invoke/MethodHandle" ∧ yL_nextHole.cls ≠ "java/lang/invoke/VarHandle" ∧ (parseMethodDescriptor yL_nextHole.desc).map (fun d => d.parameters.length) = some 2) := ⟨cw_g (cw_c cwl1082 (cw_c cwl1083 (cw_c cwl74 (cw_c cwl1084 fun _ h => h)))), by decide, by decide, by decide +kernel⟩
theorem dlw_838 : decode cL_law 838 = .ok (.invokestatic 253, 3) := by decide +kernel
theorem gx_odds : GoodIn en_cw (va_wsS RL 253 yL_odds (Cond.codeWith yL_odds cL_odds 7 (some .int) [(0, 14, 17, 23), (0, 14, 21, 13), (0, 14, 25, 15), (0, 14, 29, 17)] :: en_cw)) ∧ (yL_odds.cls ≠ "java/lang/invoke/MethodHandle" ∧ yL_odds.cls ≠ "java/lang/invoke/VarHandle" ∧ (parseMethodDescriptor yL_odds.desc).map (fun d => d.parameters.length) = some 6) := ⟨cw_g (cw_c cwl876 (cw_c cwl877 (cw_c cwl74 (cw_c cwl878 fun _ h => h)))), by decide, by decide, by decide +kernel⟩
theorem dlw_1913 : decode cL_law 1913 = .ok (.invokestatic 346, 3) := by decide +kernel
theorem gx_parPlay : GoodIn en_cw (va_wsS RL 346 yL_parPlay (Cond.codeWith yL_parPlay cL_parPlay 4 (some .int) [(0, 9, 12, 23), (0, 9, 15, 54)] :: en_cw)) ∧ (yL_parPlay.cls ≠ "java/lang/invoke/MethodHandle" ∧ yL_parPlay.cls ≠ "java/lang/invoke/VarHandle" ∧ (parseMethodDescriptor yL_parPlay.desc).map (fun d => d.parameters.length) = some 3) := ⟨cw_g (cw_c cwl1236 (cw_c cwl1237 (cw_c cwl74 (cw_c cwl1238 fun _ h => h)))), by decide, by decide, by decide +kernel⟩
theorem dlw_1649 : decode cL_law 1649 = .ok (.invokestatic 319, 3) := by decide +kernel
theorem gx_penalties : GoodIn en_cw (va_wsS RL 319 yL_penalties (Cond.codeWith yL_penalties cL_penalties 4 (some .int) [(0, 9, 12, 23), (0, 9, 15, 15)] :: en_cw)) ∧ (yL_penalties.cls ≠ "java/lang/invoke/MethodHandle" ∧ yL_penalties.cls ≠ "java/lang/invoke/VarHandle" ∧ (parseMethodDescriptor yL_penalties.desc).map (fun d => d.parameters.length) = some 3) := ⟨cw_g (cw_c cwl1138 (cw_c cwl1139 (cw_c cwl74 (cw_c cwl1140 fun _ h => h)))), by decide, by decide, by decide +kernel⟩
theorem dlw_2295 : decode cL_law 2295 = .ok (.invokestatic 384, 3) := by decide +kernel
theorem gx_penaltyShare : GoodIn en_cw (va_wsS RL 384 yL_penaltyShare (Cond.codeWith yL_penaltyShare cL_penaltyShare 4 (some .int) [(0, 9, 12, 23), (0, 9, 15, 195)] :: en_cw)) ∧ (yL_penaltyShare.cls ≠ "java/lang/invoke/MethodHandle" ∧ yL_penaltyShare.cls ≠ "java/lang/invoke/VarHandle" ∧ (parseMethodDescriptor yL_penaltyShare.desc).map (fun d => d.parameters.length) = some 3) := ⟨cw_g (cw_c cwl1365 (cw_c cwl1366 (cw_c cwl74 (cw_c cwl1367 fun _ h => h)))), by decide, by decide, by decide +kernel⟩
theorem dlw_1379 : decode cL_law 1379 = .ok (.invokestatic 293, 3) := by decide +kernel
theorem gx_pickUp : GoodIn en_cw (va_wsS RL 293 yL_pickUp (Cond.codeWith yL_pickUp cL_pickUp 4 (some .int) [(0, 9, 12, 23), (0, 9, 15, 15), (0, 9, 18, 17)] :: en_cw)) ∧ (yL_pickUp.cls ≠ "java/lang/invoke/MethodHandle" ∧ yL_pickUp.cls ≠ "java/lang/invoke/VarHandle" ∧ (parseMethodDescriptor yL_pickUp.desc).map (fun d => d.parameters.length) = some 3) := ⟨cw_g (cw_c cwl1031 (cw_c cwl1032 (cw_c cwl74 (cw_c cwl1033 fun _ h => h)))), by decide, by decide, by decide +kernel⟩
theorem dlw_520 : decode cL_law 520 = .ok (.invokestatic 219, 3) := by decide +kernel
theorem gx_player : GoodIn en_cw (va_wsS RL 219 yL_player (Cond.codeWith yL_player cL_player 3 (some .int) [(0, 8, 11, 15)] :: en_cw)) ∧ (yL_player.cls ≠ "java/lang/invoke/MethodHandle" ∧ yL_player.cls ≠ "java/lang/invoke/VarHandle" ∧ (parseMethodDescriptor yL_player.desc).map (fun d => d.parameters.length) = some 2) := ⟨cw_g (cw_c cwl684 (cw_c cwl685 (cw_c cwl74 (cw_c cwl686 fun _ h => h)))), by decide, by decide, by decide +kernel⟩
theorem dlw_1099 : decode cL_law 1099 = .ok (.invokestatic 273, 3) := by decide +kernel
theorem gx_point : GoodIn en_cw (va_wsS RL 273 yL_point (Cond.codeWith yL_point cL_point 5 (some .int) [(0, 10, 13, 23), (0, 10, 17, 15), (0, 10, 21, 17), (0, 10, 25, 54)] :: en_cw)) ∧ (yL_point.cls ≠ "java/lang/invoke/MethodHandle" ∧ yL_point.cls ≠ "java/lang/invoke/VarHandle" ∧ (parseMethodDescriptor yL_point.desc).map (fun d => d.parameters.length) = some 4) := ⟨cw_g (cw_c cwl970 (cw_c cwl971 (cw_c cwl74 (cw_c cwl972 fun _ h => h)))), by decide, by decide, by decide +kernel⟩
theorem dlw_2145 : decode cL_law 2145 = .ok (.invokestatic 367, 3) := by decide +kernel
theorem gx_post : GoodIn en_cw (va_wsS RL 367 yL_post (Cond.codeWith yL_post cL_post 6 (some .int) [(0, 12, 15, 23), (0, 12, 19, 13), (0, 12, 23, 17)] :: en_cw)) ∧ (yL_post.cls ≠ "java/lang/invoke/MethodHandle" ∧ yL_post.cls ≠ "java/lang/invoke/VarHandle" ∧ (parseMethodDescriptor yL_post.desc).map (fun d => d.parameters.length) = some 5) := ⟨cw_g (cw_c cwl1312 (cw_c cwl1313 (cw_c cwl74 (cw_c cwl1314 fun _ h => h)))), by decide, by decide, by decide +kernel⟩
theorem dlw_897 : decode cL_law 897 = .ok (.invokestatic 257, 3) := by decide +kernel
theorem gx_provisional : GoodIn en_cw (va_wsS RL 257 yL_provisional (Cond.codeWith yL_provisional cL_provisional 6 (some .int) [(0, 12, 15, 23), (0, 12, 19, 15), (0, 12, 23, 17)] :: en_cw)) ∧ (yL_provisional.cls ≠ "java/lang/invoke/MethodHandle" ∧ yL_provisional.cls ≠ "java/lang/invoke/VarHandle" ∧ (parseMethodDescriptor yL_provisional.desc).map (fun d => d.parameters.length) = some 5) := ⟨cw_g (cw_c cwl884 (cw_c cwl885 (cw_c cwl74 (cw_c cwl886 fun _ h => h)))), by decide, by decide, by decide +kernel⟩
theorem dlw_2009 : decode cL_law 2009 = .ok (.invokestatic 355, 3) := by decide +kernel
theorem gx_rank : GoodIn en_cw (va_wsS RL 355 yL_rank (Cond.codeWith yL_rank cL_rank 4 (some .int) [(0, 9, 12, 23), (0, 9, 15, 54)] :: en_cw)) ∧ (yL_rank.cls ≠ "java/lang/invoke/MethodHandle" ∧ yL_rank.cls ≠ "java/lang/invoke/VarHandle" ∧ (parseMethodDescriptor yL_rank.desc).map (fun d => d.parameters.length) = some 3) := ⟨cw_g (cw_c cwl1265 (cw_c cwl1266 (cw_c cwl74 (cw_c cwl1267 fun _ h => h)))), by decide, by decide, by decide +kernel⟩
theorem dlw_1711 : decode cL_law 1711 = .ok (.invokestatic 325, 3) := by decide +kernel
theorem gx_score : GoodIn en_cw (va_wsS RL 325 yL_score (Cond.codeWith yL_score cL_score 5 (some .int) [(0, 10, 13, 23), (0, 10, 17, 54)] :: en_cw)) ∧ (yL_score.cls ≠ "java/lang/invoke/MethodHandle" ∧ yL_score.cls ≠ "java/lang/invoke/VarHandle" ∧ (parseMethodDescriptor yL_score.desc).map (fun d => d.parameters.length) = some 4) := ⟨cw_g (cw_c cwl1152 (cw_c cwl1153 (cw_c cwl74 (cw_c cwl1154 fun _ h => h)))), by decide, by decide, by decide +kernel⟩
theorem dlw_937 : decode cL_law 937 = .ok (.invokestatic 260, 3) := by decide +kernel
theorem gx_search : GoodIn en_cw (va_wsS RL 260 yL_search (Cond.codeWith yL_search cL_search 4 (some .int) [(0, 9, 12, 23), (0, 9, 15, 15), (0, 9, 18, 17)] :: en_cw)) ∧ (yL_search.cls ≠ "java/lang/invoke/MethodHandle" ∧ yL_search.cls ≠ "java/lang/invoke/VarHandle" ∧ (parseMethodDescriptor yL_search.desc).map (fun d => d.parameters.length) = some 3) := ⟨cw_g (cw_c cwl892 (cw_c cwl893 (cw_c cwl74 (cw_c cwl894 fun _ h => h)))), by decide, by decide, by decide +kernel⟩
theorem dlw_548 : decode cL_law 548 = .ok (.invokestatic 223, 3) := by decide +kernel
theorem gx_setHandicap : GoodIn en_cw (va_wsS RL 223 yL_setHandicap (Cond.codeWith yL_setHandicap cL_setHandicap 5 (some .int) [(0, 10, 13, 23), (0, 10, 17, 13), (0, 10, 21, 15)] :: en_cw)) ∧ (yL_setHandicap.cls ≠ "java/lang/invoke/MethodHandle" ∧ yL_setHandicap.cls ≠ "java/lang/invoke/VarHandle" ∧ (parseMethodDescriptor yL_setHandicap.desc).map (fun d => d.parameters.length) = some 4) := ⟨cw_g (cw_c cwl692 (cw_c cwl693 (cw_c cwl74 (cw_c cwl694 fun _ h => h)))), by decide, by decide, by decide +kernel⟩
theorem dlw_1829 : decode cL_law 1829 = .ok (.invokestatic 337, 3) := by decide +kernel
theorem gx_sign : GoodIn en_cw (va_wsS RL 337 yL_sign (Cond.codeWith yL_sign cL_sign 4 (some .int) [(0, 16, 19, 23), (0, 16, 22, 17), (0, 16, 25, 54)] :: en_cw)) ∧ (yL_sign.cls ≠ "java/lang/invoke/MethodHandle" ∧ yL_sign.cls ≠ "java/lang/invoke/VarHandle" ∧ (parseMethodDescriptor yL_sign.desc).map (fun d => d.parameters.length) = some 3) := ⟨cw_g (cw_c cwl1191 (cw_c cwl1192 (cw_c cwl74 (cw_c cwl1193 fun _ h => h)))), by decide, by decide, by decide +kernel⟩
theorem dlw_1981 : decode cL_law 1981 = .ok (.invokestatic 352, 3) := by decide +kernel
theorem gx_skins : GoodIn en_cw (va_wsS RL 352 yL_skins (Cond.codeWith yL_skins cL_skins 4 (some .int) [(0, 9, 12, 23), (0, 9, 15, 54)] :: en_cw)) ∧ (yL_skins.cls ≠ "java/lang/invoke/MethodHandle" ∧ yL_skins.cls ≠ "java/lang/invoke/VarHandle" ∧ (parseMethodDescriptor yL_skins.desc).map (fun d => d.parameters.length) = some 3) := ⟨cw_g (cw_c cwl1258 (cw_c cwl1259 (cw_c cwl74 (cw_c cwl1260 fun _ h => h)))), by decide, by decide, by decide +kernel⟩
theorem dlw_1885 : decode cL_law 1885 = .ok (.invokestatic 343, 3) := by decide +kernel
theorem gx_stableford : GoodIn en_cw (va_wsS RL 343 yL_stableford (Cond.codeWith yL_stableford cL_stableford 4 (some .int) [(0, 9, 12, 23)] :: en_cw)) ∧ (yL_stableford.cls ≠ "java/lang/invoke/MethodHandle" ∧ yL_stableford.cls ≠ "java/lang/invoke/VarHandle" ∧ (parseMethodDescriptor yL_stableford.desc).map (fun d => d.parameters.length) = some 3) := ⟨cw_g (cw_c cwl1226 (cw_c cwl1227 (cw_c cwl74 (cw_c cwl1228 fun _ h => h)))), by decide, by decide, by decide +kernel⟩
theorem dlw_1537 : decode cL_law 1537 = .ok (.invokestatic 310, 3) := by decide +kernel
theorem gx_state : GoodIn en_cw (va_wsS RL 310 yL_state (Cond.codeWith yL_state cL_state 4 (some .int) [(0, 9, 12, 23), (0, 9, 15, 15)] :: en_cw)) ∧ (yL_state.cls ≠ "java/lang/invoke/MethodHandle" ∧ yL_state.cls ≠ "java/lang/invoke/VarHandle" ∧ (parseMethodDescriptor yL_state.desc).map (fun d => d.parameters.length) = some 3) := ⟨cw_g (cw_c cwl1116 (cw_c cwl1117 (cw_c cwl74 (cw_c cwl1118 fun _ h => h)))), by decide, by decide, by decide +kernel⟩
theorem dlw_779 : decode cL_law 779 = .ok (.invokestatic 250, 3) := by decide +kernel
theorem gx_stroke : GoodIn en_cw (va_wsS RL 250 yL_stroke (Cond.codeWith yL_stroke cL_stroke 6 (some .int) [(0, 12, 15, 23), (0, 12, 19, 15), (0, 12, 23, 17)] :: en_cw)) ∧ (yL_stroke.cls ≠ "java/lang/invoke/MethodHandle" ∧ yL_stroke.cls ≠ "java/lang/invoke/VarHandle" ∧ (parseMethodDescriptor yL_stroke.desc).map (fun d => d.parameters.length) = some 5) := ⟨cw_g (cw_c cwl803 (cw_c cwl804 (cw_c cwl74 (cw_c cwl805 fun _ h => h)))), by decide, by decide, by decide +kernel⟩
theorem dlw_1621 : decode cL_law 1621 = .ok (.invokestatic 316, 3) := by decide +kernel
theorem gx_strokes : GoodIn en_cw (va_wsS RL 316 yL_strokes (Cond.codeWith yL_strokes cL_strokes 4 (some .int) [(0, 9, 12, 23), (0, 9, 15, 15)] :: en_cw)) ∧ (yL_strokes.cls ≠ "java/lang/invoke/MethodHandle" ∧ yL_strokes.cls ≠ "java/lang/invoke/VarHandle" ∧ (parseMethodDescriptor yL_strokes.desc).map (fun d => d.parameters.length) = some 3) := ⟨cw_g (cw_c cwl1131 (cw_c cwl1132 (cw_c cwl74 (cw_c cwl1133 fun _ h => h)))), by decide, by decide, by decide +kernel⟩
theorem dlw_1415 : decode cL_law 1415 = .ok (.invokestatic 296, 3) := by decide +kernel
theorem gx_suspend : GoodIn en_cw (va_wsS RL 296 yL_suspend (Cond.codeWith yL_suspend cL_suspend 4 (some .int) [(0, 16, 19, 15)] :: en_cw)) ∧ (yL_suspend.cls ≠ "java/lang/invoke/MethodHandle" ∧ yL_suspend.cls ≠ "java/lang/invoke/VarHandle" ∧ (parseMethodDescriptor yL_suspend.desc).map (fun d => d.parameters.length) = some 3) := ⟨cw_g (cw_c cwl1043 (cw_c cwl1044 (cw_c cwl74 (cw_c cwl1045 fun _ h => h)))), by decide, by decide, by decide +kernel⟩
theorem dlw_1947 : decode cL_law 1947 = .ok (.invokestatic 349, 3) := by decide +kernel
theorem gx_together : GoodIn en_cw (va_wsS RL 349 yL_together (Cond.codeWith yL_together cL_together 5 (some .int) [(0, 10, 13, 23), (0, 10, 17, 13), (0, 10, 21, 54)] :: en_cw)) ∧ (yL_together.cls ≠ "java/lang/invoke/MethodHandle" ∧ yL_together.cls ≠ "java/lang/invoke/VarHandle" ∧ (parseMethodDescriptor yL_together.desc).map (fun d => d.parameters.length) = some 4) := ⟨cw_g (cw_c cwl1248 (cw_c cwl1249 (cw_c cwl74 (cw_c cwl1250 fun _ h => h)))), by decide, by decide, by decide +kernel⟩
theorem dlw_1857 : decode cL_law 1857 = .ok (.invokestatic 340, 3) := by decide +kernel
theorem gx_total : GoodIn en_cw (va_wsS RL 340 yL_total (Cond.codeWith yL_total cL_total 4 (some .int) [(0, 9, 12, 23), (0, 9, 15, 54)] :: en_cw)) ∧ (yL_total.cls ≠ "java/lang/invoke/MethodHandle" ∧ yL_total.cls ≠ "java/lang/invoke/VarHandle" ∧ (parseMethodDescriptor yL_total.desc).map (fun d => d.parameters.length) = some 3) := ⟨cw_g (cw_c cwl1210 (cw_c cwl1211 (cw_c cwl74 (cw_c cwl1212 fun _ h => h)))), by decide, by decide, by decide +kernel⟩
theorem dlw_1739 : decode cL_law 1739 = .ok (.invokestatic 328, 3) := by decide +kernel
theorem gx_up : GoodIn en_cw (va_wsS RL 328 yL_up (Cond.codeWith yL_up cL_up 3 (some .int) [(0, 8, 11, 17)] :: en_cw)) ∧ (yL_up.cls ≠ "java/lang/invoke/MethodHandle" ∧ yL_up.cls ≠ "java/lang/invoke/VarHandle" ∧ (parseMethodDescriptor yL_up.desc).map (fun d => d.parameters.length) = some 2) := ⟨cw_g (cw_c cwl1160 (cw_c cwl1161 (cw_c cwl74 (cw_c cwl1162 fun _ h => h)))), by decide, by decide, by decide +kernel⟩
theorem dlw_1789 : decode cL_law 1789 = .ok (.invokestatic 334, 3) := by decide +kernel
theorem gx_write : GoodIn en_cw (va_wsS RL 334 yL_write (Cond.codeWith yL_write cL_write 6 (some .int) [(0, 12, 15, 23), (0, 12, 19, 13), (0, 12, 23, 17)] :: en_cw)) ∧ (yL_write.cls ≠ "java/lang/invoke/MethodHandle" ∧ yL_write.cls ≠ "java/lang/invoke/VarHandle" ∧ (parseMethodDescriptor yL_write.desc).map (fun d => d.parameters.length) = some 5) := ⟨cw_g (cw_c cwl1182 (cw_c cwl1183 (cw_c cwl74 (cw_c cwl1184 fun _ h => h)))), by decide, by decide, by decide +kernel⟩
theorem dlw_1345 : decode cL_law 1345 = .ok (.invokestatic 290, 3) := by decide +kernel
theorem gx_wrongBall : GoodIn en_cw (va_wsS RL 290 yL_wrongBall (Cond.codeWith yL_wrongBall cL_wrongBall 5 (some .int) [(0, 10, 13, 23), (0, 10, 17, 15), (0, 10, 21, 17)] :: en_cw)) ∧ (yL_wrongBall.cls ≠ "java/lang/invoke/MethodHandle" ∧ yL_wrongBall.cls ≠ "java/lang/invoke/VarHandle" ∧ (parseMethodDescriptor yL_wrongBall.desc).map (fun d => d.parameters.length) = some 4) := ⟨cw_g (cw_c cwl1023 (cw_c cwl1024 (cw_c cwl74 (cw_c cwl1025 fun _ h => h)))), by decide, by decide, by decide +kernel⟩
theorem dlw_1205 : decode cL_law 1205 = .ok (.invokestatic 280, 3) := by decide +kernel
theorem gx_wrongPlace : GoodIn en_cw (va_wsS RL 280 yL_wrongPlace (Cond.codeWith yL_wrongPlace cL_wrongPlace 6 (some .int) [(0, 19, 22, 23), (0, 19, 26, 15), (0, 19, 30, 17)] :: en_cw)) ∧ (yL_wrongPlace.cls ≠ "java/lang/invoke/MethodHandle" ∧ yL_wrongPlace.cls ≠ "java/lang/invoke/VarHandle" ∧ (parseMethodDescriptor yL_wrongPlace.desc).map (fun d => d.parameters.length) = some 5) := ⟨cw_g (cw_c cwl989 (cw_c cwl990 (cw_c cwl74 (cw_c cwl991 fun _ h => h)))), by decide, by decide, by decide +kernel⟩
theorem dlw_2274 : decode cL_law 2274 = .ok (.invokevirtual 379, 3) := by decide +kernel
theorem gm_X6_checksum : en_CV en_cw RL 379 yX6_checksum RX6 cX6_checksum 6 (some .long) 0 := en_gv cwl375 cwl376 cwl377 cwl75 cwl378 ⟨rfl, by decide, by decide, by decide +kernel⟩
theorem dlw_2345 : decode cL_law 2345 = .ok (.invokevirtual 391, 3) := by decide +kernel
theorem gm_X6_isSound : en_CV en_cw RL 391 yX6_isSound RX6 cX6_isSound 3 (some .boolean) 0 := en_gv cwl385 cwl386 cwl387 cwl75 cwl388 ⟨rfl, by decide, by decide, by decide +kernel⟩
theorem dlw_621 : decode cL_law 621 = .ok (.invokevirtual 230, 3) := by decide +kernel
theorem gm_X6_setSeed : en_CV en_cw RL 230 yX6_setSeed RX6 cX6_setSeed 3 (some .int) 1 := en_gv cwl371 cwl372 cwl373 cwl75 cwl374 ⟨rfl, by decide, by decide, by decide +kernel⟩
