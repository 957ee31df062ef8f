/-! the start of a hole: plain rows, and rows that fit the new cup -/
theorem lw_KTp_eq : ∀ k, k ≠ 27 → en_KTp[k]? = en_KT[k]? := fun k h => by
  by_cases h35 : k = 35
  · subst h35
    rfl
  · exact lw_KT_eq 1 k h h35
theorem lw_27 : en_KT[27]? = some (.inr (0, 24, .inr en_V27)) ∧ en_KTp[27]? = some (.inr (0, 24, .inl (.inl (-2147483648, 2147483647, 0, 0)))) := ⟨rfl, rfl⟩
theorem lw_plain {tys : List (ClassId × FieldType)} {PP : Int32 → Int32 → Prop} {tk : List Nat} {sh : en_H} {ex : Nat → Prop} {w : va_W} (h : en_W PP en_KT tk sh tys ex w) : en_W PP en_KTp tk sh tys ex w := ⟨h.1, fun q k hq => by
  obtain ⟨e, a, b⟩ := h.2 q k hq
  refine ⟨e, a, fun hk hx => ?_⟩
  obtain ⟨kd, c1, c2⟩ := b hk hx
  by_cases e27 : k = 27
  · subst e27
    have e9 := Option.some.inj (c1.symm.trans lw_27.1)
    subst e9
    refine ⟨_, lw_27.2, ?_⟩
    rcases e with ⟨cA, n, f | f | f | f | f⟩ | o <;> first | exact c2.elim | skip
    exact ⟨c2.1, c2.2.1, fun j _ => ⟨en_lo _, en_hi _⟩⟩
  · exact ⟨kd, by rw [lw_KTp_eq k e27]; exact c1, c2⟩⟩
theorem lw_pzp {tys : List (ClassId × FieldType)} {PP : Int32 → Int32 → Prop} {tk : List Nat} {sh : en_H} {ex : Nat → Prop} {w : va_W} (h : en_W PP en_KTpz tk sh tys ex w) : en_W PP en_KTp tk sh tys ex w := ⟨h.1, fun q k hq => by
  obtain ⟨e, a, b⟩ := h.2 q k hq
  refine ⟨e, a, fun hk hx => ?_⟩
  obtain ⟨kd, c1, c2⟩ := b hk hx
  by_cases e35 : k = 35
  · subst e35
    have e9 := Option.some.inj (c1.symm.trans (show en_KTpz[35]? = some (.inr (2, 6, .inl (.inl (0, 0, 0, 0)))) from rfl))
    subst e9
    exact ⟨_, rfl, lw_z35 c2⟩
  · by_cases e27 : k = 27
    · subst e27
      exact ⟨kd, c1, c2⟩
    · exact ⟨kd, by rw [lw_KTp_eq k e27, ← lw_KT_eq 0 k e27 e35]; exact c1, c2⟩⟩
def lw_ni : en_D → Bool
  | .inr (_, _, .inr v) => v.2.isEmpty
  | _ => true
theorem lw_ni_ok {PP PP' : Int32 → Int32 → Prop} {sh : en_H} {tys : List (ClassId × FieldType)} {kd : en_D} {e : va_E} (h : lw_ni kd = true) (hc : en_C PP sh tys kd e) : en_C PP' sh tys kd e := by
  rcases kd with ⟨ci, ts⟩ | ⟨t0, len, (i | k | c) | v⟩ <;> rcases e with ⟨cA, n, f | f | f | f | f⟩ | ⟨co, fs⟩ <;> first | exact hc.elim | skip
  · exact hc
  · exact hc
  · exact hc
  · exact hc
  · obtain ⟨h1, h2, h3, h4⟩ := hc
    refine ⟨h1, h2, h3, h4.1, fun m hm => ?_⟩
    have e : v.2 = [] := List.isEmpty_iff.mp h
    rw [e] at hm
    exact absurd hm List.not_mem_nil
theorem lw_nik : ∀ k kd, k ≠ 27 → en_KT[k]? = some kd → lw_ni kd = true := fun k kd h27 hk => by
  have hall : (List.range 49).all (fun k => k == 27 || match en_KT[k]? with | some kd => lw_ni kd | none => true) = true := by decide +kernel
  have hlt : k < 49 := by
    have := (List.getElem?_eq_some_iff.mp hk).1
    have e : en_KT.length = 49 := rfl
    omega
  have h9 := List.all_eq_true.mp hall k (List.mem_range.mpr hlt)
  rw [hk] at h9
  simp only [Bool.or_eq_true, beq_iff_eq] at h9
  exact h9.resolve_left h27
theorem lw_fitW {tys : List (ClassId × FieldType)} {PP PP' : Int32 → Int32 → Prop} {tk : List Nat} {sh : en_H} {ex : Nat → Prop} {w : va_W} (h : en_W PP en_KTp tk sh tys ex w) (hf : ∀ q, sh.1[q]? = some 27 → ∃ (cB : ClassId) (n : Nat) (g : Nat → Int32), w[q]? = some (sh.2 q, .inl (cB, n, .inl g)) ∧ en_Inv PP' en_V27 g) : en_W PP' en_KT tk sh tys ex w := ⟨h.1, fun q k hq => by
  obtain ⟨e, a, b⟩ := h.2 q k hq
  refine ⟨e, a, fun hk hx => ?_⟩
  obtain ⟨kd, c1, c2⟩ := b hk hx
  by_cases e27 : k = 27
  · subst e27
    have e9 := Option.some.inj (c1.symm.trans lw_27.2)
    subst e9
    obtain ⟨cB, n, g, g1, g2⟩ := hf q hq
    have ee : e = .inl (cB, n, .inl g) := (Prod.mk.inj (Option.some.inj (a.symm.trans g1))).2
    subst ee
    exact ⟨_, lw_27.1, c2.1, c2.2.1, rfl, g2⟩
  · rw [lw_KTp_eq k e27] at c1
    exact ⟨kd, c1, lw_ni_ok (lw_nik k kd e27 c1) c2⟩⟩
def lw_hb (o : en_Pt) (b : Nat × Int × Int) : Bool := o.2.any fun f => f.1 == 0 && (f.2.1 == 0 && (f.2.2.1 == b.1 && (match o.1[f.2.2.2.1]? with | some (.inl r) => decide (b.2.1 ≤ r.1) && decide (r.2.1 ≤ b.2.2) | _ => false)))
theorem lw_hb_ok {PP : Int32 → Int32 → Prop} {Ω : Nat → en_H → va_W → Prop} {sh : en_H} {w : va_W} {A : Nat → Prop} {o : en_Pt} {ρ fs : List Value} {b : Nat × Int × Int} (h : lw_hb o b = true) (hD : va_D A w) (hw : w[0]? = some (sh.2 0, .inr (13, fs))) (h0 : ρ[0]? = some (.ref (sh.2 0))) (hPa : en_Pa PP Ω sh w o ρ) : lw_b fs b := by
  obtain ⟨f, hf, h9⟩ := List.any_eq_true.mp h
  obtain ⟨tag, a, b9, c, lo, hi⟩ := f
  obtain ⟨j, l9, h8⟩ := b
  simp only [Bool.and_eq_true, beq_iff_eq] at h9
  obtain ⟨rfl, rfl, rfl, h9⟩ := h9
  split at h9
  · next r hr =>
    simp only [Bool.and_eq_true, decide_eq_true_eq] at h9
    obtain ⟨v, v1, x, rfl, v2, v3⟩ := hPa.2.1 c _ hr
    obtain ⟨q, r9, ci, fs9, v9, b1, b2, b3, b4⟩ := hPa.2.2 _ hf
    have er : r9 = sh.2 0 := Value.ref.inj (Option.some.inj (b1.symm.trans h0))
    subst er
    have eq : q = 0 := hD.1 q 0 _ _ b2 hw rfl
    subst eq
    have e9 : fs9 = fs := (Prod.mk.inj (Sum.inr.inj (Prod.mk.inj (Option.some.inj (b2.symm.trans hw))).2)).2
    subst e9
    have ex : v9 = .int x := Option.some.inj (b4.symm.trans v1)
    subst ex
    exact ⟨x, b3, Int.le_trans h9.1 v2, Int.le_trans v3 h9.2⟩
  · cases h9
theorem lw_bk {fs fs' : List Value} {j : Nat} {lo hi lo' hi' : Int} (h : lw_b fs (j, lo, hi)) (he : fs'[j]? = fs[j]?) (h1 : lo' ≤ lo) (h2 : hi ≤ hi') : lw_b fs' (j, lo', hi') := by
  obtain ⟨x, a, b, c⟩ := h
  exact ⟨x, he.trans a, Int.le_trans h1 b, Int.le_trans c h2⟩
section
variable {tys : List (ClassId × FieldType)} {cO cD : ClassId} {A : Nat → Prop} {sh : en_H} {w : va_W} {qx qo qd : Nat} {E : Int32 → Int32 → Prop} {LP : en_H → va_W → Prop} {st : Nat} {cx cy : Int32} {fs fs' : List Value} {tk : List Nat} {md : List (Nat × Nat)} {u : en_H × va_W}
/-- every ball fits, said at the world alone -/
theorem lw_O2 (I : lw_I E LP tys cO cD qx qo qd sh w st cx cy fs) (h3 : 3 ≤ st) : en_O2 w := by
  obtain ⟨hW, hw, hB, ⟨m0, cM, fs9, hn, o1, o2, o3, o4⟩, hon⟩ := I.hs
  obtain ⟨-, hOc, hAh⟩ := hon h3
  have ee := Option.some.inj (o1.symm.trans hw)
  simp only [Prod.mk.injEq, Sum.inr.injEq] at ee
  obtain ⟨rfl, rfl, rfl⟩ := ee
  refine ⟨cx, cy, hOc, sh.2 0, 13, fs9, hw, fun j hj => ?_, ?_⟩
  · obtain ⟨b, hb⟩ := o4 j hj
    obtain ⟨a, cA, n, f, x, b1, b2, b3, b4⟩ := hb
    obtain ⟨e, a1, a2⟩ := hW.2 (12 + j) 27 (I.h27b j hj)
    obtain ⟨kd, c1, c2⟩ := a2 (by decide) (fun z => z)
    have hk : (lw_KT st)[27]? = en_KT[27]? := by
      match st, h3 with
      | n + 3, _ => rfl
    rw [hk] at c1
    have e9 := Option.some.inj (c1.symm.trans lw_27.1)
    subst e9
    have ee := Option.some.inj (a1.symm.trans b4)
    simp only [Prod.mk.injEq] at ee
    obtain ⟨eb, rfl⟩ := ee
    rcases x with ⟨cB, n9, g | g | g | g | g⟩ <;> first | exact c2.elim | skip
    exact ⟨b, cB, n9, g, ⟨a, cA, n, f, _, b1, b2, b3, b4⟩, b4, c2.2.2.2⟩
  · rcases hAh with ⟨a, cA, n, g, g1, g2, g3⟩ | h
    · exact Or.inr ⟨a, cA, n, g, g1, g2, g3⟩
    · exact Or.inl h
/-- out of the world alone: the state on -/
theorem lw_on2 (h27 : ∀ q, sh.1[q]? = some 27 → 12 ≤ q ∧ q < 18) (hw : w[0]? = some (sh.2 0, .inr (13, fs))) {PP : Int32 → Int32 → Prop} (hW : en_W PP en_KTp lw_TK sh tys (fun _ => False) w) (h1 : en_O1 w) (h2 : en_O2 w) (hst : 3 ≤ st) (hB : ∀ b ∈ lw_B st, lw_b fs b) (hh : ∃ h n : Int32, fs[25]? = some (.int h) ∧ fs[16]? = some (.int n) ∧ h.toInt < n.toInt) : ∃ cx cy, lw_S tys st cx cy sh w fs := by
  obtain ⟨cx, cy, hOc, m0, cM, fs9, o1, o2, o3⟩ := h2
  have ee := Option.some.inj (o1.symm.trans hw)
  simp only [Prod.mk.injEq, Sum.inr.injEq] at ee
  obtain ⟨rfl, rfl, rfl⟩ := ee
  have hk : lw_KT st = en_KT := by
    match st, hst with
    | n + 3, _ => rfl
  refine ⟨cx, cy, ?_, hw, hB, h1, fun _ => ⟨hh, hOc, ?_⟩⟩
  · rw [hk]
    refine lw_fitW hW fun q hq => ?_
    obtain ⟨a1, a2⟩ := h27 q hq
    obtain ⟨j, rfl⟩ : ∃ j, q = 12 + j := ⟨q - 12, by omega⟩
    obtain ⟨b, cB, n, g, -, g2, g3⟩ := o2 j (by omega)
    obtain ⟨e, z1, -⟩ := hW.2 (12 + j) 27 hq
    have eb : b = sh.2 (12 + j) := (Prod.mk.inj (Option.some.inj (g2.symm.trans z1))).1
    subst eb
    exact ⟨cB, n, g, g2, g3⟩
  · rcases o3 with h | ⟨a, cA, n, g, g1, g2, g3⟩
    · exact Or.inr h
    · exact Or.inl ⟨a, cA, n, g, g1, g2, g3⟩
/-- off again -/
theorem lw_off2 (hw : w[0]? = some (sh.2 0, .inr (13, fs))) (hW : en_W (en_Pc cx cy) (lw_KT st) lw_TK sh tys (fun _ => False) w) (h1 : en_O1 w) (hst : ¬ 3 ≤ st) (hB : ∀ b ∈ lw_B st, lw_b fs b) : lw_S tys st cx cy sh w fs := ⟨hW, hw, hB, h1, fun h => absurd h hst⟩
theorem lw_hh {lo hi lo' hi' : Int} (h1 : lw_b fs (25, lo, hi)) (h2 : lw_b fs (16, lo', hi')) (h : hi < lo') : ∃ h n : Int32, fs[25]? = some (.int h) ∧ fs[16]? = some (.int n) ∧ h.toInt < n.toInt := by
  obtain ⟨x, a1, a2, a3⟩ := h1
  obtain ⟨y, b1, b2, b3⟩ := h2
  refine ⟨x, y, a1, b1, ?_⟩
  have a3 : x.toInt ≤ hi := a3
  have b2 : lo' ≤ y.toInt := b2
  omega
end
theorem lw_chr {x : Int32} (h : (0 : Int) ≤ x.toInt ∧ x.toInt ≤ 65535) : ((109 : Int) ≤ x.toInt ∧ x.toInt ≤ 109) ∨ ((115 : Int) ≤ x.toInt ∧ x.toInt ≤ 115) ∨ ((0 : Int) ≤ x.toInt ∧ x.toInt ≤ 108) ∨ ((110 : Int) ≤ x.toInt ∧ x.toInt ≤ 114) ∨ ((116 : Int) ≤ x.toInt ∧ x.toInt ≤ 65535) := by omega
