/-! calls of the model out of the law -/
theorem lw_qoff {st : Nat} {md : List (Nat × Nat)} {tk : List Nat} (h : ¬ 3 ≤ st) (hq : (lw_qt 0 md tk && lw_qt 1 md tk && lw_qt 2 md tk) = true) : lw_qt st md tk = true := by
  simp only [Bool.and_eq_true] at hq
  match st, h with
  | 0, _ => exact hq.1.1
  | 1, _ => exact hq.1.2
  | 2, _ => exact hq.2
  | n + 3, h => exact absurd (Nat.le_add_left 3 n) h
theorem lw_qon {st : Nat} {md : List (Nat × Nat)} {tk : List Nat} (h : 3 ≤ st) (hq : lw_qt 3 md tk = true) : lw_qt st md tk = true := by
  match st, h with
  | n + 3, _ =>
    refine List.all_eq_true.mpr fun z hz => ?_
    have h9 := List.all_eq_true.mp hq z hz
    have e1 : (n + 3 == 0) = (3 == 0) := by simp
    have e2 : decide (n + 3 ≤ 2) = decide (3 ≤ 2) := by
      rw [decide_eq_decide]
      omega
    have e3 : decide (3 ≤ n + 3) = decide (3 ≤ 3) := by
      rw [decide_eq_decide]
      omega
    rw [e1, e2, e3]
    exact h9
section
variable {tys : List (ClassId × FieldType)} {cO cD : ClassId} {A : Nat → Prop} {sh : en_H} {w : va_W} {qx qo qd : Nat} {E : Int32 → Int32 → Prop} {LP : en_H → va_W → Prop} {st : Nat} {cx cy : Int32} {fs fs' : List Value} {tk : List Nat} {md : List (Nat × Nat)} {u : en_H × va_W}
theorem lw_w18 (I : lw_I E LP tys cO cD qx qo qd sh w st cx cy fs) : w.length = sh.1.length ∧ ∀ x, w[18]? = some x → x.1 = sh.2 18 := ⟨I.hs.1.1, fun x hx => by
  obtain ⟨e9, a1, -⟩ := I.hs.1.2 18 28 I.h28
  rw [Option.some.inj (hx.symm.trans a1)]⟩
theorem lw_ahA (I : lw_I E LP tys cO cD qx qo qd sh w st cx cy fs) (h : en_Px tys (en_Pc cx cy) en_KT tk md sh w u) (hw' : u.2[0]? = some (u.1.2 0, .inr (13, fs'))) (hm : (20, 4) ∉ md ∧ (28, 0) ∉ md) (hA : ∃ (a : Nat) (cA : ClassId) (n : Nat) (g : Nat → Int32), fs[4]? = some (.ref a) ∧ w[18]? = some (a, .inl (cA, n, .inl g)) ∧ en_Inv (en_Pc cx cy) en_V27 g) : lw_ah cx cy fs' u.2 := by
  obtain ⟨fs9, g1, g2⟩ := lw_fs I.h20 I.hs.2.1 h
  have e9 : fs9 = fs' := by
    have := Option.some.inj (g1.symm.trans hw')
    exact (Prod.mk.inj (Sum.inr.inj (Prod.mk.inj this).2)).2
  subst e9
  obtain ⟨a, cA, n, g, a1, a2, a3⟩ := hA
  refine Or.inl ⟨a, cA, n, g, (g2 4 hm.1).trans a1, ?_, a3⟩
  have ea : a = sh.2 18 := (lw_w18 I).2 _ a2
  subst ea
  exact wr_keep h I.h28 hm.2 a2
theorem lw_last {κ : en_K} {ρ : List Value} {res : Option Value} (I : lw_I E LP tys cO cD qx qo qd sh w st cx cy fs) (ha : κ.2.2.1.all lw_l28 = true) (hD : va_D A u.2) (hw' : u.2[0]? = some (u.1.2 0, .inr (13, fs'))) (h : en_Po tys (en_Pc cx cy) (en_Of cx cy) en_KT κ sh w ρ res u) (hn : 0 < κ.1) (h0 : ρ[0]? = some (.ref (sh.2 0))) : fs'[28]? = some (.int (-1)) := by
  obtain ⟨hpx, o, ho, ρ', h1, h2, -⟩ := h
  refine lw_l28_ok (List.all_eq_true.mp ha o ho) hD hw' ?_ h1
  rw [h2 0 hn, (hpx.1.at I.h20).2]
  exact h0
end
theorem lw_stc {st : Nat} (h : st ≤ 4) : st = 0 ∨ st = 1 ∨ st = 2 ∨ st = 3 ∨ st = 4 := by omega
theorem lw_k16 {x : Int32} (h1 : (1 : Int) ≤ x.toInt) (h2 : x.toInt ≤ 9) : x.toInt = 1 ∨ x.toInt = 2 ∨ x.toInt = 3 ∨ x.toInt = 4 ∨ x.toInt = 5 ∨ x.toInt = 6 ∨ x.toInt = 7 ∨ x.toInt = 8 ∨ x.toInt = 9 := by omega
theorem lw_z35 {PP : Int32 → Int32 → Prop} {sh : en_H} {tys : List (ClassId × FieldType)} {e : va_E} (h : en_C PP sh tys (.inr (2, 6, .inl (.inl (0, 0, 0, 0)))) e) : en_C PP sh tys (.inr (2, 6, .inl (.inl (0, 1, 0, 0)))) e := by
  rcases e with ⟨cA, n, f | f | f | f | f⟩ | o <;> first | exact h.elim | skip
  obtain ⟨d1, d2, d3⟩ := h
  refine ⟨d1, d2, fun j hj => ?_⟩
  have d4 := d3 j hj
  have e1 : (0 : Int) ≤ (f j).toInt := d4.1
  have e2 : (f j).toInt ≤ 0 := d4.2
  exact ⟨e1, by show (f j).toInt ≤ 1; omega⟩
theorem lw_KTz_eq : (∀ k, k ≠ 35 → en_KTz[k]? = en_KT[k]?) ∧ ∀ k, k ≠ 27 → en_KTpz[k]? = en_KTz[k]? := by
  have h2 : ∀ k, ¬ k < 49 → en_KTpz[k]? = none ∧ en_KTz[k]? = none ∧ en_KT[k]? = none := fun k hk => ⟨List.getElem?_eq_none (by have : en_KTpz.length = 49 := rfl; omega), List.getElem?_eq_none (by have : en_KTz.length = 49 := rfl; omega), List.getElem?_eq_none (by have : en_KT.length = 49 := rfl; omega)⟩
  refine ⟨fun k h1 => ?_, fun k h1 => ?_⟩
  · by_cases hk : k < 49
    · match k, hk with
      | 0, _ => rfl
      | 1, _ => rfl
      | 2, _ => rfl
      | 3, _ => rfl
      | 4, _ => rfl
      | 5, _ => rfl
      | 6, _ => rfl
      | 7, _ => rfl
      | 8, _ => rfl
      | 9, _ => rfl
      | 10, _ => rfl
      | 11, _ => rfl
      | 12, _ => rfl
      | 13, _ => rfl
      | 14, _ => rfl
      | 15, _ => rfl
      | 16, _ => rfl
      | 17, _ => rfl
      | 18, _ => rfl
      | 19, _ => rfl
      | 20, _ => rfl
      | 21, _ => rfl
      | 22, _ => rfl
      | 23, _ => rfl
      | 24, _ => rfl
      | 25, _ => rfl
      | 26, _ => rfl
      | 27, _ => rfl
      | 28, _ => rfl
      | 29, _ => rfl
      | 30, _ => rfl
      | 31, _ => rfl
      | 32, _ => rfl
      | 33, _ => rfl
      | 34, _ => rfl
      | 35, _ => exact absurd rfl h1
      | 36, _ => rfl
      | 37, _ => rfl
      | 38, _ => rfl
      | 39, _ => rfl
      | 40, _ => rfl
      | 41, _ => rfl
      | 42, _ => rfl
      | 43, _ => rfl
      | 44, _ => rfl
      | 45, _ => rfl
      | 46, _ => rfl
      | 47, _ => rfl
      | 48, _ => rfl
      | n + 49, hk => omega
    · exact (h2 k hk).2.1.trans (h2 k hk).2.2.symm
  · by_cases hk : k < 49
    · match k, hk with
      | 0, _ => rfl
      | 1, _ => rfl
      | 2, _ => rfl
      | 3, _ => rfl
      | 4, _ => rfl
      | 5, _ => rfl
      | 6, _ => rfl
      | 7, _ => rfl
      | 8, _ => rfl
      | 9, _ => rfl
      | 10, _ => rfl
      | 11, _ => rfl
      | 12, _ => rfl
      | 13, _ => rfl
      | 14, _ => rfl
      | 15, _ => rfl
      | 16, _ => rfl
      | 17, _ => rfl
      | 18, _ => rfl
      | 19, _ => rfl
      | 20, _ => rfl
      | 21, _ => rfl
      | 22, _ => rfl
      | 23, _ => rfl
      | 24, _ => rfl
      | 25, _ => rfl
      | 26, _ => rfl
      | 27, _ => exact absurd rfl h1
      | 28, _ => rfl
      | 29, _ => rfl
      | 30, _ => rfl
      | 31, _ => rfl
      | 32, _ => rfl
      | 33, _ => rfl
      | 34, _ => rfl
      | 35, _ => rfl
      | 36, _ => rfl
      | 37, _ => rfl
      | 38, _ => rfl
      | 39, _ => rfl
      | 40, _ => rfl
      | 41, _ => rfl
      | 42, _ => rfl
      | 43, _ => rfl
      | 44, _ => rfl
      | 45, _ => rfl
      | 46, _ => rfl
      | 47, _ => rfl
      | 48, _ => rfl
      | n + 49, hk => omega
    · exact (h2 k hk).1.trans (h2 k hk).2.1.symm
theorem lw_zx {tys : List (ClassId × FieldType)} {PP : Int32 → Int32 → Prop} {tk : List Nat} {md : List (Nat × Nat)} {sh : en_H} {w : va_W} {u : en_H × va_W} (h : en_Px tys PP en_KTz tk md sh w u) : en_Px tys PP en_KT tk md sh w u := ⟨h.1, ⟨h.2.1.1, fun q k hq => by
  obtain ⟨e, a, b⟩ := h.2.1.2 q k hq
  refine ⟨e, a, fun hk hx => ?_⟩
  obtain ⟨kd, c1, c2⟩ := b hk hx
  by_cases e35 : k = 35
  · subst e35
    have e9 := Option.some.inj (c1.symm.trans (show en_KTz[35]? = some (.inr (2, 6, .inl (.inl (0, 0, 0, 0)))) from rfl))
    subst e9
    exact ⟨_, rfl, lw_z35 c2⟩
  · exact ⟨kd, by rw [← lw_KTz_eq.1 k e35]; exact c1, c2⟩⟩, h.2.2⟩
theorem lw_preZ {tys : List (ClassId × FieldType)} {PP : Int32 → Int32 → Prop} {tk : List Nat} {sh : en_H} {w : va_W} (h : en_W PP (lw_KT 0) lw_TK sh tys (fun _ => False) w) (hs : ∀ k ∈ tk, k < 49 ∧ k ≠ 39 ∧ k ≠ 46) (h27 : 27 ∉ tk) : en_W PP en_KTz tk sh tys (fun _ => False) w := (lw_tk h fun k hk => lw_mTK (hs k hk)).kt fun k hk => lw_KTz_eq.2 k fun e => h27 (e ▸ hk)
