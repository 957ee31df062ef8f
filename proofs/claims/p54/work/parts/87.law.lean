/-! the law's invariant: the model's part -/
theorem lw_Fc0 {md : List (Nat × Nat)} {k : Nat} {e0 e : va_E} (h : en_Fc md k e0 e) (hm : ∀ z ∈ md, z.1 ≠ k) : e = e0 := by
  rcases e0 with x0 | o0 <;> rcases e with x | o
  · have e9 := h.2.2 (fun z => hm _ z rfl)
    rw [e9]
  · exact h.elim
  · exact h.elim
  · obtain ⟨h1, h2, h3⟩ := h
    obtain ⟨c, fs⟩ := o
    obtain ⟨c0, fs0⟩ := o0
    have e1 : c = c0 := h1
    have e2 : fs = fs0 := List.ext_getElem? fun j => h3 j (fun z => hm _ z rfl)
    rw [e1, e2]
theorem lw_wd {tys : List (ClassId × FieldType)} {PP : Int32 → Int32 → Prop} {K0 K1 : List en_D} {TK tk : List Nat} {md : List (Nat × Nat)} {sh : en_H} {w : va_W} {u : en_H × va_W} (hW : en_W PP K0 TK sh tys (fun _ => False) w) (h : en_Px tys PP K1 tk md sh w u) (hm : ∀ z ∈ md, z.1 ∈ tk ∨ z.1 ∉ TK) (hk : ∀ k, K0[k]? = K1[k]? ∨ ((∀ z ∈ md, z.1 ≠ k) ∧ ¬ en_nk k)) : en_W PP K0 TK u.1 tys (fun _ => False) u.2 := by
  obtain ⟨hg, hW1, hF⟩ := h
  refine ⟨hW1.1, fun q k hq => ?_⟩
  obtain ⟨e, a1, a2⟩ := hW1.2 q k hq
  refine ⟨e, a1, fun hT _ => ?_⟩
  obtain ⟨⟨t, ht, ht2⟩, hg2⟩ := hg
  have hg : en_Gr tk sh u.1 := ⟨⟨t, ht, ht2⟩, hg2⟩
  rcases Nat.lt_or_ge q sh.1.length with hlt | hge
  · rw [ht, List.getElem?_append_left hlt] at hq
    obtain ⟨e0, b1, b2⟩ := hW.2 q k hq
    obtain ⟨e9, c1, c2⟩ := hF q k e0 hq b1
    have hqq := hg.at hq
    have ee : e9 = e := (Prod.mk.inj (Option.some.inj (c1.symm.trans a1))).2
    subst ee
    obtain ⟨kd, d1, d2⟩ := b2 hT (fun z => z)
    by_cases hz : ∀ z ∈ md, z.1 ≠ k
    · have e3 := lw_Fc0 c2 hz
      subst e3
      exact ⟨kd, d1, d2.gr hg⟩
    · rcases hk k with h9 | h9
      · have hktk : k ∈ tk := by
          refine Classical.byContradiction fun hn => hz fun z hz1 hz2 => hn ?_
          rcases hm z hz1 with h8 | h8
          · rw [← hz2]
            exact h8
          · exact absurd (hz2 ▸ hT) h8
        obtain ⟨kd1, f1, f2⟩ := a2 hktk (fun z => z)
        exact ⟨kd1, by rw [h9]; exact f1, f2⟩
      · exact absurd h9.1 hz
  · rw [ht, List.getElem?_append_right hge] at hq
    obtain ⟨t1, t2⟩ := ht2 k (List.mem_of_getElem? hq)
    obtain ⟨kd1, f1, f2⟩ := a2 t1 (fun z => z)
    rcases hk k with h9 | h9
    · exact ⟨kd1, by rw [h9]; exact f1, f2⟩
    · exact absurd t2 h9.2
theorem lw_tk {tys : List (ClassId × FieldType)} {PP : Int32 → Int32 → Prop} {K0 : List en_D} {TK tk : List Nat} {sh : en_H} {ex : Nat → Prop} {w : va_W} (h : en_W PP K0 TK sh tys ex w) (hs : ∀ k ∈ tk, k ∈ TK) : en_W PP K0 tk sh tys ex w := ⟨h.1, fun q k hq => by
  obtain ⟨e, a, b⟩ := h.2 q k hq
  exact ⟨e, a, fun hk => b (hs k hk)⟩⟩
/-- all kinds but the lists' (39, 46, 49, 54) and the out arrays' -/
def lw_TK : List Nat := (List.range 49).filter fun k => k != 39 && k != 46
theorem lw_mTK {k : Nat} (h : k < 49 ∧ k ≠ 39 ∧ k ≠ 46) : k ∈ lw_TK := List.mem_filter.mpr ⟨List.mem_range.mpr h.1, by simp only [Bool.and_eq_true, bne_iff_ne]; exact h.2⟩
theorem lw_lTK {k : Nat} (h : k ∈ lw_TK) : k < 49 := List.mem_range.mp (List.mem_filter.mp h).1
/-- the kinds in a state: 0 not begun; 1, 2 between rounds (format s, m); 3, 4 on -/
def lw_KT : Nat → List en_D
  | 0 => en_KTpz
  | 1 => en_KTp
  | 2 => en_KTp
  | _ => en_KT
/-- what the model's own fields hold -/
def lw_B : Nat → List (Nat × Int × Int)
  | 0 => [(22, 0, 0), (21, 0, 0), (20, 0, 0), (16, 0, 9)]
  | 1 => [(22, 0, 0), (21, 1, 1), (20, 115, 115), (16, 1, 9)]
  | 2 => [(22, 0, 0), (21, 1, 1), (20, 109, 109), (16, 1, 9), (17, 2, 2)]
  | 3 => [(22, 1, 1), (21, 1, 1), (20, 115, 115), (16, 1, 9), (25, 0, 8)]
  | _ => [(22, 1, 1), (21, 1, 1), (20, 109, 109), (16, 1, 9), (17, 2, 2), (25, 0, 8)]
def lw_b (fs : List Value) (b : Nat × Int × Int) : Prop := ∃ x : Int32, fs[b.1]? = some (.int x) ∧ b.2.1 ≤ x.toInt ∧ x.toInt ≤ b.2.2
/-- the ball ahead fits, or no stroke may be cancelled -/
def lw_ah (cx cy : Int32) (fs : List Value) (w : va_W) : Prop := (∃ (a : Nat) (cA : ClassId) (n : Nat) (g : Nat → Int32), fs[4]? = some (.ref a) ∧ w[18]? = some (a, .inl (cA, n, .inl g)) ∧ en_Inv (en_Pc cx cy) en_V27 g) ∨ fs[28]? = some (.int (-1))
def lw_on (cx cy : Int32) (fs : List Value) (w : va_W) : Prop := (∃ h n : Int32, fs[25]? = some (.int h) ∧ fs[16]? = some (.int n) ∧ h.toInt < n.toInt) ∧ en_Oc cx cy w ∧ lw_ah cx cy fs w
/-- the model in a state -/
def lw_S (tys : List (ClassId × FieldType)) (st : Nat) (cx cy : Int32) (sh : en_H) (w : va_W) (fs : List Value) : Prop :=
  en_W (en_Pc cx cy) (lw_KT st) lw_TK sh tys (fun _ => False) w ∧ w[0]? = some (sh.2 0, .inr (13, fs)) ∧ (∀ b ∈ lw_B st, lw_b fs b) ∧ en_O1 w ∧ (3 ≤ st → lw_on cx cy fs w)
/-- the fields that a state looks at -/
def lw_fl : Nat → List Nat
  | 0 => [16, 20, 21, 22]
  | 1 => [16, 20, 21, 22]
  | _ => [16, 17, 20, 21, 22, 25]
/-- what a method leaves alone that says nothing of the state -/
def lw_qt (st : Nat) (md : List (Nat × Nat)) (tk : List Nat) : Bool := md.all fun z => (tk.contains z.1 || decide (49 ≤ z.1)) && !(z.1 == 35 && st == 0) && !(z.1 == 27 && st ≤ 2) && !en_om0.contains (1, z) && !(3 ≤ st && en_om0.contains (0, z)) && !(z.1 == 20 && (lw_fl st).contains z.2)
theorem lw_KT_eq : ∀ st k, k ≠ 27 → k ≠ 35 → (lw_KT st)[k]? = en_KT[k]? := by
  have h0 : ∀ k, k < 49 → k ≠ 27 → k ≠ 35 → en_KTpz[k]? = en_KT[k]? := fun k hk h1 h2 => by
    match k, hk with
    | 0, _ => rfl
    | 1, _ => rfl
    | 2, _ => rfl
    | 3, _ => rfl
    | 4, _ => rfl
    | 5, _ => rfl
    | 6, _ => rfl
    | 7, _ => rfl
    | 8, _ => rfl
    | 9, _ => rfl
    | 10, _ => rfl
    | 11, _ => rfl
    | 12, _ => rfl
    | 13, _ => rfl
    | 14, _ => rfl
    | 15, _ => rfl
    | 16, _ => rfl
    | 17, _ => rfl
    | 18, _ => rfl
    | 19, _ => rfl
    | 20, _ => rfl
    | 21, _ => rfl
    | 22, _ => rfl
    | 23, _ => rfl
    | 24, _ => rfl
    | 25, _ => rfl
    | 26, _ => rfl
    | 27, _ => exact absurd rfl h1
    | 28, _ => rfl
    | 29, _ => rfl
    | 30, _ => rfl
    | 31, _ => rfl
    | 32, _ => rfl
    | 33, _ => rfl
    | 34, _ => rfl
    | 35, _ => exact absurd rfl h2
    | 36, _ => rfl
    | 37, _ => rfl
    | 38, _ => rfl
    | 39, _ => rfl
    | 40, _ => rfl
    | 41, _ => rfl
    | 42, _ => rfl
    | 43, _ => rfl
    | 44, _ => rfl
    | 45, _ => rfl
    | 46, _ => rfl
    | 47, _ => rfl
    | 48, _ => rfl
    | n + 49, hk => omega
  have h1 : ∀ k, k < 49 → k ≠ 27 → en_KTp[k]? = en_KT[k]? := fun k hk h1 => by
    match k, hk with
    | 0, _ => rfl
    | 1, _ => rfl
    | 2, _ => rfl
    | 3, _ => rfl
    | 4, _ => rfl
    | 5, _ => rfl
    | 6, _ => rfl
    | 7, _ => rfl
    | 8, _ => rfl
    | 9, _ => rfl
    | 10, _ => rfl
    | 11, _ => rfl
    | 12, _ => rfl
    | 13, _ => rfl
    | 14, _ => rfl
    | 15, _ => rfl
    | 16, _ => rfl
    | 17, _ => rfl
    | 18, _ => rfl
    | 19, _ => rfl
    | 20, _ => rfl
    | 21, _ => rfl
    | 22, _ => rfl
    | 23, _ => rfl
    | 24, _ => rfl
    | 25, _ => rfl
    | 26, _ => rfl
    | 27, _ => exact absurd rfl h1
    | 28, _ => rfl
    | 29, _ => rfl
    | 30, _ => rfl
    | 31, _ => rfl
    | 32, _ => rfl
    | 33, _ => rfl
    | 34, _ => rfl
    | 35, _ => rfl
    | 36, _ => rfl
    | 37, _ => rfl
    | 38, _ => rfl
    | 39, _ => rfl
    | 40, _ => rfl
    | 41, _ => rfl
    | 42, _ => rfl
    | 43, _ => rfl
    | 44, _ => rfl
    | 45, _ => rfl
    | 46, _ => rfl
    | 47, _ => rfl
    | 48, _ => rfl
    | n + 49, hk => omega
  have h2 : ∀ k, ¬ k < 49 → en_KTpz[k]? = none ∧ en_KTp[k]? = none ∧ en_KT[k]? = none := fun k hk => ⟨List.getElem?_eq_none (by have : en_KTpz.length = 49 := rfl; omega), List.getElem?_eq_none (by have : en_KTp.length = 49 := rfl; omega), List.getElem?_eq_none (by have : en_KT.length = 49 := rfl; omega)⟩
  intro st k h27 h35
  by_cases hk : k < 49
  · match st with
    | 0 => exact h0 k hk h27 h35
    | 1 => exact h1 k hk h27
    | 2 => exact h1 k hk h27
    | n + 3 => rfl
  · obtain ⟨a, b, c⟩ := h2 k hk
    match st with
    | 0 => exact a.trans c.symm
    | 1 => exact b.trans c.symm
    | 2 => exact b.trans c.symm
    | n + 3 => rfl
theorem lw_KT35 : ∀ st, st ≠ 0 → (lw_KT st)[35]? = en_KT[35]? := fun st h => by
  match st with
  | 0 => exact absurd rfl h
  | 1 => rfl
  | 2 => rfl
  | n + 3 => rfl
/-- the kinds as a contract wants them -/
theorem lw_pre {tys : List (ClassId × FieldType)} {st : Nat} {PP : Int32 → Int32 → Prop} {tk : List Nat} {sh : en_H} {w : va_W} (h : en_W PP (lw_KT st) lw_TK sh tys (fun _ => False) w) (hs : ∀ k ∈ tk, k < 49 ∧ k ≠ 39 ∧ k ≠ 46) (h27 : 3 ≤ st ∨ 27 ∉ tk) : en_W PP en_KT tk sh tys (fun _ => False) w := ⟨h.1, fun q k hq => by
  obtain ⟨e, a, b⟩ := h.2 q k hq
  refine ⟨e, a, fun hk hx => ?_⟩
  obtain ⟨kd, c1, c2⟩ := b (lw_mTK (hs k hk)) hx
  by_cases e27 : k = 27
  · rcases h27 with h | h
    · match st, h with
      | n + 3, _ => exact ⟨kd, c1, c2⟩
    · exact absurd (e27 ▸ hk) h
  · by_cases e35 : k = 35
    · subst e35
      match st with
      | 0 =>
        have e9 := Option.some.inj (c1.symm.trans (show (lw_KT 0)[35]? = some (.inr (2, 6, .inl (.inl (0, 0, 0, 0)))) from rfl))
        subst e9
        refine ⟨.inr (2, 6, .inl (.inl (0, 1, 0, 0))), rfl, ?_⟩
        rcases e with ⟨cA, n, f | f | f | f | f⟩ | o <;> first | exact c2.elim | skip
        obtain ⟨d1, d2, d3⟩ := c2
        refine ⟨d1, d2, fun j hj => ?_⟩
        have d4 := d3 j hj
        have e1 : (0 : Int) ≤ (f j).toInt := d4.1
        have e2 : (f j).toInt ≤ 0 := d4.2
        exact ⟨e1, by show (f j).toInt ≤ 1; omega⟩
      | 1 => exact ⟨kd, by rw [← lw_KT35 1 (by decide)]; exact c1, c2⟩
      | 2 => exact ⟨kd, by rw [← lw_KT35 2 (by decide)]; exact c1, c2⟩
      | n + 3 => exact ⟨kd, c1, c2⟩
    · exact ⟨kd, by rw [← lw_KT_eq st k e27 e35]; exact c1, c2⟩⟩
section
variable {tys : List (ClassId × FieldType)} {st : Nat} {cx cy : Int32} {sh : en_H} {w : va_W} {fs : List Value} {tk : List Nat} {md : List (Nat × Nat)} {u : en_H × va_W}
theorem lw_fs {PP : Int32 → Int32 → Prop} {KT : List en_D} (h20 : sh.1[0]? = some 20) (hw : w[0]? = some (sh.2 0, .inr (13, fs))) (h : en_Px tys PP KT tk md sh w u) : ∃ fs', u.2[0]? = some (u.1.2 0, .inr (13, fs')) ∧ ∀ j, (20, j) ∉ md → fs'[j]? = fs[j]? := by
  obtain ⟨e, a, b⟩ := h.2.2 0 20 _ h20 hw
  have hg := h.1.at h20
  rcases e with x | ⟨ci, fs'⟩
  · exact b.elim
  · obtain ⟨b1, b2, b3⟩ := b
    have b1 : ci = 13 := b1
    subst b1
    exact ⟨fs', by rw [hg.2]; exact a, b3⟩
theorem lw_ad {PP : Int32 → Int32 → Prop} {KT : List en_D} {ex : Nat → Prop} (hW : en_W PP KT tk sh tys ex w) (h20 : sh.1[0]? = some 20) (hlen : 19 ≤ sh.1.length) : en_ad sh w := fun q hq => by
  obtain ⟨e, a, -⟩ := hW.2 q _ (List.getElem?_eq_getElem (show q < sh.1.length by omega))
  exact ⟨e, a⟩
/-- the rest as it was, but for the ball ahead -/
theorem lw_q (h20 : sh.1[0]? = some 20) (hlen : 19 ≤ sh.1.length) (hO : en_Om en_om0 sh (en_Of cx cy)) (hS : lw_S tys st cx cy sh w fs) (h : en_Px tys (en_Pc cx cy) en_KT tk md sh w u) (hq : lw_qt st md tk = true) {fs' : List Value} (hw' : u.2[0]? = some (u.1.2 0, .inr (13, fs'))) (hA : 3 ≤ st → lw_ah cx cy fs' u.2) : lw_S tys st cx cy u.1 u.2 fs' := by
  have hpx9 := h
  obtain ⟨hW, hw, hB, h1, hon⟩ := hS
  have hq := List.all_eq_true.mp hq
  have hq' : ∀ z ∈ md, (z.1 ∈ tk ∨ 49 ≤ z.1) ∧ ¬ (z.1 = 35 ∧ st = 0) ∧ ¬ (z.1 = 27 ∧ st ≤ 2) ∧ (1, z) ∉ en_om0 ∧ ¬ (3 ≤ st ∧ (0, z) ∈ en_om0) ∧ ¬ (z.1 = 20 ∧ z.2 ∈ lw_fl st) := fun z hz => by
    have h9 := hq z hz
    simp only [Bool.and_eq_true, Bool.or_eq_true, Bool.not_eq_true', Bool.and_eq_false_iff, List.contains_eq_mem, decide_eq_true_eq, decide_eq_false_iff_not, beq_eq_false_iff_ne, beq_iff_eq] at h9
    obtain ⟨⟨⟨⟨⟨a1, a2⟩, a3⟩, a4⟩, a5⟩, a6⟩ := h9
    refine ⟨a1, fun z => ?_, fun z => ?_, a4, fun z => ?_, fun z => ?_⟩
    · rcases a2 with a | a
      · exact a z.1
      · exact a z.2
    · rcases a3 with a | a
      · exact a z.1
      · exact a z.2
    · rcases a5 with a | a
      · exact a z.1
      · exact a z.2
    · rcases a6 with a | a
      · exact a z.1
      · exact a z.2
  obtain ⟨fs9, g1, g2⟩ := lw_fs h20 hw h
  have e9 : fs9 = fs' := by
    have := Option.some.inj (g1.symm.trans hw')
    exact (Prod.mk.inj (Sum.inr.inj (Prod.mk.inj this).2)).2
  subst e9
  have hf : ∀ j, j ∈ lw_fl st → fs9[j]? = fs[j]? := fun j hj => g2 j fun hz => (hq' _ hz).2.2.2.2.2 ⟨rfl, hj⟩
  refine ⟨lw_wd hW h (fun z hz => (hq' z hz).1.imp_right fun h9 h8 => absurd (lw_lTK h8) (Nat.not_lt.mpr h9)) (fun k => ?_), g1, fun b hb => ?_, (hO.1 1 md [] sh w u.2 en_Gr.rf (fun z hz => (hq' z hz).2.2.2.1) h.2.2 ⟨lw_ad hW h20 hlen, h1⟩).2, fun h3 => ?_⟩
  · by_cases e27 : k = 27
    · subst e27
      by_cases hst : st ≤ 2
      · exact Or.inr ⟨fun z hz e => (hq' z hz).2.2.1 ⟨e, hst⟩, by decide⟩
      · match st, hst with
        | n + 3, _ => exact Or.inl rfl
        | 0, h => exact absurd (Nat.zero_le 2) h
        | 1, h => exact absurd (by decide) h
        | 2, h => exact absurd (by decide) h
    · by_cases e35 : k = 35
      · subst e35
        by_cases hst : st = 0
        · exact Or.inr ⟨fun z hz e => (hq' z hz).2.1 ⟨e, hst⟩, by decide⟩
        · exact Or.inl (lw_KT35 st hst)
      · exact Or.inl (lw_KT_eq st k e27 e35)
  · obtain ⟨x, b1, b2⟩ := hB b hb
    refine ⟨x, ?_, b2⟩
    rw [hf b.1 ?_]
    · exact b1
    · have hall : ∀ s, s < 5 → ∀ b ∈ lw_B s, b.1 ∈ lw_fl s := by decide
      match st, hb with
      | 0, hb => exact hall 0 (by decide) b hb
      | 1, hb => exact hall 1 (by decide) b hb
      | 2, hb => exact hall 2 (by decide) b hb
      | 3, hb => exact hall 3 (by decide) b hb
      | n + 4, hb => exact hall 4 (by decide) b hb
  · obtain ⟨⟨h, n, c1, c2, c3⟩, c4, c5⟩ := hon h3
    have h25 : 25 ∈ lw_fl st ∧ 16 ∈ lw_fl st := by
      match st, h3 with
      | n + 3, _ => exact ⟨show 25 ∈ lw_fl 3 by decide, show 16 ∈ lw_fl 3 by decide⟩
    exact ⟨⟨h, n, (hf 25 h25.1).trans c1, (hf 16 h25.2).trans c2, c3⟩, (hO.1 0 md [] sh w u.2 en_Gr.rf (fun z hz hz2 => (hq' z hz).2.2.2.2.1 ⟨h3, hz2⟩) hpx9.2.2 ⟨lw_ad hW h20 hlen, c4⟩).2, hA h3⟩
/-- the ball ahead, where nothing touches it or the last stroke -/
theorem lw_ahq (h28 : sh.1[18]? = some 28) (h20 : sh.1[0]? = some 20) (hw : w[0]? = some (sh.2 0, .inr (13, fs))) (h : en_Px tys (en_Pc cx cy) en_KT tk md sh w u) {fs' : List Value} (hw' : u.2[0]? = some (u.1.2 0, .inr (13, fs'))) (hm : (20, 4) ∉ md ∧ (28, 0) ∉ md) (hA : lw_ah cx cy fs w) (hL : fs[28]? = some (.int (-1)) → fs'[28]? = some (.int (-1))) (hW : w.length = sh.1.length ∧ ∀ x, w[18]? = some x → x.1 = sh.2 18) : lw_ah cx cy fs' u.2 := by
  obtain ⟨fs9, g1, g2⟩ := lw_fs h20 hw h
  have e9 : fs9 = fs' := by
    have := Option.some.inj (g1.symm.trans hw')
    exact (Prod.mk.inj (Sum.inr.inj (Prod.mk.inj this).2)).2
  subst e9
  rcases hA with ⟨a, cA, n, g, a1, a2, a3⟩ | hA
  · refine Or.inl ⟨a, cA, n, g, (g2 4 hm.1).trans a1, ?_, a3⟩
    have ea : a = sh.2 18 := hW.2 _ a2
    subst ea
    exact wr_keep h h28 hm.2 a2
  · exact Or.inr (hL hA)
end
