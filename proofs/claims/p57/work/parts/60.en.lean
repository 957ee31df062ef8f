/-! THE ENGINE: an abstract run of a method's code, over kinds of cells and intervals of numbers: kinds, values, worlds, facts -/
abbrev en_I : Type := Int × Int × Nat × Int
abbrev en_A : Type := en_I ⊕ (Nat ⊕ Nat)
abbrev en_H : Type := List Nat × (Nat → Nat)
abbrev en_X : Type := Nat × Nat × Nat × Nat × Int × Int
abbrev en_V8 : Type := List (Int × Int) × List (Nat × Int × Int × Nat × Nat)
abbrev en_D : Type := (Nat × List en_A) ⊕ (Nat × Nat × (en_A ⊕ en_V8))
/-- symbols' sorts, stack, locals, facts, the open array, cells, slots -/
abbrev en_S : Type := List en_A × List Nat × List (Nat × Nat) × List en_X × Option (Nat × List Nat) × Nat × Nat
theorem en_hi (x : Int32) : x.toInt ≤ 2147483647 := by have := Int32.toInt_lt x; omega
theorem en_lo (x : Int32) : -2147483648 ≤ x.toInt := by have := Int32.le_toInt x; omega
/-- a value of a sort: an int between two bounds; a reference to a cell of a kind; a long, a float, a double -/
def en_V (sh : en_H) : en_A → Value → Prop
  | .inl i, v => ∃ x : Int32, v = .int x ∧ i.1 ≤ x.toInt ∧ x.toInt ≤ i.2.1
  | .inr (.inl k), v => ∃ q : Nat, sh.1[q]? = some k ∧ v = .ref (sh.2 q)
  | .inr (.inr c), v => (c = 0 ∧ ∃ x : Int64, v = .long x) ∨ (c = 1 ∧ ∃ x : UInt32, v = .float x ∧ vf_n32 x) ∨ (c = 2 ∧ ∃ x : UInt64, v = .double x)
/-- takes one place -/
def en_one : en_A → Bool
  | .inl _ => true
  | .inr (.inl _) => true
  | .inr (.inr c) => c == 1
theorem en_one_ok {sh : en_H} {a : en_A} {v : Value} (h : en_one a = true) (hv : en_V sh a v) : v.category = 1 := by
  rcases a with a | k | c
  · obtain ⟨x, rfl, -⟩ := hv
    rfl
  · obtain ⟨q, -, rfl⟩ := hv
    rfl
  · have e : c = 1 := by simpa [en_one] using h
    subst e
    rcases hv with ⟨h0, -⟩ | ⟨-, x, rfl, -⟩ | ⟨h0, -⟩
    · cases h0
    · rfl
    · cases h0
/-- kinds that are made anew -/
abbrev en_nk (k : Nat) : Prop := (43 ≤ k ∧ k ≤ 45) ∨ 50 ≤ k
/-- more cells, of kinds in tk that are made anew -/
def en_Gr (tk : List Nat) (sh sh' : en_H) : Prop := (∃ t : List Nat, sh'.1 = sh.1 ++ t ∧ ∀ k ∈ t, k ∈ tk ∧ en_nk k) ∧ ∀ q, q < sh.1.length → sh'.2 q = sh.2 q
theorem en_Gr.rf {tk : List Nat} {sh : en_H} : en_Gr tk sh sh := ⟨⟨[], (List.append_nil _).symm, fun k h => absurd h List.not_mem_nil⟩, fun _ _ => rfl⟩
theorem en_Gr.at {tk : List Nat} {sh sh' : en_H} {q k : Nat} (h : en_Gr tk sh sh') (hq : sh.1[q]? = some k) : sh'.1[q]? = some k ∧ sh'.2 q = sh.2 q := by
  obtain ⟨⟨t, ht, -⟩, h2⟩ := h
  have hlt : q < sh.1.length := (List.getElem?_eq_some_iff.mp hq).1
  exact ⟨by rw [ht, List.getElem?_append_left hlt]; exact hq, h2 q hlt⟩
theorem en_Gr.tr {tk : List Nat} {a b c : en_H} (h : en_Gr tk a b) (g : en_Gr tk b c) : en_Gr tk a c := by
  obtain ⟨⟨t, ht, ht2⟩, h2⟩ := h
  obtain ⟨⟨u, hu, hu2⟩, g2⟩ := g
  refine ⟨⟨t ++ u, by rw [hu, ht, List.append_assoc], fun k hk => ?_⟩, fun q hq => ?_⟩
  · rcases List.mem_append.mp hk with h | h
    · exact ht2 k h
    · exact hu2 k h
  · rw [g2 q (by rw [ht, List.length_append]; omega), h2 q hq]
theorem en_Gr.sub {tk tk' : List Nat} {a b : en_H} (h : en_Gr tk a b) (hs : ∀ k ∈ tk, k ∈ tk') : en_Gr tk' a b := by
  obtain ⟨⟨t, ht, ht2⟩, h2⟩ := h
  exact ⟨⟨t, ht, fun k hk => ⟨hs k (ht2 k hk).1, (ht2 k hk).2⟩⟩, h2⟩
theorem en_Gr.len {tk : List Nat} {a b : en_H} (h : en_Gr tk a b) : a.1.length ≤ b.1.length := by
  obtain ⟨⟨t, ht, -⟩, -⟩ := h
  rw [ht, List.length_append]
  omega
theorem en_V.gr {tk : List Nat} {sh sh' : en_H} {a : en_A} {v : Value} (g : en_Gr tk sh sh') (h : en_V sh a v) : en_V sh' a v := by
  rcases a with a | k | c
  · exact h
  · obtain ⟨q, h1, h2⟩ := h
    obtain ⟨g1, g2⟩ := g.at h1
    exact ⟨q, g1, by rw [g2]; exact h2⟩
  · exact h
/-- a row of ints with its own bounds, and what holds of two of its ints where a third lies between bounds -/
def en_ce (x y : Int32) : Prop := 0 ≤ x.toInt ∧ x.toInt ≤ 29 ∧ 0 ≤ y.toInt ∧ y.toInt ≤ 19
/-- a good pair; where t is 100 or more: one that is good if it is a cell at all -/
def en_PQ (PP : Int32 → Int32 → Prop) (t : Nat) (x y : Int32) : Prop := (100 ≤ t → en_ce x y) → PP x y
/-- the kind of the c's row of references at a place -/
def en_sk (c j : Nat) : Nat := if j = c % 100 then c / 100 % 100 else c / 10000
def en_Inv (PP : Int32 → Int32 → Prop) (v : en_V8) (f : Nat → Int32) : Prop :=
  (∀ j r, v.1[j]? = some r → r.1 ≤ (f j).toInt ∧ (f j).toInt ≤ r.2) ∧ ∀ m ∈ v.2, m.2.1 ≤ (f m.1).toInt → (f m.1).toInt ≤ m.2.2.1 → en_PQ PP m.2.2.2.1 (f (m.2.2.2.1 % 100)) (f m.2.2.2.2)
/-- a cell as its kind says -/
def en_C (PP : Int32 → Int32 → Prop) (sh : en_H) (tys : List (ClassId × FieldType)) : en_D → va_E → Prop
  | .inl k, .inr o => o.1 = k.1 ∧ o.2.length = k.2.length ∧ ∀ (j : Nat) (t : en_A) (v : Value), k.2[j]? = some t → o.2[j]? = some v → en_V sh t v
  | .inr (t0, len, .inl (.inl i)), .inl (cA, n, .inl f) => (tys[t0]?).map Prod.fst = some cA ∧ n = len ∧ ∀ j, j < len → i.1 ≤ (f j).toInt ∧ (f j).toInt ≤ i.2.1
  | .inr (t0, len, .inl (.inr (.inl k))), .inl (cA, n, .inr (.inr (.inr (.inr f)))) => (tys[t0]?).map Prod.fst = some cA ∧ n = len ∧ ∀ j, j < len → ∃ q : Nat, sh.1[q]? = some k ∧ f j = some (sh.2 q)
  | .inr (t0, len, .inl (.inr (.inr c))), .inl (cA, n, .inr (.inr (.inr (.inr f)))) => (tys[t0]?).map Prod.fst = some cA ∧ n = len ∧ ∀ j, j < len → ∃ q : Nat, sh.1[q]? = some (en_sk c j) ∧ f j = some (sh.2 q)
  | .inr (t0, len, .inr v), .inl (cA, n, .inl f) => (tys[t0]?).map Prod.fst = some cA ∧ n = len ∧ v.1.length = len ∧ en_Inv PP v f
  | _, _ => False
theorem en_C.gr {PP : Int32 → Int32 → Prop} {tk : List Nat} {sh sh' : en_H} {tys : List (ClassId × FieldType)} {kd : en_D} {e : va_E} (g : en_Gr tk sh sh') (h : en_C PP sh tys kd e) : en_C PP sh' tys kd e := by
  rcases kd with ⟨ci, ts⟩ | ⟨t0, len, (i | k | c) | v⟩ <;> rcases e with ⟨cA, n, f | f | f | f | f⟩ | ⟨co, fs⟩ <;> first | exact h.elim | skip
  · obtain ⟨h1, h2, h3⟩ := h
    exact ⟨h1, h2, fun j t v a b => (h3 j t v a b).gr g⟩
  · exact h
  · obtain ⟨h1, h2, h3⟩ := h
    refine ⟨h1, h2, fun j hj => ?_⟩
    obtain ⟨q, q1, q2⟩ := h3 j hj
    obtain ⟨g1, g2⟩ := g.at q1
    exact ⟨q, g1, by rw [g2]; exact q2⟩
  · obtain ⟨h1, h2, h3⟩ := h
    refine ⟨h1, h2, fun j hj => ?_⟩
    obtain ⟨q, q1, q2⟩ := h3 j hj
    obtain ⟨g1, g2⟩ := g.at q1
    exact ⟨q, g1, by rw [g2]; exact q2⟩
  · exact h
/-- the world as the kinds say, but for ex -/
def en_W (PP : Int32 → Int32 → Prop) (KT : List en_D) (tk : List Nat) (sh : en_H) (tys : List (ClassId × FieldType)) (ex : Nat → Prop) (ws : va_W) : Prop :=
  ws.length = sh.1.length ∧ ∀ q k, sh.1[q]? = some k → ∃ e : va_E, ws[q]? = some (sh.2 q, e) ∧ (k ∈ tk → ¬ ex q → ∃ kd : en_D, KT[k]? = some kd ∧ en_C PP sh tys kd e)
/-- what isn't in md is as it was -/
def en_Fc (md : List (Nat × Nat)) (k : Nat) : va_E → va_E → Prop
  | .inr o0, .inr o => o.1 = o0.1 ∧ o.2.length = o0.2.length ∧ ∀ j, (k, j) ∉ md → o.2[j]? = o0.2[j]?
  | .inl x0, .inl x => x.1 = x0.1 ∧ x.2.1 = x0.2.1 ∧ ((k, 0) ∉ md → x = x0)
  | _, _ => False
def en_F (md : List (Nat × Nat)) (sh : en_H) (w0 w : va_W) : Prop := ∀ (q k : Nat) (e0 : va_E), sh.1[q]? = some k → w0[q]? = some (sh.2 q, e0) → ∃ e : va_E, w[q]? = some (sh.2 q, e) ∧ en_Fc md k e0 e
theorem en_Fc.rf {md : List (Nat × Nat)} {k : Nat} (e : va_E) : en_Fc md k e e := by
  rcases e with x | o
  · exact ⟨rfl, rfl, fun _ => rfl⟩
  · exact ⟨rfl, rfl, fun _ _ => rfl⟩
theorem en_Fc.tr {md : List (Nat × Nat)} {k : Nat} {e0 e1 e2 : va_E} (h : en_Fc md k e0 e1) (g : en_Fc md k e1 e2) : en_Fc md k e0 e2 := by
  rcases e0 with x0 | o0 <;> rcases e1 with x1 | o1 <;> rcases e2 with x2 | o2 <;> first | exact h.elim | exact g.elim | skip
  · exact ⟨g.1.trans h.1, g.2.1.trans h.2.1, fun z => (g.2.2 z).trans (h.2.2 z)⟩
  · exact ⟨g.1.trans h.1, g.2.1.trans h.2.1, fun j z => (g.2.2 j z).trans (h.2.2 j z)⟩
theorem en_Fc.sub {md md' : List (Nat × Nat)} {k : Nat} {e0 e1 : va_E} (hs : ∀ z ∈ md, z ∈ md') (h : en_Fc md k e0 e1) : en_Fc md' k e0 e1 := by
  rcases e0 with x0 | o0 <;> rcases e1 with x1 | o1 <;> first | exact h.elim | skip
  · exact ⟨h.1, h.2.1, fun z => h.2.2 fun y => z (hs _ y)⟩
  · exact ⟨h.1, h.2.1, fun j z => h.2.2 j fun y => z (hs _ y)⟩
theorem en_F.rf {md : List (Nat × Nat)} {sh : en_H} {w : va_W} : en_F md sh w w := fun _ _ e0 _ h => ⟨e0, h, en_Fc.rf e0⟩
theorem en_F.tr {md : List (Nat × Nat)} {sh : en_H} {w0 w1 w2 : va_W} (h : en_F md sh w0 w1) (g : en_F md sh w1 w2) : en_F md sh w0 w2 := fun q k e0 hk h0 => by
  obtain ⟨e1, h1, f1⟩ := h q k e0 hk h0
  obtain ⟨e2, h2, f2⟩ := g q k e1 hk h1
  exact ⟨e2, h2, f1.tr f2⟩
theorem en_F.sub {md md' : List (Nat × Nat)} {sh : en_H} {w0 w1 : va_W} (hs : ∀ z ∈ md, z ∈ md') (h : en_F md sh w0 w1) : en_F md' sh w0 w1 := fun q k e0 hk h0 => by
  obtain ⟨e1, h1, f1⟩ := h q k e0 hk h0
  exact ⟨e1, h1, f1.sub hs⟩
/-- over more cells -> over fewer -/
theorem en_F.less {tk : List Nat} {md : List (Nat × Nat)} {sh sh' : en_H} {w0 w1 : va_W} (g : en_Gr tk sh sh') (h : en_F md sh' w0 w1) : en_F md sh w0 w1 := fun q k e0 hk h0 => by
  obtain ⟨g1, g2⟩ := g.at hk
  obtain ⟨e1, h1, f1⟩ := h q k e0 g1 (by rw [g2]; exact h0)
  exact ⟨e1, by rw [← g2]; exact h1, f1⟩
/-- the symbols' values -/
def en_E (sh : en_H) (env : List en_A) (ρ : List Value) : Prop :=
  ρ.length = env.length ∧ ∀ (i : Nat) (a : en_A), env[i]? = some a → ∃ v : Value, ρ[i]? = some v ∧ en_V sh a v ∧ ∀ (lo hi : Int) (b : Nat) (o : Int), a = .inl (lo, hi, b + 1, o) → ∃ x y : Int32, v = .int x ∧ ρ[b]? = some (.int y) ∧ x.toInt = y.toInt + o
theorem en_at {ρ : List Value} {i : Nat} {v w : Value} (h : ρ[i]? = some v) : (ρ ++ [w])[i]? = some v := by
  rw [List.getElem?_append_left (List.getElem?_eq_some_iff.mp h).1]
  exact h
theorem en_atL {α : Type} {ρ t : List α} {i : Nat} {v : α} (h : ρ[i]? = some v) : (ρ ++ t)[i]? = some v := by
  rw [List.getElem?_append_left (List.getElem?_eq_some_iff.mp h).1]
  exact h
theorem en_last {ρ : List Value} {w : Value} : (ρ ++ [w])[ρ.length]? = some w := by simp
theorem en_E.gr {tk : List Nat} {sh sh' : en_H} {env : List en_A} {ρ : List Value} (g : en_Gr tk sh sh') (h : en_E sh env ρ) : en_E sh' env ρ := ⟨h.1, fun i a hi => by
  obtain ⟨v, h1, h2, h3⟩ := h.2 i a hi
  exact ⟨v, h1, h2.gr g, h3⟩⟩
theorem en_E.push {sh : en_H} {env : List en_A} {ρ : List Value} {a : en_A} {v : Value} (h : en_E sh env ρ) (hv : en_V sh a v) (hr : ∀ (lo hi : Int) (b : Nat) (o : Int), a = .inl (lo, hi, b + 1, o) → ∃ x y : Int32, v = .int x ∧ ρ[b]? = some (.int y) ∧ x.toInt = y.toInt + o) : en_E sh (env ++ [a]) (ρ ++ [v]) := by
  refine ⟨by rw [List.length_append, List.length_append, h.1]; rfl, fun i a' hi => ?_⟩
  rcases Nat.lt_or_ge i env.length with hlt | hge
  · rw [List.getElem?_append_left hlt] at hi
    obtain ⟨w, h1, h2, h3⟩ := h.2 i a' hi
    refine ⟨w, en_at h1, h2, fun lo hi b o e => ?_⟩
    obtain ⟨x, y, q1, q2, q3⟩ := h3 lo hi b o e
    exact ⟨x, y, q1, en_at q2, q3⟩
  · have h1 : i < (env ++ [a]).length := (List.getElem?_eq_some_iff.mp hi).1
    rw [List.length_append] at h1
    have h2 : i = env.length := by simp only [List.length_cons, List.length_nil] at h1; omega
    subst h2
    rw [List.getElem?_append_right (Nat.le_refl _), Nat.sub_self] at hi
    have e : a = a' := Option.some.inj hi
    subst e
    refine ⟨v, by rw [← h.1]; exact en_last, hv, fun lo hi b o e => ?_⟩
    obtain ⟨x, y, q1, q2, q3⟩ := hr lo hi b o e
    exact ⟨x, y, q1, en_at q2, q3⟩
/-- the bounds of a symbol, by its own and by those of the one that it is a sum with -/
def en_eff (env : List en_A) (i : Nat) : Option (Int × Int) := match env[i]? with
  | some (.inl (lo, hi, 0, _)) => some (lo, hi)
  | some (.inl (lo, hi, b + 1, o)) => match env[b]? with
    | some (.inl (l2, h2, _, _)) => some (if lo ≤ l2 + o then l2 + o else lo, if hi ≤ h2 + o then hi else h2 + o)
    | _ => some (lo, hi)
  | _ => none
theorem en_eff_ok {sh : en_H} {env : List en_A} {ρ : List Value} {i : Nat} {r : Int × Int} (h : en_E sh env ρ) (he : en_eff env i = some r) : ∃ x : Int32, ρ[i]? = some (.int x) ∧ r.1 ≤ x.toInt ∧ x.toInt ≤ r.2 := by
  unfold en_eff at he
  split at he
  · next lo hi o ha =>
    obtain ⟨v, h1, ⟨x, rfl, h2, h3⟩, -⟩ := h.2 i _ ha
    have e := Option.some.inj he
    subst e
    exact ⟨x, h1, h2, h3⟩
  · next lo hi b o ha =>
    obtain ⟨v, h1, ⟨x, rfl, h2, h3⟩, h4⟩ := h.2 i _ ha
    obtain ⟨x', y, e1, e2, e3⟩ := h4 lo hi b o rfl
    have e1 := Value.int.inj e1
    subst e1
    split at he
    · next l2 h2' b2 o2 hb =>
      obtain ⟨w, g1, ⟨z, rfl, g2, g3⟩, -⟩ := h.2 b _ hb
      have e4 : z = y := by
        have := g1.symm.trans e2
        exact Value.int.inj (Option.some.inj this)
      subst e4
      have e := Option.some.inj he
      subst e
      simp only at h2 h3 g2 g3
      refine ⟨x, h1, ?_, ?_⟩
      · show (if lo ≤ l2 + o then l2 + o else lo) ≤ x.toInt
        split <;> omega
      · show x.toInt ≤ (if hi ≤ h2' + o then hi else h2' + o)
        split <;> omega
    · have e := Option.some.inj he
      subst e
      exact ⟨x, h1, h2, h3⟩
  · cases he
/-- narrower bounds of one symbol -/
def en_nar (env : List en_A) (i : Nat) (lo hi : Int) : List en_A := match env[i]? with
  | some (.inl a) => env.set i (.inl (if a.1 ≤ lo then lo else a.1, if a.2.1 ≤ hi then a.2.1 else hi, a.2.2))
  | _ => env
theorem en_nar_ok {sh : en_H} {env : List en_A} {ρ : List Value} {i : Nat} {lo hi : Int} {x : Int32} (h : en_E sh env ρ) (hx : ρ[i]? = some (.int x)) (h1 : lo ≤ x.toInt) (h2 : x.toInt ≤ hi) : en_E sh (en_nar env i lo hi) ρ := by
  unfold en_nar
  split
  · next a ha =>
    have hlt : i < env.length := (List.getElem?_eq_some_iff.mp ha).1
    refine ⟨by rw [List.length_set]; exact h.1, fun j a' hj => ?_⟩
    by_cases hij : i = j
    · subst hij
      rw [List.getElem?_set_self hlt] at hj
      obtain ⟨v, g1, ⟨z, rfl, g2, g3⟩, g4⟩ := h.2 i _ ha
      have e4 : z = x := by
        have := g1.symm.trans hx
        exact Value.int.inj (Option.some.inj this)
      subst e4
      have e := Option.some.inj hj
      subst e
      refine ⟨_, g1, ⟨z, rfl, ?_, ?_⟩, fun l0 u0 b o e => ?_⟩
      · show (if a.1 ≤ lo then lo else a.1) ≤ z.toInt
        split <;> omega
      · show z.toInt ≤ (if a.2.1 ≤ hi then a.2.1 else hi)
        split <;> omega
      · have e := Sum.inl.inj e
        simp only [Prod.mk.injEq] at e
        obtain ⟨-, -, e⟩ := e
        exact g4 a.1 a.2.1 b o (by rw [← e])
    · rw [List.getElem?_set_ne hij] at hj
      exact h.2 j a' hj
  · exact h
theorem en_nar_len {env : List en_A} {i : Nat} {lo hi : Int} : (en_nar env i lo hi).length = env.length := by
  unfold en_nar
  split
  · exact List.length_set
  · rfl
def en_ref (env : List en_A) (i : Nat) (lo hi : Int) : List en_A := match env[i]? with
  | some (.inl (_, _, b + 1, o)) => en_nar (en_nar env i lo hi) b (lo - o) (hi - o)
  | _ => en_nar env i lo hi
theorem en_ref_ok {sh : en_H} {env : List en_A} {ρ : List Value} {i : Nat} {lo hi : Int} {x : Int32} (h : en_E sh env ρ) (hx : ρ[i]? = some (.int x)) (h1 : lo ≤ x.toInt) (h2 : x.toInt ≤ hi) : en_E sh (en_ref env i lo hi) ρ := by
  unfold en_ref
  split
  · next l0 u0 b o ha =>
    obtain ⟨v, g1, -, g4⟩ := h.2 i _ ha
    obtain ⟨x', y, e1, e2, e3⟩ := g4 l0 u0 b o rfl
    have e5 : x' = x := by
      rw [e1] at g1
      exact Value.int.inj (Option.some.inj (g1.symm.trans hx))
    subst e5
    exact en_nar_ok (en_nar_ok h hx h1 h2) e2 (by omega) (by omega)
  · exact en_nar_ok h hx h1 h2
theorem en_ref_len {env : List en_A} {i : Nat} {lo hi : Int} : (en_ref env i lo hi).length = env.length := by
  unfold en_ref
  split
  · rw [en_nar_len, en_nar_len]
  · exact en_nar_len
/-- what is known beside the sorts: 0 a field's value, 1 an int of a row, 2 a good pair, 3 a pair that is good where a third lies between bounds, 4 a reference in a row, 5 one of the Ω, 6 an int that isn't 0, 7 and 8 a float and a double made of an int, 9 a sum, 10 and 11 as 3 and 2, but of cells alone, 12 two ints differ, 13 a difference, 14 and 15 the first and the second of a cell that isn't good, 16 not 0 if the other isn't -/
def en_fs (PP : Int32 → Int32 → Prop) (Ω : Nat → en_H → va_W → Prop) (sh : en_H) (ws : va_W) (ρ : List Value) : en_X → Prop
  | (0, a, b, c, _, _) => ∃ (q r ci : Nat) (fs : List Value) (v : Value), ρ[a]? = some (.ref r) ∧ ws[q]? = some (r, .inr (ci, fs)) ∧ fs[b]? = some v ∧ ρ[c]? = some v
  | (1, a, b, c, _, _) => ∃ (q r n : Nat) (cA : ClassId) (f : Nat → Int32), ρ[a]? = some (.ref r) ∧ ws[q]? = some (r, .inl (cA, n, .inl f)) ∧ b < n ∧ ρ[c]? = some (.int (f b))
  | (2, a, b, _, _, _) => ∃ x y : Int32, ρ[a]? = some (.int x) ∧ ρ[b]? = some (.int y) ∧ PP x y
  | (3, a, b, c, lo, hi) => ∃ x y z : Int32, ρ[a]? = some (.int x) ∧ ρ[b]? = some (.int y) ∧ ρ[c]? = some (.int z) ∧ (lo ≤ x.toInt → x.toInt ≤ hi → PP y z)
  | (4, a, b, c, _, _) => ∃ (q r n : Nat) (cA : ClassId) (f : Nat → Option Nat) (i : Int32) (y : Nat), ρ[a]? = some (.ref r) ∧ ws[q]? = some (r, .inl (cA, n, .inr (.inr (.inr (.inr f))))) ∧ ρ[b]? = some (.int i) ∧ f i.toNatClampNeg = some y ∧ ρ[c]? = some (.ref y)
  | (5, a, _, _, _, _) => Ω a sh ws
  | (6, a, _, _, _, _) => ∃ x : Int32, ρ[a]? = some (.int x) ∧ ¬ x = 0
  | (7, a, b, _, _, _) => ∃ x : Int32, ρ[b]? = some (.int x) ∧ ρ[a]? = some (.float (FP.i2f x))
  | (8, a, b, _, _, _) => ∃ x : Int32, ρ[b]? = some (.int x) ∧ ρ[a]? = some (.double (FP.i2d x))
  | (9, a, b, c, _, _) => ∃ x y : Int32, ρ[a]? = some (.int x) ∧ ρ[b]? = some (.int y) ∧ ρ[c]? = some (.int (x + y))
  | (10, a, b, c, lo, hi) => ∃ x y z : Int32, ρ[a]? = some (.int x) ∧ ρ[b]? = some (.int y) ∧ ρ[c]? = some (.int z) ∧ (lo ≤ x.toInt → x.toInt ≤ hi → en_ce y z → PP y z)
  | (11, a, b, _, _, _) => ∃ x y : Int32, ρ[a]? = some (.int x) ∧ ρ[b]? = some (.int y) ∧ (en_ce x y → PP x y)
  | (12, a, b, _, _, _) => ∃ x y : Int32, ρ[a]? = some (.int x) ∧ ρ[b]? = some (.int y) ∧ ¬ x = y
  | (13, a, b, c, _, _) => ∃ x y : Int32, ρ[a]? = some (.int x) ∧ ρ[b]? = some (.int y) ∧ ρ[c]? = some (.int (x - y))
  | (14, a, _, _, _, _) => ∃ x y : Int32, ρ[a]? = some (.int x) ∧ en_ce x y ∧ ¬ PP x y
  | (15, a, _, _, _, _) => ∃ x y : Int32, ρ[a]? = some (.int y) ∧ en_ce x y ∧ ¬ PP x y
  | (16, a, b, _, _, _) => ∃ x y : Int32, ρ[a]? = some (.int x) ∧ ρ[b]? = some (.int y) ∧ (¬ x = 0 → ¬ y = 0)
  | _ => False
theorem en_fs.up {PP : Int32 → Int32 → Prop} {Ω : Nat → en_H → va_W → Prop} {sh : en_H} {ws : va_W} {ρ t : List Value} {f : en_X} (h : en_fs PP Ω sh ws ρ f) : en_fs PP Ω sh ws (ρ ++ t) f := by
  obtain ⟨tag, a, b, c, lo, hi⟩ := f
  match tag with
  | 0 => obtain ⟨q, r, ci, fs, v, h1, h2, h3, h4⟩ := h; exact ⟨q, r, ci, fs, v, en_atL h1, h2, h3, en_atL h4⟩
  | 1 => obtain ⟨q, r, n, cA, f, h1, h2, h3, h4⟩ := h; exact ⟨q, r, n, cA, f, en_atL h1, h2, h3, en_atL h4⟩
  | 2 => obtain ⟨x, y, h1, h2, h3⟩ := h; exact ⟨x, y, en_atL h1, en_atL h2, h3⟩
  | 3 => obtain ⟨x, y, z, h1, h2, h3, h4⟩ := h; exact ⟨x, y, z, en_atL h1, en_atL h2, en_atL h3, h4⟩
  | 4 => obtain ⟨q, r, n, cA, f, i, y, h1, h2, h3, h4, h5⟩ := h; exact ⟨q, r, n, cA, f, i, y, en_atL h1, h2, en_atL h3, h4, en_atL h5⟩
  | 5 => exact h
  | 6 => obtain ⟨x, h1, h2⟩ := h; exact ⟨x, en_atL h1, h2⟩
  | 7 => obtain ⟨x, h1, h2⟩ := h; exact ⟨x, en_atL h1, en_atL h2⟩
  | 8 => obtain ⟨x, h1, h2⟩ := h; exact ⟨x, en_atL h1, en_atL h2⟩
  | 9 => obtain ⟨x, y, h1, h2, h3⟩ := h; exact ⟨x, y, en_atL h1, en_atL h2, en_atL h3⟩
  | 10 => obtain ⟨x, y, z, h1, h2, h3, h4⟩ := h; exact ⟨x, y, z, en_atL h1, en_atL h2, en_atL h3, h4⟩
  | 11 => obtain ⟨x, y, h1, h2, h3⟩ := h; exact ⟨x, y, en_atL h1, en_atL h2, h3⟩
  | 12 => obtain ⟨x, y, h1, h2, h3⟩ := h; exact ⟨x, y, en_atL h1, en_atL h2, h3⟩
  | 13 => obtain ⟨x, y, h1, h2, h3⟩ := h; exact ⟨x, y, en_atL h1, en_atL h2, en_atL h3⟩
  | 14 => obtain ⟨x, y, h1, h2⟩ := h; exact ⟨x, y, en_atL h1, h2⟩
  | 15 => obtain ⟨x, y, h1, h2⟩ := h; exact ⟨x, y, en_atL h1, h2⟩
  | 16 => obtain ⟨x, y, h1, h2, h3⟩ := h; exact ⟨x, y, en_atL h1, en_atL h2, h3⟩
  | _ + 17 => exact h.elim
/-- what Ω asks: it stands as long as nothing of om is written, and cells may come; the model is the world's first cell -/
def en_Om (om : List (Nat × Nat × Nat)) (sh0 : en_H) (Ω : Nat → en_H → va_W → Prop) : Prop := (∀ (a : Nat) (md : List (Nat × Nat)) (tk : List Nat) (sh : en_H) (ws ws' : va_W), en_Gr tk sh0 sh → (∀ z ∈ md, (a, z) ∉ om) → en_F md sh ws ws' → Ω a sh ws → Ω a sh ws') ∧ (∀ (a : Nat) (tk tk' : List Nat) (sh sh' : en_H) (ws : va_W), en_Gr tk sh0 sh → en_Gr tk' sh sh' → Ω a sh ws → Ω a sh' ws) ∧ ∀ q, sh0.1[q]? = some 20 → q = 0
theorem en_Gr.trU {tk tk' : List Nat} {a b c : en_H} (h : en_Gr tk a b) (g : en_Gr tk' b c) : en_Gr (tk ++ tk') a c := (h.sub fun _ hk => List.mem_append_left _ hk).tr (g.sub fun _ hk => List.mem_append_right _ hk)
theorem en_Om.gr {om : List (Nat × Nat × Nat)} {tk : List Nat} {sh0 sh : en_H} {Ω : Nat → en_H → va_W → Prop} (g : en_Gr tk sh0 sh) (h : en_Om om sh0 Ω) : en_Om om sh Ω := ⟨fun a md tk' sh' ws ws' hg h1 h2 h3 => h.1 a md _ sh' ws ws' (g.trU hg) h1 h2 h3, fun a tk1 tk2 sh1 sh2 ws g1 g2 h3 => h.2.1 a _ _ sh1 sh2 ws (g.trU g1) g2 h3, fun q hq => by
  obtain ⟨⟨t, ht, ht2⟩, -⟩ := g
  rw [ht] at hq
  rcases Nat.lt_or_ge q sh0.1.length with hlt | hge
  · rw [List.getElem?_append_left hlt] at hq
    exact h.2.2 q hq
  · rw [List.getElem?_append_right hge] at hq
    exact absurd (ht2 20 (List.mem_of_getElem? hq)).2 (by decide)⟩
/-- which of the facts stand when md is written -/
def en_kp (om : List (Nat × Nat × Nat)) (env : List en_A) (md : List (Nat × Nat)) : en_X → Bool
  | (0, a, b, _, _, _) => match env[a]? with
    | some (.inr (.inl k)) => !(md.contains (k, b))
    | _ => false
  | (1, a, _, _, _, _) => match env[a]? with
    | some (.inr (.inl k)) => !(md.contains (k, 0))
    | _ => false
  | (2, _, _, _, _, _) => true
  | (3, _, _, _, _, _) => true
  | (4, a, _, _, _, _) => match env[a]? with
    | some (.inr (.inl k)) => !(md.contains (k, 0))
    | _ => false
  | (5, a, _, _, _, _) => md.all (fun z => !(om.contains (a, z)))
  | _ => true
theorem en_nc {md : List (Nat × Nat)} {z : Nat × Nat} (h : (!(md.contains z)) = true) : z ∉ md := fun hm => by
  have : md.contains z = true := List.contains_iff_mem.mpr hm
  rw [this] at h
  cases h
theorem en_nc3 {md : List (Nat × Nat × Nat)} {z : Nat × Nat × Nat} (h : (!(md.contains z)) = true) : z ∉ md := fun hm => by
  have : md.contains z = true := List.contains_iff_mem.mpr hm
  rw [this] at h
  cases h
/-- a cell of the world, by its address, is of its symbol's kind -/
theorem en_uq {PP : Int32 → Int32 → Prop} {KT : List en_D} {tk : List Nat} {sh : en_H} {tys : List (ClassId × FieldType)} {ex : Nat → Prop} {ws : va_W} {A : Nat → Prop} {q r k : Nat} {e : va_E} (hW : en_W PP KT tk sh tys ex ws) (hD : va_D A ws) (hq : ws[q]? = some (r, e)) (hv : en_V sh (.inr (.inl k)) (.ref r)) : sh.1[q]? = some k ∧ sh.2 q = r := by
  obtain ⟨q2, h1, h2⟩ := hv
  have h2 := Value.ref.inj h2
  obtain ⟨e2, h3, -⟩ := hW.2 q2 k h1
  have e0 : q = q2 := hD.1 q q2 _ _ hq h3 h2
  subst e0
  exact ⟨h1, h2.symm⟩
theorem en_fs.kp {PP : Int32 → Int32 → Prop} {Ω : Nat → en_H → va_W → Prop} {KT : List en_D} {tk : List Nat} {sh : en_H} {tys : List (ClassId × FieldType)} {ex : Nat → Prop} {ws ws' : va_W} {A : Nat → Prop} {env : List en_A} {ρ : List Value} {md : List (Nat × Nat)} {om : List (Nat × Nat × Nat)} {sh0 : en_H} {tk0 : List Nat} {f : en_X} (hΩ : en_Om om sh0 Ω) (hG : en_Gr tk0 sh0 sh) (hW : en_W PP KT tk sh tys ex ws) (hD : va_D A ws) (hE : en_E sh env ρ) (hF : en_F md sh ws ws') (hk : en_kp om env md f = true) (h : en_fs PP Ω sh ws ρ f) : en_fs PP Ω sh ws' ρ f := by
  obtain ⟨tag, a, b, c, lo, hi⟩ := f
  match tag with
  | 0 =>
    obtain ⟨q, r, ci, fs, v, h1, h2, h3, h4⟩ := h
    simp only [en_kp] at hk
    split at hk
    · next k ha =>
      obtain ⟨w, g1, g2, -⟩ := hE.2 a _ ha
      have e := Option.some.inj (g1.symm.trans h1)
      subst e
      obtain ⟨u1, u2⟩ := en_uq hW hD h2 g2
      obtain ⟨e', q1, q2⟩ := hF q k _ u1 (by rw [u2]; exact h2)
      rcases e' with x | ⟨ci', fs'⟩
      · exact q2.elim
      · obtain ⟨-, -, q3⟩ := q2
        exact ⟨q, r, ci', fs', v, h1, by rw [← u2]; exact q1, by rw [← h3]; exact q3 b (en_nc hk), h4⟩
    · cases hk
  | 1 =>
    obtain ⟨q, r, n, cA, f, h1, h2, h3, h4⟩ := h
    simp only [en_kp] at hk
    split at hk
    · next k ha =>
      obtain ⟨w, g1, g2, -⟩ := hE.2 a _ ha
      have e := Option.some.inj (g1.symm.trans h1)
      subst e
      obtain ⟨u1, u2⟩ := en_uq hW hD h2 g2
      obtain ⟨e', q1, q2⟩ := hF q k _ u1 (by rw [u2]; exact h2)
      rcases e' with x | o
      · obtain ⟨-, -, q3⟩ := q2
        have e5 := q3 (en_nc hk)
        subst e5
        exact ⟨q, r, n, cA, f, h1, by rw [← u2]; exact q1, h3, h4⟩
      · exact q2.elim
    · cases hk
  | 2 => exact h
  | 3 => exact h
  | 4 =>
    obtain ⟨q, r, n, cA, f, i, y, h1, h2, h3, h4, h5⟩ := h
    simp only [en_kp] at hk
    split at hk
    · next k ha =>
      obtain ⟨w, g1, g2, -⟩ := hE.2 a _ ha
      have e := Option.some.inj (g1.symm.trans h1)
      subst e
      obtain ⟨u1, u2⟩ := en_uq hW hD h2 g2
      obtain ⟨e', q1, q2⟩ := hF q k _ u1 (by rw [u2]; exact h2)
      rcases e' with x | o
      · obtain ⟨-, -, q3⟩ := q2
        have e5 := q3 (en_nc hk)
        subst e5
        exact ⟨q, r, n, cA, f, i, y, h1, by rw [← u2]; exact q1, h3, h4, h5⟩
      · exact q2.elim
    · cases hk
  | 5 =>
    refine hΩ.1 a md tk0 sh ws ws' hG (fun z hz => en_nc3 ?_) hF h
    exact List.all_eq_true.mp hk z hz
  | 6 => exact h
  | 7 => exact h
  | 8 => exact h
  | 9 => exact h
  | 10 => exact h
  | 11 => exact h
  | 12 => exact h
  | 13 => exact h
  | 14 => exact h
  | 15 => exact h
  | 16 => exact h
  | _ + 17 => exact h.elim
/-- a new cell changes no fact -/
theorem en_fs.app {PP : Int32 → Int32 → Prop} {Ω : Nat → en_H → va_W → Prop} {om : List (Nat × Nat × Nat)} {tk tk' : List Nat} {sh0 sh sh' : en_H} {ws t : va_W} {ρ : List Value} {f : en_X} (hΩ : en_Om om sh0 Ω) (hG : en_Gr tk sh0 sh) (hG' : en_Gr tk' sh sh') (h : en_fs PP Ω sh ws ρ f) : en_fs PP Ω sh' (ws ++ t) ρ f := by
  obtain ⟨tag, a, b, c, lo, hi⟩ := f
  match tag with
  | 0 => obtain ⟨q, r, ci, fs, v, h1, h2, h3, h4⟩ := h; exact ⟨q, r, ci, fs, v, h1, en_atL h2, h3, h4⟩
  | 1 => obtain ⟨q, r, n, cA, f, h1, h2, h3, h4⟩ := h; exact ⟨q, r, n, cA, f, h1, en_atL h2, h3, h4⟩
  | 2 => exact h
  | 3 => exact h
  | 4 => obtain ⟨q, r, n, cA, f, i, y, h1, h2, h3, h4, h5⟩ := h; exact ⟨q, r, n, cA, f, i, y, h1, en_atL h2, h3, h4, h5⟩
  | 5 => exact hΩ.2.1 a tk tk' sh sh' _ hG hG' (hΩ.1 a [] tk sh ws (ws ++ t) hG (fun _ hz => absurd hz List.not_mem_nil) (fun _ _ e0 _ h0 => ⟨e0, en_atL h0, en_Fc.rf e0⟩) h)
  | 6 => exact h
  | 7 => exact h
  | 8 => exact h
  | 9 => exact h
  | 10 => exact h
  | 11 => exact h
  | 12 => exact h
  | 13 => exact h
  | 14 => exact h
  | 15 => exact h
  | 16 => exact h
  | _ + 17 => exact h.elim
/-- more cells' kinds change no fact -/
theorem en_fs.gr {PP : Int32 → Int32 → Prop} {Ω : Nat → en_H → va_W → Prop} {om : List (Nat × Nat × Nat)} {tk tk' : List Nat} {sh0 sh sh' : en_H} {ws : va_W} {ρ : List Value} {f : en_X} (hΩ : en_Om om sh0 Ω) (hG : en_Gr tk sh0 sh) (hG' : en_Gr tk' sh sh') (h : en_fs PP Ω sh ws ρ f) : en_fs PP Ω sh' ws ρ f := by
  obtain ⟨tag, a, b, c, lo, hi⟩ := f
  match tag with
  | 0 => exact h
  | 1 => exact h
  | 2 => exact h
  | 3 => exact h
  | 4 => exact h
  | 5 => exact hΩ.2.1 a tk tk' sh sh' ws hG hG' h
  | 6 => exact h
  | 7 => exact h
  | 8 => exact h
  | 9 => exact h
  | 10 => exact h
  | 11 => exact h
  | 12 => exact h
  | 13 => exact h
  | 14 => exact h
  | 15 => exact h
  | 16 => exact h
  | _ + 17 => exact h.elim
