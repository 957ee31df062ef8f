/-! the engine: rows -/
theorem en_vpin {x : Int32} {n : Nat} (h1 : 0 ≤ x.toInt) (h2 : x.toInt < n) : vp_in x n := vp_in_iff.mpr ⟨h1, h2⟩
theorem en_cN {x : Int32} (h1 : 0 ≤ x.toInt) : ((x.toNatClampNeg : Nat) : Int) = x.toInt := by
  show ((x.toInt.toNat : Nat) : Int) = x.toInt
  omega
theorem en_nar1 {ty : Nat} {x : Int32} (h1 : (en_tyI ty).1 ≤ x.toInt) (h2 : x.toInt ≤ (en_tyI ty).2) : vp_nar (en_ty ty) x = x := by
  obtain ⟨h, -⟩ := en_fit h1 h2
  unfold vp_nar
  rw [h]
/-- the row of its own bounds that a symbol points to, opened: its ints' symbols -/
def en_opv (fa : List en_X) (i : Nat) : Nat → List (Int × Int) → List en_A → List Nat × List en_A
  | _, [], env => ([], env)
  | j, r :: rs, env => match en_lkf fa 1 i j with
    | some c => (c :: (en_opv fa i (j + 1) rs env).1, (en_opv fa i (j + 1) rs env).2)
    | none => (env.length :: (en_opv fa i (j + 1) rs (env ++ [.inl (r.1, r.2, 0, 0)])).1, (en_opv fa i (j + 1) rs (env ++ [.inl (r.1, r.2, 0, 0)])).2)
def en_opi (vs : List Nat) (m : Nat × Int × Int × Nat × Nat) : Option en_X := match vs[m.1]? with
  | some a => match vs[m.2.2.2.1 % 100]? with
    | some b => match vs[m.2.2.2.2]? with
      | some c => some (if 100 ≤ m.2.2.2.1 then 10 else 3, a, b, c, m.2.1, m.2.2.1)
      | none => none
    | none => none
  | none => none
def en_elt (i : Nat) : Nat → List Nat → List en_X
  | _, [] => []
  | j, c :: cs => (1, i, j, c, 0, 0) :: en_elt i (j + 1) cs
def en_add3 (fa : List en_X) : List en_X → List en_X
  | [] => fa
  | f :: r => if fa.contains f = true then en_add3 fa r else f :: en_add3 fa r
theorem en_add3_ok {P : en_X → Prop} {fa : List en_X} (h : ∀ f ∈ fa, P f) : ∀ l : List en_X, (∀ f ∈ l, P f) → ∀ f ∈ en_add3 fa l, P f
  | [], _ => h
  | f :: r, hl => by
    unfold en_add3
    split
    · exact en_add3_ok h r fun g hg => hl g (List.mem_cons_of_mem _ hg)
    · intro g hg
      rcases List.mem_cons.mp hg with rfl | hg
      · exact hl _ List.mem_cons_self
      · exact en_add3_ok h r (fun g hg => hl g (List.mem_cons_of_mem _ hg)) g hg
def en_clk (env : List en_A) : List (Int × Int) → List Nat → Bool
  | [], [] => true
  | r :: rs, c :: cs => match en_eff env c with
    | some a => decide (r.1 ≤ a.1) && (decide (a.2 ≤ r.2) && en_clk env rs cs)
    | none => false
  | _, _ => false
def en_cli (env : List en_A) (fa : List en_X) (vs : List Nat) (m : Nat × Int × Int × Nat × Nat) : Bool := match en_opi vs m with
  | some f => en_has env fa f
  | none => false
/-- the row that is open, closed: it must be as its kind says -/
def en_cls (KT : List en_D) (σ : en_S) : Option en_S := match σ.2.2.2.2.1 with
  | none => some σ
  | some o => match σ.1[o.1]? with
    | some (.inr (.inl k)) => match KT[k]? with
      | some (.inr (_, _, .inr v)) => if en_clk σ.1 v.1 o.2 = true then (if v.2.all (en_cli σ.1 σ.2.2.2.1 o.2) = true then some (σ.1, σ.2.1, σ.2.2.1, en_elt o.1 0 o.2 ++ σ.2.2.2.1, none, σ.2.2.2.2.2) else none) else none
      | _ => none
    | _ => none
def en_opn (KT : List en_D) (σ : en_S) (i : Nat) (v : en_V8) : en_S :=
  en_sat ((en_opv σ.2.2.2.1 i 0 v.1 σ.1).2, σ.2.1, σ.2.2.1, en_add3 (σ.2.2.2.1.filter (fun f => !(f.1 == 1 && f.2.1 == i))) (v.2.filterMap (en_opi (en_opv σ.2.2.2.1 i 0 v.1 σ.1).1)), some (i, (en_opv σ.2.2.2.1 i 0 v.1 σ.1).1), σ.2.2.2.2.2)
theorem en_elt_ok {PP : Int32 → Int32 → Prop} {Ω : Nat → en_H → va_W → Prop} {sh : en_H} {ws : va_W} {ρ : List Value} {i q r n : Nat} {cA : ClassId} {f : Nat → Int32} (h1 : ρ[i]? = some (.ref r)) (h2 : ws[q]? = some (r, .inl (cA, n, .inl f))) : ∀ (vs : List Nat) (j : Nat), (∀ k c, vs[k]? = some c → ρ[c]? = some (.int (f (j + k))) ∧ j + k < n) → ∀ g ∈ en_elt i j vs, en_fs PP Ω sh ws ρ g
  | [], _, _, g, hg => absurd hg List.not_mem_nil
  | c :: cs, j, h, g, hg => by
    rcases List.mem_cons.mp hg with rfl | hg
    · obtain ⟨a, b⟩ := h 0 c rfl
      exact ⟨q, r, n, cA, f, h1, h2, b, a⟩
    · refine en_elt_ok h1 h2 cs (j + 1) (fun k c hk => ?_) g hg
      obtain ⟨a, b⟩ := h (k + 1) c hk
      rw [show j + 1 + k = j + (k + 1) by omega]
      exact ⟨a, b⟩
theorem en_clk_ok {sh : en_H} {env : List en_A} {ρ : List Value} (he : en_E sh env ρ) : ∀ (rs : List (Int × Int)) (vs : List Nat), en_clk env rs vs = true → ∀ (k : Nat) (r : Int × Int) (c : Nat), rs[k]? = some r → vs[k]? = some c → ∃ x : Int32, ρ[c]? = some (.int x) ∧ r.1 ≤ x.toInt ∧ x.toInt ≤ r.2
  | [], _, _, k, r, c, hr, _ => by simp at hr
  | r0 :: rs, [], h, _, _, _, _, hc => by simp at hc
  | r0 :: rs, c0 :: cs, h, k, r, c, hr, hc => by
    unfold en_clk at h
    split at h
    · next a ha =>
      simp only [Bool.and_eq_true, decide_eq_true_eq] at h
      obtain ⟨h1, h2, h3⟩ := h
      cases k with
      | zero =>
        have e1 : r0 = r := Option.some.inj hr
        have e2 : c0 = c := Option.some.inj hc
        subst e1
        subst e2
        obtain ⟨x, q1, q2, q3⟩ := en_eff_ok he ha
        exact ⟨x, q1, by omega, by omega⟩
      | succ k => exact en_clk_ok he rs cs h3 k r c hr hc
    · cases h
theorem en_clk_len {env : List en_A} : ∀ (rs : List (Int × Int)) (vs : List Nat), en_clk env rs vs = true → rs.length = vs.length
  | [], [], _ => rfl
  | [], _ :: _, h => by simp [en_clk] at h
  | _ :: _, [], h => by simp [en_clk] at h
  | r0 :: rs, c0 :: cs, h => by
    unfold en_clk at h
    split at h
    · simp only [Bool.and_eq_true] at h
      rw [List.length_cons, List.length_cons, en_clk_len rs cs h.2.2]
    · cases h
theorem en_opi_ok {vs : List Nat} {m : Nat × Int × Int × Nat × Nat} {f : en_X} (h : en_opi vs m = some f) : ∃ a b c, vs[m.1]? = some a ∧ vs[m.2.2.2.1 % 100]? = some b ∧ vs[m.2.2.2.2]? = some c ∧ f = (if 100 ≤ m.2.2.2.1 then 10 else 3, a, b, c, m.2.1, m.2.2.1) := by
  unfold en_opi at h
  split at h
  · next a ha =>
    split at h
    · next b hb =>
      split at h
      · next c hc => exact ⟨a, b, c, ha, hb, hc, (Option.some.inj h).symm⟩
      · cases h
    · cases h
  · cases h
section
variable {p : Program} {l : Launch} {e : Env} {R : Room} {s : State} {m : MethodId} {args : Array Value} {below : List Frame} {meth : Method} {c : Code} {Q : State → Prop} {cc : ByteArray}
variable {nL : Nat} {D : va_G} {cl : List vw_C} {tys : List (ClassId × FieldType)} {PP : Int32 → Int32 → Prop} {Ω : Nat → en_H → va_W → Prop} {KT : List en_D} {tk : List Nat} {md : List (Nat × Nat)} {sh0 sh : en_H} {w0 : va_W} {A : Nat → Prop} {H0 : Heap} {σ σ' : en_S} {ρ0 ρ : List Value} {ws : va_W} {H : Heap} {locs : List Loc} {ls : Array Slot} {st : List Value} {pc pc' : Nat}
theorem en_G.cls (g : en_G nL D cl tys PP Ω KT tk md sh0 w0 A H0 σ sh ρ ws H locs ls) (h : en_cls KT σ = some σ') : en_G nL D cl tys PP Ω KT tk md sh0 w0 A H0 σ' sh ρ ws H locs ls ∧ σ'.2.2.2.2.1 = none ∧ σ'.1 = σ.1 ∧ σ'.2.1 = σ.2.1 ∧ σ'.2.2.1 = σ.2.2.1 ∧ σ'.2.2.2.2.2 = σ.2.2.2.2.2 := by
  unfold en_cls at h
  split at h
  · next ho =>
    have e0 := Option.some.inj h
    subst e0
    exact ⟨g, ho, rfl, rfl, rfl, rfl⟩
  · next o ho =>
    split at h
    · next k hk =>
      split at h
      · next t9 n9 v hkt =>
        split at h
        · next hcl =>
          split at h
          · next hci =>
            have e0 := Option.some.inj h
            subst e0
            have hO := g.2.2.2.1
            rw [ho] at hO
            obtain ⟨q0, k0, t0, v0, cA, f, h1, h2, h3, h4, h5, h6, h7, h8⟩ := hO
            obtain ⟨w, w1, ⟨q1, w2, w3⟩, -⟩ := g.1.2 o.1 _ hk
            have ew : w = .ref (sh.2 q0) := Option.some.inj (w1.symm.trans h1)
            rw [ew] at w3
            obtain ⟨ekk, -⟩ := g.uq h6 ⟨q1, w2, w3⟩
            have ek : k0 = k := Option.some.inj (h2.symm.trans ekk)
            subst ek
            have ekt := Option.some.inj (h3.symm.trans hkt)
            simp only [Sum.inr.injEq, Prod.mk.injEq] at ekt
            obtain ⟨et, en, rfl⟩ := ekt
            have hlen := en_clk_len _ _ hcl
            refine ⟨⟨g.1, g.2.1, fun fx hf => ?_, ?_, g.2.2.2.2⟩, rfl, rfl, rfl, rfl, rfl⟩
            · rcases List.mem_append.mp hf with hf | hf
              · refine en_elt_ok h1 h6 o.2 0 (fun j cx hj => ?_) fx hf
                rw [Nat.zero_add]
                exact ⟨h7 j cx hj, (List.getElem?_eq_some_iff.mp hj).1⟩
              · exact g.2.2.1 fx hf
            · refine ⟨h8.1, fun q k hq => ?_⟩
              obtain ⟨e9, z1, z2⟩ := h8.2 q k hq
              by_cases hqq : q = q0
              · subst hqq
                have ek : k0 = k := Option.some.inj (h2.symm.trans hq)
                subst ek
                have ee : e9 = .inl (cA, o.2.length, .inl f) := (Prod.mk.inj (Option.some.inj (z1.symm.trans h6))).2
                subst ee
                refine ⟨_, z1, fun _ _ => ⟨_, h3, h5, rfl, h4, fun j r hr => ?_, fun m hm a1 a2 => ?_⟩⟩
                · have hj : j < o.2.length := by rw [← hlen]; exact (List.getElem?_eq_some_iff.mp hr).1
                  have hc : o.2[j]? = some o.2[j] := List.getElem?_eq_getElem hj
                  obtain ⟨x, x1, x2, x3⟩ := en_clk_ok g.1 _ _ hcl j r _ hr hc
                  have ex : x = f j := Value.int.inj (Option.some.inj (x1.symm.trans (h7 j _ hc)))
                  subst ex
                  exact ⟨x2, x3⟩
                · have hm2 := List.all_eq_true.mp hci m hm
                  unfold en_cli at hm2
                  split at hm2
                  · next fo hop =>
                    obtain ⟨a', b', c', p1, p2, p3, p4⟩ := en_opi_ok hop
                    subst p4
                    have va := h7 _ _ p1
                    have vb := h7 _ _ p2
                    have vc := h7 _ _ p3
                    have h99 := en_has_ok g.1 g.2.2.1 hm2
                    by_cases ht : 100 ≤ m.2.2.2.1
                    · rw [if_pos ht] at h99
                      obtain ⟨x, y, z, r1, r2, r3, r4⟩ := h99
                      have e1 : x = f m.1 := Value.int.inj (Option.some.inj (r1.symm.trans va))
                      have e2 : y = f (m.2.2.2.1 % 100) := Value.int.inj (Option.some.inj (r2.symm.trans vb))
                      have e3 : z = f m.2.2.2.2 := Value.int.inj (Option.some.inj (r3.symm.trans vc))
                      intro hc
                      rw [← e1] at a1 a2
                      rw [← e2, ← e3] at hc ⊢
                      exact r4 a1 a2 (hc ht)
                    · rw [if_neg ht] at h99
                      obtain ⟨x, y, z, r1, r2, r3, r4⟩ := h99
                      have e1 : x = f m.1 := Value.int.inj (Option.some.inj (r1.symm.trans va))
                      have e2 : y = f (m.2.2.2.1 % 100) := Value.int.inj (Option.some.inj (r2.symm.trans vb))
                      have e3 : z = f m.2.2.2.2 := Value.int.inj (Option.some.inj (r3.symm.trans vc))
                      intro _
                      rw [← e1] at a1 a2
                      rw [← e2, ← e3]
                      exact r4 a1 a2
                  · cases hm2
              · exact ⟨e9, z1, fun hk _ => z2 hk hqq⟩
          · cases h
        · cases h
      · cases h
    · cases h
/-- the open row shut, if it can be -/
def en_shut (KT : List en_D) (σ : en_S) : en_S := match en_cls KT σ with
  | some σ1 => σ1
  | none => σ
theorem en_G.shut (g : en_G nL D cl tys PP Ω KT tk md sh0 w0 A H0 σ sh ρ ws H locs ls) : en_G nL D cl tys PP Ω KT tk md sh0 w0 A H0 (en_shut KT σ) sh ρ ws H locs ls ∧ (en_shut KT σ).2.1 = σ.2.1 ∧ (en_shut KT σ).2.2.2.2.2 = σ.2.2.2.2.2 := by
  unfold en_shut
  split
  · next σ1 h1 =>
    obtain ⟨g1, -, -, g3, -, g5⟩ := g.cls h1
    exact ⟨g1, g3, g5⟩
  · exact ⟨g, rfl, rfl⟩
/-- a row with bounds of its own, open or not -/
theorem en_G.row {i k t0 len : Nat} {v : en_V8} (g : en_G nL D cl tys PP Ω KT tk md sh0 w0 A H0 σ sh ρ ws H locs ls) (h : en_kd σ.1 tk i = some k) (hkt : KT[k]? = some (.inr (t0, len, .inr v))) : ∃ (q : Nat) (cA : ClassId) (f : Nat → Int32), ρ[i]? = some (.ref (sh.2 q)) ∧ sh.1[q]? = some k ∧ ws[q]? = some (sh.2 q, .inl (cA, len, .inl f)) ∧ (tys[t0]?).map Prod.fst = some cA ∧ v.1.length = len := by
  obtain ⟨h1, h2, q, h3, h4⟩ := en_kd_ok g.1 h
  have hO := g.2.2.2.1
  have key : ∀ ex : Nat → Prop, en_W PP KT tk sh tys ex ws → ¬ ex q → ∃ (q : Nat) (cA : ClassId) (f : Nat → Int32), ρ[i]? = some (.ref (sh.2 q)) ∧ sh.1[q]? = some k ∧ ws[q]? = some (sh.2 q, .inl (cA, len, .inl f)) ∧ (tys[t0]?).map Prod.fst = some cA ∧ v.1.length = len := fun ex hW hx => by
    obtain ⟨e1, kd, w1, w2, w3⟩ := hW.at h3 h2 hx
    have ekd : kd = .inr (t0, len, .inr v) := Option.some.inj (w2.symm.trans hkt)
    subst ekd
    rcases e1 with ⟨cA, n', f | f | f | f | f⟩ | o
    · obtain ⟨c1, c2, c3, -⟩ := w3
      have c2 : n' = len := c2
      subst c2
      exact ⟨q, cA, f, h4, h3, w1, c1, c3⟩
    · exact w3.elim
    · exact w3.elim
    · exact w3.elim
    · exact w3.elim
    · exact w3.elim
  rcases ho : σ.2.2.2.2.1 with _ | o
  · rw [ho] at hO
    exact key _ hO (fun z => z)
  · rw [ho] at hO
    obtain ⟨q0, k0, t1, v0, cA, f, a1, a2, a3, a4, a5, a6, a7, a8⟩ := hO
    by_cases hq : q = q0
    · subst hq
      have ek : k0 = k := Option.some.inj (a2.symm.trans h3)
      subst ek
      have ekt := Option.some.inj (a3.symm.trans hkt)
      simp only [Sum.inr.injEq, Prod.mk.injEq] at ekt
      obtain ⟨rfl, e2, rfl⟩ := ekt
      rw [e2] at a4 a6
      exact ⟨q, cA, f, h4, h3, a6, a5, a4⟩
    · exact key _ a8 hq
/-- opening: new symbols for the ints that have none -/
theorem en_opv_ok {i r : Nat} {f : Nat → Int32} {fa : List en_X} (hW : ∀ (q' n' : Nat) (cA' : ClassId) (f' : Nat → Int32), ws[q']? = some (r, .inl (cA', n', .inl f')) → f' = f) : ∀ (rs : List (Int × Int)) (j : Nat) (env : List en_A) (ρ : List Value), en_E sh env ρ → ρ[i]? = some (.ref r) → (∀ g ∈ fa, en_fs PP Ω sh ws ρ g) → (∀ k x, rs[k]? = some x → x.1 ≤ (f (j + k)).toInt ∧ (f (j + k)).toInt ≤ x.2) →
    ∃ t : List Value, en_E sh (en_opv fa i j rs env).2 (ρ ++ t) ∧ (en_opv fa i j rs env).1.length = rs.length ∧ ∀ (k : Nat) (cx : Nat), (en_opv fa i j rs env).1[k]? = some cx → (ρ ++ t)[cx]? = some (Value.int (f (j + k)))
  | [], j, env, ρ, hE, hi, hfa, hb => ⟨[], by rw [List.append_nil]; exact hE, rfl, fun k cx hk => by simp [en_opv] at hk⟩
  | x :: rs, j, env, ρ, hE, hi, hfa, hb => by
    unfold en_opv
    split
    · next cx hcx =>
      obtain ⟨lo, hi', hm⟩ := en_lkf_ok hcx
      obtain ⟨q', r', n', cA', f', z1, z2, z3, z4⟩ := hfa _ hm
      have er : r' = r := Value.ref.inj (Option.some.inj (z1.symm.trans hi))
      subst er
      have ef := hW q' n' cA' f' z2
      subst ef
      obtain ⟨t, t1, t2, t3⟩ := en_opv_ok hW rs (j + 1) env ρ hE hi hfa (fun k y hy => by
        have := hb (k + 1) y hy
        rw [show j + 1 + k = j + (k + 1) by omega]
        exact this)
      refine ⟨t, t1, by show (_ :: _).length = _; rw [List.length_cons, List.length_cons, t2], fun k cy hk => ?_⟩
      cases k with
      | zero =>
        have e1 : cx = cy := Option.some.inj hk
        subst e1
        exact en_atL z4
      | succ k =>
        rw [show j + (k + 1) = j + 1 + k by omega]
        exact t3 k cy hk
    · have h0 := hb 0 x rfl
      rw [Nat.add_zero] at h0
      have hE2 := hE.push (a := .inl (x.1, x.2, 0, 0)) (v := .int (f j)) ⟨f j, rfl, h0.1, h0.2⟩ (fun lo hi b o e => absurd e (en_nb0 lo hi b o))
      obtain ⟨t, t1, t2, t3⟩ := en_opv_ok hW rs (j + 1) _ _ hE2 (en_at hi) (fun g hg => (hfa g hg).up) (fun k y hy => by
        have := hb (k + 1) y hy
        rw [show j + 1 + k = j + (k + 1) by omega]
        exact this)
      rw [List.append_assoc] at t1
      refine ⟨[.int (f j)] ++ t, t1, by show (_ :: _).length = _; rw [List.length_cons, List.length_cons, t2], fun k cy hk => ?_⟩
      rw [List.append_assoc] at t3
      cases k with
      | zero =>
        have e1 : env.length = cy := Option.some.inj hk
        subst e1
        rw [← List.append_assoc]
        refine en_atL ?_
        rw [← hE.1]
        exact en_last
      | succ k =>
        rw [show j + (k + 1) = j + 1 + k by omega]
        exact t3 k cy hk
theorem en_G.opn {i k t0 n : Nat} {v : en_V8} (hPP : ∀ x y, PP x y → 0 ≤ x.toInt ∧ x.toInt ≤ 29 ∧ 0 ≤ y.toInt ∧ y.toInt ≤ 19) (g : en_G nL D cl tys PP Ω KT tk md sh0 w0 A H0 σ sh ρ ws H locs ls) (ho : σ.2.2.2.2.1 = none) (hk : en_kd σ.1 tk i = some k) (hkt : KT[k]? = some (.inr (t0, n, .inr v))) :
    ∃ t : List Value, en_G nL D cl tys PP Ω KT tk md sh0 w0 A H0 (en_opn KT σ i v) sh (ρ ++ t) ws H locs ls ∧ (en_opn KT σ i v).2.2.2.2.1 = some (i, (en_opv σ.2.2.2.1 i 0 v.1 σ.1).1) := by
  obtain ⟨hki, hkk, q, hq, hi⟩ := en_kd_ok g.1 hk
  have hO := g.2.2.2.1
  rw [ho] at hO
  obtain ⟨e1, kd, w1, w2, w3⟩ := hO.at hq hkk (fun z => z)
  have ekd : kd = .inr (t0, n, .inr v) := Option.some.inj (w2.symm.trans hkt)
  subst ekd
  rcases e1 with ⟨cA, n', f | f | f | f | f⟩ | o
  · obtain ⟨c1, c2, c3, c4, c5⟩ := w3
    have c2 : n' = n := c2
    subst c2
    obtain ⟨t, t1, t2, t3⟩ := en_opv_ok (PP := PP) (Ω := Ω) (i := i) (r := sh.2 q) (f := f) (fa := σ.2.2.2.1) (fun q' n9 cA' f' z => by
      obtain ⟨-, ee⟩ := g.inj w1 z
      simp only [Sum.inl.injEq, Prod.mk.injEq] at ee
      exact ee.2.2.symm) v.1 0 σ.1 ρ g.1 hi g.2.2.1 (fun j x hx => by rw [Nat.zero_add]; exact c4 j x hx)
    refine ⟨t, en_G.sat hPP ⟨t1, g.2.1.up, fun fx hf => ?_, ?_, g.2.2.2.2⟩, rfl⟩
    · refine en_add3_ok (P := fun fx => en_fs PP Ω sh ws (ρ ++ t) fx) (fun fx hf => (g.2.2.1 fx (List.mem_filter.mp hf).1).up) _ (fun fx hf => ?_) fx hf
      obtain ⟨mm, hm, hop⟩ := List.mem_filterMap.mp hf
      obtain ⟨a, b, c', p1, p2, p3, rfl⟩ := en_opi_ok hop
      have q1 := t3 _ _ p1
      have q2 := t3 _ _ p2
      have q3 := t3 _ _ p3
      rw [Nat.zero_add] at q1 q2 q3
      by_cases ht : 100 ≤ mm.2.2.2.1
      · rw [if_pos ht]
        exact ⟨f mm.1, f (mm.2.2.2.1 % 100), f mm.2.2.2.2, q1, q2, q3, fun a1 a2 hc => c5 mm hm a1 a2 fun _ => hc⟩
      · rw [if_neg ht]
        exact ⟨f mm.1, f (mm.2.2.2.1 % 100), f mm.2.2.2.2, q1, q2, q3, fun a1 a2 => c5 mm hm a1 a2 fun h9 => absurd h9 ht⟩
    · have hl : (en_opv σ.2.2.2.1 i 0 v.1 σ.1).1.length = n' := by rw [t2]; exact c3
      refine ⟨q, k, t0, v, cA, f, en_atL hi, hq, ?_, ?_, c1, ?_, fun j cx hj => ?_, hO.ex (fun _ z => z.elim)⟩
      · show KT[k]? = some (.inr (t0, (en_opv σ.2.2.2.1 i 0 v.1 σ.1).1.length, .inr v))
        rw [hl]
        exact hkt
      · show v.1.length = (en_opv σ.2.2.2.1 i 0 v.1 σ.1).1.length
        rw [t2]
      · show ws[q]? = some (sh.2 q, .inl (cA, (en_opv σ.2.2.2.1 i 0 v.1 σ.1).1.length, .inl f))
        rw [hl]
        exact w1
      · have := t3 j cx hj
        rwa [Nat.zero_add] at this
  · exact w3.elim
  · exact w3.elim
  · exact w3.elim
  · exact w3.elim
  · exact w3.elim
/-- to have the row open to which i points -/
def en_rdy (KT : List en_D) (σ : en_S) (i : Nat) (v : en_V8) : Option en_S := match σ.2.2.2.2.1 with
  | some o => if o.1 = i then some σ else (match en_cls KT σ with
    | some σ1 => some (en_opn KT σ1 i v)
    | none => none)
  | none => some (en_opn KT σ i v)
theorem en_G.rdy {i k t0 n : Nat} {v : en_V8} (hPP : ∀ x y, PP x y → 0 ≤ x.toInt ∧ x.toInt ≤ 29 ∧ 0 ≤ y.toInt ∧ y.toInt ≤ 19) (g : en_G nL D cl tys PP Ω KT tk md sh0 w0 A H0 σ sh ρ ws H locs ls) (hk : en_kd σ.1 tk i = some k) (hkt : KT[k]? = some (.inr (t0, n, .inr v))) (h : en_rdy KT σ i v = some σ') :
    ∃ (t : List Value) (vs : List Nat), en_G nL D cl tys PP Ω KT tk md sh0 w0 A H0 σ' sh (ρ ++ t) ws H locs ls ∧ σ'.2.2.2.2.1 = some (i, vs) ∧ σ'.2.1 = σ.2.1 ∧ σ'.2.2.2.2.2 = σ.2.2.2.2.2 := by
  unfold en_rdy at h
  split at h
  · next o ho =>
    split at h
    · next hoi =>
      have e0 := Option.some.inj h
      subst e0
      refine ⟨[], o.2, by rw [List.append_nil]; exact g, ?_, rfl, rfl⟩
      rw [ho, ← hoi]
    · split at h
      · next σ1 h1 =>
        have e0 := Option.some.inj h
        subst e0
        obtain ⟨g1, g2, g3, g4, g5, g6⟩ := g.cls h1
        obtain ⟨t, t1, t2⟩ := g1.opn hPP g2 (by rw [g3]; exact hk) hkt
        exact ⟨t, _, t1, t2, g4, g6⟩
      · cases h
  · next ho =>
    have e0 := Option.some.inj h
    subst e0
    obtain ⟨t, t1, t2⟩ := g.opn hPP ho hk hkt
    exact ⟨t, _, t1, t2, rfl, rfl⟩
end
