/-! a hole told, an area told -/
/-- told by an out: cup and tee of row k differ -/
def lw_rw (k : Nat) (o : en_Pt) : Bool := o.2.any fun f => f.1 == 0 && (f.2.1 == 0 && (f.2.2.1 == 0 && o.2.any fun e => e.1 == 4 && (e.2.1 == f.2.2.2.1 && ((match o.1[e.2.2.1]? with | some (.inl r) => decide ((k : Int) ≤ r.1) && decide (r.2.1 ≤ (k : Int)) | _ => false) && o.2.any fun d => d.1 == 12 && ((o.2.contains (1, e.2.2.2.1, 2, d.2.1, 0, 0) && o.2.contains (1, e.2.2.2.1, 4, d.2.2.1, 0, 0)) || (o.2.contains (1, e.2.2.2.1, 3, d.2.1, 0, 0) && o.2.contains (1, e.2.2.2.1, 5, d.2.2.1, 0, 0)))))))
theorem lw_rw_ok {k : Nat} {PP : Int32 → Int32 → Prop} {Ω : Nat → en_H → va_W → Prop} {sh sh' : en_H} {w : va_W} {A : Nat → Prop} {o : en_Pt} {ρ fs : List Value} (hk : k < 9) (h : lw_rw k o = true) (hD : va_D A w) (hw : w[0]? = some (sh.2 0, .inr (13, fs))) (h0 : ρ[0]? = some (.ref (sh.2 0))) (hPa : en_Pa PP Ω sh' w o ρ) (hc : lw_cr sh w) (h00 : fs[0]? = some (.ref (sh.2 1))) (hr : ∃ e, w[2 + k]? = some (sh.2 (2 + k), e)) : ∃ g, en_cr w fs k g ∧ ¬ (g 2 = g 4 ∧ g 3 = g 5) := by
  obtain ⟨cA, f, hw1, hf⟩ := hc
  obtain ⟨fa, hfa, h9⟩ := List.any_eq_true.mp h
  obtain ⟨t1, a1, b1, c1, l1, u1⟩ := fa
  simp only [Bool.and_eq_true, beq_iff_eq] at h9
  obtain ⟨rfl, rfl, rfl, h9⟩ := h9
  obtain ⟨fb, hfb, h9⟩ := List.any_eq_true.mp h9
  obtain ⟨t2, a2, b2, c2, l2, u2⟩ := fb
  simp only [Bool.and_eq_true, beq_iff_eq] at h9
  obtain ⟨rfl, rfl, h8, h9⟩ := h9
  obtain ⟨fd, hfd, h9⟩ := List.any_eq_true.mp h9
  obtain ⟨t3, a3, b3, c3, l3, u3⟩ := fd
  simp only [Bool.and_eq_true, Bool.or_eq_true, beq_iff_eq] at h9
  obtain ⟨rfl, h9⟩ := h9
  -- the course
  obtain ⟨q, r9, ci, fs9, v9, d1, d2, d3, d4⟩ := hPa.2.2 _ hfa
  have er : r9 = sh.2 0 := Value.ref.inj (Option.some.inj (d1.symm.trans h0))
  subst er
  have eq : q = 0 := hD.1 q 0 _ _ d2 hw rfl
  subst eq
  have e9 : fs9 = fs := (Prod.mk.inj (Sum.inr.inj (Prod.mk.inj (Option.some.inj (d2.symm.trans hw))).2)).2
  subst e9
  obtain ⟨q1, r1, n1, cA1, f1, i, y, e1, e2, e3, e4, e5⟩ := hPa.2.2 _ hfb
  have ev : v9 = .ref r1 := Option.some.inj (d4.symm.trans e1)
  subst ev
  have hi : i.toNatClampNeg = k := by
    split at h8
    · next r hr9 =>
      simp only [Bool.and_eq_true, decide_eq_true_eq] at h8
      obtain ⟨v, v1, x, rfl, v2, v3⟩ := hPa.2.1 b2 _ hr9
      have ex : i = x := Value.int.inj (Option.some.inj (e3.symm.trans v1))
      subst ex
      have : i.toInt = (k : Int) := by omega
      have := en_cN (x := i) (by omega)
      omega
    · cases h8
  rw [hi] at e4
  -- a row of it
  have row : ∀ (j c : Nat) (x9 : Int32), en_fs PP Ω sh' w ρ (1, c2, j, c, 0, 0) → ρ[c]? = some (.int x9) → ∃ (q n : Nat) (cB : ClassId) (g : Nat → Int32), w[q]? = some (y, .inl (cB, n, .inl g)) ∧ g j = x9 := fun j c x9 hfs hc => by
    obtain ⟨q2, r2, n2, cA2, g, g1, g2, g3, g4⟩ := hfs
    have er : r2 = y := Value.ref.inj (Option.some.inj (g1.symm.trans e5))
    subst er
    exact ⟨q2, n2, cA2, g, g2, Value.int.inj (Option.some.inj (g4.symm.trans hc))⟩
  obtain ⟨x, z, m1, m2, m3⟩ := hPa.2.2 _ hfd
  have er : r1 = sh.2 1 := Value.ref.inj (Option.some.inj (d3.symm.trans h00))
  subst er
  have eq1 : q1 = 1 := hD.1 q1 1 _ _ e2 hw1 rfl
  subst eq1
  have ee := Option.some.inj (e2.symm.trans hw1)
  simp only [Prod.mk.injEq, Sum.inl.injEq, Sum.inr.injEq, true_and] at ee
  obtain ⟨rfl, rfl, rfl⟩ := ee
  have ey : y = sh.2 (2 + k) := Option.some.inj (e4.symm.trans (hf k hk))
  subst ey
  obtain ⟨er9, hr9⟩ := hr
  have mk : ∀ (j1 j2 : Nat), ((j1 = 2 ∧ j2 = 4) ∨ (j1 = 3 ∧ j2 = 5)) → en_fs PP Ω sh' w ρ (1, c2, j1, a3, 0, 0) → en_fs PP Ω sh' w ρ (1, c2, j2, b3, 0, 0) → ∃ g, en_cr w fs9 k g ∧ ¬ (g 2 = g 4 ∧ g 3 = g 5) := fun j1 j2 hj g1 g2 => by
    obtain ⟨qa, na, cB, g, p1, p2⟩ := row _ _ _ g1 m1
    obtain ⟨qb, nb, cB', g', p3, p4⟩ := row _ _ _ g2 m2
    have ea : qa = 2 + k := hD.1 qa (2 + k) _ _ p1 hr9 rfl
    have eb : qb = 2 + k := hD.1 qb (2 + k) _ _ p3 hr9 rfl
    subst ea
    rw [eb] at p3
    have e8 := Option.some.inj (p1.symm.trans p3)
    simp only [Prod.mk.injEq, Sum.inl.injEq, true_and] at e8
    obtain ⟨-, -, rfl⟩ := e8
    refine ⟨g, ⟨_, _, _, _, _, _, _, h00, hw1, hf k hk, p1⟩, fun hh => m3 ?_⟩
    rcases hj with ⟨rfl, rfl⟩ | ⟨rfl, rfl⟩
    · rw [← p2, ← p4]
      exact hh.1
    · rw [← p2, ← p4]
      exact hh.2
  rcases h9 with ⟨h1, h2⟩ | ⟨h1, h2⟩
  · exact mk 2 4 (Or.inl ⟨rfl, rfl⟩) (hPa.2.2 _ (List.contains_iff_mem.mp h1)) (hPa.2.2 _ (List.contains_iff_mem.mp h2))
  · exact mk 3 5 (Or.inr ⟨rfl, rfl⟩) (hPa.2.2 _ (List.contains_iff_mem.mp h1)) (hPa.2.2 _ (List.contains_iff_mem.mp h2))
section
variable {tys : List (ClassId × FieldType)} {cO cD : ClassId} {A : Nat → Prop} {sh : en_H} {w : va_W} {qx qo qd : Nat} {E : Int32 → Int32 → Prop} {LP : en_H → va_W → Prop} {cx cy : Int32} {fs fs' : List Value} {st : Nat} {PP : Int32 → Int32 → Prop} {k : Nat}
theorem lw_to1 (I : lw_I E LP tys cO cD qx qo qd sh w st cx cy fs) : fs[0]? = some (.ref (sh.2 1)) := by
  obtain ⟨e, a, b⟩ := I.hs.1.2 0 20 I.h20
  obtain ⟨kd, c1, c2⟩ := b (by decide) (fun z => z)
  have e9 : e = .inr (13, fs) := (Prod.mk.inj (Option.some.inj (a.symm.trans I.hs.2.1))).2
  subst e9
  rw [lw_KT_eq st 20 (by decide) (by decide)] at c1
  obtain ⟨ts, h1, h2, h3⟩ : ∃ ts, en_KT[20]? = some (.inl (13, ts)) ∧ ts[0]? = some (.inr (.inl 21)) ∧ ts.length = 31 := ⟨_, rfl, rfl, rfl⟩
  have e := Option.some.inj (h1.symm.trans c1)
  subst e
  have hl : fs.length = 31 := c2.2.1.trans h3
  have hv := List.getElem?_eq_getElem (show 0 < fs.length by omega)
  obtain ⟨q, q1, q2⟩ := c2.2.2 0 _ _ h2 hv
  rw [hv, q2, I.hsp.2.2.2.1 q q1]
/-- the number of holes told lies in its bounds -/
theorem lw_b16 {KT : List en_D} {tk : List Nat} (hW : en_W PP KT tk sh tys (fun _ => False) w) (h20 : sh.1[0]? = some 20) (ht : 20 ∈ tk) (hk : KT[20]? = en_KT[20]?) (hw : w[0]? = some (sh.2 0, .inr (13, fs))) : lw_b fs (16, 0, 9) := by
  obtain ⟨e, a, b⟩ := hW.2 0 20 h20
  obtain ⟨kd, c1, c2⟩ := b ht (fun z => z)
  have e9 : e = .inr (13, fs) := (Prod.mk.inj (Option.some.inj (a.symm.trans hw))).2
  subst e9
  rw [hk] at c1
  obtain ⟨ts, h1, h2, h3⟩ : ∃ ts, en_KT[20]? = some (.inl (13, ts)) ∧ ts[16]? = some (.inl (0, 9, 0, 0)) ∧ ts.length = 31 := ⟨_, rfl, rfl, rfl⟩
  have e := Option.some.inj (h1.symm.trans c1)
  subst e
  have hl : fs.length = 31 := c2.2.1.trans h3
  have hv := List.getElem?_eq_getElem (show 16 < fs.length by omega)
  obtain ⟨x, x1, x2, x3⟩ := c2.2.2 16 _ _ h2 hv
  exact ⟨x, by rw [hv, x1], x2, x3⟩
/-- behind a call that knows one row of the course apart -/
theorem lw_row {κ : en_K} {ρ : List Value} {res : Option Value} {u : en_H × va_W} (hLP : lw_st LP) (hk : k < 9) (I : lw_I E LP tys cO cD qx qo qd sh w 0 cx cy fs) (hD : va_D A u.2) (h : en_Po tys (en_Pc cx cy) (en_Of cx cy) (lw_KTs k) κ (lw_rl k sh) w ρ res u) (h0 : ρ[0]? = some (.ref (sh.2 0))) (hn : 0 < κ.1)
    (c1 : (κ.2.2.2.1.all fun z => κ.2.2.2.2.1.contains z.1 && (z.1 == 22 || z.1 == 45 || (z.1 == 43 || z.1 == 24) || z == (20, 16) || z == (20, 30))) = true) (c3 : (∀ k ∈ κ.2.2.2.2.1, k < 49 ∧ k ≠ 39 ∧ k ≠ 46) ∧ 27 ∉ κ.2.2.2.2.1)
    (hO : ∀ o ∈ κ.2.2.1, ∀ (ρ' fs' : List Value), (∀ (i : Nat), i < κ.1 → ρ'[i]? = ρ[i]?) → u.2[0]? = some (u.1.2 0, .inr (13, fs')) → (∀ (j : Nat), j ≠ 16 → j ≠ 30 → fs'[j]? = fs[j]?) → en_Pa (en_Pc cx cy) (en_Of cx cy) u.1 u.2 o ρ' → ∀ y y0 : Int32, fs'[16]? = some (.int y) → fs[16]? = some (.int y0) → (∀ h, h < y.toNatClampNeg → h ≠ k → h < y0.toNatClampNeg) ∧ (k < y.toNatClampNeg → lw_rw k o = true)) : ∃ fs', lw_I E LP tys cO cD qx qo qd (lw_ul u.1) u.2 0 cx cy fs' := by
  obtain ⟨hpx0, o, ho, ρ', hPa, hi, -⟩ := h
  have hmd : ∀ z ∈ κ.2.2.2.1, z.1 ∈ κ.2.2.2.2.1 ∧ (z.1 = 22 ∨ z.1 = 45 ∨ (z.1 = 43 ∨ z.1 = 24) ∨ z = (20, 16) ∨ z = (20, 30)) := fun z hz => by
    have h9 := List.all_eq_true.mp c1 z hz
    simp only [Bool.and_eq_true, Bool.or_eq_true, beq_iff_eq, List.contains_eq_mem, decide_eq_true_eq] at h9
    refine ⟨h9.1, ?_⟩
    rcases h9.2 with (((h | h) | h) | h) | h
    · exact Or.inl h
    · exact Or.inr (Or.inl h)
    · exact Or.inr (Or.inr (Or.inl h))
    · exact Or.inr (Or.inr (Or.inr (Or.inl h)))
    · exact Or.inr (Or.inr (Or.inr (Or.inr h)))
  have nin : ∀ z : Nat × Nat, z.1 ≠ 22 → z.1 ≠ 45 → ¬ (z.1 = 43 ∨ z.1 = 24) → z ≠ (20, 16) → z ≠ (20, 30) → z ∉ κ.2.2.2.1 := fun z a b c d e hz => by
    rcases (hmd z hz).2 with h | h | h | h | h
    · exact a h
    · exact b h
    · exact c h
    · exact d h
    · exact e h
  have hW0 : en_W (en_Pc cx cy) en_KT κ.2.2.2.2.1 sh tys (fun _ => False) w := lw_pre I.hs.1 c3.1 (Or.inr c3.2)
  obtain ⟨s1, s2, s3, s4, s5⟩ := I.hsp
  obtain ⟨hpx, hrow⟩ := lw_ofS hk s1 s2 s3 (fun z hz => by
    rcases (hmd z hz).2 with h | h | h | h | h
    · rw [h]; decide
    · rw [h]; decide
    · rcases h with h | h <;> rw [h] <;> decide
    · rw [h]; decide
    · rw [h]; decide) hpx0 hW0 (fun z hz => (hmd z hz).1)
  obtain ⟨fs', g1, g2⟩ := lw_fs I.h20 I.hs.2.1 hpx
  have hfs : ∀ (j : Nat), j ≠ 16 → j ≠ 30 → fs'[j]? = fs[j]? := fun j a b => g2 j (nin (20, j) (show (20 : Nat) ≠ 22 by decide) (show (20 : Nat) ≠ 45 by decide) (show ¬ ((20 : Nat) = 43 ∨ (20 : Nat) = 24) by decide) (fun e => a (Prod.mk.inj e).2) (fun e => b (Prod.mk.inj e).2))
  have nk : ∀ c : Nat, c ≠ 22 → c ≠ 45 → ¬ (43 = c ∨ 24 = c) → c ≠ 20 → ∀ z ∈ κ.2.2.2.1, z.1 ≠ c := fun c a1 a2 a3 a4 z hz e => by
    rcases (hmd z hz).2 with h | h | h | h | h
    · exact a1 (e.symm.trans h)
    · exact a2 (e.symm.trans h)
    · exact a3 (h.imp (fun q => q.symm.trans e) (fun q => q.symm.trans e))
    · rw [h] at e
      exact a4 e.symm
    · rw [h] at e
      exact a4 e.symm
  have hWu := lw_wd I.hs.1 hpx (fun z hz => Or.inl (hmd z hz).1) (fun j => by
    by_cases e27 : j = 27
    · exact Or.inr ⟨fun z hz => by rw [e27]; exact nk 27 (by decide) (by decide) (by decide) (by decide) z hz, by subst e27; decide⟩
    · by_cases e35 : j = 35
      · exact Or.inr ⟨fun z hz => by rw [e35]; exact nk 35 (by decide) (by decide) (by decide) (by decide) z hz, by subst e35; decide⟩
      · exact Or.inl (lw_KT_eq 0 j e27 e35))
  have hcr := lw_crg hpx (nin (21, 0) (by decide) (by decide) (by decide) (by decide) (by decide)) I.hsp I.hcr
  have hsp := lw_spg hpx.1 I.hsp
  have hb16 := lw_b16 hWu (lw_ag hpx.1 I.h20) (by decide) rfl g1
  obtain ⟨y, y1, -, -⟩ := hb16
  obtain ⟨y0, z1, -, -⟩ := I.hs.2.2.1 (16, 0, 9) (by decide)
  have had := I.had
  have hO1 : en_O1 u.2 := by
    obtain ⟨m0, cM, fs9, hn9, o1, o2, o3, o4⟩ := I.hs.2.2.2.1
    have ee := Option.some.inj (o1.symm.trans I.hs.2.1)
    simp only [Prod.mk.injEq, Sum.inr.injEq] at ee
    obtain ⟨rfl, rfl, rfl⟩ := ee
    have ey : hn9 = y0 := Value.int.inj (Option.some.inj (o2.symm.trans z1))
    subst ey
    have g0' : ρ'[0]? = some (.ref (u.1.2 0)) := by
      rw [hi 0 hn, h0]
      exact congrArg (fun q => some (Value.ref q)) (hpx.1.at I.h20).2.symm
    obtain ⟨p1, p2⟩ := hO o ho ρ' fs' hi g1 hfs hPa y hn9 y1 z1
    have e00 : fs'[0]? = some (.ref ((lw_ul u.1).2 1)) := by
      rw [hfs 0 (by decide) (by decide), lw_to1 I]
      exact congrArg (fun q => some (Value.ref q)) (hpx.1.at s5).2.symm
    refine ⟨_, 13, fs', y, g1, y1, fun h h8 h9 => ?_, fun j hj => ?_⟩
    · by_cases hhk : h = k
      · subst hhk
        obtain ⟨e9, a9, -⟩ := hpx.2.1.2 (2 + h) 22 (lw_ag hpx.1 (s1 h h9))
        exact lw_rw_ok (sh := lw_ul u.1) h9 (p2 h8) hD g1 g0' hPa hcr e00 ⟨e9, a9⟩
      · obtain ⟨g, ⟨a, cA, n, f, b, cB, n2, r1, r2, r3, r4⟩, g9⟩ := o3 h (p1 h h8 hhk) h9
        have eb : b = sh.2 (2 + h) := by
          obtain ⟨e9, a9, -⟩ := hW0.2 (2 + h) 22 (s1 h h9)
          exact (Prod.mk.inj (Option.some.inj (r4.symm.trans a9))).1
        have ea : a = sh.2 1 := by
          obtain ⟨e9, a9, -⟩ := hW0.2 1 21 s5
          exact (Prod.mk.inj (Option.some.inj (r2.symm.trans a9))).1
        subst eb
        subst ea
        exact ⟨g, ⟨_, cA, n, f, _, cB, n2, (hfs 0 (by decide) (by decide)).trans r1, wr_keep (u := (lw_ul u.1, u.2)) hpx s5 (nin (21, 0) (by decide) (by decide) (by decide) (by decide) (by decide)) r2, r3, hrow h h9 hhk _ r4⟩, g9⟩
    · obtain ⟨b, a, cA, n, f, x, b1, b2, b3, b4⟩ := o4 j hj
      have e11 : sh.1[11]? = some 26 := I.h26
      have ea : a = sh.2 11 := by
        obtain ⟨e9, a9, -⟩ := hW0.2 11 26 e11
        exact (Prod.mk.inj (Option.some.inj (b2.symm.trans a9))).1
      have eb : b = sh.2 (12 + j) := by
        obtain ⟨e9, a9, -⟩ := hW0.2 (12 + j) 27 (I.h27b j hj)
        exact (Prod.mk.inj (Option.some.inj (b4.symm.trans a9))).1
      subst ea
      subst eb
      exact ⟨_, _, cA, n, f, x, (hfs 3 (by decide) (by decide)).trans b1, wr_keep (u := (lw_ul u.1, u.2)) hpx e11 (nin (26, 0) (by decide) (by decide) (by decide) (by decide) (by decide)) b2, b3, wr_keep (u := (lw_ul u.1, u.2)) hpx (I.h27b j hj) (nin (27, 0) (by decide) (by decide) (by decide) (by decide) (by decide)) b4⟩
  refine ⟨fs', lw_Iq (u := (lw_ul u.1, u.2)) hLP I hpx ?_ g1 (by decide) (lw_Io I hpx (nin (56, 0) (by decide) (by decide) (by decide) (by decide) (by decide))) (lw_Id I hpx (nin (57, 0) (by decide) (by decide) (by decide) (by decide) (by decide))) ⟨hWu, g1, fun b hb => ?_, hO1, fun h3 => absurd h3 (by decide)⟩⟩
  · refine List.all_eq_true.mpr fun z hz => ?_
    rcases (hmd z hz).2 with h | h | h | h | h <;> obtain ⟨za, zb⟩ := z <;> try simp only at h
    · subst h; simp [lw_wt]
    · subst h; simp [lw_wt]
    · rcases h with h | h <;> subst h <;> simp [lw_wt]
    · rw [h]; decide
    · rw [h]; decide
  · have hb4 : b ∈ [(22, (0 : Int), (0 : Int)), (21, 0, 0), (20, 0, 0), (16, 0, 9)] := hb
    simp only [List.mem_cons, List.not_mem_nil, or_false] at hb4
    rcases hb4 with rfl | rfl | rfl | rfl
    · exact lw_bk (I.hs.2.2.1 (22, 0, 0) (by decide)) (hfs 22 (by decide) (by decide)) (by decide) (by decide)
    · exact lw_bk (I.hs.2.2.1 (21, 0, 0) (by decide)) (hfs 21 (by decide) (by decide)) (by decide) (by decide)
    · exact lw_bk (I.hs.2.2.1 (20, 0, 0) (by decide)) (hfs 20 (by decide) (by decide)) (by decide) (by decide)
    · exact lw_b16 hWu (lw_ag hpx.1 I.h20) (by decide) rfl g1
theorem lw_0 {κ : en_K} {ρ ρ' : List Value} {u : en_H × va_W} {tk : List Nat} {k : Nat} (hi : ∀ i, i < κ.1 → ρ'[i]? = ρ[i]?) (hn : 0 < κ.1) (g : en_Gr tk (lw_rl k sh) u.1) (h20 : sh.1[0]? = some 20) (h0 : ρ[0]? = some (.ref (sh.2 0))) : ρ'[0]? = some (.ref (u.1.2 0)) := by
  have hlen : (lw_rl k sh).1.length = sh.1.length := List.length_mapIdx
  rw [hi 0 hn, h0, g.2 0 (by rw [hlen]; exact (List.getElem?_eq_some_iff.mp h20).1)]
  rfl
/-- a hole told -/
theorem lw_rowH {κ : en_K} {ρ : List Value} {res : Option Value} {u : en_H × va_W} (hLP : lw_st LP) (hk : k < 9) (I : lw_I E LP tys cO cD qx qo qd sh w 0 cx cy fs) (hD : va_D A u.2) (h : en_Po tys (en_Pc cx cy) (en_Of cx cy) (lw_KTs k) κ (lw_rl k sh) w ρ res u) (h0 : ρ[0]? = some (.ref (sh.2 0))) (hn : 0 < κ.1)
    (c1 : (κ.2.2.2.1.all fun z => κ.2.2.2.2.1.contains z.1 && (z.1 == 22 || z.1 == 45 || (z.1 == 43 || z.1 == 24) || z == (20, 16) || z == (20, 30))) = true) (c3 : (∀ k ∈ κ.2.2.2.2.1, k < 49 ∧ k ≠ 39 ∧ k ≠ 46) ∧ 27 ∉ κ.2.2.2.2.1) {x16 : Int32} (f16 : fs[16]? = some (.int x16)) (e16 : x16.toInt = (k : Int)) (ha : (κ.2.2.1.all fun o => lw_hb o (16, 0, (k : Int)) || (lw_hb o (16, 0, (k : Int) + 1) && lw_rw k o)) = true) : ∃ fs', lw_I E LP tys cO cD qx qo qd (lw_ul u.1) u.2 0 cx cy fs' := by
  have hg := h.1.1
  refine lw_row hLP hk I hD h h0 hn c1 c3 fun o ho ρ' fs' hi g1 hfs hPa y y0 hy hy0 => ?_
  have e0 : y0 = x16 := Value.int.inj (Option.some.inj (hy0.symm.trans f16))
  subst e0
  have h09 := lw_0 hi hn hg I.h20 h0
  have c0 := en_cN (x := y0) (by omega)
  have h9 := List.all_eq_true.mp ha o ho
  simp only [Bool.or_eq_true, Bool.and_eq_true] at h9
  rcases h9 with h9 | ⟨h9, h8⟩
  · obtain ⟨x, x1, x2, x3⟩ := lw_hb_ok h9 hD g1 h09 hPa
    have ex : x = y := Value.int.inj (Option.some.inj (x1.symm.trans hy))
    subst ex
    have x2 : (0 : Int) ≤ x.toInt := x2
    have x3 : x.toInt ≤ (k : Int) := x3
    have c1 := en_cN (x := x) (by omega)
    exact ⟨fun h a b => by omega, fun h => by omega⟩
  · obtain ⟨x, x1, x2, x3⟩ := lw_hb_ok h9 hD g1 h09 hPa
    have ex : x = y := Value.int.inj (Option.some.inj (x1.symm.trans hy))
    subst ex
    have x2 : (0 : Int) ≤ x.toInt := x2
    have x3 : x.toInt ≤ (k : Int) + 1 := x3
    have c1 := en_cN (x := x) (by omega)
    exact ⟨fun h a b => by omega, fun _ => h8⟩
/-- an area told -/
theorem lw_rowA {κ : en_K} {ρ : List Value} {res : Option Value} {u : en_H × va_W} (hLP : lw_st LP) (hk : k < 9) (I : lw_I E LP tys cO cD qx qo qd sh w 0 cx cy fs) (hD : va_D A u.2) (h : en_Po tys (en_Pc cx cy) (en_Of cx cy) (lw_KTs k) κ (lw_rl k sh) w ρ res u) (h0 : ρ[0]? = some (.ref (sh.2 0))) (hn : 0 < κ.1)
    (c1 : (κ.2.2.2.1.all fun z => κ.2.2.2.2.1.contains z.1 && (z.1 == 22 || z.1 == 45 || (z.1 == 43 || z.1 == 24) || z == (20, 16) || z == (20, 30))) = true) (c3 : (∀ k ∈ κ.2.2.2.2.1, k < 49 ∧ k ≠ 39 ∧ k ≠ 46) ∧ 27 ∉ κ.2.2.2.2.1) (h16 : (20, 16) ∉ κ.2.2.2.1) (ha : (κ.2.2.1.all (lw_rw k)) = true) : ∃ fs', lw_I E LP tys cO cD qx qo qd (lw_ul u.1) u.2 0 cx cy fs' := by
  have hF := h.1.2.2
  have h20 := I.h20
  have hw0 := I.hs.2.1
  refine lw_row hLP hk I hD h h0 hn c1 c3 fun o ho ρ' fs' hi g1 hfs hPa y y0 hy hy0 => ?_
  have h9 : (lw_rl k sh).1[0]? = some 20 := by
    rw [lw_rlat, h20]
    show some (if 2 ≤ 0 ∧ 0 < 11 ∧ 0 ≠ 2 + k then 48 else 20) = some 20
    rw [if_neg (by omega)]
  obtain ⟨e, a1, a2⟩ := hF 0 20 _ h9 hw0
  rcases e with x | ⟨ci, fs9⟩
  · exact a2.elim
  have e9 : fs9 = fs' := (Prod.mk.inj (Sum.inr.inj (Prod.mk.inj (Option.some.inj (a1.symm.trans g1))).2)).2
  subst e9
  have ey : y = y0 := Value.int.inj (Option.some.inj (hy.symm.trans ((a2.2.2 16 h16).trans hy0)))
  subst ey
  exact ⟨fun h a _ => a, fun _ => List.all_eq_true.mp ha o ho⟩
/-- cup and tee of a told hole differ, by the first or by the second number -/
theorem lw_cup {k : Nat} {x16 : Int32} (I : lw_I E LP tys cO cD qx qo qd sh w st cx cy fs) (hk : k < 9) (f16 : fs[16]? = some (.int x16)) (h : (k : Int) < x16.toInt) : ∃ (cA cB : ClassId) (f : Nat → Option Nat) (g : Nat → Int32), fs[0]? = some (.ref (sh.2 1)) ∧ w[1]? = some (sh.2 1, .inl (cA, 9, .inr (.inr (.inr (.inr f))))) ∧ f k = some (sh.2 (2 + k)) ∧ w[2 + k]? = some (sh.2 (2 + k), .inl (cB, 7, .inl g)) ∧ (¬ g 2 = g 4 ∨ ¬ g 3 = g 5) ∧ (0 ≤ (g 2).toInt ∧ (g 2).toInt ≤ 29) ∧ (0 ≤ (g 3).toInt ∧ (g 3).toInt ≤ 19) ∧ (0 ≤ (g 4).toInt ∧ (g 4).toInt ≤ 29) ∧ (0 ≤ (g 5).toInt ∧ (g 5).toInt ≤ 19) := by
  obtain ⟨m0, cM, fs9, hn9, o1, o2, o3, o4⟩ := I.hs.2.2.2.1
  have ee := Option.some.inj (o1.symm.trans I.hs.2.1)
  simp only [Prod.mk.injEq, Sum.inr.injEq] at ee
  obtain ⟨rfl, rfl, rfl⟩ := ee
  have ey : hn9 = x16 := Value.int.inj (Option.some.inj (o2.symm.trans f16))
  subst ey
  have c0 := en_cN (x := hn9) (by omega)
  obtain ⟨g, ⟨a, cA, n, f, b, cB, n2, r1, r2, r3, r4⟩, g9⟩ := o3 k (by omega) hk
  obtain ⟨cA1, f1, hw1, hf1⟩ := I.hcr
  have ea : a = sh.2 1 := Value.ref.inj (Option.some.inj (r1.symm.trans (lw_to1 I)))
  subst ea
  have e1 := Option.some.inj (r2.symm.trans hw1)
  simp only [Prod.mk.injEq, Sum.inl.injEq, Sum.inr.injEq, true_and] at e1
  obtain ⟨rfl, rfl, rfl⟩ := e1
  have eb : b = sh.2 (2 + k) := Option.some.inj (r3.symm.trans (hf1 k hk))
  subst eb
  obtain ⟨e9, a9, b9⟩ := I.hs.1.2 (2 + k) 22 (I.hsp.1 k hk)
  obtain ⟨kd, c1, c2⟩ := b9 (by decide) (fun z => z)
  rw [lw_KT_eq st 22 (by decide) (by decide)] at c1
  have ek := Option.some.inj (c1.symm.trans (show en_KT[22]? = some (.inr (0, 7, .inr ([(-2147483648, 2147483647), (-2147483648, 2147483647), (0, 29), (0, 19), (0, 29), (0, 19), (-2147483648, 2147483647)], []))) from rfl))
  subst ek
  have ee9 : e9 = .inl (cB, n2, .inl g) := (Prod.mk.inj (Option.some.inj (a9.symm.trans r4))).2
  subst ee9
  obtain ⟨-, en, -, hb, -⟩ := c2
  have en : n2 = 7 := en
  subst en
  refine ⟨cA, cB, f, g, lw_to1 I, hw1, hf1 k hk, r4, ?_, hb 2 _ rfl, hb 3 _ rfl, hb 4 _ rfl, hb 5 _ rfl⟩
  by_cases h2 : g 2 = g 4
  · exact Or.inr fun h3 => g9 ⟨h2, h3⟩
  · exact Or.inl h2
theorem lw_I.om (I : lw_I E LP tys cO cD qx qo qd sh w st cx cy fs) : lw_om sh := ⟨I.h20, I.hsp.2.2.2.2, fun j hj => Or.inl (I.hsp.1 j hj), I.h26, I.h27b, I.h28, (I.hO 0 0).2.2⟩
end
theorem lw_k09 {x : Int32} (h1 : (0 : Int) ≤ x.toInt) (h2 : x.toInt ≤ 9) : x.toInt = 0 ∨ x.toInt = 1 ∨ x.toInt = 2 ∨ x.toInt = 3 ∨ x.toInt = 4 ∨ x.toInt = 5 ∨ x.toInt = 6 ∨ x.toInt = 7 ∨ x.toInt = 8 ∨ x.toInt = 9 := by omega
theorem lw_b21 {st : Nat} {fs : List Value} (h : 1 ≤ st) (hst : st ≤ 4) (hB : ∀ b ∈ lw_B st, lw_b fs b) : lw_b fs (21, 1, 1) := by
  obtain rfl | rfl | rfl | rfl | rfl := lw_stc hst
  · exact absurd h (by decide)
  · exact hB _ (by decide)
  · exact hB _ (by decide)
  · exact hB _ (by decide)
  · exact hB _ (by decide)
theorem lw_q1 {st : Nat} {md : List (Nat × Nat)} {tk : List Nat} (h : 1 ≤ st) (hst : st ≤ 4) (hq : (lw_qt 1 md tk && lw_qt 2 md tk && lw_qt 3 md tk && lw_qt 4 md tk) = true) : lw_qt st md tk = true := by
  simp only [Bool.and_eq_true] at hq
  obtain rfl | rfl | rfl | rfl | rfl := lw_stc hst
  · exact absurd h (by decide)
  · exact hq.1.1.1
  · exact hq.1.1.2
  · exact hq.1.2
  · exact hq.2
theorem lw_k08 {x : Int32} (h1 : (0 : Int) ≤ x.toInt) (h2 : x.toInt ≤ 8) : x.toInt = 0 ∨ x.toInt = 1 ∨ x.toInt = 2 ∨ x.toInt = 3 ∨ x.toInt = 4 ∨ x.toInt = 5 ∨ x.toInt = 6 ∨ x.toInt = 7 ∨ x.toInt = 8 := by omega
theorem lw_r20 {sh : en_H} {k : Nat} (h : sh.1[0]? = some 20) : (lw_rl k sh).1[0]? = some 20 := by
  rw [lw_rlat, h]
  show some (if 2 ≤ 0 ∧ 0 < 11 ∧ 0 ≠ 2 + k then 48 else 20) = some 20
  rw [if_neg (by omega)]
theorem lw_r21 {sh : en_H} {k : Nat} (h : sh.1[1]? = some 21) : (lw_rl k sh).1[1]? = some 21 := by
  rw [lw_rlat, h]
  show some (if 2 ≤ 1 ∧ 1 < 11 ∧ 1 ≠ 2 + k then 48 else 21) = some 21
  rw [if_neg (by omega)]
theorem lw_r22 {sh : en_H} {k : Nat} (h : sh.1[2 + k]? = some 22) : (lw_rl k sh).1[2 + k]? = some 22 := by
  rw [lw_rlat, h]
  show some (if 2 ≤ 2 + k ∧ 2 + k < 11 ∧ 2 + k ≠ 2 + k then 48 else 22) = some 22
  rw [if_neg (by omega)]
