/-! one row of the course apart from the others -/
def lw_rl (k : Nat) (sh : en_H) : en_H := (sh.1.mapIdx fun i x => if 2 ≤ i ∧ i < 11 ∧ i ≠ 2 + k then 48 else x, sh.2)
def lw_ul (sh : en_H) : en_H := (sh.1.mapIdx fun i x => if 2 ≤ i ∧ i < 11 then 22 else x, sh.2)
/-- no row of the course is referred to -/
def lw_rf : en_D → Bool
  | .inl (_, ts) => ts.all fun a => match a with
    | .inr (.inl k) => k != 22 && k != 48
    | _ => true
  | .inr (_, _, .inl (.inr (.inl k))) => k != 22 && k != 48
  | .inr (_, _, .inl (.inr (.inr _))) => false
  | _ => true
theorem lw_Cm {PP : Int32 → Int32 → Prop} {sh sh' : en_H} {tys : List (ClassId × FieldType)} {kd : en_D} {e : va_E} (h : lw_rf kd = true) (hs : ∀ (q k : Nat), k ≠ 22 → k ≠ 48 → sh.1[q]? = some k → sh'.1[q]? = some k) (h2 : sh'.2 = sh.2) (hc : en_C PP sh tys kd e) : en_C PP sh' tys kd e := by
  rcases kd with ⟨ci, ts⟩ | ⟨t0, len, (i | k | c) | v⟩ <;> rcases e with ⟨cA, n, f | f | f | f | f⟩ | ⟨co, fs⟩ <;> first | exact hc.elim | skip
  · obtain ⟨a1, a2, a3⟩ := hc
    refine ⟨a1, a2, fun j t v hj hv => ?_⟩
    have h9 := List.all_eq_true.mp h t (List.mem_of_getElem? hj)
    have hv9 := a3 j t v hj hv
    rcases t with i | k | c
    · exact hv9
    · obtain ⟨q, q1, q2⟩ := hv9
      simp only [Bool.and_eq_true, bne_iff_ne] at h9
      exact ⟨q, hs q k h9.1 h9.2 q1, by rw [h2]; exact q2⟩
    · exact hv9
  · exact hc
  · obtain ⟨a1, a2, a3⟩ := hc
    have h9 : (k != 22 && k != 48) = true := h
    simp only [Bool.and_eq_true, bne_iff_ne] at h9
    refine ⟨a1, a2, fun j hj => ?_⟩
    obtain ⟨q, q1, q2⟩ := a3 j hj
    exact ⟨q, hs q k h9.1 h9.2 q1, by rw [h2]; exact q2⟩
  · exact Bool.noConfusion h
  · exact hc
theorem lw_rfk : ∀ k kd, k ≠ 21 → en_KT[k]? = some kd → lw_rf kd = true := fun k kd h21 hk => by
  have hall : (List.range 49).all (fun k => k == 21 || match en_KT[k]? with | some kd => lw_rf kd | none => true) = true := by decide +kernel
  have hlt : k < 49 := by
    have := (List.getElem?_eq_some_iff.mp hk).1
    have e : en_KT.length = 49 := rfl
    omega
  have h9 := List.all_eq_true.mp hall k (List.mem_range.mpr hlt)
  rw [hk] at h9
  simp only [Bool.or_eq_true, beq_iff_eq] at h9
  exact h9.resolve_left h21
def lw_KTs : Nat → List en_D
  | 0 => en_KTs0
  | 1 => en_KTs1
  | 2 => en_KTs2
  | 3 => en_KTs3
  | 4 => en_KTs4
  | 5 => en_KTs5
  | 6 => en_KTs6
  | 7 => en_KTs7
  | _ => en_KTs8
theorem lw_KTs_eq : ∀ k, k < 9 → (lw_KTs k)[21]? = some (.inr (5, 9, .inl (.inr (.inr (k + 2200 + 480000))))) ∧ ∀ j, j ≠ 21 → (lw_KTs k)[j]? = en_KT[j]? := by
  have key : ∀ (K : List en_D) (v : en_D), K = en_KT.set 21 v → K[21]? = some v ∧ ∀ j, j ≠ 21 → K[j]? = en_KT[j]? := fun K v h => by
    subst h
    exact ⟨List.getElem?_set_self (show 21 < en_KT.length from by decide +kernel), fun j hj => List.getElem?_set_ne (fun e => hj e.symm)⟩
  intro k hk
  match k, hk with
  | 0, _ => exact key en_KTs0 _ rfl
  | 1, _ => exact key en_KTs1 _ rfl
  | 2, _ => exact key en_KTs2 _ rfl
  | 3, _ => exact key en_KTs3 _ rfl
  | 4, _ => exact key en_KTs4 _ rfl
  | 5, _ => exact key en_KTs5 _ rfl
  | 6, _ => exact key en_KTs6 _ rfl
  | 7, _ => exact key en_KTs7 _ rfl
  | 8, _ => exact key en_KTs8 _ rfl
  | n + 9, h => exact absurd h (by omega)
theorem lw_21 : en_KT[21]? = some (.inr (5, 9, .inl (.inr (.inl 22)))) ∧ en_KT[48]? = en_KT[22]? := ⟨rfl, rfl⟩
section
variable {tys : List (ClassId × FieldType)} {cO cD : ClassId} {A : Nat → Prop} {sh : en_H} {w : va_W} {qx qo qd : Nat} {E : Int32 → Int32 → Prop} {LP : en_H → va_W → Prop} {st : Nat} {cx cy : Int32} {fs fs' : List Value} {tk : List Nat} {md : List (Nat × Nat)} {u : en_H × va_W} {PP : Int32 → Int32 → Prop} {k : Nat}
theorem lw_rlat {q : Nat} : (lw_rl k sh).1[q]? = (sh.1[q]?).map fun x => if 2 ≤ q ∧ q < 11 ∧ q ≠ 2 + k then 48 else x := List.getElem?_mapIdx
theorem lw_ulat {q : Nat} : (lw_ul sh).1[q]? = (sh.1[q]?).map fun x => if 2 ≤ q ∧ q < 11 then 22 else x := List.getElem?_mapIdx
theorem lw_rls (h22 : ∀ j, j < 9 → sh.1[2 + j]? = some 22) : ∀ (q x : Nat), x ≠ 22 → x ≠ 48 → sh.1[q]? = some x → (lw_rl k sh).1[q]? = some x := fun q x h1 _ hq => by
  rw [lw_rlat, hq]
  show some (if 2 ≤ q ∧ q < 11 ∧ q ≠ 2 + k then 48 else x) = some x
  rw [if_neg ?_]
  intro h
  obtain ⟨j, rfl⟩ : ∃ j, q = 2 + j := ⟨q - 2, by omega⟩
  exact h1 (Option.some.inj (hq.symm.trans (h22 j (by omega))))
/-- the rows apart -/
theorem lw_toS (hk : k < 9) (h22 : ∀ j, j < 9 → sh.1[2 + j]? = some 22) (hn : ∀ q, sh.1[q]? = some 22 → 2 ≤ q ∧ q < 11) (h48 : ∀ q : Nat, ¬ sh.1[q]? = some 48) (hc : ∀ q, sh.1[q]? = some 21 → q = 1) {cA : ClassId} {f : Nat → Option Nat} (hw1 : w[1]? = some (sh.2 1, .inl (cA, 9, .inr (.inr (.inr (.inr f)))))) (hf : ∀ j, j < 9 → f j = some (sh.2 (2 + j))) (hW : en_W PP en_KT tk sh tys (fun _ => False) w) (ht : 22 ∈ tk ∨ 48 ∉ tk) : en_W PP (lw_KTs k) tk (lw_rl k sh) tys (fun _ => False) w := by
  obtain ⟨s1, s2⟩ := lw_KTs_eq k hk
  refine ⟨hW.1.trans (by show _ = (sh.1.mapIdx _).length; rw [List.length_mapIdx]), fun q x hq => ?_⟩
  have hq0 := hq
  rw [lw_rlat] at hq
  obtain ⟨x0, hx0, hx⟩ := Option.map_eq_some_iff.mp hq
  obtain ⟨e, a, b⟩ := hW.2 q x0 hx0
  refine ⟨e, a, fun hT _ => ?_⟩
  by_cases hr : 2 ≤ q ∧ q < 11 ∧ q ≠ 2 + k
  · rw [if_pos hr] at hx
    subst hx
    obtain ⟨j, rfl⟩ : ∃ j, q = 2 + j := ⟨q - 2, by omega⟩
    have e22 : x0 = 22 := Option.some.inj (hx0.symm.trans (h22 j (by omega)))
    subst e22
    rcases ht with ht | ht
    · obtain ⟨kd, c1, c2⟩ := b ht (fun z => z)
      refine ⟨kd, by rw [s2 48 (by decide), lw_21.2]; exact c1, lw_Cm (lw_rfk 22 kd (by decide) c1) (lw_rls h22) rfl c2⟩
    · exact absurd hT ht
  · rw [if_neg hr] at hx
    subst hx
    obtain ⟨kd, c1, c2⟩ := b hT (fun z => z)
    by_cases e21 : x0 = 21
    · subst e21
      have eq := hc q hx0
      subst eq
      have e9 := Option.some.inj (c1.symm.trans lw_21.1)
      subst e9
      have ee : e = .inl (cA, 9, .inr (.inr (.inr (.inr f)))) := (Prod.mk.inj (Option.some.inj (a.symm.trans hw1))).2
      subst ee
      refine ⟨_, s1, c2.1, c2.2.1, fun j hj => ⟨2 + j, ?_, hf j hj⟩⟩
      rw [lw_rlat, h22 j hj]
      show some (if 2 ≤ 2 + j ∧ 2 + j < 11 ∧ 2 + j ≠ 2 + k then 48 else 22) = some (en_sk (k + 2200 + 480000) j)
      unfold en_sk
      have m1 : (k + 2200 + 480000) % 100 = k := by omega
      have m2 : (k + 2200 + 480000) / 100 % 100 = 22 := by omega
      have m3 : (k + 2200 + 480000) / 10000 = 48 := by omega
      rw [m1, m2, m3]
      by_cases hjk : j = k
      · rw [if_pos hjk, if_neg (by omega)]
      · rw [if_neg hjk, if_pos (by omega)]
    · exact ⟨kd, by rw [s2 x0 e21]; exact c1, lw_Cm (lw_rfk x0 kd e21 c1) (lw_rls h22) rfl c2⟩
/-- and together again -/
theorem lw_ofS (hk : k < 9) (h22 : ∀ j, j < 9 → sh.1[2 + j]? = some 22) (hn : ∀ q, sh.1[q]? = some 22 → 2 ≤ q ∧ q < 11) (h48 : ∀ q : Nat, ¬ sh.1[q]? = some 48) (hm48 : ∀ z ∈ md, z.1 ≠ 48) (h : en_Px tys PP (lw_KTs k) tk md (lw_rl k sh) w u) (h0 : en_W PP en_KT tk sh tys (fun _ => False) w) (hm : ∀ z ∈ md, z.1 ∈ tk) : en_Px tys PP en_KT tk md sh w (lw_ul u.1, u.2) ∧ ∀ j, j < 9 → j ≠ k → ∀ e, w[2 + j]? = some (sh.2 (2 + j), e) → u.2[2 + j]? = some (sh.2 (2 + j), e) := by
  obtain ⟨s1, s2⟩ := lw_KTs_eq k hk
  obtain ⟨hg, hW, hF⟩ := h
  obtain ⟨⟨t, ht1, ht2⟩, hg2⟩ := hg
  have hlen : (lw_rl k sh).1.length = sh.1.length := List.length_mapIdx
  have h11 : 11 ≤ sh.1.length := by
    have := (List.getElem?_eq_some_iff.mp (h22 8 (by decide))).1
    omega
  have hul : (lw_ul u.1).1 = sh.1 ++ t := by
    refine List.ext_getElem? fun q => ?_
    rw [lw_ulat, ht1]
    rcases Nat.lt_or_ge q sh.1.length with hlt | hge
    · rw [List.getElem?_append_left (by rw [hlen]; exact hlt), List.getElem?_append_left hlt, lw_rlat]
      have hx := List.getElem?_eq_getElem hlt
      generalize sh.1[q] = x at hx
      rw [hx]
      show some (if 2 ≤ q ∧ q < 11 then 22 else if 2 ≤ q ∧ q < 11 ∧ q ≠ 2 + k then 48 else x) = some x
      by_cases hr : 2 ≤ q ∧ q < 11
      · rw [if_pos hr]
        obtain ⟨j, rfl⟩ : ∃ j, q = 2 + j := ⟨q - 2, by omega⟩
        rw [Option.some.inj (hx.symm.trans (h22 j (by omega)))]
      · rw [if_neg hr, if_neg (by omega)]
    · rw [List.getElem?_append_right (by rw [hlen]; exact hge), List.getElem?_append_right hge, hlen]
      have : ¬ (2 ≤ q ∧ q < 11) := by omega
      cases t[q - sh.1.length]? with
      | none => rfl
      | some x =>
        show some (if 2 ≤ q ∧ q < 11 then 22 else x) = some x
        rw [if_neg this]
  have hgr : en_Gr tk sh (lw_ul u.1) := ⟨⟨t, hul, ht2⟩, fun q hq => hg2 q (by rw [hlen]; exact hq)⟩
  have hat : ∀ (q x : Nat), u.1.1[q]? = some x → x ≠ 22 → x ≠ 48 → (lw_ul u.1).1[q]? = some x := fun q x hq h1 h2 => by
    rw [lw_ulat, hq]
    show some (if 2 ≤ q ∧ q < 11 then 22 else x) = some x
    rw [if_neg ?_]
    intro hr
    obtain ⟨j, rfl⟩ : ∃ j, q = 2 + j := ⟨q - 2, by omega⟩
    rw [ht1, List.getElem?_append_left (by rw [hlen]; omega), lw_rlat, h22 j (by omega)] at hq
    have hq : some (if 2 ≤ 2 + j ∧ 2 + j < 11 ∧ 2 + j ≠ 2 + k then 48 else 22) = some x := hq
    split at hq
    · exact h2 (Option.some.inj hq).symm
    · exact h1 (Option.some.inj hq).symm
  have hbk : ∀ (q : Nat), (u.1.1[q]? = some 22 ∨ u.1.1[q]? = some 48) → (lw_ul u.1).1[q]? = some 22 := fun q hq => by
    have hlt : q < sh.1.length := by
      refine Classical.byContradiction fun hge => ?_
      have hnk : ∀ (x : Nat), u.1.1[q]? = some x → en_nk x := fun x hx => by
        rw [ht1, List.getElem?_append_right (by rw [hlen]; omega)] at hx
        exact (ht2 x (List.mem_of_getElem? hx)).2
      rcases hq with hq | hq
      · exact absurd (hnk _ hq) (by decide)
      · exact absurd (hnk _ hq) (by decide)
    have hsh : ∃ x, sh.1[q]? = some x ∧ (x = 22 ∨ (2 ≤ q ∧ q < 11) ∨ x = 48) := by
      have hx := List.getElem?_eq_getElem hlt
      refine ⟨_, hx, ?_⟩
      have e9 : u.1.1[q]? = (sh.1[q]?).map fun x => if 2 ≤ q ∧ q < 11 ∧ q ≠ 2 + k then 48 else x := by
        rw [ht1, List.getElem?_append_left (by rw [hlen]; exact hlt), lw_rlat]
      rw [hx] at e9
      rw [e9] at hq
      by_cases hr : 2 ≤ q ∧ q < 11
      · exact Or.inr (Or.inl hr)
      · have hr' : ¬ (2 ≤ q ∧ q < 11 ∧ q ≠ 2 + k) := fun z => hr ⟨z.1, z.2.1⟩
        rcases hq with hq | hq
        · have hq : some (if 2 ≤ q ∧ q < 11 ∧ q ≠ 2 + k then 48 else sh.1[q]) = some 22 := hq
          rw [if_neg hr'] at hq
          exact Or.inl (Option.some.inj hq)
        · have hq : some (if 2 ≤ q ∧ q < 11 ∧ q ≠ 2 + k then 48 else sh.1[q]) = some 48 := hq
          rw [if_neg hr'] at hq
          exact Or.inr (Or.inr (Option.some.inj hq))
    obtain ⟨x, hx, h9⟩ := hsh
    have hr : 2 ≤ q ∧ q < 11 := by
      rcases h9 with h9 | h9 | h9
      · subst h9
        exact hn q hx
      · exact h9
      · subst h9
        exact absurd hx (h48 q)
    obtain ⟨j, rfl⟩ : ∃ j, q = 2 + j := ⟨q - 2, by omega⟩
    exact (hgr.at (h22 j (by omega))).1
  have hrow : ∀ (j : Nat), j < 9 → j ≠ k → ∀ e, w[2 + j]? = some (sh.2 (2 + j), e) → u.2[2 + j]? = some (sh.2 (2 + j), e) := fun j hj hjk e hw => by
    have h9 : (lw_rl k sh).1[2 + j]? = some 48 := by
      rw [lw_rlat, h22 j hj]
      show some (if 2 ≤ 2 + j ∧ 2 + j < 11 ∧ 2 + j ≠ 2 + k then 48 else 22) = some 48
      rw [if_pos (by omega)]
    obtain ⟨e9, a1, a2⟩ := hF (2 + j) 48 e h9 hw
    rw [lw_Fc0 a2 hm48] at a1
    exact a1
  refine ⟨⟨hgr, ⟨hW.1.trans (by rw [hul, ht1, List.length_append, List.length_append, hlen]), fun q x hq => ?_⟩, fun q x e0 hq h1 => ?_⟩, hrow⟩
  · by_cases hr : 2 ≤ q ∧ q < 11
    · obtain ⟨j, rfl⟩ : ∃ j, q = 2 + j := ⟨q - 2, by omega⟩
      have e22 : x = 22 := Option.some.inj (hq.symm.trans (hgr.at (h22 j (by omega))).1)
      subst e22
      by_cases hjk : j = k
      · have h9 : u.1.1[2 + j]? = some 22 := by
          rw [ht1, List.getElem?_append_left (by rw [hlen]; omega), lw_rlat, h22 j (by omega)]
          show some (if 2 ≤ 2 + j ∧ 2 + j < 11 ∧ 2 + j ≠ 2 + k then 48 else 22) = some 22
          rw [if_neg (by omega)]
        obtain ⟨e, a, b⟩ := hW.2 (2 + j) 22 h9
        refine ⟨e, a, fun hT hx => ?_⟩
        obtain ⟨kd, c1, c2⟩ := b hT hx
        rw [s2 22 (by decide)] at c1
        exact ⟨kd, c1, lw_Cm (lw_rfk 22 kd (by decide) c1) (fun q k h1 h2 h3 => hat q k h3 h1 h2) rfl c2⟩
      · have h9 : u.1.1[2 + j]? = some 48 := by
          rw [ht1, List.getElem?_append_left (by rw [hlen]; omega), lw_rlat, h22 j (by omega)]
          show some (if 2 ≤ 2 + j ∧ 2 + j < 11 ∧ 2 + j ≠ 2 + k then 48 else 22) = some 48
          rw [if_pos (by omega)]
        obtain ⟨e, a, b⟩ := hW.2 (2 + j) 48 h9
        refine ⟨e, a, fun hT hx => ?_⟩
        obtain ⟨e1, a1, b1⟩ := h0.2 (2 + j) 22 (h22 j (by omega))
        have h1 := hrow j (by omega) hjk e1 a1
        have ee : e = e1 := (Prod.mk.inj (Option.some.inj (a.symm.trans h1))).2
        subst ee
        obtain ⟨kd, c1, c2⟩ := b1 hT hx
        exact ⟨kd, c1, c2.gr hgr⟩
    · have h9 : u.1.1[q]? = some x := by
        rw [lw_ulat] at hq
        obtain ⟨x0, g1, g2⟩ := Option.map_eq_some_iff.mp hq
        rw [if_neg hr] at g2
        rw [g1, g2]
      obtain ⟨e, a, b⟩ := hW.2 q x h9
      refine ⟨e, a, fun hT hx => ?_⟩
      obtain ⟨kd, c1, c2⟩ := b hT hx
      by_cases e21 : x = 21
      · subst e21
        have e9 := Option.some.inj (c1.symm.trans s1)
        subst e9
        rcases e with ⟨cA, n, f | f | f | f | f⟩ | o <;> first | exact c2.elim | skip
        refine ⟨_, lw_21.1, c2.1, c2.2.1, fun j hj => ?_⟩
        obtain ⟨q9, q1, q2⟩ := c2.2.2 j hj
        refine ⟨q9, hbk q9 ?_, q2⟩
        unfold en_sk at q1
        have m2 : (k + 2200 + 480000) / 100 % 100 = 22 := by omega
        have m3 : (k + 2200 + 480000) / 10000 = 48 := by omega
        rw [m2, m3] at q1
        split at q1
        · exact Or.inl q1
        · exact Or.inr q1
      · rw [s2 x e21] at c1
        exact ⟨kd, c1, lw_Cm (lw_rfk x kd e21 c1) (fun q k h1 h2 h3 => hat q k h3 h1 h2) rfl c2⟩
  · by_cases hr : 2 ≤ q ∧ q < 11 ∧ q ≠ 2 + k
    · obtain ⟨j, rfl⟩ : ∃ j, q = 2 + j := ⟨q - 2, by omega⟩
      exact ⟨e0, hrow j (by omega) (by omega) e0 h1, en_Fc.rf e0⟩
    · have h9 : (lw_rl k sh).1[q]? = some x := by
        rw [lw_rlat, hq]
        show some (if 2 ≤ q ∧ q < 11 ∧ q ≠ 2 + k then 48 else x) = some x
        rw [if_neg hr]
      exact hF q x e0 h9 h1
end
