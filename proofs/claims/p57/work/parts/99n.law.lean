/-! the first world, in the law's order -/
def lw_PI : List Nat := [72, 73, 74, 75, 76, 77, 78, 79, 80, 81, 82, 94, 95, 96, 97, 98, 99, 100, 101, 127, 132, 131, 133, 134, 135, 136, 137, 83, 84, 85, 86, 87, 88, 89, 90, 91, 92, 93, 102, 103, 104, 105, 106, 107, 108, 109, 110, 111, 112, 113, 114, 115, 116, 117, 118, 119, 120, 121, 122, 123, 124, 125, 126, 128, 129, 130, 0, 1, 2, 3, 4, 5, 6, 7, 8, 9, 10, 11, 12, 13, 14, 15, 16, 17, 18, 19, 20, 21, 22, 23, 24, 25, 26, 27, 28, 29, 30, 31, 32, 33, 34, 35, 36, 37, 38, 39, 40, 41, 42, 43, 44, 45, 46, 47, 48, 49, 50, 51, 52, 53, 54, 55, 56, 57, 58, 59, 60, 61, 62, 63, 64, 65, 66, 67, 68, 69, 70, 71, 138, 139]
def lw_KS : List Nat := [20, 21, 22, 22, 22, 22, 22, 22, 22, 22, 22, 26, 27, 27, 27, 27, 27, 27, 28, 39, 54, 49, 49, 49, 49, 49, 49, 23, 24, 24, 24, 24, 24, 24, 24, 24, 24, 25, 29, 30, 30, 30, 30, 30, 30, 31, 32, 32, 32, 32, 32, 32, 33, 34, 34, 34, 34, 34, 34, 35, 36, 37, 38, 40, 41, 42, 0, 1, 5, 6, 5, 6, 5, 6, 5, 6, 5, 6, 5, 6, 5, 6, 5, 6, 5, 6, 2, 7, 8, 9, 10, 10, 10, 11, 12, 7, 8, 9, 10, 10, 10, 11, 12, 7, 8, 9, 10, 10, 10, 11, 12, 7, 8, 9, 10, 10, 10, 11, 12, 7, 8, 9, 10, 10, 10, 11, 12, 7, 8, 9, 10, 10, 10, 11, 12, 3, 4, 8, 56, 57]
def lw_w0 (W : va_W) : va_W := lw_PI.map (fun i => (W[i]?).getD (0, .inr (0, [])))
def lw_s0 (W : va_W) : en_H := (lw_KS, fun q => (((lw_w0 W)[q]?).map Prod.fst).getD 0)
theorem lw_wk {W : va_W} {q i : Nat} {x : Nat × va_E} (hp : lw_PI[q]? = some i) (hx : W[i]? = some x) : (lw_w0 W)[q]? = some x ∧ (lw_s0 W).2 q = x.1 := by
  have h1 : (lw_w0 W)[q]? = some x := by
    unfold lw_w0
    rw [List.getElem?_map, hp]
    show some ((W[i]?).getD (0, .inr (0, []))) = some x
    rw [hx]
    rfl
  exact ⟨h1, by show (((lw_w0 W)[q]?).map Prod.fst).getD 0 = x.1; rw [h1]; rfl⟩
theorem lw_wa {W : va_W} {q i a : Nat} {x : va_E} (hp : lw_PI[q]? = some i) (hx : W[i]? = some (a, x)) : (lw_w0 W)[q]? = some ((lw_s0 W).2 q, x) := by
  obtain ⟨h1, h2⟩ := lw_wk hp hx
  rw [h1, h2]
theorem lw_ad9 {W : va_W} {q i a : Nat} {x : va_E} (hp : lw_PI[q]? = some i) (hx : W[i]? = some (a, x)) : a = (lw_s0 W).2 q := (lw_wk hp hx).2.symm
theorem lw_ku {k : Nat} {p : Nat → Prop} (h : ∀ q, q < 140 → lw_KS[q]? = some k → p q) : ∀ q, lw_KS[q]? = some k → p q := fun q hq => h q (List.getElem?_eq_some_iff.mp hq).1 hq
def en_Vl (sh : en_H) : List en_A → List Value → Prop
  | [], [] => True
  | t :: ts, v :: vs => en_V sh t v ∧ en_Vl sh ts vs
  | _, _ => False
theorem en_Vl.ok {sh : en_H} : ∀ {ts : List en_A} {vs : List Value}, en_Vl sh ts vs → vs.length = ts.length ∧ ∀ (j : Nat) (t : en_A) (v : Value), ts[j]? = some t → vs[j]? = some v → en_V sh t v
  | [], [], _ => ⟨rfl, fun j t v h => by simp at h⟩
  | t :: ts, v :: vs, ⟨h1, h2⟩ => by
    obtain ⟨a, b⟩ := h2.ok
    refine ⟨by simp [a], fun j t9 v9 h3 h4 => ?_⟩
    match j with
    | 0 =>
      have e1 : t = t9 := Option.some.inj h3
      have e2 : v = v9 := Option.some.inj h4
      rw [← e1, ← e2]
      exact h1
    | n + 1 => exact b n t9 v9 h3 h4
  | [], _ :: _, h => h.elim
  | _ :: _, [], h => h.elim
theorem en_Vz {sh : en_H} {i : en_I} {v : Int32} (h : i.1 ≤ v.toInt ∧ v.toInt ≤ i.2.1) : en_V sh (.inl i) (.int v) := ⟨v, rfl, h⟩
theorem en_Vr {sh : en_H} {k q a : Nat} (h : sh.1[q]? = some k) (ha : a = sh.2 q) : en_V sh (.inr (.inl k)) (.ref a) := ⟨q, h, by rw [ha]⟩
theorem en_Co {PP : Int32 → Int32 → Prop} {sh : en_H} {tys : List (ClassId × FieldType)} {ci : Nat} {ts : List en_A} {vs : List Value} (h : en_Vl sh ts vs) : en_C PP sh tys (.inl (ci, ts)) (.inr (ci, vs)) := ⟨rfl, h.ok.1, h.ok.2⟩
theorem lw_Fm.hR' {R : Room} (h : 100 ≤ R.frames ∧ 4000 ≤ R.locals) : 100 ≤ R.frames ∧ 4000 ≤ R.locals := h
def lw_Q9 (W : va_W) (tys : List (ClassId × FieldType)) (q k : Nat) : Prop := ∃ e, (lw_w0 W)[q]? = some ((lw_s0 W).2 q, e) ∧ (k ∈ lw_TK → ∃ kd : en_D, en_KTpz[k]? = some kd ∧ en_C (en_Pc 0 0) (lw_s0 W) tys kd e)
theorem lw_q9 {W : va_W} {tys : List (ClassId × FieldType)} {q i k a : Nat} {x : va_E} {kd : en_D} (hp : lw_PI[q]? = some i) (hx : W[i]? = some (a, x)) (hk : en_KTpz[k]? = some kd) (hc : en_C (en_Pc 0 0) (lw_s0 W) tys kd x) : lw_Q9 W tys q k := ⟨x, lw_wa hp hx, fun _ => ⟨kd, hk, hc⟩⟩
theorem lw_q9n {W : va_W} {tys : List (ClassId × FieldType)} {q i k a : Nat} {x : va_E} (hp : lw_PI[q]? = some i) (hx : W[i]? = some (a, x)) (hk : k ∉ lw_TK) : lw_Q9 W tys q k := ⟨x, lw_wa hp hx, fun h => absurd h hk⟩
/-- the array and its rows -/
theorem lw_r9 {W : va_W} {tys : List (ClassId × FieldType)} {cA cy : ClassId} {p a n q k t0 : Nat} {z : vp_A} (h : ct_rows cA cy W p a n z) (hp : lw_PI[q]? = some p) (hr : ∀ j, j < n → lw_PI[q + 1 + j]? = some (p + 1 + j) ∧ lw_KS[q + 1 + j]? = some (k + 1)) (hk : en_KTpz[k]? = some (.inr (t0, n, .inl (.inr (.inl (k + 1)))))) (ht : (tys[t0]?).map Prod.fst = some cA) : lw_Q9 W tys q k ∧ ∀ j, j < n → ∃ b, W[p + 1 + j]? = some (b, .inl (cy, z)) := by
  obtain ⟨g, h1, h2⟩ := h
  refine ⟨lw_q9 hp h1 hk ⟨ht, rfl, fun j hj => ?_⟩, fun j hj => ?_⟩
  · obtain ⟨b, h3, h4⟩ := h2 j hj
    exact ⟨q + 1 + j, (hr j hj).2, by rw [h3, lw_ad9 (hr j hj).1 h4]⟩
  · obtain ⟨b, h3, h4⟩ := h2 j hj
    exact ⟨b, h4⟩
theorem lw_q9r {W : va_W} {tys : List (ClassId × FieldType)} {q i k : Nat} {x : va_E} {kd : en_D} (hp : lw_PI[q]? = some i) (hx : ∃ b, W[i]? = some (b, x)) (hk : en_KTpz[k]? = some kd) (hc : en_C (en_Pc 0 0) (lw_s0 W) tys kd x) : lw_Q9 W tys q k := by
  obtain ⟨b, hb⟩ := hx
  exact lw_q9 hp hb hk hc
theorem lw_PIn : ∀ i, i < 140 → ∀ j, j < 140 → lw_PI[i]? = lw_PI[j]? → i = j := by decide +kernel
theorem lw_P0 {cl : List vw_C} {D : va_G} {W : va_W} {H : Heap} (hlen : W.length = 140) (h : va_P D cl W H) : va_P D cl (lw_w0 W) H := fun k x hx => by
  unfold lw_w0 at hx
  rw [List.getElem?_map] at hx
  obtain ⟨i, hi, ei⟩ := Option.map_eq_some_iff.mp hx
  have hlt : i < 140 := (show ∀ i ∈ lw_PI, i < 140 by decide +kernel) i (List.mem_of_getElem? hi)
  rw [List.getElem?_eq_getElem (show i < W.length by omega)] at ei
  exact h i x (by rw [List.getElem?_eq_getElem (show i < W.length by omega)]; exact congrArg some ei)
theorem lw_D0 {A : Nat → Prop} {W : va_W} (hlen : W.length = 140) (h : va_D A W) : va_D A (lw_w0 W) := by
  have hat : ∀ k x, (lw_w0 W)[k]? = some x → ∃ i, lw_PI[k]? = some i ∧ W[i]? = some x := fun k x hx => by
    unfold lw_w0 at hx
    rw [List.getElem?_map] at hx
    obtain ⟨i, hi, ei⟩ := Option.map_eq_some_iff.mp hx
    have hlt : i < 140 := (show ∀ i ∈ lw_PI, i < 140 by decide +kernel) i (List.mem_of_getElem? hi)
    rw [List.getElem?_eq_getElem (show i < W.length by omega)] at ei
    exact ⟨i, hi, by rw [List.getElem?_eq_getElem (show i < W.length by omega)]; exact congrArg some ei⟩
  refine ⟨fun i j x y hi hj hxy => ?_, fun k x hx => ?_⟩
  · obtain ⟨a, a1, a2⟩ := hat i x hi
    obtain ⟨b, b1, b2⟩ := hat j y hj
    have e := h.1 a b x y a2 b2 hxy
    subst e
    have l1 := (List.getElem?_eq_some_iff.mp a1).1
    have l2 := (List.getElem?_eq_some_iff.mp b1).1
    exact lw_PIn i l1 j l2 (a1.trans b1.symm)
  · obtain ⟨a, a1, a2⟩ := hat k x hx
    exact h.2 a x a2
set_option maxHeartbeats 4000000 in
set_option maxRecDepth 100000 in
theorem lw_first {W : va_W} {cI cX cZ cH cPl cII cCC cO cD cL : ClassId} {q1 q2 ao ad e0 : Nat} {af : Nat → Nat} (h6 : ct_6 cI cX cH cPl W 0 q1 1) (h7 : ct_7 cI cX cZ cII cCC cL e0 W 72 q2 73) (h8 : W[138]? = some (ao, .inl (cO, 1, .inr (.inl fun _ => 0)))) (h9 : W[139]? = some (ad, .inl (cD, 1, .inr (.inr (.inr (.inl fun _ => 0)))))) : ∃ fs, lw_I lw_E (lw_LA (lw_LR [(cI, .int), (cX, .char), (cZ, .boolean), (cH, .object "FairwayChancery$Hole"), (cPl, .object "FairwayChancery$Player"), (cII, .array .int), (cCC, .array .char)] cL e0 af 66 138 139) q2 q1 ao ad 66 138 139) [(cI, .int), (cX, .char), (cZ, .boolean), (cH, .object "FairwayChancery$Hole"), (cPl, .object "FairwayChancery$Player"), (cII, .array .int), (cCC, .array .char)] cO cD 66 138 139 (lw_s0 W) (lw_w0 W) 0 0 0 fs := by
  obtain ⟨aH, aP, aO, aM, fH, fP, c1, c2, c3, c4, c5, c6, aB, c7, c8⟩ := h6
  obtain ⟨a0, a1, a2, a3, a4, a5, a6, a7, a8, a9, a10, a11, a12, a13, a14, a15, rD, l0, l1, l2, l3, l4, l5, mc, gD, m1, ⟨r0, r1, m2, r3, m4, r5, r6, r7⟩, ⟨m8, m9, m10, m11, m12, m13, m14, m15⟩, m16, ⟨g0, g1, g2, g3, g4, g5⟩, n0, n1, n2, n3, n4, n5⟩ := h7
  have hKS : lw_KS.length = 140 := rfl
  generalize hty : ([(cI, .int), (cX, .char), (cZ, .boolean), (cH, .object "FairwayChancery$Hole"), (cPl, .object "FairwayChancery$Player"), (cII, .array .int), (cCC, .array .char)] : List (ClassId × FieldType)) = tys
  have T0 : tys[0]? = some (cI, .int) := by rw [← hty]; rfl
  have T1 : tys[1]? = some (cX, .char) := by rw [← hty]; rfl
  have T4 : tys[4]? = some (cPl, .object "FairwayChancery$Player") := by rw [← hty]; rfl
  have T3 : tys[3]? = some (cH, .object "FairwayChancery$Hole") := by rw [← hty]; rfl
  have T5 : tys[5]? = some (cII, .array .int) := by rw [← hty]; rfl
  have T6 : tys[6]? = some (cCC, .array .char) := by rw [← hty]; rfl
  have t0 : (tys[0]?).map Prod.fst = some cI := by rw [← hty]; rfl
  have t1 : (tys[1]?).map Prod.fst = some cX := by rw [← hty]; rfl
  have t2 : (tys[2]?).map Prod.fst = some cZ := by rw [← hty]; rfl
  have t3 : (tys[3]?).map Prod.fst = some cH := by rw [← hty]; rfl
  have t4 : (tys[4]?).map Prod.fst = some cPl := by rw [← hty]; rfl
  have t5 : (tys[5]?).map Prod.fst = some cII := by rw [← hty]; rfl
  have t6 : (tys[6]?).map Prod.fst = some cCC := by rw [← hty]; rfl
  have d72 := lw_ad9 (q := 0) rfl m1
  have dO := lw_ad9 (q := 138) rfl h8
  have dD := lw_ad9 (q := 139) rfl h9
  have dx := lw_ad9 (q := 66) rfl c1
  have dH := lw_ad9 (q := 67) rfl c2
  have dP := lw_ad9 (q := 86) rfl c4
  have dh := lw_ad9 (q := 135) rfl c6
  have dM := lw_ad9 (q := 136) rfl c7
  have dB := lw_ad9 (q := 137) rfl c8
  have d2 := lw_ad9 (q := 37) rfl m2
  have d4 := lw_ad9 (q := 18) rfl m4
  have d8 := lw_ad9 (q := 59) rfl m8
  have d9 := lw_ad9 (q := 60) rfl m9
  have d10 := lw_ad9 (q := 61) rfl m10
  have d11 := lw_ad9 (q := 62) rfl m11
  have d12 := lw_ad9 (q := 19) rfl m12
  have d13 := lw_ad9 (q := 63) rfl m13
  have d14 := lw_ad9 (q := 64) rfl m14
  have d15 := lw_ad9 (q := 65) rfl m15
  have dR := lw_ad9 (q := 20) rfl m16
  have dl0 := lw_ad9 (q := 21) rfl n0
  have dl1 := lw_ad9 (q := 22) rfl n1
  have dl2 := lw_ad9 (q := 23) rfl n2
  have dl3 := lw_ad9 (q := 24) rfl n3
  have dl4 := lw_ad9 (q := 25) rfl n4
  have dl5 := lw_ad9 (q := 26) rfl n5
  obtain ⟨xr0, yr0⟩ := lw_r9 (q := 1) (k := 21) r0 rfl (by decide) rfl t5
  have zr0 := lw_ad9 (q := 1) rfl r0.choose_spec.1
  obtain ⟨xr1, yr1⟩ := lw_r9 (q := 27) (k := 23) r1 rfl (by decide) rfl t6
  have zr1 := lw_ad9 (q := 27) rfl r1.choose_spec.1
  obtain ⟨xr3, yr3⟩ := lw_r9 (q := 11) (k := 26) r3 rfl (by decide) rfl t5
  have zr3 := lw_ad9 (q := 11) rfl r3.choose_spec.1
  obtain ⟨xr5, yr5⟩ := lw_r9 (q := 38) (k := 29) r5 rfl (by decide) rfl t5
  have zr5 := lw_ad9 (q := 38) rfl r5.choose_spec.1
  obtain ⟨xr6, yr6⟩ := lw_r9 (q := 45) (k := 31) r6 rfl (by decide) rfl t5
  have zr6 := lw_ad9 (q := 45) rfl r6.choose_spec.1
  obtain ⟨xr7, yr7⟩ := lw_r9 (q := 52) (k := 33) r7 rfl (by decide) rfl t5
  have zr7 := lw_ad9 (q := 52) rfl r7.choose_spec.1
  have hW : ∀ q k, lw_KS[q]? = some k → lw_Q9 W tys q k := by
    intro q k hq
    have hlt : q < 140 := (List.getElem?_eq_some_iff.mp hq).1
    by_cases cc0 : q < 1
    · have e : q = 0 := by omega
      subst e
      have ek := Option.some.inj (hq.symm.trans (show lw_KS[0]? = some 20 from rfl))
      subst ek
      exact lw_q9 rfl m1 rfl (en_Co ⟨en_Vr (q := 1) rfl zr0, en_Vr (q := 27) rfl zr1, en_Vr (q := 37) rfl d2, en_Vr (q := 11) rfl zr3, en_Vr (q := 18) rfl d4, en_Vr (q := 38) rfl zr5, en_Vr (q := 45) rfl zr6, en_Vr (q := 52) rfl zr7, en_Vr (q := 59) rfl d8, en_Vr (q := 60) rfl d9, en_Vr (q := 61) rfl d10, en_Vr (q := 62) rfl d11, en_Vr (q := 19) rfl d12, en_Vr (q := 63) rfl d13, en_Vr (q := 64) rfl d14, en_Vr (q := 65) rfl d15, en_Vz (by decide), en_Vz (by decide), en_Vz (by decide), en_Vz (by decide), en_Vz (by decide), en_Vz (by decide), en_Vz (by decide), en_Vz (by decide), en_Vz (by decide), en_Vz (by decide), en_Vz (by decide), en_Vz (by decide), en_Vz (by decide), en_Vz (by decide), en_Vz (by decide), trivial⟩)
    by_cases cc1 : q < 2
    · have e : q = 1 := by omega
      subst e
      have ek := Option.some.inj (hq.symm.trans (show lw_KS[1]? = some 21 from rfl))
      subst ek
      exact xr0
    by_cases cc2 : q < 11
    · obtain ⟨j, hj, e⟩ : ∃ j, j < 9 ∧ q = 2 + j := ⟨q - 2, by omega, by omega⟩
      subst e
      have ek := Option.some.inj (hq.symm.trans ((show ∀ j, j < 9 → lw_KS[2 + j]? = some 22 by decide) j hj))
      subst ek
      exact lw_q9r ((show ∀ j, j < 9 → lw_PI[2 + j]? = some (73 + 1 + j) by decide) j hj) (yr0 j hj) rfl ⟨t0, rfl, rfl, (⟨fun j r hr => (show ∀ r ∈ [((-2147483648 : Int), (2147483647 : Int)), ((-2147483648), 2147483647), (0, 29), (0, 19), (0, 29), (0, 19), ((-2147483648), 2147483647)], r.1 ≤ (0 : Int32).toInt ∧ (0 : Int32).toInt ≤ r.2 by decide) r (List.mem_of_getElem? hr), fun m hm => absurd hm List.not_mem_nil⟩)⟩
    by_cases cc11 : q < 12
    · have e : q = 11 := by omega
      subst e
      have ek := Option.some.inj (hq.symm.trans (show lw_KS[11]? = some 26 from rfl))
      subst ek
      exact xr3
    by_cases cc12 : q < 18
    · obtain ⟨j, hj, e⟩ : ∃ j, j < 6 ∧ q = 12 + j := ⟨q - 12, by omega, by omega⟩
      subst e
      have ek := Option.some.inj (hq.symm.trans ((show ∀ j, j < 6 → lw_KS[12 + j]? = some 27 by decide) j hj))
      subst ek
      exact lw_q9r ((show ∀ j, j < 6 → lw_PI[12 + j]? = some (94 + 1 + j) by decide) j hj) (yr3 j hj) rfl ⟨t0, rfl, (fun j _ => ⟨by show (_ : Int) ≤ (0 : Int32).toInt; decide, by show (0 : Int32).toInt ≤ (_ : Int); decide⟩)⟩
    by_cases cc18 : q < 19
    · have e : q = 18 := by omega
      subst e
      have ek := Option.some.inj (hq.symm.trans (show lw_KS[18]? = some 28 from rfl))
      subst ek
      exact lw_q9 rfl m4 rfl ⟨t0, rfl, (fun j _ => ⟨by show (_ : Int) ≤ (0 : Int32).toInt; decide, by show (0 : Int32).toInt ≤ (_ : Int); decide⟩)⟩
    by_cases cc19 : q < 20
    · have e : q = 19 := by omega
      subst e
      have ek := Option.some.inj (hq.symm.trans (show lw_KS[19]? = some 39 from rfl))
      subst ek
      exact lw_q9n rfl m12 (by decide)
    by_cases cc20 : q < 21
    · have e : q = 20 := by omega
      subst e
      have ek := Option.some.inj (hq.symm.trans (show lw_KS[20]? = some 54 from rfl))
      subst ek
      exact lw_q9n rfl m16 (by decide)
    by_cases cc21 : q < 22
    · have e : q = 21 := by omega
      subst e
      have ek := Option.some.inj (hq.symm.trans (show lw_KS[21]? = some 49 from rfl))
      subst ek
      exact lw_q9n rfl n0 (by decide)
    by_cases cc22 : q < 23
    · have e : q = 22 := by omega
      subst e
      have ek := Option.some.inj (hq.symm.trans (show lw_KS[22]? = some 49 from rfl))
      subst ek
      exact lw_q9n rfl n1 (by decide)
    by_cases cc23 : q < 24
    · have e : q = 23 := by omega
      subst e
      have ek := Option.some.inj (hq.symm.trans (show lw_KS[23]? = some 49 from rfl))
      subst ek
      exact lw_q9n rfl n2 (by decide)
    by_cases cc24 : q < 25
    · have e : q = 24 := by omega
      subst e
      have ek := Option.some.inj (hq.symm.trans (show lw_KS[24]? = some 49 from rfl))
      subst ek
      exact lw_q9n rfl n3 (by decide)
    by_cases cc25 : q < 26
    · have e : q = 25 := by omega
      subst e
      have ek := Option.some.inj (hq.symm.trans (show lw_KS[25]? = some 49 from rfl))
      subst ek
      exact lw_q9n rfl n4 (by decide)
    by_cases cc26 : q < 27
    · have e : q = 26 := by omega
      subst e
      have ek := Option.some.inj (hq.symm.trans (show lw_KS[26]? = some 49 from rfl))
      subst ek
      exact lw_q9n rfl n5 (by decide)
    by_cases cc27 : q < 28
    · have e : q = 27 := by omega
      subst e
      have ek := Option.some.inj (hq.symm.trans (show lw_KS[27]? = some 23 from rfl))
      subst ek
      exact xr1
    by_cases cc28 : q < 37
    · obtain ⟨j, hj, e⟩ : ∃ j, j < 9 ∧ q = 28 + j := ⟨q - 28, by omega, by omega⟩
      subst e
      have ek := Option.some.inj (hq.symm.trans ((show ∀ j, j < 9 → lw_KS[28 + j]? = some 24 by decide) j hj))
      subst ek
      exact lw_q9r ((show ∀ j, j < 9 → lw_PI[28 + j]? = some (83 + 1 + j) by decide) j hj) (yr1 j hj) rfl ⟨t1, rfl, (fun j _ => ⟨by show (_ : Int) ≤ (0 : Int32).toInt; decide, by show (0 : Int32).toInt ≤ (_ : Int); decide⟩)⟩
    by_cases cc37 : q < 38
    · have e : q = 37 := by omega
      subst e
      have ek := Option.some.inj (hq.symm.trans (show lw_KS[37]? = some 25 from rfl))
      subst ek
      exact lw_q9 rfl m2 rfl ⟨t0, rfl, (fun j _ => ⟨by show (_ : Int) ≤ (0 : Int32).toInt; decide, by show (0 : Int32).toInt ≤ (_ : Int); decide⟩)⟩
    by_cases cc38 : q < 39
    · have e : q = 38 := by omega
      subst e
      have ek := Option.some.inj (hq.symm.trans (show lw_KS[38]? = some 29 from rfl))
      subst ek
      exact xr5
    by_cases cc39 : q < 45
    · obtain ⟨j, hj, e⟩ : ∃ j, j < 6 ∧ q = 39 + j := ⟨q - 39, by omega, by omega⟩
      subst e
      have ek := Option.some.inj (hq.symm.trans ((show ∀ j, j < 6 → lw_KS[39 + j]? = some 30 by decide) j hj))
      subst ek
      exact lw_q9r ((show ∀ j, j < 6 → lw_PI[39 + j]? = some (102 + 1 + j) by decide) j hj) (yr5 j hj) rfl ⟨t0, rfl, (fun j _ => ⟨by show (_ : Int) ≤ (0 : Int32).toInt; decide, by show (0 : Int32).toInt ≤ (_ : Int); decide⟩)⟩
    by_cases cc45 : q < 46
    · have e : q = 45 := by omega
      subst e
      have ek := Option.some.inj (hq.symm.trans (show lw_KS[45]? = some 31 from rfl))
      subst ek
      exact xr6
    by_cases cc46 : q < 52
    · obtain ⟨j, hj, e⟩ : ∃ j, j < 6 ∧ q = 46 + j := ⟨q - 46, by omega, by omega⟩
      subst e
      have ek := Option.some.inj (hq.symm.trans ((show ∀ j, j < 6 → lw_KS[46 + j]? = some 32 by decide) j hj))
      subst ek
      exact lw_q9r ((show ∀ j, j < 6 → lw_PI[46 + j]? = some (109 + 1 + j) by decide) j hj) (yr6 j hj) rfl ⟨t0, rfl, (fun j _ => ⟨by show (_ : Int) ≤ (0 : Int32).toInt; decide, by show (0 : Int32).toInt ≤ (_ : Int); decide⟩)⟩
    by_cases cc52 : q < 53
    · have e : q = 52 := by omega
      subst e
      have ek := Option.some.inj (hq.symm.trans (show lw_KS[52]? = some 33 from rfl))
      subst ek
      exact xr7
    by_cases cc53 : q < 59
    · obtain ⟨j, hj, e⟩ : ∃ j, j < 6 ∧ q = 53 + j := ⟨q - 53, by omega, by omega⟩
      subst e
      have ek := Option.some.inj (hq.symm.trans ((show ∀ j, j < 6 → lw_KS[53 + j]? = some 34 by decide) j hj))
      subst ek
      exact lw_q9r ((show ∀ j, j < 6 → lw_PI[53 + j]? = some (116 + 1 + j) by decide) j hj) (yr7 j hj) rfl ⟨t0, rfl, (fun j _ => ⟨by show (_ : Int) ≤ (0 : Int32).toInt; decide, by show (0 : Int32).toInt ≤ (_ : Int); decide⟩)⟩
    by_cases cc59 : q < 60
    · have e : q = 59 := by omega
      subst e
      have ek := Option.some.inj (hq.symm.trans (show lw_KS[59]? = some 35 from rfl))
      subst ek
      exact lw_q9 rfl m8 rfl ⟨t2, rfl, (fun j _ => ⟨by show (_ : Int) ≤ (0 : Int32).toInt; decide, by show (0 : Int32).toInt ≤ (_ : Int); decide⟩)⟩
    by_cases cc60 : q < 61
    · have e : q = 60 := by omega
      subst e
      have ek := Option.some.inj (hq.symm.trans (show lw_KS[60]? = some 36 from rfl))
      subst ek
      exact lw_q9 rfl m9 rfl ⟨t2, rfl, (fun j _ => ⟨by show (_ : Int) ≤ (0 : Int32).toInt; decide, by show (0 : Int32).toInt ≤ (_ : Int); decide⟩)⟩
    by_cases cc61 : q < 62
    · have e : q = 61 := by omega
      subst e
      have ek := Option.some.inj (hq.symm.trans (show lw_KS[61]? = some 37 from rfl))
      subst ek
      exact lw_q9 rfl m10 rfl ⟨t2, rfl, (fun j _ => ⟨by show (_ : Int) ≤ (0 : Int32).toInt; decide, by show (0 : Int32).toInt ≤ (_ : Int); decide⟩)⟩
    by_cases cc62 : q < 63
    · have e : q = 62 := by omega
      subst e
      have ek := Option.some.inj (hq.symm.trans (show lw_KS[62]? = some 38 from rfl))
      subst ek
      exact lw_q9 rfl m11 rfl ⟨t0, rfl, (fun j _ => ⟨by show (_ : Int) ≤ (0 : Int32).toInt; decide, by show (0 : Int32).toInt ≤ (_ : Int); decide⟩)⟩
    by_cases cc63 : q < 64
    · have e : q = 63 := by omega
      subst e
      have ek := Option.some.inj (hq.symm.trans (show lw_KS[63]? = some 40 from rfl))
      subst ek
      exact lw_q9 rfl m13 rfl ⟨t0, rfl, (fun j _ => ⟨by show (_ : Int) ≤ (0 : Int32).toInt; decide, by show (0 : Int32).toInt ≤ (_ : Int); decide⟩)⟩
    by_cases cc64 : q < 65
    · have e : q = 64 := by omega
      subst e
      have ek := Option.some.inj (hq.symm.trans (show lw_KS[64]? = some 41 from rfl))
      subst ek
      exact lw_q9 rfl m14 rfl ⟨t0, rfl, (fun j _ => ⟨by show (_ : Int) ≤ (0 : Int32).toInt; decide, by show (0 : Int32).toInt ≤ (_ : Int); decide⟩)⟩
    by_cases cc65 : q < 66
    · have e : q = 65 := by omega
      subst e
      have ek := Option.some.inj (hq.symm.trans (show lw_KS[65]? = some 42 from rfl))
      subst ek
      exact lw_q9 rfl m15 rfl ⟨t0, rfl, (fun j _ => ⟨by show (_ : Int) ≤ (0 : Int32).toInt; decide, by show (0 : Int32).toInt ≤ (_ : Int); decide⟩)⟩
    by_cases cc66 : q < 67
    · have e : q = 66 := by omega
      subst e
      have ek := Option.some.inj (hq.symm.trans (show lw_KS[66]? = some 0 from rfl))
      subst ek
      exact lw_q9 rfl c1 rfl (en_Co ⟨en_Vr (q := 67) rfl dH, en_Vr (q := 86) rfl dP, en_Vr (q := 135) rfl dh, en_Vr (q := 136) rfl dM, en_Vz (by decide), en_Vz (by decide), en_Vz (by decide), en_Vz (by decide), en_Vz (by decide), en_Vz (by decide), en_Vz (by decide), en_Vz (by decide), en_Vz (by decide), en_Vz (by decide), trivial⟩)
    by_cases cc67 : q < 68
    · have e : q = 67 := by omega
      subst e
      have ek := Option.some.inj (hq.symm.trans (show lw_KS[67]? = some 1 from rfl))
      subst ek
      exact lw_q9 rfl c2 rfl ⟨t3, rfl, fun j hj => by obtain ⟨a, u1, a9, f9, u2, -, -⟩ := c3 j hj; exact ⟨68 + 2 * j, (show ∀ j, j < 9 → lw_KS[68 + 2 * j]? = some 5 by decide) j hj, by rw [u1, lw_ad9 ((show ∀ j, j < 9 → lw_PI[68 + 2 * j]? = some (1 + (1 + 2 * j)) by decide) j hj) u2]⟩⟩
    by_cases cc68 : q < 86
    · have hj : (q - 68) / 2 < 9 := by omega
      have hs : q = 68 + 2 * ((q - 68) / 2) ∨ q = 69 + 2 * ((q - 68) / 2) := by omega
      generalize (q - 68) / 2 = j at hj hs
      obtain ⟨a, u1, a9, f9, u2, u3, u4⟩ := c3 j hj
      rcases hs with e | e
      · subst e
        have ek := Option.some.inj (hq.symm.trans ((show ∀ j, j < 9 → lw_KS[68 + 2 * j]? = some 5 by decide) j hj))
        subst ek
        exact lw_q9 ((show ∀ j, j < 9 → lw_PI[68 + 2 * j]? = some (1 + (1 + 2 * j)) by decide) j hj) u2 rfl (en_Co ⟨⟨69 + 2 * j, (show ∀ j, j < 9 → lw_KS[69 + 2 * j]? = some 6 by decide) j hj, by rw [← lw_ad9 ((show ∀ j, j < 9 → lw_PI[69 + 2 * j]? = some (1 + (1 + 2 * j + 1)) by decide) j hj) u3]⟩, en_Vz (by decide), en_Vz (by decide), en_Vz (by decide), en_Vz (by decide), en_Vz (by decide), trivial⟩)
      · subst e
        have ek := Option.some.inj (hq.symm.trans ((show ∀ j, j < 9 → lw_KS[69 + 2 * j]? = some 6 by decide) j hj))
        subst ek
        exact lw_q9 ((show ∀ j, j < 9 → lw_PI[69 + 2 * j]? = some (1 + (1 + 2 * j + 1)) by decide) j hj) u3 rfl ⟨t1, rfl, fun i _ => u4.1 i⟩
    by_cases cc86 : q < 87
    · have e : q = 86 := by omega
      subst e
      have ek := Option.some.inj (hq.symm.trans (show lw_KS[86]? = some 2 from rfl))
      subst ek
      exact lw_q9 rfl c4 rfl ⟨t4, rfl, fun j hj => by obtain ⟨a, u1, x1, x2, x3, u2, -, -⟩ := c5 j hj; exact ⟨87 + 8 * j, (show ∀ j, j < 6 → lw_KS[87 + 8 * j]? = some 7 by decide) j hj, by rw [u1, lw_ad9 ((show ∀ j, j < 6 → lw_PI[87 + 8 * j]? = some (1 + (20 + 8 * j)) by decide) j hj) u2]⟩⟩
    by_cases cc87 : q < 135
    · have hj : (q - 87) / 8 < 6 := by omega
      have hs : q = 87 + 8 * ((q - 87) / 8) ∨ q = 88 + 8 * ((q - 87) / 8) ∨ q = 89 + 8 * ((q - 87) / 8) ∨ q = 90 + 8 * ((q - 87) / 8) ∨ q = 91 + 8 * ((q - 87) / 8) ∨ q = 92 + 8 * ((q - 87) / 8) ∨ q = 93 + 8 * ((q - 87) / 8) ∨ q = 94 + 8 * ((q - 87) / 8) := by omega
      generalize (q - 87) / 8 = j at hj hs
      obtain ⟨a, u1, b1, b2, b3, u2, u3, ⟨k1, k2, k3, u4, u5, u6, u7⟩, f1, u8, u9⟩ := c5 j hj
      rcases hs with e | e | e | e | e | e | e | e
      · subst e
        have ek := Option.some.inj (hq.symm.trans ((show ∀ j, j < 6 → lw_KS[87 + 8 * j]? = some 7 by decide) j hj))
        subst ek
        exact lw_q9 ((show ∀ j, j < 6 → lw_PI[87 + 8 * j]? = some (1 + (20 + 8 * j)) by decide) j hj) u2 rfl (en_Co ⟨⟨88 + 8 * j, ((show ∀ j, j < 6 → lw_KS[88 + 8 * j]? = some 8 by decide) j hj), by rw [← lw_ad9 ((show ∀ j, j < 6 → lw_PI[88 + 8 * j]? = some (1 + (20 + 8 * j + 1)) by decide) j hj) u3]⟩, ⟨89 + 8 * j, ((show ∀ j, j < 6 → lw_KS[89 + 8 * j]? = some 9 by decide) j hj), by rw [← lw_ad9 ((show ∀ j, j < 6 → lw_PI[89 + 8 * j]? = some (1 + (20 + 8 * j + 1) + 1) by decide) j hj) u4]⟩, ⟨93 + 8 * j, ((show ∀ j, j < 6 → lw_KS[93 + 8 * j]? = some 11 by decide) j hj), by rw [← lw_ad9 ((show ∀ j, j < 6 → lw_PI[93 + 8 * j]? = some (1 + (20 + 8 * j + 1) + 5) by decide) j hj) u8]⟩, en_Vz (by decide), trivial⟩)
      · subst e
        have ek := Option.some.inj (hq.symm.trans ((show ∀ j, j < 6 → lw_KS[88 + 8 * j]? = some 8 by decide) j hj))
        subst ek
        exact lw_q9 ((show ∀ j, j < 6 → lw_PI[88 + 8 * j]? = some (1 + (20 + 8 * j + 1)) by decide) j hj) u3 rfl (en_Co ⟨en_Vz (by decide), en_Vz (by decide), en_Vz (by decide), en_Vz (by decide), en_Vz (by decide), en_Vz (by decide), en_Vz (by decide), en_Vz (by decide), en_Vz (by decide), en_Vz (by decide), en_Vz (by decide), en_Vz (by decide), en_Vz (by decide), en_Vz (by decide), en_Vz (by decide), en_Vz (by decide), trivial⟩)
      · subst e
        have ek := Option.some.inj (hq.symm.trans ((show ∀ j, j < 6 → lw_KS[89 + 8 * j]? = some 9 by decide) j hj))
        subst ek
        exact lw_q9 ((show ∀ j, j < 6 → lw_PI[89 + 8 * j]? = some (1 + (20 + 8 * j + 1) + 1) by decide) j hj) u4 rfl (en_Co ⟨⟨90 + 8 * j, ((show ∀ j, j < 6 → lw_KS[90 + 8 * j]? = some 10 by decide) j hj), by rw [← lw_ad9 ((show ∀ j, j < 6 → lw_PI[90 + 8 * j]? = some (1 + (20 + 8 * j + 1) + 2) by decide) j hj) u5]⟩, ⟨91 + 8 * j, ((show ∀ j, j < 6 → lw_KS[91 + 8 * j]? = some 10 by decide) j hj), by rw [← lw_ad9 ((show ∀ j, j < 6 → lw_PI[91 + 8 * j]? = some (1 + (20 + 8 * j + 1) + 2 + 1) by decide) j hj) u6]⟩, ⟨92 + 8 * j, ((show ∀ j, j < 6 → lw_KS[92 + 8 * j]? = some 10 by decide) j hj), by rw [← lw_ad9 ((show ∀ j, j < 6 → lw_PI[92 + 8 * j]? = some (1 + (20 + 8 * j + 1) + 2 + 2) by decide) j hj) u7]⟩, en_Vz (by decide), en_Vz (by decide), en_Vz (by decide), trivial⟩)
      · subst e
        have ek := Option.some.inj (hq.symm.trans ((show ∀ j, j < 6 → lw_KS[90 + 8 * j]? = some 10 by decide) j hj))
        subst ek
        exact lw_q9 ((show ∀ j, j < 6 → lw_PI[90 + 8 * j]? = some (1 + (20 + 8 * j + 1) + 2) by decide) j hj) u5 rfl ⟨t0, rfl, (fun j _ => ⟨by show (_ : Int) ≤ (0 : Int32).toInt; decide, by show (0 : Int32).toInt ≤ (_ : Int); decide⟩)⟩
      · subst e
        have ek := Option.some.inj (hq.symm.trans ((show ∀ j, j < 6 → lw_KS[91 + 8 * j]? = some 10 by decide) j hj))
        subst ek
        exact lw_q9 ((show ∀ j, j < 6 → lw_PI[91 + 8 * j]? = some (1 + (20 + 8 * j + 1) + 2 + 1) by decide) j hj) u6 rfl ⟨t0, rfl, (fun j _ => ⟨by show (_ : Int) ≤ (0 : Int32).toInt; decide, by show (0 : Int32).toInt ≤ (_ : Int); decide⟩)⟩
      · subst e
        have ek := Option.some.inj (hq.symm.trans ((show ∀ j, j < 6 → lw_KS[92 + 8 * j]? = some 10 by decide) j hj))
        subst ek
        exact lw_q9 ((show ∀ j, j < 6 → lw_PI[92 + 8 * j]? = some (1 + (20 + 8 * j + 1) + 2 + 2) by decide) j hj) u7 rfl ⟨t0, rfl, (fun j _ => ⟨by show (_ : Int) ≤ (0 : Int32).toInt; decide, by show (0 : Int32).toInt ≤ (_ : Int); decide⟩)⟩
      · subst e
        have ek := Option.some.inj (hq.symm.trans ((show ∀ j, j < 6 → lw_KS[93 + 8 * j]? = some 11 by decide) j hj))
        subst ek
        exact lw_q9 ((show ∀ j, j < 6 → lw_PI[93 + 8 * j]? = some (1 + (20 + 8 * j + 1) + 5) by decide) j hj) u8 rfl (en_Co ⟨⟨94 + 8 * j, ((show ∀ j, j < 6 → lw_KS[94 + 8 * j]? = some 12 by decide) j hj), by rw [← lw_ad9 ((show ∀ j, j < 6 → lw_PI[94 + 8 * j]? = some (1 + (20 + 8 * j + 1) + 6) by decide) j hj) u9]⟩, en_Vz (by decide), en_Vz (by decide), en_Vz (by decide), trivial⟩)
      · subst e
        have ek := Option.some.inj (hq.symm.trans ((show ∀ j, j < 6 → lw_KS[94 + 8 * j]? = some 12 by decide) j hj))
        subst ek
        exact lw_q9 ((show ∀ j, j < 6 → lw_PI[94 + 8 * j]? = some (1 + (20 + 8 * j + 1) + 6) by decide) j hj) u9 rfl ⟨t0, rfl, (fun j _ => ⟨by show (_ : Int) ≤ (0 : Int32).toInt; decide, by show (0 : Int32).toInt ≤ (_ : Int); decide⟩)⟩
    by_cases cc135 : q < 136
    · have e : q = 135 := by omega
      subst e
      have ek := Option.some.inj (hq.symm.trans (show lw_KS[135]? = some 3 from rfl))
      subst ek
      exact lw_q9 rfl c6 rfl ⟨t0, rfl, (fun j _ => ⟨by show (_ : Int) ≤ (0 : Int32).toInt; decide, by show (0 : Int32).toInt ≤ (_ : Int); decide⟩)⟩
    by_cases cc136 : q < 137
    · have e : q = 136 := by omega
      subst e
      have ek := Option.some.inj (hq.symm.trans (show lw_KS[136]? = some 4 from rfl))
      subst ek
      exact lw_q9 rfl c7 rfl (en_Co ⟨en_Vr (q := 137) rfl dB, en_Vz (by decide), en_Vz (by decide), en_Vz (by decide), en_Vz (by decide), en_Vz (by decide), trivial⟩)
    by_cases cc137 : q < 138
    · have e : q = 137 := by omega
      subst e
      have ek := Option.some.inj (hq.symm.trans (show lw_KS[137]? = some 8 from rfl))
      subst ek
      exact lw_q9 rfl c8 rfl (en_Co ⟨en_Vz (by decide), en_Vz (by decide), en_Vz (by decide), en_Vz (by decide), en_Vz (by decide), en_Vz (by decide), en_Vz (by decide), en_Vz (by decide), en_Vz (by decide), en_Vz (by decide), en_Vz (by decide), en_Vz (by decide), en_Vz (by decide), en_Vz (by decide), en_Vz (by decide), en_Vz (by decide), trivial⟩)
    by_cases cc138 : q < 139
    · have e : q = 138 := by omega
      subst e
      have ek := Option.some.inj (hq.symm.trans (show lw_KS[138]? = some 56 from rfl))
      subst ek
      exact lw_q9n rfl h8 (by decide)
    have e : q = 139 := by omega
    subst e
    have ek := Option.some.inj (hq.symm.trans (show lw_KS[139]? = some 57 from rfl))
    subst ek
    exact lw_q9n rfl h9 (by decide)
  have m1' := lw_wa (q := 0) rfl m1
  obtain ⟨gC, k1, k2⟩ := r0
  obtain ⟨gB, k3, k4⟩ := r3
  obtain ⟨gK, k5, k6⟩ := r1
  refine ⟨[.ref a0, .ref a1, .ref a2, .ref a3, .ref a4, .ref a5, .ref a6, .ref a7, .ref a8, .ref a9, .ref a10, .ref a11, .ref a12, .ref a13, .ref a14, .ref a15, .int 0, .int 0, .int 1, .int 110, .int 0, .int 0, .int 0, .int 0, .int 0, .int 0, .int 0, .int 0, .int 0, .int 0, .int 0], rfl, ⟨rfl, rfl⟩, lw_ku (by decide), (show ∀ j, j < 6 → lw_KS[12 + j]? = some 27 by decide), ⟨(show ∀ j, j < 9 → lw_KS[2 + j]? = some 22 by decide), lw_ku (by decide), lw_ku (p := fun _ => False) (by decide), lw_ku (by decide), rfl⟩, ⟨cII, gC, lw_wa (q := 1) rfl k1, fun j hj => ?_⟩, lw_ku (by decide), rfl, rfl, rfl, fun cx cy => lw_Om ⟨rfl, rfl, fun j hj => Or.inl ((show ∀ j, j < 9 → lw_KS[2 + j]? = some 22 by decide) j hj), rfl, (show ∀ j, j < 6 → lw_KS[12 + j]? = some 27 by decide), rfl, lw_ku (by decide)⟩, by decide, ⟨_, lw_wa (q := 138) rfl h8⟩, ⟨_, lw_wa (q := 139) rfl h9⟩, ⟨_, 0, 0, lw_wa (q := 66) rfl c1, trivial, trivial, trivial⟩, ⟨⟨?_, ?_, rfl, rfl, rfl⟩, ⟨by show (0 : Nat) < lw_KS.length; decide, by show (66 : Nat) < lw_KS.length; decide, by show (138 : Nat) < lw_KS.length; decide, by show (139 : Nat) < lw_KS.length; decide⟩, d72.symm, dx.symm, dO.symm, dD.symm⟩, ⟨⟨rfl, fun q k hq => ?_⟩, m1', ?_, ?_, fun h => absurd h (by decide)⟩⟩
  · obtain ⟨b9, u1, u2⟩ := k2 j hj
    rw [u1, lw_ad9 ((show ∀ j, j < 9 → lw_PI[2 + j]? = some (73 + 1 + j) by decide) j hj) u2]
  · refine ⟨⟨rfl, rfl, lw_ku (by decide), (show ∀ j, j < 6 → lw_KS[21 + j]? = some 49 by decide), mc, gD, ?_, lw_wa (q := 20) rfl m16, fun j hj => ?_⟩, fun j => 21 + j, fun _ => 0, fun j hj => ⟨⟨fun _ => none, ⟨0, e0, ?_, Or.inl ⟨rfl, rfl⟩⟩, fun k hk => absurd hk (Nat.not_lt_zero k)⟩, Nat.zero_le 20, Or.inl rfl⟩, fun i j _ _ h e => h (by have e9 : 21 + i = 21 + j := e; omega)⟩
    · rw [← dR]; exact lw_wa (q := 19) rfl m12
    · match j, hj with
      | 0, _ => rw [g0, dl0]
      | 1, _ => rw [g1, dl1]
      | 2, _ => rw [g2, dl2]
      | 3, _ => rw [g3, dl3]
      | 4, _ => rw [g4, dl4]
      | 5, _ => rw [g5, dl5]
      | n + 6, h => omega
    · match j, hj with
      | 0, _ => exact lw_wa (q := 21) rfl n0
      | 1, _ => exact lw_wa (q := 22) rfl n1
      | 2, _ => exact lw_wa (q := 23) rfl n2
      | 3, _ => exact lw_wa (q := 24) rfl n3
      | 4, _ => exact lw_wa (q := 25) rfl n4
      | 5, _ => exact lw_wa (q := 26) rfl n5
      | n + 6, h => omega
  · have cH9 : ∀ j, j < 9 → fH j = some ((lw_s0 W).2 (68 + 2 * j)) := fun j hj => by
      obtain ⟨a, u1, a9, f9, u2, u3, u4⟩ := c3 j hj
      rw [u1, lw_ad9 ((show ∀ j, j < 9 → lw_PI[68 + 2 * j]? = some (1 + (1 + 2 * j)) by decide) j hj) u2]
    have cP9 : ∀ j, j < 6 → fP j = some ((lw_s0 W).2 (87 + 8 * j)) := fun j hj => by
      obtain ⟨a, u1, b1, b2, b3, u2, u3, ⟨k1, k2, k3, u4, u5, u6, u7⟩, f1, u8, u9⟩ := c5 j hj
      rw [u1, lw_ad9 ((show ∀ j, j < 6 → lw_PI[87 + 8 * j]? = some (1 + (20 + 8 * j)) by decide) j hj) u2]
    refine ⟨⟨⟨rfl, rfl, rfl⟩, fun j hj => ⟨(show ∀ j, j < 9 → lw_KS[68 + 2 * j]? = some 5 by decide) j hj, (show ∀ j, j < 9 → lw_KS[69 + 2 * j]? = some 6 by decide) j hj⟩, fun j hj => ⟨(show ∀ j, j < 6 → lw_KS[87 + 8 * j]? = some 7 by decide) j hj, (show ∀ j, j < 6 → lw_KS[88 + 8 * j]? = some 8 by decide) j hj, (show ∀ j, j < 6 → lw_KS[89 + 8 * j]? = some 9 by decide) j hj, (show ∀ j, j < 6 → lw_KS[92 + 8 * j]? = some 10 by decide) j hj, (show ∀ j, j < 6 → lw_KS[93 + 8 * j]? = some 11 by decide) j hj, (show ∀ j, j < 6 → lw_KS[94 + 8 * j]? = some 12 by decide) j hj⟩⟩, ⟨_, lw_wa (q := 66) rfl c1, by rw [← dH]; rfl, by rw [← dP]; rfl⟩, ⟨cH, fH, T3, lw_wa (q := 67) rfl c2, cH9⟩, ⟨cPl, fP, T4, lw_wa (q := 86) rfl c4, cP9⟩, fun j hj => ?_, fun j hj => ?_⟩
    · obtain ⟨a, u1, a9, f9, u2, u3, u4⟩ := c3 j hj
      have h := lw_wa ((show ∀ j, j < 9 → lw_PI[68 + 2 * j]? = some (1 + (1 + 2 * j)) by decide) j hj) u2
      rw [lw_ad9 ((show ∀ j, j < 9 → lw_PI[69 + 2 * j]? = some (1 + (1 + 2 * j + 1)) by decide) j hj) u3] at h
      exact ⟨_, h, rfl⟩
    · obtain ⟨a, u1, b1, b2, b3, u2, u3, ⟨k1, k2, k3, u4, u5, u6, u7⟩, f1, u8, u9⟩ := c5 j hj
      refine ⟨?_, ?_, ?_⟩
      · have h := lw_wa ((show ∀ j, j < 6 → lw_PI[87 + 8 * j]? = some (1 + (20 + 8 * j)) by decide) j hj) u2
        rw [lw_ad9 ((show ∀ j, j < 6 → lw_PI[88 + 8 * j]? = some (1 + (20 + 8 * j + 1)) by decide) j hj) u3, lw_ad9 ((show ∀ j, j < 6 → lw_PI[89 + 8 * j]? = some (1 + (20 + 8 * j + 1) + 1) by decide) j hj) u4, lw_ad9 ((show ∀ j, j < 6 → lw_PI[93 + 8 * j]? = some (1 + (20 + 8 * j + 1) + 5) by decide) j hj) u8] at h
        exact ⟨_, h, rfl, rfl, rfl⟩
      · have h := lw_wa ((show ∀ j, j < 6 → lw_PI[89 + 8 * j]? = some (1 + (20 + 8 * j + 1) + 1) by decide) j hj) u4
        rw [lw_ad9 ((show ∀ j, j < 6 → lw_PI[92 + 8 * j]? = some (1 + (20 + 8 * j + 1) + 2 + 2) by decide) j hj) u7] at h
        exact ⟨_, h, rfl⟩
      · have h := lw_wa ((show ∀ j, j < 6 → lw_PI[93 + 8 * j]? = some (1 + (20 + 8 * j + 1) + 5) by decide) j hj) u8
        rw [lw_ad9 ((show ∀ j, j < 6 → lw_PI[94 + 8 * j]? = some (1 + (20 + 8 * j + 1) + 6) by decide) j hj) u9] at h
        exact ⟨cI, _, 0, 0, 0, T0, h, lw_wa ((show ∀ j, j < 6 → lw_PI[94 + 8 * j]? = some (1 + (20 + 8 * j + 1) + 6) by decide) j hj) u9, by decide, Or.inl rfl⟩
  · obtain ⟨e9, a, c⟩ := hW q k hq
    exact ⟨e9, a, fun hk _ => c hk⟩
  · intro b9 hb9
    have hb9 : b9 ∈ [(22, (0 : Int), (0 : Int)), (21, 0, 0), (20, 0, 0), (16, 0, 9)] := hb9
    simp only [List.mem_cons, List.not_mem_nil, or_false] at hb9
    rcases hb9 with rfl | rfl | rfl | rfl
    · exact ⟨0, rfl, by decide, by decide⟩
    · exact ⟨0, rfl, by decide, by decide⟩
    · exact ⟨0, rfl, by decide, by decide⟩
    · exact ⟨0, rfl, by decide, by decide⟩
  · refine ⟨_, _, _, 0, m1', rfl, fun h h1 => absurd h1 (by rw [show (0 : Int32).toNatClampNeg = 0 from by decide]; exact Nat.not_lt_zero h), fun j hj => ?_⟩
    obtain ⟨b9, u1, u2⟩ := k4 j hj
    refine ⟨b9, a3, _, _, _, _, rfl, (lw_wk (q := 11) rfl k3).1, u1, (lw_wk ((show ∀ j, j < 6 → lw_PI[12 + j]? = some (94 + 1 + j) by decide) j hj) u2).1⟩
