/-! exact contracts, by hand: rows made, rows copied; the reference's cells -/
theorem kx_RA {U : State} {c : ClassId} {ty : FieldType} (h : va_RA U c ty) : U.vm.findClass ("[" ++ ty.toString) = some c := by
  cases ty with
  | object C =>
    obtain ⟨_, _, _, _, _, h⟩ := h
    exact h
  | _ => exact h
theorem kx_cT {D : va_G} {tys : List (ClassId × FieldType)} {s : State} {cL cA : ClassId} {t9 : Nat} {ty : FieldType} (hK : va_K D vwCl tys s) (hK9 : va_K D vwCl (tys ++ [(cA, ty)]) s) (ht : tys[t9]? = some (cL, ty)) : cA = cL := by
  have h1 := kx_RA (hK.2 t9 _ ht).2
  have h9 : (tys ++ [(cA, ty)])[tys.length]? = some (cA, ty) := by simp
  have h2 := kx_RA (hK9.2 tys.length _ h9).2
  exact Option.some.inj (h2.symm.trans h1)
section
variable {p : Program} {l : Launch} {e : Env} {R : Room} {s : State} {m : MethodId} {args : Array Value} {below : List Frame} {meth : Method} {c : Code} {Q : State → Prop} {cc : ByteArray}
variable {D : va_G} {tys : List (ClassId × FieldType)} {A : Nat → Prop} {w : va_W} {H : Heap} {locs : List Loc} {ls : Array Slot} {pc cells slots : Nat} {rest : List Value} {own : String}
theorem kx_newI {t0 : Nat} {cA : ClassId} (G : kx_G p s m args c cc own D tys A) (L : kx_H D A s w H locs) (hac : Cond.arrayClass .int ∈ en_cw) (ht : tys[t0]? = some (cA, .int)) (h1 : cells + 1 ≤ R.cells) (h2 : slots + 7 ≤ R.slots) (hdg : decode cc pc = .ok (.newarray .int, 2))
    (k : ∀ (q : Nat) (w1 : va_W) (H1 : Heap), w1[w.length]? = some (q, .inl (cA, 7, .inl (fun _ => 0))) → w1.length = w.length + 1 → (∀ j, j < w.length → w1[j]? = w[j]?) → kx_H D A s w1 H1 locs → W p l e R s m args below meth c H1 locs (cells + 1) (slots + 7) Q (F0 m (pc + 2) ls (.ref q :: rest))) : W p l e R s m args below meth c H locs cells slots Q (F0 m pc ls (.int 7 :: rest)) := by
  refine va_newa (atype := .int) (ty := .int) (a0 := (7, .inl (fun _ => 0))) G.1 G.2.1 (G.2.2.1 _ hac) rfl G.2.2.2.2.1 L.1 L.2.1 L.2.2 G.2.2.2.2.2.2 (fun cA => rfl) (by decide) (N' := 7) (by decide) (by decide) h1 h2 hdg (fun q cB H1 hK9 hP hD hS => ?_)
  have ec := kx_cT G.2.2.2.2.1 hK9 ht
  rw [ec] at hP hD
  obtain ⟨w1, ew, e1, e2, e3⟩ := kx_app w (q, .inl (cA, 7, .inl (fun _ => 0)))
  exact k q w1 H1 e1 e2 e3 ⟨by rw [ew]; exact hP, by rw [ew]; exact hD, hS⟩
theorem kx_newC {t0 : Nat} {cA : ClassId} (G : kx_G p s m args c cc own D tys A) (L : kx_H D A s w H locs) (hac : Cond.arrayClass .char ∈ en_cw) (ht : tys[t0]? = some (cA, .char)) (h1 : cells + 1 ≤ R.cells) (h2 : slots + 9 ≤ R.slots) (hdg : decode cc pc = .ok (.newarray .char, 2))
    (k : ∀ (q : Nat) (w1 : va_W) (H1 : Heap), w1[w.length]? = some (q, .inl (cA, 9, .inl (fun _ => 0))) → w1.length = w.length + 1 → (∀ j, j < w.length → w1[j]? = w[j]?) → kx_H D A s w1 H1 locs → W p l e R s m args below meth c H1 locs (cells + 1) (slots + 9) Q (F0 m (pc + 2) ls (.ref q :: rest))) : W p l e R s m args below meth c H locs cells slots Q (F0 m pc ls (.int 9 :: rest)) := by
  refine va_newa (atype := .char) (ty := .char) (a0 := (9, .inl (fun _ => 0))) G.1 G.2.1 (G.2.2.1 _ hac) rfl G.2.2.2.2.1 L.1 L.2.1 L.2.2 G.2.2.2.2.2.2 (fun cA => rfl) (by decide) (N' := 9) (by decide) (by decide) h1 h2 hdg (fun q cB H1 hK9 hP hD hS => ?_)
  have ec := kx_cT G.2.2.2.2.1 hK9 ht
  rw [ec] at hP hD
  obtain ⟨w1, ew, e1, e2, e3⟩ := kx_app w (q, .inl (cA, 9, .inl (fun _ => 0)))
  exact k q w1 H1 e1 e2 e3 ⟨by rw [ew]; exact hP, by rw [ew]; exact hD, hS⟩
/-- a row of seven copied whole -/
theorem kx_copy {ix q0 q1 t0 a a0 : Nat} {cI : ClassId} {f g : Nat → Int32} (G : kx_G p s m args c cc own D tys A) (L : kx_H D A s w H locs) (hml : c.maxLocals = ls.size) (hac : Cond.methodLink own ix arraycopyName ∈ en_cw ∧ Cond.native arraycopyName ∈ en_cw ∧ Cond.static arraycopyName ∈ en_cw ∧ Cond.initialized "java/lang/System" ∈ en_cw) (h0 : w[q0]? = some (a0, .inl (cI, 7, .inl f))) (h1 : w[q1]? = some (a, .inl (cI, 7, .inl g))) (ht : tys[t0]? = some (cI, .int)) (hf : 1 ≤ R.frames) (hlo : (rest.map fun v => v.category).sum + 200 ≤ R.locals) (hdg : decode cc pc = .ok (.invokestatic ix, 3))
    (k : ∀ (w1 : va_W) (H1 : Heap) (locs1 : List Loc) (g1 : Nat → Int32), w1[q1]? = some (a, .inl (cI, 7, .inl g1)) → (∀ j, j < 7 → g1 j = f j) → w1.length = w.length → (∀ j, j ≠ q1 → w1[j]? = w[j]?) → kx_H D A s w1 H1 locs1 → W p l e R s m args below meth c H1 locs1 cells slots Q (F0 m (pc + 3) ls rest)) : W p l e R s m args below meth c H locs cells slots Q (F0 m pc ls (.int 7 :: .int 0 :: .ref a :: .int 0 :: .ref a0 :: rest)) := by
  refine va_copyi (ty := .int) G.1 G.2.1 hml G.2.2.2.1 (G.2.2.1 _ hac.1) (G.2.2.1 _ hac.2.1) (G.2.2.1 _ hac.2.2.1) (G.2.2.1 _ hac.2.2.2) G.2.2.2.2.1 L.1 L.2.1 L.2.2 q0 q1 t0 t0 h0 h1 ht ht rfl (by decide) (by decide) (by decide) (by decide) (by decide) (fun i hi => rfl) hf ?_ hdg (fun H1 locs1 hP hD hS => ?_)
  · have e9 : nativeFrameWords "java/lang/System" "arraycopy" 5 + 11 ≤ 200 := by decide +kernel
    omega
  · obtain ⟨w1, ew, e1, e2, e3⟩ := kx_set h1 (.inl (cI, 7, .inl (va_cpy f g (0 : Int32).toNatClampNeg (0 : Int32).toNatClampNeg (7 : Int32).toNatClampNeg)))
    refine k w1 H1 locs1 _ e1 (fun j hj => ?_) e2 e3 ⟨by rw [ew]; exact hP, by rw [ew]; exact hD, hS⟩
    show (if (0 : Int32).toNatClampNeg ≤ j ∧ j < (0 : Int32).toNatClampNeg + (7 : Int32).toNatClampNeg then f ((0 : Int32).toNatClampNeg + (j - (0 : Int32).toNatClampNeg)) else g j) = f j
    rw [show (0 : Int32).toNatClampNeg = 0 from rfl, show (7 : Int32).toNatClampNeg = 7 from rfl, if_pos (by omega)]
    congr 1
    omega
end
theorem kx_sub1 {k : Nat} (h : k < 1000000) : (nI k - 1).toInt = (k : Int) - 1 := by
  rw [Int32.toInt_sub, kx_nI h, show (1 : Int32).toInt = 1 from rfl, en_b32 (by omega) (by omega)]
/-- the kinds, as the reference lists them -/
def kx_lit (j : Nat) : Int32 := [(46 : Int32), 103, 98, 100, 121, 114, 119, 112, 111].getD j 0
theorem kx_lit_kd {a : Int32} : (∃ j, j < 9 ∧ kx_lit j = a) ↔ kx_kd a := by
  unfold kx_kd
  constructor
  · rintro ⟨j, hj, rfl⟩
    match j, hj with
    | 0, _ => decide
    | 1, _ => decide
    | 2, _ => decide
    | 3, _ => decide
    | 4, _ => decide
    | 5, _ => decide
    | 6, _ => decide
    | 7, _ => decide
    | 8, _ => decide
    | n + 9, h => omega
  · rintro (rfl | rfl | rfl | rfl | rfl | rfl | rfl | rfl | rfl)
    · exact ⟨0, by decide, rfl⟩
    · exact ⟨2, by decide, rfl⟩
    · exact ⟨3, by decide, rfl⟩
    · exact ⟨1, by decide, rfl⟩
    · exact ⟨8, by decide, rfl⟩
    · exact ⟨7, by decide, rfl⟩
    · exact ⟨5, by decide, rfl⟩
    · exact ⟨6, by decide, rfl⟩
    · exact ⟨4, by decide, rfl⟩
/-- a row of the course as it is told -/
def kx_row (a1 a2 a3 a4 a5 a6 : Int32) (i : Nat) : Int32 := [a1, a2, a3, a4, a5, a6, 0].getD i 0
def kx_rw (rr : Nat → Nat → Int32) (h : Nat) (r : Nat → Int32) : Nat → Nat → Int32 := fun j i => if j = h then r i else rr j i
def kx_ra (rr : Nat → Nat → Int32) (h : Nat) : Nat → Nat → Int32 := fun j i => if j = h ∧ i = 6 then rr h 6 + 1 else rr j i
section
variable {tys : List (ClassId × FieldType)} {sh : en_H} {w w1 : va_W} {fs fs1 : List Value} {hc pc : Nat} {bg : Int32} {rr mk : Nat → Nat → Int32}
/-- a hole added -/
theorem kx_M.hole {cI cX : ClassId} {g g2 r : Nat → Int32} (h : kx_M tys sh w fs hc pc bg rr mk) (hlt : hc < 9) (htI : tys[0]? = some (cI, .int)) (htX : tys[1]? = some (cX, .char)) (e : w1[0]? = some (sh.2 0, .inr (13, fs1))) (hl : fs1.length = fs.length) (hrow : w1[2 + hc]? = some (sh.2 (2 + hc), .inl (cI, 7, .inl g))) (hg : ∀ i, i < 7 → g i = r i) (hkn : w1[28 + hc]? = some (sh.2 (28 + hc), .inl (cX, 600, .inl g2))) (hg2 : ∀ i, i < 600 → g2 i = 46) (ho : ∀ j, j < w.length → j ≠ 0 → j ≠ 2 + hc → j ≠ 28 + hc → w1[j]? = w[j]?) (gf : ∀ j, j ≠ 16 → j ≠ 30 → fs1[j]? = fs[j]?) (g16 : fs1[16]? = some (.int (nI (hc + 1)))) : kx_M tys sh w1 fs1 (hc + 1) pc bg (kx_rw rr hc r) (kx_rw mk hc fun _ => 46) := by
  obtain ⟨⟨a1, a2, a3, a4, a5, a6, a7, a8, a9⟩, ⟨cR, f, b1, b2, b3⟩, ⟨cR2, f2, c1, c2, c3⟩, d0, e0⟩ := h
  have lt : ∀ {q : Nat} {x : Nat × va_E}, w[q]? = some x → q < w.length := fun h => (List.getElem?_eq_some_iff.mp h).1
  refine ⟨⟨e, hl.trans a2, (gf 0 (by decide) (by decide)).trans a3, (gf 1 (by decide) (by decide)).trans a4, g16, (gf 17 (by decide) (by decide)).trans a6, (gf 21 (by decide) (by decide)).trans a7, by omega, a9⟩, ⟨cR, f, b1, (ho 1 (lt b2) (by decide) (by omega) (by omega)).trans b2, b3⟩, ⟨cR2, f2, c1, (ho 27 (lt c2) (by decide) (by omega) (by omega)).trans c2, c3⟩, fun j hj => ?_, fun j hj => ?_⟩
  · by_cases hjh : j = hc
    · subst hjh
      exact ⟨cI, g, htI, hrow, fun i hi => by unfold kx_rw; rw [if_pos rfl]; exact hg i hi⟩
    · obtain ⟨cI9, gg, x1, x2, x3⟩ := d0 j hj
      exact ⟨cI9, gg, x1, (ho _ (lt x2) (by omega) (by omega) (by omega)).trans x2, fun i hi => by unfold kx_rw; rw [if_neg hjh]; exact x3 i hi⟩
  · by_cases hjh : j = hc
    · subst hjh
      exact ⟨cX, g2, htX, hkn, fun i hi => by unfold kx_rw; rw [if_pos rfl]; exact hg2 i hi⟩
    · obtain ⟨cI9, gg, x1, x2, x3⟩ := e0 j hj
      exact ⟨cI9, gg, x1, (ho _ (lt x2) (by omega) (by omega) (by omega)).trans x2, fun i hi => by unfold kx_rw; rw [if_neg hjh]; exact x3 i hi⟩
/-- an area painted -/
theorem kx_M.area {h : Nat} {cI cX : ClassId} {g g2 : Nat → Int32} {k l lo r hi : Int32} (hM : kx_M tys sh w fs hc pc bg rr mk) (hh : h < 9) (htI : tys[0]? = some (cI, .int)) (htX : tys[1]? = some (cX, .char)) (hrow : w1[2 + h]? = some (sh.2 (2 + h), .inl (cI, 7, .inl g))) (hg : ∀ i, i < 7 → g i = kx_ra rr h h i) (hkn : w1[28 + h]? = some (sh.2 (28 + h), .inl (cX, 600, .inl g2))) (hg2 : ∀ i, i < 600 → g2 i = kx_pt (mk h) k l.toInt.toNat lo.toInt.toNat r.toInt.toNat hi.toInt.toNat i) (ho : ∀ j, j < w.length → j ≠ 2 + h → j ≠ 28 + h → w1[j]? = w[j]?) : kx_M tys sh w1 fs hc pc bg (kx_ra rr h) (kx_ck mk h k l lo r hi) := by
  obtain ⟨⟨a1, a2⟩, ⟨cR, f, b1, b2, b3⟩, ⟨cR2, f2, c1, c2, c3⟩, d0, e0⟩ := hM
  have lt : ∀ {q : Nat} {x : Nat × va_E}, w[q]? = some x → q < w.length := fun h => (List.getElem?_eq_some_iff.mp h).1
  refine ⟨⟨(ho 0 (lt a1) (by omega) (by omega)).trans a1, a2⟩, ⟨cR, f, b1, (ho 1 (lt b2) (by omega) (by omega)).trans b2, b3⟩, ⟨cR2, f2, c1, (ho 27 (lt c2) (by omega) (by omega)).trans c2, c3⟩, fun j hj => ?_, fun j hj => ?_⟩
  · by_cases hjh : j = h
    · subst hjh
      exact ⟨cI, g, htI, hrow, hg⟩
    · obtain ⟨cI9, gg, x1, x2, x3⟩ := d0 j hj
      exact ⟨cI9, gg, x1, (ho _ (lt x2) (by omega) (by omega)).trans x2, fun i hi => by unfold kx_ra; rw [if_neg fun h9 => hjh h9.1]; exact x3 i hi⟩
  · by_cases hjh : j = h
    · subst hjh
      exact ⟨cX, g2, htX, hkn, fun i hi => by unfold kx_ck; rw [if_pos rfl]; exact hg2 i hi⟩
    · obtain ⟨cI9, gg, x1, x2, x3⟩ := e0 j hj
      exact ⟨cI9, gg, x1, (ho _ (lt x2) (by omega) (by omega)).trans x2, fun i hi => by unfold kx_ck; rw [if_neg hjh]; exact x3 i hi⟩
/-- a player added -/
theorem kx_M.player (h : kx_M tys sh w fs hc pc bg rr mk) (hlt : pc < 6) (e : w1[0]? = some (sh.2 0, .inr (13, fs1))) (hl : fs1.length = fs.length) (ho : ∀ j, j ≠ 0 → w1[j]? = w[j]?) (gf : ∀ j, j ≠ 17 → j ≠ 30 → fs1[j]? = fs[j]?) (g17 : fs1[17]? = some (.int (nI (pc + 1)))) : kx_M tys sh w1 fs1 hc (pc + 1) bg rr mk := by
  obtain ⟨⟨a1, a2, a3, a4, a5, a6, a7, a8, a9, a10⟩, ⟨cR, f, b1, b2, b3⟩, ⟨cR2, f2, c1, c2, c3⟩, d0, e0⟩ := h
  refine ⟨⟨e, hl.trans a2, (gf 0 (by decide) (by decide)).trans a3, (gf 1 (by decide) (by decide)).trans a4, (gf 16 (by decide) (by decide)).trans a5, g17, (gf 21 (by decide) (by decide)).trans a7, a8, by omega, a10⟩, ⟨cR, f, b1, (ho 1 (by decide)).trans b2, b3⟩, ⟨cR2, f2, c1, (ho 27 (by decide)).trans c2, c3⟩, fun j hj => ?_, fun j hj => ?_⟩
  · obtain ⟨cI9, gg, x1, x2, x3⟩ := d0 j hj
    exact ⟨cI9, gg, x1, (ho _ (by omega)).trans x2, x3⟩
  · obtain ⟨cI9, gg, x1, x2, x3⟩ := e0 j hj
    exact ⟨cI9, gg, x1, (ho _ (by omega)).trans x2, x3⟩
end
theorem kx_M.of {tys : List (ClassId × FieldType)} {sh : en_H} {w w1 : va_W} {fs : List Value} {hc pc : Nat} {bg : Int32} {rr mk : Nat → Nat → Int32} (h : kx_M tys sh w fs hc pc bg rr mk) (g : ∀ j, j < 37 → w1[j]? = w[j]?) : kx_M tys sh w1 fs hc pc bg rr mk := by
  obtain ⟨⟨a1, a2⟩, ⟨cR, f, b1, b2, b3⟩, ⟨cR2, f2, c1, c2, c3⟩, d, e⟩ := h
  refine ⟨⟨(g 0 (by decide)).trans a1, a2⟩, ⟨cR, f, b1, (g 1 (by decide)).trans b2, b3⟩, ⟨cR2, f2, c1, (g 27 (by decide)).trans c2, c3⟩, fun j hj => ?_, fun j hj => ?_⟩
  · obtain ⟨cI, gg, x1, x2, x3⟩ := d j hj
    exact ⟨cI, gg, x1, (g (2 + j) (by omega)).trans x2, x3⟩
  · obtain ⟨cI, gg, x1, x2, x3⟩ := e j hj
    exact ⟨cI, gg, x1, (g (28 + j) (by omega)).trans x2, x3⟩
