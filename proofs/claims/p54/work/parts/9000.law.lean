/-! the law's cases: words of a script, addresses -/
/-- the lists' predicate, and where the law's own references lead -/
def lw_LA (LP : en_H → va_W → Prop) (am ax ao ad qx qo qd : Nat) (sh : en_H) (w : va_W) : Prop := LP sh w ∧ (0 < sh.1.length ∧ qx < sh.1.length ∧ qo < sh.1.length ∧ qd < sh.1.length) ∧ sh.2 0 = am ∧ sh.2 qx = ax ∧ sh.2 qo = ao ∧ sh.2 qd = ad
theorem lw_LA_st {wt : List (Nat × Nat)} {LP : en_H → va_W → Prop} {am ax ao ad qx qo qd : Nat} (h : lw_stw wt LP) : lw_stw wt (lw_LA LP am ax ao ad qx qo qd) := fun tk md sh sh' w w' hg hF hm ⟨h1, ⟨l0, l1, l2, l3⟩, h2, h3, h4, h5⟩ => ⟨h tk md sh sh' w w' hg hF hm h1, ⟨Nat.lt_of_lt_of_le l0 hg.len, Nat.lt_of_lt_of_le l1 hg.len, Nat.lt_of_lt_of_le l2 hg.len, Nat.lt_of_lt_of_le l3 hg.len⟩, (hg.2 _ l0).trans h2, (hg.2 _ l1).trans h3, (hg.2 _ l2).trans h4, (hg.2 _ l3).trans h5⟩
theorem lw_c16 (x : Int32) : (0 : Int) ≤ ((x.toUInt32 % 65536).toInt32).toInt ∧ ((x.toUInt32 % 65536).toInt32).toInt ≤ 65535 := by
  rw [en_m16]
  omega
theorem lw_nI (i k : Nat) : nI i + nI k = nI (i + k) := by
  show Int32.ofNat i + Int32.ofNat k = Int32.ofNat (i + k)
  exact (Int32.ofNat_add i k).symm
/-- a word read as a truth value -/
def lw_bv (x : Int32) : Int32 := if x = 0 then 0 else 1
theorem lw_bv_b (x : Int32) : (0 : Int) ≤ (lw_bv x).toInt ∧ (lw_bv x).toInt ≤ 1 := by
  unfold lw_bv
  split
  · exact ⟨by decide, by decide⟩
  · exact ⟨by decide, by decide⟩
/-- between the calls the two editions are one -/
def lw_E (_ _ : Int32) : Prop := True
/-- the law's locals -/
def lw_lv (b ax am ao ad i : Nat) : List (Nat × Value) := [(0, .ref b), (1, .ref ax), (2, .ref am), (3, .ref ao), (4, .ref ad), (5, .int (nI i))]
/-- the script, and a round in it -/
def lw_X (b Ln : Nat) (xs : Nat → Int32) (s : State) (A : Nat → Prop) (i : Nat) : Prop := va_X b Ln xs s s.heap ∧ b < s.heap.size ∧ ¬ A b ∧ i + 6 < Ln ∧ Ln < 2147483648
section
variable {p : Program} {l : Launch} {e : Env} {R : Room} {s : State} {m : MethodId} {args : Array Value} {below : List Frame} {meth : Method} {c : Code} {Q : State → Prop}
variable {D : va_G} {A : Nat → Prop} {w : va_W} {H : Heap} {locs : List Loc} {ls : Array Slot} {pc cells slots b Ln i : Nat} {xs : Nat → Int32} {rest : List Value}
theorem lw_ld1 (hx : p.tables.exec = Jvm.exec) (hb : c.code = cL_law) (X : lw_X b Ln xs s A i) (hS : va_S A s.heap H locs) {k : Nat} (hk : k < 7) {v : Int32} (ev : v = nI k) 
    (d3 : decode cL_law pc = .ok (.iadd, 1)) (d4 : decode cL_law (pc + 1) = .ok (.iaload, 1))
    (kk : W p l e R s m args below meth c H locs cells slots Q (F0 m (pc + 2) ls (.int (xs (i + k)) :: rest))) : W p l e R s m args below meth c H locs cells slots Q (F0 m pc ls (.int v :: .int (nI i) :: .ref b :: rest)) := by
  obtain ⟨hX, hbl, hbA, hi, hL⟩ := X
  subst ev
  refine lv_iadd hx hb d3 ?_
  rw [lw_nI]
  refine va_sld hx hb hX hbl hbA hS (vp_in_nI (show i + k < Ln by omega) (by omega)) d4 ?_
  rw [nI_clamp (show i + k < 2 ^ 31 by omega)]
  exact kk
/-- word i + k of the script -/
theorem lw_ld (hx : p.tables.exec = Jvm.exec) (hb : c.code = cL_law) (X : lw_X b Ln xs s A i) (hS : va_S A s.heap H locs) {k : Nat} {n : Int} (hk : k < 7) (h0 : ls[0]? = some (.val (.ref b))) (h5 : ls[5]? = some (.val (.int (nI i)))) (e2 : Int32.ofInt n = nI k)
    (d : decode cL_law pc = .ok (.aload_n 0, 1) ∧ decode cL_law (pc + 1) = .ok (.iload 5, 2) ∧ decode cL_law (pc + 3) = .ok (.iconst n, 1) ∧ decode cL_law (pc + 4) = .ok (.iadd, 1) ∧ decode cL_law (pc + 5) = .ok (.iaload, 1))
    (kk : W p l e R s m args below meth c H locs cells slots Q (F0 m (pc + 6) ls (.int (xs (i + k)) :: rest))) : W p l e R s m args below meth c H locs cells slots Q (F0 m pc ls rest) := by
  obtain ⟨d0, d1, d2, d3, d4⟩ := d
  refine lv_aload_n hx hb d0 rfl h0 ?_
  refine lv_iload hx hb d1 h5 ?_
  refine lv_iconst hx hb d2 e2 ?_
  exact lw_ld1 hx hb X hS hk rfl d3 d4 kk
theorem lw_ldb (hx : p.tables.exec = Jvm.exec) (hb : c.code = cL_law) (X : lw_X b Ln xs s A i) (hS : va_S A s.heap H locs) {k : Nat} {n : Int} (hk : k < 7) (h0 : ls[0]? = some (.val (.ref b))) (h5 : ls[5]? = some (.val (.int (nI i)))) (e2 : (Int8.ofInt n).toInt32 = nI k)
    (d : decode cL_law pc = .ok (.aload_n 0, 1) ∧ decode cL_law (pc + 1) = .ok (.iload 5, 2) ∧ decode cL_law (pc + 3) = .ok (.bipush n, 2) ∧ decode cL_law (pc + 5) = .ok (.iadd, 1) ∧ decode cL_law (pc + 6) = .ok (.iaload, 1))
    (kk : W p l e R s m args below meth c H locs cells slots Q (F0 m (pc + 7) ls (.int (xs (i + k)) :: rest))) : W p l e R s m args below meth c H locs cells slots Q (F0 m pc ls rest) := by
  obtain ⟨d0, d1, d2, d3, d4⟩ := d
  refine lv_aload_n hx hb d0 rfl h0 ?_
  refine lv_iload hx hb d1 h5 ?_
  refine lv_bipush hx hb d2 e2 ?_
  exact lw_ld1 hx hb X hS hk rfl d3 d4 kk
/-- a truth value made of a word -/
theorem lw_tv (hx : p.tables.exec = Jvm.exec) (hb : c.code = cL_law) {x : Int32} 
    (d : decode cL_law pc = .ok (.ifCond .eq 7, 3) ∧ decode cL_law (pc + 3) = .ok (.iconst 1, 1) ∧ decode cL_law (pc + 4) = .ok (.goto 4, 3) ∧ decode cL_law (pc + 7) = .ok (.iconst 0, 1))
    (kk : W p l e R s m args below meth c H locs cells slots Q (F0 m (pc + 8) ls (.int (lw_bv x) :: rest))) : W p l e R s m args below meth c H locs cells slots Q (F0 m pc ls (.int x :: rest)) := by
  obtain ⟨d0, d1, d2, d3⟩ := d
  refine lv_if_eq (tgt := pc + 7) hx hb d0 (by omega) (fun h => ?_) (fun h => ?_)
  · refine lv_iconst (v := 0) hx hb d3 (by decide) ?_
    rw [show lw_bv x = 0 from if_pos h] at kk
    exact kk
  · refine lv_iconst (v := 1) hx hb d1 (by decide) ?_
    refine lv_goto (tgt := pc + 8) hx hb d2 (by omega) ?_
    rw [show lw_bv x = 1 from if_neg h] at kk
    exact kk
end
