/-! the engine: branches -/
def en_sem (rc : Nat) (x y : Int32) : Prop := match rc with
  | 0 => x.toInt < y.toInt
  | 1 => x.toInt ≤ y.toInt
  | 2 => x.toInt = y.toInt
  | 3 => ¬ x.toInt = y.toInt
  | 4 => y.toInt < x.toInt
  | _ => y.toInt ≤ x.toInt
def en_rel2 (env : List en_A) (i j : Nat) (a b : Int × Int) : Nat → List (List en_A × List en_X)
  | 0 => if a.1 < b.2 then [(en_ref (en_ref env i a.1 (b.2 - 1)) j (a.1 + 1) b.2, [])] else []
  | 1 => if a.1 ≤ b.2 then [(en_ref (en_ref env i a.1 b.2) j a.1 b.2, [])] else []
  | 2 => if a.1 ≤ b.2 then (if b.1 ≤ a.2 then [(en_ref (en_ref env i b.1 b.2) j a.1 a.2, [])] else []) else []
  | 3 => if b.1 = b.2 then
      (if a.1 = b.1 then (if a.2 = b.1 then [] else [(en_ref env i (a.1 + 1) a.2, if b.1 = 0 then [(6, i, 0, 0, 0, 0)] else [])])
      else if a.2 = b.1 then [(en_ref env i a.1 (a.2 - 1), if b.1 = 0 then [(6, i, 0, 0, 0, 0)] else [])]
      else [(env, if b.1 = 0 then [(6, i, 0, 0, 0, 0)] else [])])
    else if a.1 = a.2 then
      (if b.1 = a.1 then [(en_ref env j (b.1 + 1) b.2, [])] else if b.2 = a.1 then [(en_ref env j b.1 (b.2 - 1), [])] else [(env, [])])
    else [(env, [(12, i, j, 0, 0, 0)])]
  | 4 => if b.1 < a.2 then [(en_ref (en_ref env i (b.1 + 1) a.2) j b.1 (a.2 - 1), [])] else []
  | _ => if b.1 ≤ a.2 then [(en_ref (en_ref env i b.1 a.2) j b.1 a.2, [])] else []
theorem en_rel2_ok {PP : Int32 → Int32 → Prop} {Ω : Nat → en_H → va_W → Prop} {ws : va_W} {sh : en_H} {env : List en_A} {ρ : List Value} {i j rc : Nat} {a b : Int × Int} {x y : Int32} (h : en_E sh env ρ) (hx : ρ[i]? = some (.int x)) (hy : ρ[j]? = some (.int y)) (h1 : a.1 ≤ x.toInt) (h2 : x.toInt ≤ a.2) (h3 : b.1 ≤ y.toInt) (h4 : y.toInt ≤ b.2) (hs : en_sem rc x y) :
    ∃ q ∈ en_rel2 env i j a b rc, en_E sh q.1 ρ ∧ ∀ f ∈ q.2, en_fs PP Ω sh ws ρ f := by
  have nf : ∀ f ∈ ([] : List en_X), en_fs PP Ω sh ws ρ f := fun f hf => absurd hf List.not_mem_nil
  have nz : b.1 = b.2 → ¬ x.toInt = y.toInt → ∀ f ∈ (if b.1 = 0 then [(6, i, 0, 0, 0, 0)] else [] : List en_X), en_fs PP Ω sh ws ρ f := fun hb hne f hf => by
    split at hf
    · next hz =>
      rcases List.mem_cons.mp hf with rfl | hf
      · refine ⟨x, hx, fun e => hne ?_⟩
        subst e
        have : (0 : Int32).toInt = 0 := by decide
        omega
      · exact absurd hf List.not_mem_nil
    · exact absurd hf List.not_mem_nil
  match rc with
  | 0 =>
    have hs : x.toInt < y.toInt := hs
    simp only [en_rel2]
    rw [if_pos (by omega)]
    exact ⟨_, List.mem_cons_self, en_ref_ok (en_ref_ok h hx (by omega) (by omega)) hy (by omega) (by omega), nf⟩
  | 1 =>
    have hs : x.toInt ≤ y.toInt := hs
    simp only [en_rel2]
    rw [if_pos (by omega)]
    exact ⟨_, List.mem_cons_self, en_ref_ok (en_ref_ok h hx (by omega) (by omega)) hy (by omega) (by omega), nf⟩
  | 2 =>
    have hs : x.toInt = y.toInt := hs
    simp only [en_rel2]
    rw [if_pos (by omega), if_pos (by omega)]
    exact ⟨_, List.mem_cons_self, en_ref_ok (en_ref_ok h hx (by omega) (by omega)) hy (by omega) (by omega), nf⟩
  | 3 =>
    have hs : ¬ x.toInt = y.toInt := hs
    simp only [en_rel2]
    split
    · next hb =>
      split
      · next ha =>
        rw [if_neg (by omega)]
        exact ⟨_, List.mem_cons_self, en_ref_ok h hx (by omega) (by omega), nz hb hs⟩
      · next ha =>
        split
        · next ha2 => exact ⟨_, List.mem_cons_self, en_ref_ok h hx (by omega) (by omega), nz hb hs⟩
        · exact ⟨_, List.mem_cons_self, h, nz hb hs⟩
    · split
      · split
        · exact ⟨_, List.mem_cons_self, en_ref_ok h hy (by omega) (by omega), nf⟩
        · split
          · exact ⟨_, List.mem_cons_self, en_ref_ok h hy (by omega) (by omega), nf⟩
          · exact ⟨_, List.mem_cons_self, h, nf⟩
      · refine ⟨_, List.mem_cons_self, h, fun f hf => ?_⟩
        rcases List.mem_cons.mp hf with rfl | hf
        · exact ⟨x, y, hx, hy, fun e => hs (by rw [e])⟩
        · exact absurd hf List.not_mem_nil
  | 4 =>
    have hs : y.toInt < x.toInt := hs
    simp only [en_rel2]
    rw [if_pos (by omega)]
    exact ⟨_, List.mem_cons_self, en_ref_ok (en_ref_ok h hx (by omega) (by omega)) hy (by omega) (by omega), nf⟩
  | n + 5 =>
    have hs : y.toInt ≤ x.toInt := hs
    simp only [en_rel2]
    rw [if_pos (by omega)]
    exact ⟨_, List.mem_cons_self, en_ref_ok (en_ref_ok h hx (by omega) (by omega)) hy (by omega) (by omega), nf⟩
/-- lies between bounds -/
def en_bw (env : List en_A) (i : Nat) (lo hi : Int) : Bool := match en_eff env i with
  | some r => decide (lo ≤ r.1) && decide (r.2 ≤ hi)
  | none => false
theorem en_bw_ok {sh : en_H} {env : List en_A} {ρ : List Value} {i : Nat} {lo hi : Int} {x : Int32} (h : en_E sh env ρ) (hx : ρ[i]? = some (.int x)) (hb : en_bw env i lo hi = true) : lo ≤ x.toInt ∧ x.toInt ≤ hi := by
  unfold en_bw at hb
  split at hb
  · next r hr =>
    obtain ⟨x', g1, g2, g3⟩ := en_eff_ok h hr
    have ex : x' = x := Value.int.inj (Option.some.inj (g1.symm.trans hx))
    subst ex
    simp only [Bool.and_eq_true, decide_eq_true_eq] at hb
    omega
  · cases hb
/-- what follows: pairs that have come to be good -/
def en_sat1 (st : List en_A × List en_X) : en_X → List en_A × List en_X
  | (3, a, b, c, lo, hi) => match en_eff st.1 a with
    | some r => if lo ≤ r.1 then (if r.2 ≤ hi then (if st.2.contains (2, b, c, 0, 0, 0) = true then st else (en_ref (en_ref st.1 b 0 29) c 0 19, (2, b, c, 0, 0, 0) :: st.2)) else st) else st
    | none => st
  | (10, a, b, c, lo, hi) => if en_bw st.1 a lo hi = true then (if st.2.contains (11, b, c, 0, 0, 0) = true then st else (st.1, (11, b, c, 0, 0, 0) :: st.2)) else st
  | (11, b, c, _, _, _) => if (en_bw st.1 b 0 29 && en_bw st.1 c 0 19) = true then (if st.2.contains (2, b, c, 0, 0, 0) = true then st else (st.1, (2, b, c, 0, 0, 0) :: st.2)) else st
  | _ => st
theorem en_sat1_ok {PP : Int32 → Int32 → Prop} {Ω : Nat → en_H → va_W → Prop} {ws : va_W} {sh : en_H} {ρ : List Value} (hPP : ∀ x y, PP x y → 0 ≤ x.toInt ∧ x.toInt ≤ 29 ∧ 0 ≤ y.toInt ∧ y.toInt ≤ 19) {st : List en_A × List en_X} {f : en_X} (h : en_E sh st.1 ρ) (hf : ∀ f ∈ st.2, en_fs PP Ω sh ws ρ f) (h1 : en_fs PP Ω sh ws ρ f) : en_E sh (en_sat1 st f).1 ρ ∧ ∀ f' ∈ (en_sat1 st f).2, en_fs PP Ω sh ws ρ f' := by
  obtain ⟨tag, a, b, c, lo, hi⟩ := f
  match tag with
  | 0 => exact ⟨h, hf⟩
  | 1 => exact ⟨h, hf⟩
  | 2 => exact ⟨h, hf⟩
  | 3 =>
    simp only [en_sat1]
    split
    · next r hr =>
      split
      · next c1 =>
        split
        · next c2 =>
          split
          · exact ⟨h, hf⟩
          · obtain ⟨x, y, z, e1, e2, e3, e4⟩ := h1
            obtain ⟨x', g1, g2, g3⟩ := en_eff_ok h hr
            have ex : x' = x := Value.int.inj (Option.some.inj (g1.symm.trans e1))
            subst ex
            have hp := e4 (by omega) (by omega)
            obtain ⟨p1, p2, p3, p4⟩ := hPP y z hp
            refine ⟨en_ref_ok (en_ref_ok h e2 p1 p2) e3 p3 p4, fun f' hf' => ?_⟩
            rcases List.mem_cons.mp hf' with rfl | hf'
            · exact ⟨y, z, e2, e3, hp⟩
            · exact hf f' hf'
        · exact ⟨h, hf⟩
      · exact ⟨h, hf⟩
    · exact ⟨h, hf⟩
  | 4 => exact ⟨h, hf⟩
  | 5 => exact ⟨h, hf⟩
  | 6 => exact ⟨h, hf⟩
  | 7 => exact ⟨h, hf⟩
  | 8 => exact ⟨h, hf⟩
  | 9 => exact ⟨h, hf⟩
  | 10 =>
    simp only [en_sat1]
    split
    · next hb =>
      split
      · exact ⟨h, hf⟩
      · obtain ⟨x, y, z, e1, e2, e3, e4⟩ := h1
        obtain ⟨b1, b2⟩ := en_bw_ok h e1 hb
        refine ⟨h, fun f' hf' => ?_⟩
        rcases List.mem_cons.mp hf' with rfl | hf'
        · exact ⟨y, z, e2, e3, e4 b1 b2⟩
        · exact hf f' hf'
    · exact ⟨h, hf⟩
  | 11 =>
    simp only [en_sat1]
    split
    · next hb =>
      split
      · exact ⟨h, hf⟩
      · obtain ⟨x, y, e1, e2, e3⟩ := h1
        simp only [Bool.and_eq_true] at hb
        obtain ⟨b1, b2⟩ := en_bw_ok h e1 hb.1
        obtain ⟨b3, b4⟩ := en_bw_ok h e2 hb.2
        refine ⟨h, fun f' hf' => ?_⟩
        rcases List.mem_cons.mp hf' with rfl | hf'
        · exact ⟨x, y, e1, e2, e3 ⟨b1, b2, b3, b4⟩⟩
        · exact hf f' hf'
    · exact ⟨h, hf⟩
  | n + 12 => exact ⟨h, hf⟩
def en_sat (σ : en_S) : en_S := ((σ.2.2.2.1.foldl en_sat1 (σ.1, σ.2.2.2.1)).1, σ.2.1, σ.2.2.1, (σ.2.2.2.1.foldl en_sat1 (σ.1, σ.2.2.2.1)).2, σ.2.2.2.2)
theorem en_satL {PP : Int32 → Int32 → Prop} {Ω : Nat → en_H → va_W → Prop} {ws : va_W} {sh : en_H} {ρ : List Value} (hPP : ∀ x y, PP x y → 0 ≤ x.toInt ∧ x.toInt ≤ 29 ∧ 0 ≤ y.toInt ∧ y.toInt ≤ 19) : ∀ (l : List en_X) (st : List en_A × List en_X), (∀ f ∈ l, en_fs PP Ω sh ws ρ f) → en_E sh st.1 ρ → (∀ f ∈ st.2, en_fs PP Ω sh ws ρ f) → en_E sh (l.foldl en_sat1 st).1 ρ ∧ ∀ f' ∈ (l.foldl en_sat1 st).2, en_fs PP Ω sh ws ρ f'
  | [], st, _, h, hf => ⟨h, hf⟩
  | f :: l, st, hl, h, hf => by
    obtain ⟨g1, g2⟩ := en_sat1_ok (PP := PP) (Ω := Ω) (ws := ws) hPP h hf (hl f List.mem_cons_self)
    exact en_satL hPP l _ (fun f' hf' => hl f' (List.mem_cons_of_mem _ hf')) g1 g2
section
variable {p : Program} {l : Launch} {e : Env} {R : Room} {s : State} {m : MethodId} {args : Array Value} {below : List Frame} {meth : Method} {c : Code} {Q : State → Prop} {cc : ByteArray}
variable {nL : Nat} {D : va_G} {cl : List vw_C} {tys : List (ClassId × FieldType)} {PP : Int32 → Int32 → Prop} {Ω : Nat → en_H → va_W → Prop} {KT : List en_D} {tk : List Nat} {md : List (Nat × Nat)} {sh0 sh : en_H} {w0 : va_W} {A : Nat → Prop} {H0 : Heap} {σ σ' : en_S} {ρ0 ρ : List Value} {ws : va_W} {H : Heap} {locs : List Loc} {ls : Array Slot} {st : List Value} {pc pc' : Nat}
theorem en_G.sat (hPP : ∀ x y, PP x y → 0 ≤ x.toInt ∧ x.toInt ≤ 29 ∧ 0 ≤ y.toInt ∧ y.toInt ≤ 19) (g : en_G nL D cl tys PP Ω KT tk md sh0 w0 A H0 σ sh ρ ws H locs ls) : en_G nL D cl tys PP Ω KT tk md sh0 w0 A H0 (en_sat σ) sh ρ ws H locs ls := by
  obtain ⟨h1, h2⟩ := en_satL (sh := sh) hPP σ.2.2.2.1 (σ.1, σ.2.2.2.1) g.2.2.1 g.1 g.2.2.1
  exact ⟨h1, g.2.1, h2, g.2.2.2⟩
/-- the two ways of a comparison of the symbols i and j -/
def en_way (σ : en_S) (env : List en_A) (rest : List Nat) (i j : Nat) (rc tgt : Nat) : Option (List (Nat × en_S)) := match en_eff env i with
  | some a => match en_eff env j with
    | some b => some ((en_rel2 env i j a b rc).map (fun q => (tgt, en_sat (q.1, rest, σ.2.2.1, q.2 ++ σ.2.2.2.1, σ.2.2.2.2))))
    | none => none
  | none => none
theorem en_way_go {env : List en_A} {rest : List Nat} {i j rc tgt : Nat} {L : List (Nat × en_S)} {x y : Int32} (hPP : ∀ x y, PP x y → 0 ≤ x.toInt ∧ x.toInt ≤ 29 ∧ 0 ≤ y.toInt ∧ y.toInt ≤ 19) (h : en_way σ env rest i j rc tgt = some L) (hp : ∃ t, ρ = ρ0 ++ t) (g : en_G nL D cl tys PP Ω KT tk md sh0 w0 A H0 (env, σ.2) sh ρ ws H locs ls) (hst : en_T ρ rest st) (hx : ρ[i]? = some (.int x)) (hy : ρ[j]? = some (.int y)) (hs : en_sem rc x y)
    (k : ∀ q ∈ L, en_OK p l e R s m args below meth c Q nL D cl tys PP Ω KT tk md sh0 w0 A H0 ρ0 q.1 q.2) : W p l e R s m args below meth c H locs σ.2.2.2.2.2.1 σ.2.2.2.2.2.2 Q (F0 m tgt ls st) := by
  unfold en_way at h
  split at h
  · next a ha =>
    split at h
    · next b hb =>
      have e0 := Option.some.inj h
      subst e0
      obtain ⟨x', gx, a1, a2⟩ := en_eff_ok g.1 ha
      obtain ⟨y', gy, b1, b2⟩ := en_eff_ok g.1 hb
      have ex : x' = x := Value.int.inj (Option.some.inj (gx.symm.trans hx))
      have ey : y' = y := Value.int.inj (Option.some.inj (gy.symm.trans hy))
      subst ex
      subst ey
      obtain ⟨q, hq, q1, q2⟩ := en_rel2_ok (PP := PP) (Ω := Ω) (ws := ws) g.1 hx hy a1 a2 b1 b2 hs
      have g2 : en_G nL D cl tys PP Ω KT tk md sh0 w0 A H0 (q.1, rest, σ.2.2.1, q.2 ++ σ.2.2.2.1, σ.2.2.2.2) sh ρ ws H locs ls := ⟨q1, g.2.1, fun f hf => by
        rcases List.mem_append.mp hf with hf | hf
        · exact q2 f hf
        · exact g.2.2.1 f hf, g.2.2.2⟩
      have h9 := k _ (List.mem_map.mpr ⟨q, hq, rfl⟩) sh ρ ws H locs ls st hp (g2.sat hPP) hst
      exact h9
    · cases h
  · cases h
def en_rc : ClassFile.Cond → Nat × Nat
  | .eq => (2, 3)
  | .ne => (3, 2)
  | .lt => (0, 5)
  | .ge => (5, 0)
  | .gt => (4, 1)
  | .le => (1, 4)
def en_tg (pc : Nat) (off : Int) : Option Nat := if 0 ≤ (pc : Int) + off then some ((pc : Int) + off).toNat else none
theorem en_tg_ok {pc t : Nat} {off : Int} (h : en_tg pc off = some t) : (pc : Int) + off = (t : Int) := by
  unfold en_tg at h
  split at h
  · have := Option.some.inj h
    omega
  · cases h
def en_icm (σ : en_S) (pc : Nat) (cd : ClassFile.Cond) (off : Int) : Option (List (Nat × en_S)) := match σ.2.1 with
  | j :: i :: rest => match en_tg pc off with
    | some tgt => match en_way σ σ.1 rest i j (en_rc cd).1 tgt with
      | some L1 => match en_way σ σ.1 rest i j (en_rc cd).2 (pc + 3) with
        | some L2 => some (L1 ++ L2)
        | none => none
      | none => none
    | none => none
  | _ => none
def en_ifc (σ : en_S) (pc : Nat) (cd : ClassFile.Cond) (off : Int) : Option (List (Nat × en_S)) := match σ.2.1 with
  | i :: rest => match en_tg pc off with
    | some tgt => match en_way σ (σ.1 ++ [.inl (0, 0, 0, 0)]) rest i σ.1.length (en_rc cd).1 tgt with
      | some L1 => match en_way σ (σ.1 ++ [.inl (0, 0, 0, 0)]) rest i σ.1.length (en_rc cd).2 (pc + 3) with
        | some L2 => some (L1 ++ L2)
        | none => none
      | none => none
    | none => none
  | _ => none
theorem en_way_int {env : List en_A} {rest : List Nat} {i j rc tgt : Nat} {L : List (Nat × en_S)} (he : en_E sh env ρ) (h : en_way σ env rest i j rc tgt = some L) : ∃ x y : Int32, ρ[i]? = some (.int x) ∧ ρ[j]? = some (.int y) := by
  unfold en_way at h
  split at h
  · next a ha =>
    split at h
    · next b hb =>
      obtain ⟨x, gx, -⟩ := en_eff_ok he ha
      obtain ⟨y, gy, -⟩ := en_eff_ok he hb
      exact ⟨x, y, gx, gy⟩
    · cases h
  · cases h
theorem en_ne {x y : Int32} (h : ¬ x = y) : ¬ x.toInt = y.toInt := fun e => h (Int32.toInt_inj.mp e)
theorem en_icm_go {cd : ClassFile.Cond} {off : Int} {L : List (Nat × en_S)} (hPP : ∀ x y, PP x y → 0 ≤ x.toInt ∧ x.toInt ≤ 29 ∧ 0 ≤ y.toInt ∧ y.toInt ≤ 19) (hexec : p.tables.exec = Jvm.exec) (hb : c.code = cc) (hdg : decode cc pc = .ok (.if_icmp cd off, 3)) (h : en_icm σ pc cd off = some L) (hp : ∃ t, ρ = ρ0 ++ t) (g : en_G nL D cl tys PP Ω KT tk md sh0 w0 A H0 σ sh ρ ws H locs ls) (hst : en_T ρ σ.2.1 st)
    (k : ∀ q ∈ L, en_OK p l e R s m args below meth c Q nL D cl tys PP Ω KT tk md sh0 w0 A H0 ρ0 q.1 q.2) : W p l e R s m args below meth c H locs σ.2.2.2.2.2.1 σ.2.2.2.2.2.2 Q (F0 m pc ls st) := by
  unfold en_icm at h
  split at h
  · next j i rest hs =>
    split at h
    · next tgt ht =>
      split at h
      · next L1 h1 =>
        split at h
        · next L2 h2 =>
          have e0 := Option.some.inj h
          subst e0
          rw [hs] at hst
          have hq9 := hst.cons; clear hst; obtain ⟨vy, st1, rfl, hy0, hst⟩ := hq9
          have hq9 := hst.cons; clear hst; obtain ⟨vx, st2, rfl, hx0, hst⟩ := hq9
          obtain ⟨x, y, hx, hy⟩ := en_way_int g.1 h1
          have ex : vx = .int x := Option.some.inj (hx0.symm.trans hx)
          have ey : vy = .int y := Option.some.inj (hy0.symm.trans hy)
          subst ex
          subst ey
          have hT := en_tg_ok ht
          have kt : en_sem (en_rc cd).1 x y → W p l e R s m args below meth c H locs σ.2.2.2.2.2.1 σ.2.2.2.2.2.2 Q (F0 m tgt ls st2) := fun hq => en_way_go hPP h1 hp g hst hx hy hq fun q hq => k q (List.mem_append_left _ hq)
          have kf : en_sem (en_rc cd).2 x y → W p l e R s m args below meth c H locs σ.2.2.2.2.2.1 σ.2.2.2.2.2.2 Q (F0 m (pc + 3) ls st2) := fun hq => en_way_go hPP h2 hp g hst hx hy hq fun q hq => k q (List.mem_append_right _ hq)
          cases cd with
          | eq => exact lv_icmp_eq hexec hb hdg hT (fun q => kt (by rw [q]; exact rfl)) (fun q => kf (en_ne q))
          | ne => exact lv_icmp_ne hexec hb hdg hT (fun q => kt (en_ne q)) (fun q => kf (by rw [q]; exact rfl))
          | lt => exact lv_icmp_lt hexec hb hdg hT (fun q => kt (Int32.lt_iff_toInt_lt.mp q)) (fun q => kf (Int.not_lt.mp fun z => q (Int32.lt_iff_toInt_lt.mpr z)))
          | ge => exact lv_icmp_ge hexec hb hdg hT (fun q => kt (Int32.le_iff_toInt_le.mp q)) (fun q => kf (Int.not_le.mp fun z => q (Int32.le_iff_toInt_le.mpr z)))
          | gt => exact lv_icmp_gt hexec hb hdg hT (fun q => kt (Int32.lt_iff_toInt_lt.mp q)) (fun q => kf (Int.not_lt.mp fun z => q (Int32.lt_iff_toInt_lt.mpr z)))
          | le => exact lv_icmp_le hexec hb hdg hT (fun q => kt (Int32.le_iff_toInt_le.mp q)) (fun q => kf (Int.not_le.mp fun z => q (Int32.le_iff_toInt_le.mpr z)))
        · cases h
      · cases h
    · cases h
  · cases h
theorem en_ifc_go {cd : ClassFile.Cond} {off : Int} {L : List (Nat × en_S)} (hPP : ∀ x y, PP x y → 0 ≤ x.toInt ∧ x.toInt ≤ 29 ∧ 0 ≤ y.toInt ∧ y.toInt ≤ 19) (hexec : p.tables.exec = Jvm.exec) (hb : c.code = cc) (hdg : decode cc pc = .ok (.ifCond cd off, 3)) (h : en_ifc σ pc cd off = some L) (hp : ∃ t, ρ = ρ0 ++ t) (g : en_G nL D cl tys PP Ω KT tk md sh0 w0 A H0 σ sh ρ ws H locs ls) (hst : en_T ρ σ.2.1 st)
    (k : ∀ q ∈ L, en_OK p l e R s m args below meth c Q nL D cl tys PP Ω KT tk md sh0 w0 A H0 ρ0 q.1 q.2) : W p l e R s m args below meth c H locs σ.2.2.2.2.2.1 σ.2.2.2.2.2.2 Q (F0 m pc ls st) := by
  unfold en_ifc at h
  split at h
  · next i rest hs =>
    split at h
    · next tgt ht =>
      split at h
      · next L1 h1 =>
        split at h
        · next L2 h2 =>
          have e0 := Option.some.inj h
          subst e0
          rw [hs] at hst
          have hq9 := hst.cons; clear hst; obtain ⟨vx, st2, rfl, hx0, hst⟩ := hq9
          have g2 := g.push (a := .inl (0, 0, 0, 0)) (v := .int 0) (stk := σ.2.1) ⟨0, rfl, by decide, by decide⟩ (en_nb en_nb0)
          obtain ⟨x, y, hx, hy⟩ := en_way_int g2.1 h1
          have hl : (ρ ++ [Value.int 0])[σ.1.length]? = some (.int 0) := by rw [← g.1.1]; exact en_last
          have ey : y = 0 := Value.int.inj (Option.some.inj (hy.symm.trans hl))
          subst ey
          have ex : vx = .int x := Option.some.inj ((en_at hx0).symm.trans hx)
          subst ex
          have hT := en_tg_ok ht
          have hz : (0 : Int32).toInt = 0 := by decide
          have kt : en_sem (en_rc cd).1 x 0 → W p l e R s m args below meth c H locs σ.2.2.2.2.2.1 σ.2.2.2.2.2.2 Q (F0 m tgt ls st2) := fun hq => en_way_go hPP h1 (en_pre hp) g2 hst.up hx hl hq fun q hq => k q (List.mem_append_left _ hq)
          have kf : en_sem (en_rc cd).2 x 0 → W p l e R s m args below meth c H locs σ.2.2.2.2.2.1 σ.2.2.2.2.2.2 Q (F0 m (pc + 3) ls st2) := fun hq => en_way_go hPP h2 (en_pre hp) g2 hst.up hx hl hq fun q hq => k q (List.mem_append_right _ hq)
          cases cd with
          | eq => exact lv_if_eq hexec hb hdg hT (fun q => kt (by rw [q]; exact rfl)) (fun q => kf (en_ne q))
          | ne => exact lv_if_ne hexec hb hdg hT (fun q => kt (en_ne q)) (fun q => kf (by rw [q]; exact rfl))
          | lt => exact lv_if_lt hexec hb hdg hT (fun q => kt (Int32.lt_iff_toInt_lt.mp q)) (fun q => kf (Int.not_lt.mp fun z => q (Int32.lt_iff_toInt_lt.mpr z)))
          | ge => exact lv_if_ge hexec hb hdg hT (fun q => kt (Int32.le_iff_toInt_le.mp q)) (fun q => kf (Int.not_le.mp fun z => q (Int32.le_iff_toInt_le.mpr z)))
          | gt => exact lv_if_gt hexec hb hdg hT (fun q => kt (Int32.lt_iff_toInt_lt.mp q)) (fun q => kf (Int.not_lt.mp fun z => q (Int32.lt_iff_toInt_lt.mpr z)))
          | le => exact lv_if_le hexec hb hdg hT (fun q => kt (Int32.le_iff_toInt_le.mp q)) (fun q => kf (Int.not_le.mp fun z => q (Int32.le_iff_toInt_le.mpr z)))
        · cases h
      · cases h
    · cases h
  · cases h
/-- lookupswitch -/
def en_lks (σ : en_S) (pc : Nat) (i : Nat) (rest : List Nat) (dflt : Int) : List (Int × Int) → Option (List (Nat × en_S))
  | [] => match en_tg pc dflt with
    | some t => some [(t, (σ.1, rest, σ.2.2))]
    | none => none
  | q :: r => match en_eff σ.1 i with
    | some a => match en_tg pc q.2 with
      | some t => match en_lks σ pc i rest dflt r with
        | some L => if a.1 ≤ q.1 then (if q.1 ≤ a.2 then some ((t, (en_ref σ.1 i q.1 q.1, rest, σ.2.2)) :: L) else some L) else some L
        | none => none
      | none => none
    | none => none
theorem en_lks_go {i : Nat} {rest : List Nat} {dflt : Int} {x : Int32} (hp : ∃ t, ρ = ρ0 ++ t) (g : en_G nL D cl tys PP Ω KT tk md sh0 w0 A H0 σ sh ρ ws H locs ls) (hst : en_T ρ rest st) (hx : ρ[i]? = some (.int x)) : ∀ (ps : List (Int × Int)) (L : List (Nat × en_S)), en_lks σ pc i rest dflt ps = some L → (∀ q ∈ L, en_OK p l e R s m args below meth c Q nL D cl tys PP Ω KT tk md sh0 w0 A H0 ρ0 q.1 q.2) →
    ∃ tgt : Nat, (pc : Int) + Op.lookupswitch.offset ps dflt x.toInt = (tgt : Int) ∧ W p l e R s m args below meth c H locs σ.2.2.2.2.2.1 σ.2.2.2.2.2.2 Q (F0 m tgt ls st)
  | [], L, h, k => by
    unfold en_lks at h
    split at h
    · next t ht =>
      have e0 := Option.some.inj h
      subst e0
      exact ⟨t, by rw [Op.lookupswitch.offset_nil]; exact en_tg_ok ht, en_stk_go hp g hst (k _ List.mem_cons_self)⟩
    · cases h
  | q :: r, L, h, k => by
    unfold en_lks at h
    split at h
    · next a ha =>
      split at h
      · next t ht =>
        split at h
        · next L2 h2 =>
          obtain ⟨q1, q2⟩ := q
          rw [Op.lookupswitch.offset_cons]
          obtain ⟨x', gx, a1, a2⟩ := en_eff_ok g.1 ha
          have ex : x' = x := Value.int.inj (Option.some.inj (gx.symm.trans hx))
          subst ex
          by_cases hq : q1 = x'.toInt
          · rw [if_pos hq]
            dsimp only at h
            rw [if_pos (by omega), if_pos (by omega)] at h
            have e0 := Option.some.inj h
            subst e0
            refine ⟨t, en_tg_ok ht, ?_⟩
            have g2 : en_G nL D cl tys PP Ω KT tk md sh0 w0 A H0 (en_ref σ.1 i q1 q1, rest, σ.2.2) sh ρ ws H locs ls := ⟨en_ref_ok g.1 hx (by omega) (by omega), g.2⟩
            exact k _ List.mem_cons_self sh ρ ws H locs ls st hp g2 hst
          · rw [if_neg hq]
            refine en_lks_go hp g hst hx r L2 h2 fun z hz => k z ?_
            split at h
            · split at h
              · have e0 := Option.some.inj h
                subst e0
                exact List.mem_cons_of_mem _ hz
              · have e0 := Option.some.inj h
                subst e0
                exact hz
            · have e0 := Option.some.inj h
              subst e0
              exact hz
        · cases h
      · cases h
    · cases h
end
