/-! the engine: a step -/
def en_f32 : Prop := ∀ x y : Int32, ¬ y = 0 → vf_n32 (FP.fdiv (FP.i2f x) (FP.i2f y))
def en_f64 : Prop := ∀ x y : Int32, ¬ y = 0 → vf_n64 (FP.ddiv (FP.i2d x) (FP.i2d y))
def en_lk7 (fa : List en_X) (tag a : Nat) : Option Nat := (fa.find? (fun f => f.1 == tag && f.2.1 == a)).map (fun f => f.2.2.1)
theorem en_lk7_ok {fa : List en_X} {tag a b : Nat} (h : en_lk7 fa tag a = some b) : ∃ c lo hi, (tag, a, b, c, lo, hi) ∈ fa := by
  obtain ⟨⟨t, a', b', c', lo, hi⟩, hf, rfl⟩ := Option.map_eq_some_iff.mp h
  have hm := List.mem_of_find?_eq_some hf
  have hn := List.find?_some hf
  simp only [Bool.and_eq_true, beq_iff_eq] at hn
  obtain ⟨rfl, rfl⟩ := hn
  exact ⟨c', lo, hi, hm⟩
def en_cvf (tag : Nat) (σ : en_S) : Option en_S := match σ.2.1 with
  | i :: rest => match en_eff σ.1 i with
    | some _ => some (σ.1 ++ [.inr (.inr (tag - 6))], σ.1.length :: rest, σ.2.2.1, (tag, σ.1.length, i, 0, 0, 0) :: σ.2.2.2.1, σ.2.2.2.2)
    | none => none
  | _ => none
def en_dvf (tag : Nat) (σ : en_S) : Option en_S := match σ.2.1 with
  | j :: i :: rest => match en_lk7 σ.2.2.2.1 tag i, en_lk7 σ.2.2.2.1 tag j with
    | some _, some b => if σ.2.2.2.1.contains (6, b, 0, 0, 0, 0) = true then some (en_psh σ rest (.inr (.inr (tag - 6)))) else none
    | _, _ => none
  | _ => none
def en_cst (env : List en_A) (i : Nat) : Bool := match en_eff env i with
  | some r => decide (r.1 = r.2)
  | none => true
/-- a sum: one that has been made already, or a new one, noted unless a number is added -/
def en_iad (σ : en_S) : Option en_S := match σ.2.1 with
  | j :: i :: rest => match en_eff σ.1 i with
    | some a => match en_eff σ.1 j with
      | some b => match en_lkf σ.2.2.2.1 9 i j with
        | some c => some (σ.1, c :: rest, σ.2.2)
        | none => match en_add a b with
          | some r => if (en_cst σ.1 i || en_cst σ.1 j) = true then some (en_psh σ rest (.inl (r.1, r.2.1, en_rl σ.1 i r.2.2))) else some (σ.1 ++ [.inl (r.1, r.2.1, en_rl σ.1 i r.2.2)], σ.1.length :: rest, σ.2.2.1, (9, i, j, σ.1.length, 0, 0) :: σ.2.2.2.1, σ.2.2.2.2)
          | none => none
      | none => none
    | none => none
  | _ => none
/-- a difference, noted unless a number is taken away -/
def en_isb (σ : en_S) : Option en_S := match σ.2.1 with
  | j :: i :: rest => match en_eff σ.1 i with
    | some a => match en_eff σ.1 j with
      | some b => match en_sub a b with
        | some r => if (en_cst σ.1 i || en_cst σ.1 j) = true then some (en_psh σ rest (.inl (r.1, r.2.1, en_rl σ.1 i r.2.2))) else some (σ.1 ++ [.inl (r.1, r.2.1, en_rl σ.1 i r.2.2)], σ.1.length :: rest, σ.2.2.1, (13, i, j, σ.1.length, 0, 0) :: σ.2.2.2.1, σ.2.2.2.2)
        | none => none
      | none => none
    | none => none
  | _ => none
section
variable {p : Program} {l : Launch} {e : Env} {R : Room} {s : State} {m : MethodId} {args : Array Value} {below : List Frame} {meth : Method} {c : Code} {Q : State → Prop} {cc : ByteArray}
variable {nL : Nat} {D : va_G} {cl : List vw_C} {tys : List (ClassId × FieldType)} {PP : Int32 → Int32 → Prop} {Ω : Nat → en_H → va_W → Prop} {KT : List en_D} {tk : List Nat} {md : List (Nat × Nat)} {om : List (Nat × Nat × Nat)} {sh0 sh : en_H} {w0 : va_W} {A : Nat → Prop} {H0 : Heap} {σ σ' : en_S} {ρ0 ρ : List Value} {ws : va_W} {H : Heap} {locs : List Loc} {ls : Array Slot} {st : List Value} {pc pc' : Nat} {TY : List FieldType}
theorem en_iad_go (hexec : p.tables.exec = Jvm.exec) (hb : c.code = cc) (hdg : decode cc pc = .ok (.iadd, 1)) (h : en_iad σ = some σ') (hp : ∃ t, ρ = ρ0 ++ t) (g : en_G nL D cl tys PP Ω KT tk md sh0 w0 A H0 σ sh ρ ws H locs ls) (hst : en_T ρ σ.2.1 st) (k : en_OK p l e R s m args below meth c Q nL D cl tys PP Ω KT tk md sh0 w0 A H0 ρ0 (pc + 1) σ') : W p l e R s m args below meth c H locs σ.2.2.2.2.2.1 σ.2.2.2.2.2.2 Q (F0 m pc ls st) := by
  unfold en_iad at h
  split at h
  · next j i rest hs =>
    split at h
    · next a ha =>
      split at h
      · next b hb2 =>
        rw [hs] at hst
        have hq9 := hst.cons; clear hst; obtain ⟨vy, st1, rfl, hy0, hst⟩ := hq9
        have hq9 := hst.cons; clear hst; obtain ⟨vx, st2, rfl, hx0, hst⟩ := hq9
        obtain ⟨x, hx, hx1, hx2⟩ := en_eff_ok g.1 ha
        obtain ⟨y, hy, hy1, hy2⟩ := en_eff_ok g.1 hb2
        have ex : vx = .int x := Option.some.inj (hx0.symm.trans hx)
        have ey : vy = .int y := Option.some.inj (hy0.symm.trans hy)
        subst ex
        subst ey
        split at h
        · next c9 hc =>
          have e0 := Option.some.inj h
          subst e0
          obtain ⟨lo, hi, hm⟩ := en_lkf_ok hc
          obtain ⟨x', y', q1, q2, q3⟩ := g.2.2.1 _ hm
          have ex : x' = x := Value.int.inj (Option.some.inj (q1.symm.trans hx))
          have ey : y' = y := Value.int.inj (Option.some.inj (q2.symm.trans hy))
          subst ex
          subst ey
          exact lv_iadd hexec hb hdg (k sh ρ ws H locs ls _ hp g (en_T.mk q3 hst))
        · split at h
          · next r hr =>
            obtain ⟨-, h1, h2, h3⟩ := en_add_ok a b r x y hr hx1 hx2 hy1 hy2
            split at h
            · have e0 := Option.some.inj h
              subst e0
              exact lv_iadd hexec hb hdg (en_new_go hp g hst k (en_vi h1 h2) (en_rl_ok g.1 hx h3))
            · have e0 := Option.some.inj h
              subst e0
              have g2 := g.push (stk := σ.1.length :: rest) (a := .inl (r.1, r.2.1, en_rl σ.1 i r.2.2)) (v := .int (x + y)) (en_vi h1 h2) (en_rl_ok g.1 hx h3)
              refine lv_iadd hexec hb hdg (k sh (ρ ++ [.int (x + y)]) ws H locs ls (.int (x + y) :: st2) (en_pre hp) ⟨g2.1, g2.2.1, fun f hf => ?_, g2.2.2.2⟩ (en_T.mk (by rw [← g.1.1]; exact en_last) hst.up))
              rcases List.mem_cons.mp hf with rfl | hf
              · exact ⟨x, y, en_at hx, en_at hy, by rw [← g.1.1]; exact en_last⟩
              · exact g2.2.2.1 f hf
          · cases h
      · cases h
    · cases h
  · cases h
theorem en_isb_go (hexec : p.tables.exec = Jvm.exec) (hb : c.code = cc) (hdg : decode cc pc = .ok (.isub, 1)) (h : en_isb σ = some σ') (hp : ∃ t, ρ = ρ0 ++ t) (g : en_G nL D cl tys PP Ω KT tk md sh0 w0 A H0 σ sh ρ ws H locs ls) (hst : en_T ρ σ.2.1 st) (k : en_OK p l e R s m args below meth c Q nL D cl tys PP Ω KT tk md sh0 w0 A H0 ρ0 (pc + 1) σ') : W p l e R s m args below meth c H locs σ.2.2.2.2.2.1 σ.2.2.2.2.2.2 Q (F0 m pc ls st) := by
  unfold en_isb at h
  split at h
  · next j i rest hs =>
    split at h
    · next a ha =>
      split at h
      · next b hb2 =>
        rw [hs] at hst
        have hq9 := hst.cons; clear hst; obtain ⟨vy, st1, rfl, hy0, hst⟩ := hq9
        have hq9 := hst.cons; clear hst; obtain ⟨vx, st2, rfl, hx0, hst⟩ := hq9
        obtain ⟨x, hx, hx1, hx2⟩ := en_eff_ok g.1 ha
        obtain ⟨y, hy, hy1, hy2⟩ := en_eff_ok g.1 hb2
        have ex : vx = .int x := Option.some.inj (hx0.symm.trans hx)
        have ey : vy = .int y := Option.some.inj (hy0.symm.trans hy)
        subst ex
        subst ey
        split at h
        · next r hr =>
          obtain ⟨-, h1, h2, h3⟩ := en_sub_ok a b r x y hr hx1 hx2 hy1 hy2
          split at h
          · have e0 := Option.some.inj h
            subst e0
            exact lv_isub hexec hb hdg (en_new_go hp g hst k (en_vi h1 h2) (en_rl_ok g.1 hx h3))
          · have e0 := Option.some.inj h
            subst e0
            have g2 := g.push (stk := σ.1.length :: rest) (a := .inl (r.1, r.2.1, en_rl σ.1 i r.2.2)) (v := .int (x - y)) (en_vi h1 h2) (en_rl_ok g.1 hx h3)
            refine lv_isub hexec hb hdg (k sh (ρ ++ [.int (x - y)]) ws H locs ls (.int (x - y) :: st2) (en_pre hp) ⟨g2.1, g2.2.1, fun f hf => ?_, g2.2.2.2⟩ (en_T.mk (by rw [← g.1.1]; exact en_last) hst.up))
            rcases List.mem_cons.mp hf with rfl | hf
            · exact ⟨x, y, en_at hx, en_at hy, by rw [← g.1.1]; exact en_last⟩
            · exact g2.2.2.1 f hf
        · cases h
      · cases h
    · cases h
  · cases h
theorem en_i2l_go {i : Nat} {rest : List Nat} (hexec : p.tables.exec = Jvm.exec) (hb : c.code = cc) (hdg : decode cc pc = .ok (.i2l, 1)) (hs : σ.2.1 = i :: rest) (h : en_int σ.1 i = true) (hp : ∃ t, ρ = ρ0 ++ t) (g : en_G nL D cl tys PP Ω KT tk md sh0 w0 A H0 σ sh ρ ws H locs ls) (hst : en_T ρ σ.2.1 st) (k : en_OK p l e R s m args below meth c Q nL D cl tys PP Ω KT tk md sh0 w0 A H0 ρ0 (pc + 1) (en_psh σ rest (.inr (.inr 0)))) : W p l e R s m args below meth c H locs σ.2.2.2.2.2.1 σ.2.2.2.2.2.2 Q (F0 m pc ls st) := by
  rw [hs] at hst
  have hq9 := hst.cons; clear hst; obtain ⟨vx, st1, rfl, hvx, hst⟩ := hq9
  unfold en_int at h
  split at h
  · next r hr =>
    obtain ⟨x, hx, -⟩ := en_eff_ok g.1 hr
    have ex : vx = .int x := Option.some.inj (hvx.symm.trans hx)
    subst ex
    exact lv_i2l hexec hb hdg rfl (en_new_go hp g hst k en_vl (en_nb en_nbr))
  · cases h
theorem en_i2f_go (hexec : p.tables.exec = Jvm.exec) (hb : c.code = cc) (hdg : decode cc pc = .ok (.i2f, 1)) (h : en_cvf 7 σ = some σ') (hp : ∃ t, ρ = ρ0 ++ t) (g : en_G nL D cl tys PP Ω KT tk md sh0 w0 A H0 σ sh ρ ws H locs ls) (hst : en_T ρ σ.2.1 st) (k : en_OK p l e R s m args below meth c Q nL D cl tys PP Ω KT tk md sh0 w0 A H0 ρ0 (pc + 1) σ') : W p l e R s m args below meth c H locs σ.2.2.2.2.2.1 σ.2.2.2.2.2.2 Q (F0 m pc ls st) := by
  unfold en_cvf at h
  split at h
  · next i rest hs =>
    split at h
    · next r hr =>
      have e0 := Option.some.inj h
      subst e0
      rw [hs] at hst
      have hq9 := hst.cons; clear hst; obtain ⟨vx, st1, rfl, hvx, hst⟩ := hq9
      obtain ⟨x, hx, -⟩ := en_eff_ok g.1 hr
      have ex : vx = .int x := Option.some.inj (hvx.symm.trans hx)
      subst ex
      have g2 := g.push (stk := σ.1.length :: rest) (a := .inr (.inr (7 - 6))) (v := .float (FP.i2f x)) (en_vf (en_i2fn x)) (en_nb en_nbr)
      refine lv_i2f hexec hb hdg (k sh (ρ ++ [.float (FP.i2f x)]) ws H locs ls (.float (FP.i2f x) :: st1) (en_pre hp) ⟨g2.1, g2.2.1, fun f hf => ?_, g2.2.2.2⟩ (en_T.mk (by rw [← g.1.1]; exact en_last) hst.up))
      rcases List.mem_cons.mp hf with rfl | hf
      · exact ⟨x, en_at hx, by rw [← g.1.1]; exact en_last⟩
      · exact g2.2.2.1 f hf
    · cases h
  · cases h
theorem en_i2d_go (hexec : p.tables.exec = Jvm.exec) (hb : c.code = cc) (hdg : decode cc pc = .ok (.i2d, 1)) (h : en_cvf 8 σ = some σ') (hp : ∃ t, ρ = ρ0 ++ t) (g : en_G nL D cl tys PP Ω KT tk md sh0 w0 A H0 σ sh ρ ws H locs ls) (hst : en_T ρ σ.2.1 st) (k : en_OK p l e R s m args below meth c Q nL D cl tys PP Ω KT tk md sh0 w0 A H0 ρ0 (pc + 1) σ') : W p l e R s m args below meth c H locs σ.2.2.2.2.2.1 σ.2.2.2.2.2.2 Q (F0 m pc ls st) := by
  unfold en_cvf at h
  split at h
  · next i rest hs =>
    split at h
    · next r hr =>
      have e0 := Option.some.inj h
      subst e0
      rw [hs] at hst
      have hq9 := hst.cons; clear hst; obtain ⟨vx, st1, rfl, hvx, hst⟩ := hq9
      obtain ⟨x, hx, -⟩ := en_eff_ok g.1 hr
      have ex : vx = .int x := Option.some.inj (hvx.symm.trans hx)
      subst ex
      have g2 := g.push (stk := σ.1.length :: rest) (a := .inr (.inr (8 - 6))) (v := .double (FP.i2d x)) en_vd (en_nb en_nbr)
      refine lv_i2d hexec hb hdg (k sh (ρ ++ [.double (FP.i2d x)]) ws H locs ls (.double (FP.i2d x) :: st1) (en_pre hp) ⟨g2.1, g2.2.1, fun f hf => ?_, g2.2.2.2⟩ (en_T.mk (by rw [← g.1.1]; exact en_last) hst.up))
      rcases List.mem_cons.mp hf with rfl | hf
      · exact ⟨x, en_at hx, by rw [← g.1.1]; exact en_last⟩
      · exact g2.2.2.1 f hf
    · cases h
  · cases h
theorem en_fdv_go (hF : en_f32) (hexec : p.tables.exec = Jvm.exec) (hb : c.code = cc) (hdg : decode cc pc = .ok (.fdiv, 1)) (h : en_dvf 7 σ = some σ') (hp : ∃ t, ρ = ρ0 ++ t) (g : en_G nL D cl tys PP Ω KT tk md sh0 w0 A H0 σ sh ρ ws H locs ls) (hst : en_T ρ σ.2.1 st) (k : en_OK p l e R s m args below meth c Q nL D cl tys PP Ω KT tk md sh0 w0 A H0 ρ0 (pc + 1) σ') : W p l e R s m args below meth c H locs σ.2.2.2.2.2.1 σ.2.2.2.2.2.2 Q (F0 m pc ls st) := by
  unfold en_dvf at h
  split at h
  · next j i rest hs =>
    split at h
    · next a b ha hb2 =>
      split at h
      · next hz =>
        have e0 := Option.some.inj h
        subst e0
        rw [hs] at hst
        have hq9 := hst.cons; clear hst; obtain ⟨vy, st0, rfl, hvy, hst⟩ := hq9
        have hq9 := hst.cons; clear hst; obtain ⟨vx, st1, rfl, hvx, hst⟩ := hq9
        obtain ⟨c1, lo1, hi1, hm1⟩ := en_lk7_ok ha
        obtain ⟨c2, lo2, hi2, hm2⟩ := en_lk7_ok hb2
        obtain ⟨x, x1, x2⟩ := g.2.2.1 _ hm1
        obtain ⟨y, y1, y2⟩ := g.2.2.1 _ hm2
        obtain ⟨y', z1, z2⟩ := g.2.2.1 _ (List.contains_iff_mem.mp hz)
        have ey : y' = y := Value.int.inj (Option.some.inj (z1.symm.trans y1))
        subst ey
        have ex : vx = .float (FP.i2f x) := Option.some.inj (hvx.symm.trans x2)
        have ey : vy = .float (FP.i2f y') := Option.some.inj (hvy.symm.trans y2)
        subst ex
        subst ey
        exact lv_fdiv hexec hb hdg (hF x y' z2) (en_new_go hp g hst k (en_vf (hF x y' z2)) (en_nb en_nbr))
      · cases h
    · cases h
  · cases h
theorem en_ddv_go (hF : en_f64) (hexec : p.tables.exec = Jvm.exec) (hb : c.code = cc) (hdg : decode cc pc = .ok (.ddiv, 1)) (h : en_dvf 8 σ = some σ') (hp : ∃ t, ρ = ρ0 ++ t) (g : en_G nL D cl tys PP Ω KT tk md sh0 w0 A H0 σ sh ρ ws H locs ls) (hst : en_T ρ σ.2.1 st) (k : en_OK p l e R s m args below meth c Q nL D cl tys PP Ω KT tk md sh0 w0 A H0 ρ0 (pc + 1) σ') : W p l e R s m args below meth c H locs σ.2.2.2.2.2.1 σ.2.2.2.2.2.2 Q (F0 m pc ls st) := by
  unfold en_dvf at h
  split at h
  · next j i rest hs =>
    split at h
    · next a b ha hb2 =>
      split at h
      · next hz =>
        have e0 := Option.some.inj h
        subst e0
        rw [hs] at hst
        have hq9 := hst.cons; clear hst; obtain ⟨vy, st0, rfl, hvy, hst⟩ := hq9
        have hq9 := hst.cons; clear hst; obtain ⟨vx, st1, rfl, hvx, hst⟩ := hq9
        obtain ⟨c1, lo1, hi1, hm1⟩ := en_lk7_ok ha
        obtain ⟨c2, lo2, hi2, hm2⟩ := en_lk7_ok hb2
        obtain ⟨x, x1, x2⟩ := g.2.2.1 _ hm1
        obtain ⟨y, y1, y2⟩ := g.2.2.1 _ hm2
        obtain ⟨y', z1, z2⟩ := g.2.2.1 _ (List.contains_iff_mem.mp hz)
        have ey : y' = y := Value.int.inj (Option.some.inj (z1.symm.trans y1))
        subst ey
        have ex : vx = .double (FP.i2d x) := Option.some.inj (hvx.symm.trans x2)
        have ey : vy = .double (FP.i2d y') := Option.some.inj (hvy.symm.trans y2)
        subst ex
        subst ey
        exact lv_ddiv hexec hb hdg (hF x y' z2) (en_new_go hp g hst k en_vd (en_nb en_nbr))
      · cases h
    · cases h
  · cases h
end
/-- a class's tables: kinds, types of rows, om; fields read, fields written, calls, constants, long constants, throws, the places of arraycopy -/
abbrev en_Cx : Type := (List en_D × List FieldType × List (Nat × Nat × Nat)) × List (Nat × Nat × Nat) × List (Nat × Nat × Nat × Nat) × List en_C1 × List (Nat × Int32) × List (Nat × Int64) × List en_T1 × List Nat
/-- a method's own: its contract, level, locals, the result's sort and type, its code, the kinds of its new rows -/
abbrev en_Mx : Type := en_K × Nat × Nat × (Nat × Nat) × en_Tb × List (Nat × Nat)
def en_1 (pc : Nat) : Option en_S → Option (List (Nat × en_S))
  | some σ => some [(pc, σ)]
  | none => none
def en_stp (X : en_Cx) (M : en_Mx) (pc : Nat) (σ : en_S) : Instr × Nat → Option (List (Nat × en_S))
  | (.iconst n, 1) => some [(pc + 1, en_con σ (Int32.ofInt n))]
  | (.bipush n, 2) => some [(pc + 2, en_con σ (Int8.ofInt n).toInt32)]
  | (.sipush n, 3) => some [(pc + 3, en_con σ (Int16.ofInt n).toInt32)]
  | (.ldc ix, 2) => match X.2.2.2.2.1.find? (fun q => q.1 == ix) with
    | some q => some [(pc + 2, en_con σ q.2)]
    | none => none
  | (.ldc_w ix, 3) => match X.2.2.2.2.1.find? (fun q => q.1 == ix) with
    | some q => some [(pc + 3, en_con σ q.2)]
    | none => none
  | (.lconst _, 1) => some [(pc + 1, en_psh σ σ.2.1 (.inr (.inr 0)))]
  | (.ldc2_w ix, 3) => match X.2.2.2.2.2.1.find? (fun q => q.1 == ix) with
    | some _ => some [(pc + 3, en_psh σ σ.2.1 (.inr (.inr 0)))]
    | none => none
  | (.fconst 0, 1) => some [(pc + 1, en_psh σ σ.2.1 (.inr (.inr 1)))]
  | (.dconst 0, 1) => some [(pc + 1, en_psh σ σ.2.1 (.inr (.inr 2)))]
  | (.iload n, 2) => en_1 (pc + 2) (en_lod en_isI σ n)
  | (.iload_n n, 1) => en_1 (pc + 1) (en_lod en_isI σ n.val)
  | (.aload n, 2) => en_1 (pc + 2) (en_lod en_isR σ n)
  | (.aload_n n, 1) => en_1 (pc + 1) (en_lod en_isR σ n.val)
  | (.lload n, 2) => en_1 (pc + 2) (en_lod en_isL σ n)
  | (.lload_n n, 1) => en_1 (pc + 1) (en_lod en_isL σ n.val)
  | (.istore n, 2) => if n < M.2.2.1 then en_1 (pc + 2) (en_sto en_isI σ n) else none
  | (.istore_n n, 1) => if n.val < M.2.2.1 then en_1 (pc + 1) (en_sto en_isI σ n.val) else none
  | (.astore n, 2) => if n < M.2.2.1 then en_1 (pc + 2) (en_sto en_isR σ n) else none
  | (.astore_n n, 1) => if n.val < M.2.2.1 then en_1 (pc + 1) (en_sto en_isR σ n.val) else none
  | (.lstore n, 2) => if n + 1 < M.2.2.1 then en_1 (pc + 2) (en_stl σ n) else none
  | (.lstore_n n, 1) => if n.val + 1 < M.2.2.1 then en_1 (pc + 1) (en_stl σ n.val) else none
  | (.iinc n d, 3) => if n < M.2.2.1 then en_1 (pc + 3) (en_inc σ n d) else none
  | (.iadd, 1) => en_1 (pc + 1) (en_iad σ)
  | (.isub, 1) => en_1 (pc + 1) (en_isb σ)
  | (.imul, 1) => en_1 (pc + 1) (en_bin en_mul σ)
  | (.idiv, 1) => en_1 (pc + 1) (en_bin en_div σ)
  | (.irem, 1) => en_1 (pc + 1) (en_bin en_rem σ)
  | (.iand, 1) => en_1 (pc + 1) (en_bin en_and σ)
  | (.ior, 1) => en_1 (pc + 1) (en_bin en_or σ)
  | (.ixor, 1) => en_1 (pc + 1) (en_bin en_any σ)
  | (.iushr, 1) => en_1 (pc + 1) (en_bin en_shr σ)
  | (.ineg, 1) => en_1 (pc + 1) (en_un en_neg σ)
  | (.i2c, 1) => en_1 (pc + 1) (en_un en_i2c σ)
  | (.i2l, 1) => match σ.2.1 with
    | i :: rest => if en_int σ.1 i = true then some [(pc + 1, en_psh σ rest (.inr (.inr 0)))] else none
    | _ => none
  | (.ladd, 1) => en_1 (pc + 1) (en_binL σ)
  | (.lmul, 1) => en_1 (pc + 1) (en_binL σ)
  | (.i2f, 1) => en_1 (pc + 1) (en_cvf 7 σ)
  | (.i2d, 1) => en_1 (pc + 1) (en_cvf 8 σ)
  | (.fdiv, 1) => en_1 (pc + 1) (en_dvf 7 σ)
  | (.ddiv, 1) => en_1 (pc + 1) (en_dvf 8 σ)
  | (.dup, 1) => en_1 (pc + 1) (en_dup σ)
  | (.dup2, 1) => en_1 (pc + 1) (en_dup2 σ)
  | (.pop, 1) => en_1 (pc + 1) (en_pop σ)
  | (.if_icmp cd off, 3) => en_icm σ pc cd off
  | (.ifCond cd off, 3) => en_ifc σ pc cd off
  | (.goto off, 3) => match en_tg pc off with
    | some t => some [(t, σ)]
    | none => none
  | (.lookupswitch dflt ps, _) => match σ.2.1 with
    | i :: rest => if (ps.toList.zip (ps.toList.drop 1)).all (fun (a, next) => a.1 < next.1) = true ∧ en_int σ.1 i = true then en_lks σ pc i rest dflt ps.toList else none
    | _ => none
  | (.getfield ix, 3) => match X.2.1.find? (fun q => q.1 == ix) with
    | some q => en_1 (pc + 3) (en_get X.1.1 M.1.2.2.2.2.1 σ q.2.1 q.2.2)
    | none => none
  | (.putfield ix, 3) => match X.2.2.1.find? (fun q => q.1 == ix) with
    | some q => en_1 (pc + 3) (en_put X.1.2.2 X.1.1 M.1.2.2.2.2.1 M.1.2.2.2.1 σ q.2.1 q.2.2.1 q.2.2.2)
    | none => none
  | (.iaload, 1) => en_1 (pc + 1) (en_ald X.1.1 M.1.2.2.2.2.1 X.1.2.1 0 σ)
  | (.caload, 1) => en_1 (pc + 1) (en_ald X.1.1 M.1.2.2.2.2.1 X.1.2.1 1 σ)
  | (.baload, 1) => en_1 (pc + 1) (en_ald X.1.1 M.1.2.2.2.2.1 X.1.2.1 2 σ)
  | (.iastore, 1) => en_1 (pc + 1) (en_ast X.1.2.2 X.1.1 M.1.2.2.2.2.1 M.1.2.2.2.1 X.1.2.1 0 σ)
  | (.castore, 1) => en_1 (pc + 1) (en_ast X.1.2.2 X.1.1 M.1.2.2.2.2.1 M.1.2.2.2.1 X.1.2.1 1 σ)
  | (.bastore, 1) => en_1 (pc + 1) (en_ast X.1.2.2 X.1.1 M.1.2.2.2.2.1 M.1.2.2.2.1 X.1.2.1 2 σ)
  | (.aaload, 1) => en_1 (pc + 1) (en_aal X.1.1 M.1.2.2.2.2.1 X.1.2.1 σ)
  | (.arraylength, 1) => en_1 (pc + 1) (en_aln X.1.1 M.1.2.2.2.2.1 X.1.2.1 σ)
  | (.newarray .int, 2) => match M.2.2.2.2.2.find? (fun q => q.1 == pc) with
    | some q => en_1 (pc + 2) (en_nwr X.1.1 M.1.2.2.2.2.1 X.1.2.1 M.1.2.2.2.2.2.1.1 M.1.2.2.2.2.2.1.2 0 q.2 σ)
    | none => none
  | (.newarray .char, 2) => match M.2.2.2.2.2.find? (fun q => q.1 == pc) with
    | some q => en_1 (pc + 2) (en_nwr X.1.1 M.1.2.2.2.2.1 X.1.2.1 M.1.2.2.2.2.2.1.1 M.1.2.2.2.2.2.1.2 1 q.2 σ)
    | none => none
  | (.invokevirtual ix, 3) => en_inv X.1.2.2 X.1.1 M.1.2.2.2.2.1 M.1.2.2.2.1 M.1.2.2.2.2.2.2 M.1.2.2.2.2.2.1.1 M.1.2.2.2.2.2.1.2 M.2.1 (en_shut X.1.1 σ) pc ix true X.2.2.2.1
  | (.invokestatic ix, 3) => if X.2.2.2.2.2.2.2.contains ix = true then en_1 (pc + 3) (en_acp X.1.2.2 X.1.1 M.1.2.2.2.2.1 X.1.2.1 M.1.2.2.2.1 σ) else en_inv X.1.2.2 X.1.1 M.1.2.2.2.2.1 M.1.2.2.2.1 M.1.2.2.2.2.2.2 M.1.2.2.2.2.2.1.1 M.1.2.2.2.2.2.1.2 M.2.1 (en_shut X.1.1 σ) pc ix false X.2.2.2.1
  | (.new ik, 3) => if en_thr M.2.2.2.2.1 X.2.2.2.2.2.2.1 M.1.2.2.2.2.2.2 M.1.2.2.2.2.2.1.1 M.1.2.2.2.2.2.1.2 σ pc ik = true then some [] else none
  | (.ireturn, 1) => match σ.2.1, M.2.2.2.1.1 with
    | [r], 0 => match en_eff σ.1 r with
      | some a => if (en_tyI M.2.2.2.1.2).1 ≤ a.1 ∧ a.2 ≤ (en_tyI M.2.2.2.1.2).2 ∧ en_fin X.1.1 M.1 σ [r] = true then some [] else none
      | none => none
    | _, _ => none
  | (.lreturn, 1) => match σ.2.1, M.2.2.2.1.1 with
    | [r], 1 => if en_srt σ.1 r 0 = true ∧ en_fin X.1.1 M.1 σ [r] = true then some [] else none
    | _, _ => none
  | (.freturn, 1) => match σ.2.1, M.2.2.2.1.1 with
    | [r], 2 => if en_srt σ.1 r 1 = true ∧ en_fin X.1.1 M.1 σ [r] = true then some [] else none
    | _, _ => none
  | (.dreturn, 1) => match σ.2.1, M.2.2.2.1.1 with
    | [r], 3 => if en_srt σ.1 r 2 = true ∧ en_fin X.1.1 M.1 σ [r] = true then some [] else none
    | _, _ => none
  | (.return_, 1) => match σ.2.1, M.2.2.2.1.1 with
    | [], 4 => if en_fin X.1.1 M.1 σ [] = true then some [] else none
    | _, _ => none
  | _ => none
