/-! the engine: states, straight steps -/
def en_L (ls : Array Slot) (nL : Nat) (ρ : List Value) (lo : List (Nat × Nat)) : Prop := ls.size = nL ∧ lv_wf ls ∧ ∀ q ∈ lo, ∃ v, ρ[q.2]? = some v ∧ ls[q.1]? = some (.val v)
def en_O (PP : Int32 → Int32 → Prop) (KT : List en_D) (tk : List Nat) (sh : en_H) (tys : List (ClassId × FieldType)) (ρ : List Value) (ws : va_W) : Option (Nat × List Nat) → Prop
  | none => en_W PP KT tk sh tys (fun _ => False) ws
  | some o => ∃ (q0 k0 t0 : Nat) (v : en_V8) (cA : ClassId) (f : Nat → Int32), ρ[o.1]? = some (.ref (sh.2 q0)) ∧ sh.1[q0]? = some k0 ∧ KT[k0]? = some (.inr (t0, o.2.length, .inr v)) ∧ v.1.length = o.2.length ∧ (tys[t0]?).map Prod.fst = some cA ∧
      ws[q0]? = some (sh.2 q0, .inl (cA, o.2.length, .inl f)) ∧ (∀ (j : Nat) (s : Nat), o.2[j]? = some s → ρ[s]? = some (Value.int (f j))) ∧ en_W PP KT tk sh tys (fun q => q = q0) ws
def en_G (nL : Nat) (D : va_G) (cl : List vw_C) (tys : List (ClassId × FieldType)) (PP : Int32 → Int32 → Prop) (Ω : Nat → en_H → va_W → Prop) (KT : List en_D) (tk : List Nat) (md : List (Nat × Nat)) (sh0 : en_H) (w0 : va_W) (A : Nat → Prop) (H0 : Heap) (σ : en_S) (sh : en_H) (ρ : List Value) (ws : va_W) (H : Heap) (locs : List Loc) (ls : Array Slot) : Prop :=
  en_E sh σ.1 ρ ∧ en_L ls nL ρ σ.2.2.1 ∧ (∀ f ∈ σ.2.2.2.1, en_fs PP Ω sh ws ρ f) ∧ en_O PP KT tk sh tys ρ ws σ.2.2.2.2.1 ∧ va_P D cl ws H ∧ va_D A ws ∧ va_S A H0 H locs ∧ en_F md sh0 w0 ws ∧ en_Gr tk sh0 sh
def en_T (ρ : List Value) (stk : List Nat) (st : List Value) : Prop := st.map some = stk.map (fun i => ρ[i]?)
/-- from a state that the abstract one fits, whatever the symbols behind those of ρ0 may be, the machine comes to Q -/
def en_OK (p : Program) (l : Launch) (e : Env) (R : Room) (s : State) (m : MethodId) (args : Array Value) (below : List Frame) (meth : Method) (c : Code) (Q : State → Prop) (nL : Nat) (D : va_G) (cl : List vw_C) (tys : List (ClassId × FieldType)) (PP : Int32 → Int32 → Prop) (Ω : Nat → en_H → va_W → Prop) (KT : List en_D) (tk : List Nat) (md : List (Nat × Nat)) (sh0 : en_H) (w0 : va_W) (A : Nat → Prop) (H0 : Heap) (ρ0 : List Value) (pc : Nat) (σ : en_S) : Prop :=
  ∀ (sh : en_H) (ρ : List Value) (ws : va_W) (H : Heap) (locs : List Loc) (ls : Array Slot) (st : List Value), (∃ t, ρ = ρ0 ++ t) → en_G nL D cl tys PP Ω KT tk md sh0 w0 A H0 σ sh ρ ws H locs ls → en_T ρ σ.2.1 st → W p l e R s m args below meth c H locs σ.2.2.2.2.2.1 σ.2.2.2.2.2.2 Q (F0 m pc ls st)
theorem en_T.cons {ρ : List Value} {i : Nat} {rest : List Nat} {st : List Value} (h : en_T ρ (i :: rest) st) : ∃ v st', st = v :: st' ∧ ρ[i]? = some v ∧ en_T ρ rest st' := by
  rcases st with _ | ⟨v, st'⟩
  · simp [en_T] at h
  · simp only [en_T, List.map_cons, List.cons.injEq] at h
    exact ⟨v, st', rfl, h.1.symm, h.2⟩
theorem en_T.mk {ρ : List Value} {i : Nat} {rest : List Nat} {v : Value} {st : List Value} (h1 : ρ[i]? = some v) (h : en_T ρ rest st) : en_T ρ (i :: rest) (v :: st) := by
  simp only [en_T, List.map_cons, List.cons.injEq]
  exact ⟨h1.symm, h⟩
theorem en_T.nil {ρ : List Value} {st : List Value} (h : en_T ρ [] st) : st = [] := by
  rcases st with _ | ⟨v, st'⟩
  · rfl
  · simp [en_T] at h
theorem en_T.up {ρ t : List Value} {stk : List Nat} {st : List Value} (h : en_T ρ stk st) : en_T (ρ ++ t) stk st := by
  induction stk generalizing st with
  | nil => rw [h.nil]; rfl
  | cons i rest ih =>
    obtain ⟨v, st', rfl, h1, h2⟩ := h.cons
    exact en_T.mk (en_atL h1) (ih h2)
theorem en_L.up {ls : Array Slot} {nL : Nat} {ρ t : List Value} {lo : List (Nat × Nat)} (h : en_L ls nL ρ lo) : en_L ls nL (ρ ++ t) lo := ⟨h.1, h.2.1, fun q hq => by
  obtain ⟨v, h1, h2⟩ := h.2.2 q hq
  exact ⟨v, en_atL h1, h2⟩⟩
theorem en_O.up {PP : Int32 → Int32 → Prop} {KT : List en_D} {tk : List Nat} {sh : en_H} {tys : List (ClassId × FieldType)} {ρ t : List Value} {ws : va_W} {o : Option (Nat × List Nat)} (h : en_O PP KT tk sh tys ρ ws o) : en_O PP KT tk sh tys (ρ ++ t) ws o := by
  rcases o with _ | o
  · exact h
  · obtain ⟨q0, k0, t0, v, cA, f, h1, h2, h3, h4, h5, h6, h7, h8⟩ := h
    exact ⟨q0, k0, t0, v, cA, f, en_atL h1, h2, h3, h4, h5, h6, fun j s hj => en_atL (h7 j s hj), h8⟩
/-- a new symbol, on the stack -/
def en_psh (σ : en_S) (rest : List Nat) (a : en_A) : en_S := (σ.1 ++ [a], σ.1.length :: rest, σ.2.2)
section
variable {p : Program} {l : Launch} {e : Env} {R : Room} {s : State} {m : MethodId} {args : Array Value} {below : List Frame} {meth : Method} {c : Code} {Q : State → Prop} {cc : ByteArray}
variable {nL : Nat} {D : va_G} {cl : List vw_C} {tys : List (ClassId × FieldType)} {PP : Int32 → Int32 → Prop} {Ω : Nat → en_H → va_W → Prop} {KT : List en_D} {tk : List Nat} {md : List (Nat × Nat)} {sh0 sh : en_H} {w0 : va_W} {A : Nat → Prop} {H0 : Heap} {σ σ' : en_S} {ρ0 ρ : List Value} {ws : va_W} {H : Heap} {locs : List Loc} {ls : Array Slot} {st : List Value} {pc pc' : Nat}
/-- a further symbol -/
theorem en_G.push {a : en_A} {v : Value} {stk : List Nat} (g : en_G nL D cl tys PP Ω KT tk md sh0 w0 A H0 σ sh ρ ws H locs ls) (hv : en_V sh a v) (hr : ∀ (lo hi : Int) (b : Nat) (o : Int), a = .inl (lo, hi, b + 1, o) → ∃ x y : Int32, v = .int x ∧ ρ[b]? = some (.int y) ∧ x.toInt = y.toInt + o) : en_G nL D cl tys PP Ω KT tk md sh0 w0 A H0 (σ.1 ++ [a], stk, σ.2.2) sh (ρ ++ [v]) ws H locs ls :=
  ⟨g.1.push hv hr, g.2.1.up, fun f hf => (g.2.2.1 f hf).up, g.2.2.2.1.up, g.2.2.2.2⟩
theorem en_pre {ρ0 ρ u : List Value} (h : ∃ t, ρ = ρ0 ++ t) : ∃ t, ρ ++ u = ρ0 ++ t := by
  obtain ⟨t, rfl⟩ := h
  exact ⟨t ++ u, List.append_assoc _ _ _⟩
theorem en_new_go0 {rest : List Nat} {a : en_A} {v : Value} (hp : ∃ t, ρ = ρ0 ++ t) (g : en_G nL D cl tys PP Ω KT tk md sh0 w0 A H0 σ sh ρ ws H locs ls) (hst : en_T ρ rest st) (hv : en_V sh a v) (hr : ∀ (lo hi : Int) (b : Nat) (o : Int), a = .inl (lo, hi, b + 1, o) → ∃ x y : Int32, v = .int x ∧ ρ[b]? = some (.int y) ∧ x.toInt = y.toInt + o)
    (k : en_OK p l e R s m args below meth c Q nL D cl tys PP Ω KT tk md sh0 w0 A H0 ρ0 pc (en_psh σ rest a)) : W p l e R s m args below meth c H locs σ.2.2.2.2.2.1 σ.2.2.2.2.2.2 Q (F0 m pc ls (v :: st)) :=
  k sh (ρ ++ [v]) ws H locs ls (v :: st) (en_pre hp) (g.push hv hr) (en_T.mk (by rw [← g.1.1]; exact en_last) hst.up)
theorem en_new_go {rest : List Nat} {a : en_A} {v : Value} (hp : ∃ t, ρ = ρ0 ++ t) (g : en_G nL D cl tys PP Ω KT tk md sh0 w0 A H0 σ sh ρ ws H locs ls) (hst : en_T ρ rest st) (k : en_OK p l e R s m args below meth c Q nL D cl tys PP Ω KT tk md sh0 w0 A H0 ρ0 pc (en_psh σ rest a)) (hv : en_V sh a v) (hr : ∀ (lo hi : Int) (b : Nat) (o : Int), a = .inl (lo, hi, b + 1, o) → ∃ x y : Int32, v = .int x ∧ ρ[b]? = some (.int y) ∧ x.toInt = y.toInt + o)
    : W p l e R s m args below meth c H locs σ.2.2.2.2.2.1 σ.2.2.2.2.2.2 Q (F0 m pc ls (v :: st)) := en_new_go0 hp g hst hv hr k
theorem en_vi {lo hi : Int} {b : Nat} {o : Int} {x : Int32} (h1 : lo ≤ x.toInt) (h2 : x.toInt ≤ hi) : en_V sh (.inl (lo, hi, b, o)) (.int x) := ⟨x, rfl, h1, h2⟩
theorem en_nb {a : en_A} {v : Value} (h : ∀ (lo hi : Int) (b : Nat) (o : Int), a ≠ .inl (lo, hi, b + 1, o)) : ∀ (lo hi : Int) (b : Nat) (o : Int), a = .inl (lo, hi, b + 1, o) → ∃ x y : Int32, v = .int x ∧ ρ[b]? = some (.int y) ∧ x.toInt = y.toInt + o := fun lo hi b o e => absurd e (h lo hi b o)
theorem en_nb0 {x y z : Int} : ∀ (lo hi : Int) (b : Nat) (o : Int), (Sum.inl (x, y, 0, z) : en_A) ≠ .inl (lo, hi, b + 1, o) := fun lo hi b o e => by
  have h := Sum.inl.inj e
  simp only [Prod.mk.injEq] at h
  omega
theorem en_nbr {z : Nat ⊕ Nat} : ∀ (lo hi : Int) (b : Nat) (o : Int), (Sum.inr z : en_A) ≠ .inl (lo, hi, b + 1, o) := fun lo hi b o e => by cases e
/-- another stack, other locals -/
theorem en_stk_go {stk : List Nat} (hp : ∃ t, ρ = ρ0 ++ t) (g : en_G nL D cl tys PP Ω KT tk md sh0 w0 A H0 σ sh ρ ws H locs ls) (hst : en_T ρ stk st) (k : en_OK p l e R s m args below meth c Q nL D cl tys PP Ω KT tk md sh0 w0 A H0 ρ0 pc (σ.1, stk, σ.2.2)) : W p l e R s m args below meth c H locs σ.2.2.2.2.2.1 σ.2.2.2.2.2.2 Q (F0 m pc ls st) := k sh ρ ws H locs ls st hp g hst
/-- a number -/
def en_con (σ : en_S) (v : Int32) : en_S := en_psh σ σ.2.1 (.inl (v.toInt, v.toInt, 0, 0))
theorem en_con_go {v : Int32} (hp : ∃ t, ρ = ρ0 ++ t) (g : en_G nL D cl tys PP Ω KT tk md sh0 w0 A H0 σ sh ρ ws H locs ls) (hst : en_T ρ σ.2.1 st) (k : en_OK p l e R s m args below meth c Q nL D cl tys PP Ω KT tk md sh0 w0 A H0 ρ0 pc (en_con σ v)) : W p l e R s m args below meth c H locs σ.2.2.2.2.2.1 σ.2.2.2.2.2.2 Q (F0 m pc ls (.int v :: st)) := en_new_go hp g hst k (en_vi (Int.le_refl _) (Int.le_refl _)) (en_nb en_nb0)
/-- where a result is a symbol plus a number -/
def en_rl (env : List en_A) (i : Nat) : Option Int → Nat × Int
  | none => (0, 0)
  | some k => match env[i]? with
    | some (.inl (_, _, 0, _)) => (i + 1, k)
    | some (.inl (_, _, b + 1, o)) => (b + 1, o + k)
    | _ => (0, 0)
theorem en_rl_ok {env : List en_A} {i : Nat} {o : Option Int} {x z : Int32} {l0 u0 : Int} (h : en_E sh env ρ) (hx : ρ[i]? = some (.int x)) (hk : ∀ k, o = some k → z.toInt = x.toInt + k) :
    ∀ (lo hi : Int) (b : Nat) (off : Int), (Sum.inl (l0, u0, en_rl env i o) : en_A) = .inl (lo, hi, b + 1, off) → ∃ x' y' : Int32, Value.int z = .int x' ∧ ρ[b]? = some (.int y') ∧ x'.toInt = y'.toInt + off := by
  intro lo hi b off he
  have e := Sum.inl.inj he
  simp only [Prod.mk.injEq] at e
  obtain ⟨-, -, e⟩ := e
  cases o with
  | none =>
    simp only [en_rl, Prod.mk.injEq] at e
    omega
  | some k =>
    have hz := hk k rfl
    unfold en_rl at e
    dsimp only at e
    split at e
    · simp only [Prod.mk.injEq] at e
      obtain ⟨e1, rfl⟩ := e
      have e2 : i = b := by omega
      subst e2
      exact ⟨z, x, rfl, hx, hz⟩
    · next l1 u1 b1 o1 ha =>
      simp only [Prod.mk.injEq] at e
      obtain ⟨e1, rfl⟩ := e
      have e2 : b1 = b := by omega
      subst e2
      obtain ⟨v, g1, -, g4⟩ := h.2 i _ ha
      obtain ⟨x0, y0, q1, q2, q3⟩ := g4 l1 u1 b1 o1 rfl
      have e4 : x = x0 := by
        rw [q1] at g1
        exact Value.int.inj (Option.some.inj (hx.symm.trans g1))
      subst e4
      exact ⟨z, y0, rfl, q2, by omega⟩
    · simp only [Prod.mk.injEq] at e
      omega
def en_bin (f : (Int × Int) → (Int × Int) → Option en_R) (σ : en_S) : Option en_S := match σ.2.1 with
  | j :: i :: rest => match en_eff σ.1 i with
    | some a => match en_eff σ.1 j with
      | some b => match f a b with
        | some r => some (en_psh σ rest (.inl (r.1, r.2.1, en_rl σ.1 i r.2.2)))
        | none => none
      | none => none
    | none => none
  | _ => none
theorem en_bin_go {f : (Int × Int) → (Int × Int) → Option en_R} {op : Int32 → Int32 → Int32} {P : Int32 → Prop} (hf : en_s2 f op P) (h : en_bin f σ = some σ') (hp : ∃ t, ρ = ρ0 ++ t) (g : en_G nL D cl tys PP Ω KT tk md sh0 w0 A H0 σ sh ρ ws H locs ls) (hst : en_T ρ σ.2.1 st)
    (row : ∀ (x y : Int32) (rest : List Value), P y → W p l e R s m args below meth c H locs σ.2.2.2.2.2.1 σ.2.2.2.2.2.2 Q (F0 m pc' ls (.int (op x y) :: rest)) → W p l e R s m args below meth c H locs σ.2.2.2.2.2.1 σ.2.2.2.2.2.2 Q (F0 m pc ls (.int y :: .int x :: rest)))
    (k : en_OK p l e R s m args below meth c Q nL D cl tys PP Ω KT tk md sh0 w0 A H0 ρ0 pc' σ') : W p l e R s m args below meth c H locs σ.2.2.2.2.2.1 σ.2.2.2.2.2.2 Q (F0 m pc ls st) := by
  unfold en_bin at h
  split at h
  · next j i rest hs =>
    split at h
    · next a ha =>
      split at h
      · next b hb =>
        split at h
        · next r hr =>
          have e0 := Option.some.inj h
          subst e0
          rw [hs] at hst
          have hq9 := hst.cons; clear hst; obtain ⟨vy, st1, rfl, hy0, hst⟩ := hq9
          have hq9 := hst.cons; clear hst; obtain ⟨vx, st2, rfl, hx0, hst⟩ := hq9
          obtain ⟨x, hx, hx1, hx2⟩ := en_eff_ok g.1 ha
          obtain ⟨y, hy, hy1, hy2⟩ := en_eff_ok g.1 hb
          have ex : vx = .int x := Option.some.inj (hx0.symm.trans hx)
          have ey : vy = .int y := Option.some.inj (hy0.symm.trans hy)
          subst ex
          subst ey
          obtain ⟨hP, h1, h2, h3⟩ := hf a b r x y hr hx1 hx2 hy1 hy2
          exact row x y _ hP (en_new_go hp g hst k (en_vi h1 h2) (en_rl_ok g.1 hx h3))
        · cases h
      · cases h
    · cases h
  · cases h
def en_un (f : (Int × Int) → Option en_R) (σ : en_S) : Option en_S := match σ.2.1 with
  | i :: rest => match en_eff σ.1 i with
    | some a => match f a with
      | some r => some (en_psh σ rest (.inl (r.1, r.2.1, en_rl σ.1 i r.2.2)))
      | none => none
    | none => none
  | _ => none
theorem en_un_go {f : (Int × Int) → Option en_R} {op : Int32 → Int32} (hf : en_s1 f op) (h : en_un f σ = some σ') (hp : ∃ t, ρ = ρ0 ++ t) (g : en_G nL D cl tys PP Ω KT tk md sh0 w0 A H0 σ sh ρ ws H locs ls) (hst : en_T ρ σ.2.1 st)
    (row : ∀ (x : Int32) (rest : List Value), W p l e R s m args below meth c H locs σ.2.2.2.2.2.1 σ.2.2.2.2.2.2 Q (F0 m pc' ls (.int (op x) :: rest)) → W p l e R s m args below meth c H locs σ.2.2.2.2.2.1 σ.2.2.2.2.2.2 Q (F0 m pc ls (.int x :: rest)))
    (k : en_OK p l e R s m args below meth c Q nL D cl tys PP Ω KT tk md sh0 w0 A H0 ρ0 pc' σ') : W p l e R s m args below meth c H locs σ.2.2.2.2.2.1 σ.2.2.2.2.2.2 Q (F0 m pc ls st) := by
  unfold en_un at h
  split at h
  · next i rest hs =>
    split at h
    · next a ha =>
      split at h
      · next r hr =>
        have e0 := Option.some.inj h
        subst e0
        rw [hs] at hst
        have hq9 := hst.cons; clear hst; obtain ⟨vx, st1, rfl, hx0, hst⟩ := hq9
        obtain ⟨x, hx, hx1, hx2⟩ := en_eff_ok g.1 ha
        have ex : vx = .int x := Option.some.inj (hx0.symm.trans hx)
        subst ex
        obtain ⟨h1, h2, h3⟩ := hf a r x hr hx1 hx2
        exact row x _ (en_new_go hp g hst k (en_vi h1 h2) (en_rl_ok g.1 hx h3))
      · cases h
    · cases h
  · cases h
/-- longs: nothing is said of them -/
def en_srt (env : List en_A) (i : Nat) (c : Nat) : Bool := match env[i]? with
  | some (.inr (.inr b)) => b == c
  | _ => false
theorem en_srt_ok {env : List en_A} {i c : Nat} (he : en_E sh env ρ) (h : en_srt env i c = true) : ∃ v, ρ[i]? = some v ∧ en_V sh (.inr (.inr c)) v := by
  unfold en_srt at h
  split at h
  · next b hb =>
    have e : b = c := by simpa using h
    subst e
    obtain ⟨v, h1, h2, -⟩ := he.2 i _ hb
    exact ⟨v, h1, h2⟩
  · cases h
theorem en_lng {v : Value} (h : en_V sh (.inr (.inr 0)) v) : ∃ x : Int64, v = .long x := by
  rcases h with ⟨-, x, hx⟩ | ⟨h0, -⟩ | ⟨h0, -⟩
  · exact ⟨x, hx⟩
  · cases h0
  · cases h0
theorem en_vl {x : Int64} : en_V sh (.inr (.inr 0)) (.long x) := Or.inl ⟨rfl, x, rfl⟩
theorem en_vf {x : UInt32} (h : vf_n32 x) : en_V sh (.inr (.inr 1)) (.float x) := Or.inr (Or.inl ⟨rfl, x, rfl, h⟩)
theorem en_i2fn (x : Int32) : vf_n32 (FP.i2f x) := by
  have h := FP.Core.i2f_mag x
  show FP.Core.i2f x &&& 0x7fffffff ≤ 0x7f800000
  rw [UInt32.le_iff_toNat_le, UInt32.toNat_and]
  have e1 : (0x7fffffff : UInt32).toNat = 2 ^ 31 - 1 := rfl
  have e2 : (0x7f800000 : UInt32).toNat = 2139095040 := rfl
  rw [e1, e2, Nat.and_two_pow_sub_one_eq_mod]
  omega
theorem en_vd {x : UInt64} : en_V sh (.inr (.inr 2)) (.double x) := Or.inr (Or.inr ⟨rfl, x, rfl⟩)
def en_binL (σ : en_S) : Option en_S := match σ.2.1 with
  | j :: i :: rest => if en_srt σ.1 i 0 = true then (if en_srt σ.1 j 0 = true then some (en_psh σ rest (.inr (.inr 0))) else none) else none
  | _ => none
theorem en_binL_go {op : Int64 → Int64 → Int64} (h : en_binL σ = some σ') (hp : ∃ t, ρ = ρ0 ++ t) (g : en_G nL D cl tys PP Ω KT tk md sh0 w0 A H0 σ sh ρ ws H locs ls) (hst : en_T ρ σ.2.1 st)
    (row : ∀ (x y : Int64) (rest : List Value), W p l e R s m args below meth c H locs σ.2.2.2.2.2.1 σ.2.2.2.2.2.2 Q (F0 m pc' ls (.long (op x y) :: rest)) → W p l e R s m args below meth c H locs σ.2.2.2.2.2.1 σ.2.2.2.2.2.2 Q (F0 m pc ls (.long y :: .long x :: rest)))
    (k : en_OK p l e R s m args below meth c Q nL D cl tys PP Ω KT tk md sh0 w0 A H0 ρ0 pc' σ') : W p l e R s m args below meth c H locs σ.2.2.2.2.2.1 σ.2.2.2.2.2.2 Q (F0 m pc ls st) := by
  unfold en_binL at h
  split at h
  · next j i rest hs =>
    split at h
    · next hi =>
      split at h
      · next hj =>
        have e0 := Option.some.inj h
        subst e0
        rw [hs] at hst
        have hq9 := hst.cons; clear hst; obtain ⟨vy, st1, rfl, hy0, hst⟩ := hq9
        have hq9 := hst.cons; clear hst; obtain ⟨vx, st2, rfl, hx0, hst⟩ := hq9
        obtain ⟨wx, hx1, hx2⟩ := en_srt_ok g.1 hi
        obtain ⟨wy, hy1, hy2⟩ := en_srt_ok g.1 hj
        obtain ⟨x, rfl⟩ := en_lng hx2
        obtain ⟨y, rfl⟩ := en_lng hy2
        have ex : vx = .long x := Option.some.inj (hx0.symm.trans hx1)
        have ey : vy = .long y := Option.some.inj (hy0.symm.trans hy1)
        subst ex
        subst ey
        exact row x y _ (en_new_go hp g hst k en_vl (en_nb en_nbr))
      · cases h
    · cases h
  · cases h
/-- an int made a long, a float, a double -/
def en_cv (c : Nat) (σ : en_S) : Option en_S := match σ.2.1 with
  | i :: rest => match en_eff σ.1 i with
    | some _ => some (σ.1 ++ [.inr (.inr c)], σ.1.length :: rest, σ.2.2.1, (7, σ.1.length, i, 0, 0, 0) :: σ.2.2.2.1, σ.2.2.2.2)
    | none => none
  | _ => none
end
