/-! the engine: the memory -/
theorem en_W.at {PP : Int32 → Int32 → Prop} {KT : List en_D} {tk : List Nat} {sh : en_H} {tys : List (ClassId × FieldType)} {ex : Nat → Prop} {ws : va_W} {q k : Nat} (h : en_W PP KT tk sh tys ex ws) (hq : sh.1[q]? = some k) (hk : k ∈ tk) (hx : ¬ ex q) : ∃ (e : va_E) (kd : en_D), ws[q]? = some (sh.2 q, e) ∧ KT[k]? = some kd ∧ en_C PP sh tys kd e := by
  obtain ⟨e, h1, h2⟩ := h.2 q k hq
  obtain ⟨kd, h3, h4⟩ := h2 hk hx
  exact ⟨e, kd, h1, h3, h4⟩
theorem en_W.set {PP : Int32 → Int32 → Prop} {KT : List en_D} {tk : List Nat} {sh : en_H} {tys : List (ClassId × FieldType)} {ex : Nat → Prop} {ws : va_W} {q k : Nat} {e : va_E} {kd : en_D} (h : en_W PP KT tk sh tys ex ws) (hq : sh.1[q]? = some k) (hkd : KT[k]? = some kd) (hc : ¬ ex q → en_C PP sh tys kd e) : en_W PP KT tk sh tys ex (ws.set q (sh.2 q, e)) := by
  refine ⟨by rw [List.length_set]; exact h.1, fun q' k' hq' => ?_⟩
  by_cases hqq : q = q'
  · subst hqq
    have ek : k = k' := Option.some.inj (hq.symm.trans hq')
    subst ek
    have hlt : q < ws.length := by rw [h.1]; exact (List.getElem?_eq_some_iff.mp hq).1
    exact ⟨e, List.getElem?_set_self hlt, fun _ hx => ⟨kd, hkd, hc hx⟩⟩
  · rw [List.getElem?_set_ne hqq]
    exact h.2 q' k' hq'
theorem en_W.ex {PP : Int32 → Int32 → Prop} {KT : List en_D} {tk : List Nat} {sh : en_H} {tys : List (ClassId × FieldType)} {ex ex' : Nat → Prop} {ws : va_W} (h : en_W PP KT tk sh tys ex ws) (hx : ∀ q, ex q → ex' q) : en_W PP KT tk sh tys ex' ws := ⟨h.1, fun q k hq => by
  obtain ⟨e, h1, h2⟩ := h.2 q k hq
  exact ⟨e, h1, fun hk hn => h2 hk fun z => hn (hx q z)⟩⟩
theorem en_F.set {md : List (Nat × Nat)} {sh : en_H} {ws : va_W} {q k : Nat} {e e' : va_E} (hq : sh.1[q]? = some k) (hw : ws[q]? = some (sh.2 q, e)) (hf : en_Fc md k e e') : en_F md sh ws (ws.set q (sh.2 q, e')) := fun q' k' e0 hq' h0 => by
  by_cases hqq : q = q'
  · subst hqq
    have ek : k = k' := Option.some.inj (hq.symm.trans hq')
    subst ek
    have hlt : q < ws.length := (List.getElem?_eq_some_iff.mp hw).1
    have ee : e = e0 := (Prod.mk.inj (Option.some.inj (hw.symm.trans h0))).2
    subst ee
    exact ⟨e', List.getElem?_set_self hlt, hf⟩
  · exact ⟨e0, by rw [List.getElem?_set_ne hqq]; exact h0, en_Fc.rf e0⟩
def en_nob : en_A → Bool
  | .inl (_, _, b, _) => b == 0
  | _ => true
theorem en_nob_ok {a : en_A} (h : en_nob a = true) : ∀ (lo hi : Int) (b : Nat) (o : Int), a ≠ .inl (lo, hi, b + 1, o) := fun lo hi b o e => by
  subst e
  simp [en_nob] at h
def en_lkf (fa : List en_X) (tag a b : Nat) : Option Nat := (fa.find? (fun f => f.1 == tag && (f.2.1 == a && f.2.2.1 == b))).map (fun f => f.2.2.2.1)
theorem en_lkf_ok {fa : List en_X} {tag a b c : Nat} (h : en_lkf fa tag a b = some c) : ∃ lo hi, (tag, a, b, c, lo, hi) ∈ fa := by
  obtain ⟨⟨t, a', b', c', lo, hi⟩, hf, rfl⟩ := Option.map_eq_some_iff.mp h
  have hm := List.mem_of_find?_eq_some hf
  have hn := List.find?_some hf
  simp only [Bool.and_eq_true, beq_iff_eq] at hn
  obtain ⟨rfl, rfl, rfl⟩ := hn
  exact ⟨lo, hi, hm⟩
/-- the kind of a reference -/
def en_kd (env : List en_A) (tk : List Nat) (i : Nat) : Option Nat := match env[i]? with
  | some (.inr (.inl k)) => if tk.contains k = true then some k else none
  | _ => none
theorem en_kd_ok {sh : en_H} {env : List en_A} {tk : List Nat} {ρ : List Value} {i k : Nat} (he : en_E sh env ρ) (h : en_kd env tk i = some k) : env[i]? = some (.inr (.inl k)) ∧ k ∈ tk ∧ ∃ q, sh.1[q]? = some k ∧ ρ[i]? = some (.ref (sh.2 q)) := by
  unfold en_kd at h
  split at h
  · next k' hk =>
    split at h
    · next hc =>
      have e0 := Option.some.inj h
      subst e0
      obtain ⟨v, h1, ⟨q, h2, rfl⟩, -⟩ := he.2 i _ hk
      exact ⟨hk, List.contains_iff_mem.mp hc, q, h2, h1⟩
    · cases h
  · cases h
section
variable {p : Program} {l : Launch} {e : Env} {R : Room} {s : State} {m : MethodId} {args : Array Value} {below : List Frame} {meth : Method} {c : Code} {Q : State → Prop} {cc : ByteArray}
variable {nL : Nat} {D : va_G} {cl : List vw_C} {tys : List (ClassId × FieldType)} {PP : Int32 → Int32 → Prop} {Ω : Nat → en_H → va_W → Prop} {KT : List en_D} {tk : List Nat} {md : List (Nat × Nat)} {om : List (Nat × Nat × Nat)} {sh0 sh : en_H} {w0 : va_W} {A : Nat → Prop} {H0 : Heap} {σ σ' : en_S} {ρ0 ρ : List Value} {ws : va_W} {H : Heap} {locs : List Loc} {ls : Array Slot} {st : List Value} {pc pc' : Nat}
/-- a world that is typed, but for the open row, whose content is known -/
theorem en_G.wd (g : en_G nL D cl tys PP Ω KT tk md sh0 w0 A H0 σ sh ρ ws H locs ls) : ∃ ex : Nat → Prop, en_W PP KT tk sh tys ex ws ∧ ∀ q k, sh.1[q]? = some k → (∀ t0 n v, KT[k]? ≠ some (.inr (t0, n, .inr v))) → ¬ ex q := by
  obtain ⟨-, -, -, hO, -⟩ := g
  rcases ho : σ.2.2.2.2.1 with _ | o
  · rw [ho] at hO
    exact ⟨_, hO, fun _ _ _ _ => fun h => h⟩
  · rw [ho] at hO
    obtain ⟨q0, k0, t0, v, cA, f, h1, h2, h3, h4, h5, h6, h7, h8⟩ := hO
    refine ⟨_, h8, fun q k hq hn hx => ?_⟩
    subst hx
    have ek : k = k0 := Option.some.inj (hq.symm.trans h2)
    subst ek
    exact hn _ _ _ h3
/-- a cell that isn't a row with bounds of its own -/
theorem en_G.cell {i k : Nat} (g : en_G nL D cl tys PP Ω KT tk md sh0 w0 A H0 σ sh ρ ws H locs ls) (h : en_kd σ.1 tk i = some k) (hk : ∀ t0 n v, KT[k]? ≠ some (.inr (t0, n, .inr v))) : ∃ (q : Nat) (e : va_E) (kd : en_D), ρ[i]? = some (.ref (sh.2 q)) ∧ sh.1[q]? = some k ∧ ws[q]? = some (sh.2 q, e) ∧ KT[k]? = some kd ∧ en_C PP sh tys kd e ∧ σ.1[i]? = some (.inr (.inl k)) := by
  obtain ⟨h1, h2, q, h3, h4⟩ := en_kd_ok g.1 h
  obtain ⟨ex, hW, hx⟩ := g.wd
  obtain ⟨e, kd, g1, g2, g3⟩ := hW.at h3 h2 (hx q k h3 hk)
  exact ⟨q, e, kd, h4, h3, g1, g2, g3, h1⟩
theorem en_G.uq {q r k : Nat} {e : va_E} (g : en_G nL D cl tys PP Ω KT tk md sh0 w0 A H0 σ sh ρ ws H locs ls) (hq : ws[q]? = some (r, e)) (hv : en_V sh (.inr (.inl k)) (.ref r)) : sh.1[q]? = some k ∧ sh.2 q = r := by
  obtain ⟨ex, hW, -⟩ := g.wd
  exact en_uq hW g.2.2.2.2.2.1 hq hv
theorem en_G.inj {q q' r : Nat} {e e' : va_E} (g : en_G nL D cl tys PP Ω KT tk md sh0 w0 A H0 σ sh ρ ws H locs ls) (hq : ws[q]? = some (r, e)) (hq' : ws[q']? = some (r, e')) : q = q' ∧ e = e' := by
  have h := g.2.2.2.2.2.1.1 q q' _ _ hq hq' rfl
  subst h
  exact ⟨rfl, (Prod.mk.inj (Option.some.inj (hq.symm.trans hq'))).2⟩
/-- the memory after a write into a cell that isn't a row with bounds of its own -/
theorem en_G.upd {q k : Nat} {e e' : va_E} {kd : en_D} {md1 : List (Nat × Nat)} {fa : List en_X} {stk : List Nat} {H1 : Heap} {locs1 : List Loc} (g : en_G nL D cl tys PP Ω KT tk md sh0 w0 A H0 σ sh ρ ws H locs ls) (hq : sh.1[q]? = some k) (hw : ws[q]? = some (sh.2 q, e)) (hkd : KT[k]? = some kd) (hk : ∀ t0 n v, KT[k]? ≠ some (.inr (t0, n, .inr v)))
    (hc : en_C PP sh tys kd e') (hf : en_Fc md1 k e e') (hm : ∀ z ∈ md1, z ∈ md) (hP : va_P D cl (ws.set q (sh.2 q, e')) H1) (hD : va_D A (ws.set q (sh.2 q, e'))) (hS : va_S A H0 H1 locs1) (hfa : ∀ f ∈ fa, en_fs PP Ω sh (ws.set q (sh.2 q, e')) ρ f) (hΩ : en_Om om sh0 Ω) :
    en_G nL D cl tys PP Ω KT tk md sh0 w0 A H0 (σ.1, stk, σ.2.2.1, fa ++ σ.2.2.2.1.filter (en_kp om σ.1 md1), σ.2.2.2.2) sh ρ (ws.set q (sh.2 q, e')) H1 locs1 ls := by
  obtain ⟨ex, hW, hx⟩ := g.wd
  have hF : en_F md1 sh ws (ws.set q (sh.2 q, e')) := en_F.set hq hw hf
  refine ⟨g.1, g.2.1, fun f hf => ?_, ?_, hP, hD, hS, ?_, g.2.2.2.2.2.2.2.2⟩
  · rcases List.mem_append.mp hf with hf | hf
    · exact hfa f hf
    · obtain ⟨f1, f2⟩ := List.mem_filter.mp hf
      exact en_fs.kp hΩ g.2.2.2.2.2.2.2.2 hW g.2.2.2.2.2.1 g.1 hF f2 (g.2.2.1 f f1)
  · have hO := g.2.2.2.1
    rcases ho : σ.2.2.2.2.1 with _ | o
    · rw [ho] at hO
      exact en_W.set hO hq hkd fun _ => hc
    · rw [ho] at hO
      obtain ⟨q0, k0, t0, v, cA, f, h1, h2, h3, h4, h5, h6, h7, h8⟩ := hO
      have hne : q ≠ q0 := fun z => by
        subst z
        have ek : k = k0 := Option.some.inj (hq.symm.trans h2)
        subst ek
        exact hk _ _ _ h3
      refine ⟨q0, k0, t0, v, cA, f, h1, h2, h3, h4, h5, ?_, h7, en_W.set h8 hq hkd fun _ => hc⟩
      rw [List.getElem?_set_ne hne]
      exact h6
  · exact g.2.2.2.2.2.2.2.1.tr ((hF.less g.2.2.2.2.2.2.2.2).sub hm)
/-- a field by its index in a class's constants -/
def en_Fd (cl : List vw_C) (own : String) (CW : List Cond) (ix ci j : Nat) : Prop := ∃ (C : String) (T : u_T) (N : Nat), cl[ci]? = some (C, T, N) ∧ j < N ∧ (∀ w ∈ u_ws C T N, w ∈ CW) ∧ Cond.fieldLink own ix (T j).1 (T j).2.1 (T j).2.2.1 ∈ CW
/-- a field that is written: 0 an int, 1 a char, 2 a boolean -/
def en_ty : Nat → FieldType
  | 0 => .int
  | 1 => .char
  | _ => .boolean
def en_Fp (cl : List vw_C) (own : String) (CW : List Cond) (ix ci j ty : Nat) : Prop := ∃ (C : String) (T : u_T) (N : Nat) (ty0 : Nat → FieldType), cl[ci]? = some (C, T, N) ∧ j < N ∧ (∀ w ∈ u_ws C T N, w ∈ CW) ∧ Cond.fieldLink own ix (T j).1 (T j).2.1 (T j).2.2.1 ∈ CW ∧
  (∀ k, k < N → parseFieldDescriptor (T k).2.2.1 = some (ty0 k)) ∧ (∀ a, a < N → ∀ b, b < N → a ≠ b → (T a).2.1 ≠ (T b).2.1) ∧ (T j).2.2.2 = false ∧ parseFieldDescriptor (T j).2.2.1 = some (en_ty ty)
/-- bounds that a type of fields or rows asks for -/
def en_tyI : Nat → Int × Int
  | 0 => (-2147483648, 2147483647)
  | 1 => (0, 65535)
  | _ => (0, 1)
theorem en_nI {x : Int32} (h1 : 0 ≤ x.toInt) : ∃ n : Nat, x = nI n ∧ (n : Int) = x.toInt ∧ n < 2147483648 := by
  have hu := en_hi x
  refine ⟨x.toInt.toNat, Int32.toInt_inj.mp ?_, by omega, by omega⟩
  rw [nI_toInt (by omega)]
  omega
theorem en_fit {ty : Nat} {x : Int32} (h1 : (en_tyI ty).1 ≤ x.toInt) (h2 : x.toInt ≤ (en_tyI ty).2) : narrow (en_ty ty) (.int x) = .int x ∧ fits (en_ty ty) (.int x) = true := by
  match ty with
  | 0 => exact ⟨rfl, rfl⟩
  | 1 =>
    have h1 : (0 : Int) ≤ x.toInt := h1
    have h2 : x.toInt ≤ 65535 := h2
    obtain ⟨n, rfl, hn, -⟩ := en_nI h1
    exact pk_charN (by omega)
  | n + 2 =>
    have h1 : (0 : Int) ≤ x.toInt := h1
    have h2 : x.toInt ≤ 1 := h2
    rcases en_bit h1 h2 with rfl | rfl
    · show narrow .boolean (.int 0) = .int 0 ∧ fits .boolean (.int 0) = true
      exact ⟨by decide, by decide⟩
    · show narrow .boolean (.int 1) = .int 1 ∧ fits .boolean (.int 1) = true
      exact ⟨by decide, by decide⟩
def en_get (KT : List en_D) (tk : List Nat) (σ : en_S) (ci j : Nat) : Option en_S := match σ.2.1 with
  | i :: rest => match en_kd σ.1 tk i with
    | some k => match KT[k]? with
      | some (.inl (ci', ts)) => if ci' = ci then (match en_lkf σ.2.2.2.1 0 i j with
        | some c => some (σ.1, c :: rest, σ.2.2)
        | none => match ts[j]? with
          | some t => if en_nob t = true then some (σ.1 ++ [t], σ.1.length :: rest, σ.2.2.1, (0, i, j, σ.1.length, 0, 0) :: σ.2.2.2.1, σ.2.2.2.2) else none
          | none => none) else none
      | _ => none
    | none => none
  | _ => none
theorem en_get_go {own : String} {CW : List Cond} {ix ci j : Nat} (hexec : p.tables.exec = Jvm.exec) (hb : c.code = cc) (hts : ∀ w ∈ CW, w.before args s = true) (hown : s.vm.findClass own = some m.cls) (hK : va_K D cl tys s) (hF : en_Fd cl own CW ix ci j) (hdg : decode cc pc = .ok (.getfield ix, 3))
    (h : en_get KT tk σ ci j = some σ') (hp : ∃ t, ρ = ρ0 ++ t) (g : en_G nL D cl tys PP Ω KT tk md sh0 w0 A H0 σ sh ρ ws H locs ls) (hst : en_T ρ σ.2.1 st) (k : en_OK p l e R s m args below meth c Q nL D cl tys PP Ω KT tk md sh0 w0 A H0 ρ0 (pc + 3) σ') : W p l e R s m args below meth c H locs σ.2.2.2.2.2.1 σ.2.2.2.2.2.2 Q (F0 m pc ls st) := by
  unfold en_get at h
  split at h
  · next i rest hs =>
    split at h
    · next k0 hk0 =>
      split at h
      · next ci' ts hkt =>
        split at h
        · next hci =>
          subst hci
          rw [hs] at hst
          have hq9 := hst.cons; clear hst; obtain ⟨v0, st1, rfl, hv0, hst⟩ := hq9
          obtain ⟨q, e1, kd, h1, h2, h3, h4, h5, h6⟩ := g.cell hk0 (fun t0 n v z => by rw [hkt] at z; cases z)
          have ekd : kd = .inl (ci', ts) := Option.some.inj (h4.symm.trans hkt)
          subst ekd
          rcases e1 with x | ⟨co, fs⟩
          · exact h5.elim
          obtain ⟨c1, c2, c3⟩ := h5
          have c1 : co = ci' := c1
          subst c1
          have ev : v0 = .ref (sh.2 q) := Option.some.inj (hv0.symm.trans h1)
          subst ev
          obtain ⟨C, T, N, f1, f2, f3, f4⟩ := hF
          split at h
          · next cN hc =>
            have e0 := Option.some.inj h
            subst e0
            obtain ⟨lo, hi, hm⟩ := en_lkf_ok hc
            obtain ⟨q', r, cq, fs', v, z1, z2, z3, z4⟩ := g.2.2.1 _ hm
            have er : r = sh.2 q := Value.ref.inj (Option.some.inj (z1.symm.trans h1))
            subst er
            obtain ⟨-, ee⟩ := g.inj h3 z2
            have ee := Sum.inr.inj ee
            simp only [Prod.mk.injEq] at ee
            obtain ⟨rfl, rfl⟩ := ee
            exact va_get hexec hb hts f3 hown hK g.2.2.2.2.1 q h3 f1 j f2 (hts _ f4) (fun _ z => z) z3 hdg (en_stk_go hp g (en_T.mk z4 hst) k)
          · split at h
            · next t ht =>
              split at h
              · next hnb =>
                have e0 := Option.some.inj h
                subst e0
                have hj : j < fs.length := by rw [c2]; exact (List.getElem?_eq_some_iff.mp ht).1
                have hfs : fs[j]? = some fs[j] := List.getElem?_eq_getElem hj
                have hV := c3 j t _ ht hfs
                have g2 := g.push (stk := σ.1.length :: rest) hV (en_nb (en_nob_ok hnb))
                refine va_get hexec hb hts f3 hown hK g.2.2.2.2.1 q h3 f1 j f2 (hts _ f4) (fun _ z => z) hfs hdg (k sh (ρ ++ [fs[j]]) ws H locs ls (fs[j] :: st1) (en_pre hp) ⟨g2.1, g2.2.1, fun f hf => ?_, g2.2.2.2⟩ (en_T.mk (by rw [← g.1.1]; exact en_last) hst.up))
                rcases List.mem_cons.mp hf with rfl | hf
                · exact ⟨q, sh.2 q, co, fs, fs[j], en_at h1, h3, hfs, by rw [← g.1.1]; exact en_last⟩
                · exact g2.2.2.1 f hf
              · cases h
            · cases h
        · cases h
      · cases h
    · cases h
  · cases h
def en_put (om : List (Nat × Nat × Nat)) (KT : List en_D) (tk : List Nat) (md : List (Nat × Nat)) (σ : en_S) (ci j ty : Nat) : Option en_S := match σ.2.1 with
  | c :: i :: rest => match en_kd σ.1 tk i with
    | some k => match KT[k]? with
      | some (.inl (ci', ts)) => match ts[j]?, en_eff σ.1 c with
        | some (.inl (lo, hi, _, _)), some r => if ci' = ci ∧ md.contains (k, j) = true ∧ lo ≤ r.1 ∧ r.2 ≤ hi ∧ (en_tyI ty).1 ≤ r.1 ∧ r.2 ≤ (en_tyI ty).2 then some (σ.1, rest, σ.2.2.1, [(0, i, j, c, 0, 0)] ++ σ.2.2.2.1.filter (en_kp om σ.1 [(k, j)]), σ.2.2.2.2) else none
        | _, _ => none
      | _ => none
    | none => none
  | _ => none
theorem en_put_go {own : String} {CW : List Cond} {ix ci j ty : Nat} (hΩ : en_Om om sh0 Ω) (hexec : p.tables.exec = Jvm.exec) (hb : c.code = cc) (hts : ∀ w ∈ CW, w.before args s = true) (hown : s.vm.findClass own = some m.cls) (hK : va_K D cl tys s) (hF : en_Fp cl own CW ix ci j ty) (hdg : decode cc pc = .ok (.putfield ix, 3))
    (h : en_put om KT tk md σ ci j ty = some σ') (hp : ∃ t, ρ = ρ0 ++ t) (g : en_G nL D cl tys PP Ω KT tk md sh0 w0 A H0 σ sh ρ ws H locs ls) (hst : en_T ρ σ.2.1 st) (k : en_OK p l e R s m args below meth c Q nL D cl tys PP Ω KT tk md sh0 w0 A H0 ρ0 (pc + 3) σ') : W p l e R s m args below meth c H locs σ.2.2.2.2.2.1 σ.2.2.2.2.2.2 Q (F0 m pc ls st) := by
  unfold en_put at h
  split at h
  · next cN i rest hs =>
    split at h
    · next k0 hk0 =>
      split at h
      · next ci' ts hkt =>
        split at h
        · next lo hi b9 o9 r ht hr =>
          split at h
          · next hcond =>
            obtain ⟨hci, hmd, l1, l2, l3, l4⟩ := hcond
            subst hci
            have e0 := Option.some.inj h
            subst e0
            rw [hs] at hst
            have hq9 := hst.cons; clear hst; obtain ⟨vx, st0, rfl, hvx, hst⟩ := hq9
            have hq9 := hst.cons; clear hst; obtain ⟨v0, st1, rfl, hv0, hst⟩ := hq9
            have hnk : ∀ t0 n v, KT[k0]? ≠ some (.inr (t0, n, .inr v)) := fun t0 n v z => by rw [hkt] at z; cases z
            obtain ⟨q, e1, kd, h1, h2, h3, h4, h5, h6⟩ := g.cell hk0 hnk
            have ekd : kd = .inl (ci', ts) := Option.some.inj (h4.symm.trans hkt)
            subst ekd
            rcases e1 with x | ⟨co, fs⟩
            · exact h5.elim
            obtain ⟨c1, c2, c3⟩ := h5
            have c1 : co = ci' := c1
            subst c1
            have ev : v0 = .ref (sh.2 q) := Option.some.inj (hv0.symm.trans h1)
            subst ev
            obtain ⟨x, hx, x1, x2⟩ := en_eff_ok g.1 hr
            have evx : vx = .int x := Option.some.inj (hvx.symm.trans hx)
            subst evx
            obtain ⟨C, T, N, ty0, f1, f2, f3, f4, f5, f6, f7, f8⟩ := hF
            have hj : j < fs.length := by rw [c2]; exact (List.getElem?_eq_some_iff.mp ht).1
            obtain ⟨n1, n2⟩ := en_fit (ty := ty) (x := x) (by omega) (by omega)
            have hmd' : (k0, j) ∈ md := List.contains_iff_mem.mp hmd
            have hlt : q < ws.length := (List.getElem?_eq_some_iff.mp h3).1
            refine va_put hexec hb hts f3 ty0 f5 f6 hown hK g.2.2.2.2.1 g.2.2.2.2.2.1 g.2.2.2.2.2.2.1 q h3 f1 j f2 (hts _ f4) (fun _ z => z) f7 f8 n1 n2 hj hdg (fun H1 locs1 hP hD hS => ?_)
            refine k sh ρ _ H1 locs1 ls st1 hp (g.upd (md1 := [(k0, j)]) h2 h3 h4 hnk ?_ ?_ ?_ hP hD hS ?_ ?_) hst
            · refine ⟨rfl, by rw [List.length_set]; exact c2, fun j' t v a b => ?_⟩
              by_cases hjj : j = j'
              · subst hjj
                have et : t = .inl (lo, hi, b9, o9) := Option.some.inj (a.symm.trans ht)
                subst et
                have hv : (fs.set j (.int x))[j]? = some v := b
                rw [List.getElem?_set_self hj] at hv
                have ev := Option.some.inj hv
                subst ev
                exact ⟨x, rfl, by show lo ≤ _; omega, by show _ ≤ hi; omega⟩
              · have hv : (fs.set j (.int x))[j']? = some v := b
                rw [List.getElem?_set_ne hjj] at hv
                exact c3 j' t v a hv
            · refine ⟨rfl, by rw [List.length_set], fun j' hn => ?_⟩
              have hjj : j ≠ j' := fun z => hn (by subst z; exact List.mem_cons_self)
              exact List.getElem?_set_ne hjj
            · intro z hz
              rcases List.mem_cons.mp hz with rfl | hz
              · exact hmd'
              · exact absurd hz List.not_mem_nil
            · intro f hf
              rcases List.mem_cons.mp hf with rfl | hf
              · exact ⟨q, sh.2 q, co, fs.set j (.int x), .int x, h1, List.getElem?_set_self hlt, List.getElem?_set_self hj, hx⟩
              · exact absurd hf List.not_mem_nil
            · exact hΩ
          · cases h
        · cases h
      · cases h
    · cases h
  · cases h
end
