/-! the engine: reading and writing rows -/
def en_isRT : Option FieldType → Bool
  | some (.object _) => true
  | some (.array _) => true
  | _ => false
theorem en_tyat {tys : List (ClassId × FieldType)} {TY : List FieldType} {t0 : Nat} {cA : ClassId} {ty : FieldType} (hTY : tys.map Prod.snd = TY) (h1 : (tys[t0]?).map Prod.fst = some cA) (h2 : TY[t0]? = some ty) : tys[t0]? = some (cA, ty) := by
  subst hTY
  rw [List.getElem?_map] at h2
  rcases h : tys[t0]? with _ | z
  · rw [h] at h1
    cases h1
  · rw [h] at h1 h2
    obtain ⟨a, b⟩ := z
    have e1 : a = cA := Option.some.inj h1
    have e2 : b = ty := Option.some.inj h2
    rw [e1, e2]
section
variable {p : Program} {l : Launch} {e : Env} {R : Room} {s : State} {m : MethodId} {args : Array Value} {below : List Frame} {meth : Method} {c : Code} {Q : State → Prop} {cc : ByteArray}
variable {nL : Nat} {D : va_G} {cl : List vw_C} {tys : List (ClassId × FieldType)} {PP : Int32 → Int32 → Prop} {Ω : Nat → en_H → va_W → Prop} {KT : List en_D} {tk : List Nat} {md : List (Nat × Nat)} {om : List (Nat × Nat × Nat)} {sh0 sh : en_H} {w0 : va_W} {A : Nat → Prop} {H0 : Heap} {σ σ' : en_S} {ρ0 ρ : List Value} {ws : va_W} {H : Heap} {locs : List Loc} {ls : Array Slot} {st : List Value} {pc pc' : Nat} {TY : List FieldType}
/-- the load of an int, a char, a boolean out of a row -/
def en_ald (KT : List en_D) (tk : List Nat) (TY : List FieldType) (ty : Nat) (σ : en_S) : Option en_S := match σ.2.1 with
  | x :: i :: rest => match en_kd σ.1 tk i, en_eff σ.1 x with
    | some k, some r => match KT[k]? with
      | some (.inr (t0, len, .inl (.inl (lo, hi, _, _)))) => if 0 ≤ r.1 ∧ r.2 < len ∧ TY[t0]? = some (en_ty ty) then some (en_psh σ rest (.inl (lo, hi, 0, 0))) else none
      | some (.inr (t0, len, .inr v)) => if r.1 = r.2 ∧ 0 ≤ r.1 ∧ r.2 < len ∧ ty = 0 ∧ TY[t0]? = some FieldType.int then (match en_rdy KT σ i v with
        | some σ1 => match σ1.2.2.2.2.1 with
          | some o => match o.2[r.1.toNat]? with
            | some cx => some (σ1.1, cx :: rest, σ1.2.2)
            | none => none
          | none => none
        | none => none) else none
      | _ => none
    | _, _ => none
  | _ => none
theorem en_ald_go {ty : Nat} {ins : Instr} (hPP : ∀ x y, PP x y → 0 ≤ x.toInt ∧ x.toInt ≤ 29 ∧ 0 ≤ y.toInt ∧ y.toInt ≤ 19) (hTY : tys.map Prod.snd = TY) (h : en_ald KT tk TY ty σ = some σ') (hp : ∃ t, ρ = ρ0 ++ t) (g : en_G nL D cl tys PP Ω KT tk md sh0 w0 A H0 σ sh ρ ws H locs ls) (hst : en_T ρ σ.2.1 st)
    (row : ∀ (q t0 a n : Nat) (cA : ClassId) (f : Nat → Int32) (i : Int32) (rest : List Value), ws[q]? = some (a, .inl (cA, n, .inl f)) → tys[t0]? = some (cA, en_ty ty) → vp_in i n → W p l e R s m args below meth c H locs σ.2.2.2.2.2.1 σ.2.2.2.2.2.2 Q (F0 m (pc + 1) ls (.int (f i.toNatClampNeg) :: rest)) → W p l e R s m args below meth c H locs σ.2.2.2.2.2.1 σ.2.2.2.2.2.2 Q (F0 m pc ls (.int i :: .ref a :: rest)))
    (k : en_OK p l e R s m args below meth c Q nL D cl tys PP Ω KT tk md sh0 w0 A H0 ρ0 (pc + 1) σ') : W p l e R s m args below meth c H locs σ.2.2.2.2.2.1 σ.2.2.2.2.2.2 Q (F0 m pc ls st) := by
  unfold en_ald at h
  split at h
  · next x i rest hs =>
    split at h
    · next k0 r hk hr =>
      rw [hs] at hst
      have hq9 := hst.cons; clear hst; obtain ⟨vx, st0, rfl, hvx, hst⟩ := hq9
      have hq9 := hst.cons; clear hst; obtain ⟨vi, st1, rfl, hvi, hst⟩ := hq9
      obtain ⟨x', hx, x1, x2⟩ := en_eff_ok g.1 hr
      have ex : vx = .int x' := Option.some.inj (hvx.symm.trans hx)
      subst ex
      split at h
      · next t0 len lo hi b9 o9 hkt =>
        split at h
        · next hcond =>
          obtain ⟨l1, l2, l3⟩ := hcond
          have e0 := Option.some.inj h
          subst e0
          obtain ⟨q, e1, kd, h1, h2, h3, h4, h5, h6⟩ := g.cell hk (fun t0 n v z => by rw [hkt] at z; cases z)
          have ekd := Option.some.inj (h4.symm.trans hkt)
          subst ekd
          rcases e1 with ⟨cA, n', f | f | f | f | f⟩ | o
          · obtain ⟨c1, c2, c3⟩ := h5
            have c2 : n' = len := c2
            subst c2
            have ei : vi = .ref (sh.2 q) := Option.some.inj (hvi.symm.trans h1)
            subst ei
            have hlt : x'.toNatClampNeg < n' := by have := en_cN (x := x') (by omega); omega
            obtain ⟨b1, b2⟩ := c3 _ hlt
            exact row q t0 _ n' cA f x' st1 h3 (en_tyat hTY c1 l3) (en_vpin (by omega) (by omega)) (en_new_go hp g hst k (en_vi b1 b2) (en_nb en_nb0))
          · exact h5.elim
          · exact h5.elim
          · exact h5.elim
          · exact h5.elim
          · exact h5.elim
        · cases h
      · next t0 len v hkt =>
        split at h
        · next hcond =>
          obtain ⟨l0, l1, l2, lt, l3⟩ := hcond
          subst lt
          split at h
          · next σ1 hσ1 =>
            split at h
            · next o ho =>
              split at h
              · next cx hcx =>
                have e0 := Option.some.inj h
                subst e0
                obtain ⟨t, vs, g1, g2, g3, g4⟩ := g.rdy hPP hk hkt hσ1
                have eo : o = (i, vs) := Option.some.inj (ho.symm.trans g2)
                subst eo
                have hO := g1.2.2.2.1
                rw [g2] at hO
                obtain ⟨q0, k1, t1, v1, cA, f, h1, h2, h3, h4, h5, h6, h7, h8⟩ := hO
                have ei : vi = .ref (sh.2 q0) := Option.some.inj ((en_atL hvi).symm.trans h1)
                subst ei
                have hV : en_V sh (.inr (.inl k0)) (.ref (sh.2 q0)) := by
                  obtain ⟨-, -, q9, q91, q92⟩ := en_kd_ok g.1 hk
                  have := Option.some.inj (hvi.symm.trans q92)
                  exact ⟨q9, q91, this⟩
                obtain ⟨ek, -⟩ := g1.uq h6 hV
                have ek : k1 = k0 := Option.some.inj (h2.symm.trans ek)
                subst ek
                have ekt := Option.some.inj (h3.symm.trans hkt)
                simp only [Sum.inr.injEq, Prod.mk.injEq] at ekt
                obtain ⟨et, en, -⟩ := ekt
                have en : vs.length = len := en
                subst et
                have hcn := en_cN (x := x') (by omega)
                have hix : r.1.toNat = x'.toNatClampNeg := by omega
                have hcell := h7 _ _ hcx
                have hcell : (ρ ++ t)[cx]? = some (.int (f x'.toNatClampNeg)) := by rw [← hix]; exact hcell
                refine row q0 t1 _ _ cA f x' st1 h6 (en_tyat hTY h5 l3) (en_vpin (by omega) (by show x'.toInt < (vs.length : Int); omega)) ?_
                have h9 := en_stk_go (Q := Q) (p := p) (l := l) (e := e) (R := R) (s := s) (m := m) (args := args) (below := below) (meth := meth) (c := c) (ρ0 := ρ0) (pc := pc + 1) (en_pre (u := t) hp) g1 (stk := cx :: rest) (en_T.mk hcell hst.up) k
                rw [g4] at h9
                exact h9
              · cases h
            · cases h
          · cases h
        · cases h
      · cases h
    · cases h
  · cases h
/-- the store of an int, a char, a boolean into a row -/
def en_ast (om : List (Nat × Nat × Nat)) (KT : List en_D) (tk : List Nat) (md : List (Nat × Nat)) (TY : List FieldType) (ty : Nat) (σ : en_S) : Option en_S := match σ.2.1 with
  | y :: x :: i :: rest => match en_kd σ.1 tk i, en_eff σ.1 x, en_eff σ.1 y with
    | some k, some r, some ry => match KT[k]? with
      | some (.inr (t0, len, .inl (.inl (lo, hi, _, _)))) => if 0 ≤ r.1 ∧ r.2 < len ∧ TY[t0]? = some (en_ty ty) ∧ lo ≤ ry.1 ∧ ry.2 ≤ hi ∧ (en_tyI ty).1 ≤ ry.1 ∧ ry.2 ≤ (en_tyI ty).2 ∧ md.contains (k, 0) = true then some (σ.1, rest, σ.2.2.1, [] ++ σ.2.2.2.1.filter (en_kp om σ.1 [(k, 0)]), σ.2.2.2.2) else none
      | some (.inr (t0, len, .inr v)) => if r.1 = r.2 ∧ 0 ≤ r.1 ∧ r.2 < len ∧ ty = 0 ∧ TY[t0]? = some FieldType.int ∧ md.contains (k, 0) = true then (match en_rdy KT σ i v with
        | some σ1 => match σ1.2.2.2.2.1 with
          | some o => some (σ1.1, rest, σ1.2.2.1, σ1.2.2.2.1.filter (en_kp om σ1.1 [(k, 0)]), some (i, o.2.set r.1.toNat y), σ1.2.2.2.2.2)
          | none => none
        | none => none) else none
      | _ => none
    | _, _, _ => none
  | _ => none
theorem en_ast_go {ty : Nat} (hΩ : en_Om om sh0 Ω) (hPP : ∀ x y, PP x y → 0 ≤ x.toInt ∧ x.toInt ≤ 29 ∧ 0 ≤ y.toInt ∧ y.toInt ≤ 19) (hTY : tys.map Prod.snd = TY) (h : en_ast om KT tk md TY ty σ = some σ') (hp : ∃ t, ρ = ρ0 ++ t) (g : en_G nL D cl tys PP Ω KT tk md sh0 w0 A H0 σ sh ρ ws H locs ls) (hst : en_T ρ σ.2.1 st)
    (row : ∀ (q t0 a n : Nat) (cA : ClassId) (f : Nat → Int32) (i y : Int32) (rest : List Value), ws[q]? = some (a, .inl (cA, n, .inl f)) → tys[t0]? = some (cA, en_ty ty) → vp_in i n → (∀ (H1 : Heap) (locs1 : List Loc), va_P D cl (ws.set q (a, .inl (cA, n, .inl (upd f i.toNatClampNeg (vp_nar (en_ty ty) y))))) H1 → va_D A (ws.set q (a, .inl (cA, n, .inl (upd f i.toNatClampNeg (vp_nar (en_ty ty) y))))) → va_S A H0 H1 locs1 → W p l e R s m args below meth c H1 locs1 σ.2.2.2.2.2.1 σ.2.2.2.2.2.2 Q (F0 m (pc + 1) ls rest)) → W p l e R s m args below meth c H locs σ.2.2.2.2.2.1 σ.2.2.2.2.2.2 Q (F0 m pc ls (.int y :: .int i :: .ref a :: rest)))
    (k : en_OK p l e R s m args below meth c Q nL D cl tys PP Ω KT tk md sh0 w0 A H0 ρ0 (pc + 1) σ') : W p l e R s m args below meth c H locs σ.2.2.2.2.2.1 σ.2.2.2.2.2.2 Q (F0 m pc ls st) := by
  unfold en_ast at h
  split at h
  · next y x i rest hs =>
    split at h
    · next k0 r ry hk hr hry =>
      rw [hs] at hst
      have hq9 := hst.cons; clear hst; obtain ⟨vy, stz, rfl, hvy, hst⟩ := hq9
      have hq9 := hst.cons; clear hst; obtain ⟨vx, st0, rfl, hvx, hst⟩ := hq9
      have hq9 := hst.cons; clear hst; obtain ⟨vi, st1, rfl, hvi, hst⟩ := hq9
      obtain ⟨x', hx, x1, x2⟩ := en_eff_ok g.1 hr
      have ex : vx = .int x' := Option.some.inj (hvx.symm.trans hx)
      subst ex
      obtain ⟨y', hy, y1, y2⟩ := en_eff_ok g.1 hry
      have ey : vy = .int y' := Option.some.inj (hvy.symm.trans hy)
      subst ey
      split at h
      · next t0 len lo hi b9 o9 hkt =>
        split at h
        · next hcond =>
          obtain ⟨l1, l2, l3, m1, m2, m3, m4, hmd⟩ := hcond
          have e0 := Option.some.inj h
          subst e0
          have hnk : ∀ t0 n v, KT[k0]? ≠ some (.inr (t0, n, .inr v)) := fun t0 n v z => by rw [hkt] at z; cases z
          obtain ⟨q, e1, kd, h1, h2, h3, h4, h5, h6⟩ := g.cell hk hnk
          have ekd := Option.some.inj (h4.symm.trans hkt)
          subst ekd
          rcases e1 with ⟨cA, n', f | f | f | f | f⟩ | o
          · obtain ⟨c1, c2, c3⟩ := h5
            have c2 : n' = len := c2
            subst c2
            have ei : vi = .ref (sh.2 q) := Option.some.inj (hvi.symm.trans h1)
            subst ei
            have hn := en_nar1 (ty := ty) (x := y') (by omega) (by omega)
            refine row q t0 _ n' cA f x' y' st1 h3 (en_tyat hTY c1 l3) (en_vpin (by omega) (by omega)) (fun H1 locs1 hP hD hS => ?_)
            rw [hn] at hP hD
            refine k sh ρ _ H1 locs1 ls st1 hp (g.upd (e' := .inl (cA, n', .inl (upd f x'.toNatClampNeg y'))) (md1 := [(k0, 0)]) h2 h3 h4 hnk ⟨c1, rfl, fun j hj => ?_⟩ ⟨rfl, rfl, fun z => absurd List.mem_cons_self z⟩ ?_ hP hD hS (fun f hf => absurd hf List.not_mem_nil) hΩ) hst
            · show lo ≤ (upd f x'.toNatClampNeg y' j).toInt ∧ (upd f x'.toNatClampNeg y' j).toInt ≤ hi
              unfold upd
              split
              · omega
              · exact c3 j hj
            · intro z hz
              rcases List.mem_cons.mp hz with rfl | hz
              · exact List.contains_iff_mem.mp hmd
              · exact absurd hz List.not_mem_nil
          · exact h5.elim
          · exact h5.elim
          · exact h5.elim
          · exact h5.elim
          · exact h5.elim
        · cases h
      · next t0 len v hkt =>
        split at h
        · next hcond =>
          obtain ⟨l0, l1, l2, lt, l3, hmd⟩ := hcond
          subst lt
          split at h
          · next σ1 hσ1 =>
            split at h
            · next o ho =>
              have e0 := Option.some.inj h
              subst e0
              obtain ⟨t, vs, g1, g2, g3, g4⟩ := g.rdy hPP hk hkt hσ1
              have eo : o = (i, vs) := Option.some.inj (ho.symm.trans g2)
              subst eo
              have hO := g1.2.2.2.1
              rw [g2] at hO
              obtain ⟨q0, k1, t1, v1, cA, f, h1, h2, h3, h4, h5, h6, h7, h8⟩ := hO
              have ei : vi = .ref (sh.2 q0) := Option.some.inj ((en_atL hvi).symm.trans h1)
              subst ei
              have hV : en_V sh (.inr (.inl k0)) (.ref (sh.2 q0)) := by
                obtain ⟨-, -, q9, q91, q92⟩ := en_kd_ok g.1 hk
                have := Option.some.inj (hvi.symm.trans q92)
                exact ⟨q9, q91, this⟩
              obtain ⟨ek, -⟩ := g1.uq h6 hV
              have ek : k1 = k0 := Option.some.inj (h2.symm.trans ek)
              subst ek
              have ekt := Option.some.inj (h3.symm.trans hkt)
              simp only [Sum.inr.injEq, Prod.mk.injEq] at ekt
              obtain ⟨et, en, -⟩ := ekt
              have en : vs.length = len := en
              subst et
              have hcn := en_cN (x := x') (by omega)
              have hix : r.1.toNat = x'.toNatClampNeg := by omega
              have hn := en_nar1 (ty := 0) (x := y') (en_lo y') (en_hi y')
              have hvl : x'.toInt < ((vs.length : Nat) : Int) := by omega
              refine row q0 t1 _ _ cA f x' y' st1 h6 (en_tyat hTY h5 l3) (en_vpin (by omega) hvl) (fun H1 locs1 hP hD hS => ?_)
              rw [hn] at hP hD
              have hFw : en_F [(k1, 0)] sh ws (ws.set q0 (sh.2 q0, .inl (cA, (i, vs).2.length, .inl (upd f x'.toNatClampNeg y')))) := en_F.set h2 h6 ⟨rfl, rfl, fun z => absurd List.mem_cons_self z⟩
              have hlt : q0 < ws.length := (List.getElem?_eq_some_iff.mp h6).1
              have g9 : en_G nL D cl tys PP Ω KT tk md sh0 w0 A H0 (σ1.1, rest, σ1.2.2.1, σ1.2.2.2.1.filter (en_kp om σ1.1 [(k1, 0)]), some (i, vs.set r.1.toNat y), σ1.2.2.2.2.2) sh (ρ ++ t) (ws.set q0 (sh.2 q0, .inl (cA, (i, vs).2.length, .inl (upd f x'.toNatClampNeg y')))) H1 locs1 ls := by
                refine ⟨g1.1, g1.2.1, fun fx hf => ?_, ?_, hP, hD, hS, ?_, g1.2.2.2.2.2.2.2.2⟩
                · obtain ⟨f1, f2⟩ := List.mem_filter.mp hf
                  exact en_fs.kp hΩ g1.2.2.2.2.2.2.2.2 h8 g1.2.2.2.2.2.1 g1.1 hFw f2 (g1.2.2.1 fx f1)
                · refine ⟨q0, k1, t1, v1, cA, upd f x'.toNatClampNeg y', h1, h2, ?_, ?_, h5, ?_, fun j cx hj => ?_, en_W.set h8 h2 h3 (fun z => absurd rfl z)⟩
                  · show KT[k1]? = some (.inr (t1, (vs.set r.1.toNat y).length, .inr v1))
                    rw [List.length_set]
                    exact h3
                  · show v1.1.length = (vs.set r.1.toNat y).length
                    rw [List.length_set]
                    exact h4
                  · show (ws.set q0 _)[q0]? = some (sh.2 q0, .inl (cA, (vs.set r.1.toNat y).length, _))
                    rw [List.length_set]
                    exact List.getElem?_set_self hlt
                  · have hj : (vs.set r.1.toNat y)[j]? = some cx := hj
                    by_cases hjj : r.1.toNat = j
                    · subst hjj
                      rw [List.getElem?_set_self (by omega)] at hj
                      have ec := Option.some.inj hj
                      subst ec
                      rw [hix]
                      show (ρ ++ t)[y]? = some (.int (upd f x'.toNatClampNeg y' x'.toNatClampNeg))
                      rw [pk_us]
                      exact en_atL hvy
                    · rw [List.getElem?_set_ne hjj] at hj
                      rw [pk_un (by omega)]
                      exact h7 j cx hj
                · refine g1.2.2.2.2.2.2.2.1.tr ((hFw.less g1.2.2.2.2.2.2.2.2).sub fun z hz => ?_)
                  rcases List.mem_cons.mp hz with rfl | hz
                  · exact List.contains_iff_mem.mp hmd
                  · exact absurd hz List.not_mem_nil
              have h9 := k sh (ρ ++ t) _ H1 locs1 ls st1 (en_pre hp) g9 hst.up
              have h9 : W p l e R s m args below meth c H1 locs1 σ1.2.2.2.2.2.1 σ1.2.2.2.2.2.2 Q (F0 m (pc + 1) ls st1) := h9
              rw [g4] at h9
              exact h9
            · cases h
          · cases h
        · cases h
      · cases h
    · cases h
  · cases h
/-- the kind of the references that a row holds between two places -/
def en_ek (el : Nat ⊕ Nat) (r : Int × Int) : Option Nat := match el with
  | .inl k => some k
  | .inr c => if r.1 = r.2 then some (if r.1 = (c % 100 : Nat) then c / 100 % 100 else c / 10000) else if (c % 100 : Nat) < r.1 ∨ r.2 < (c % 100 : Nat) then some (c / 10000) else none
theorem en_ek_ok {PP : Int32 → Int32 → Prop} {sh : en_H} {tys : List (ClassId × FieldType)} {t0 len n k2 : Nat} {cA : ClassId} {f : Nat → Option Nat} {el : Nat ⊕ Nat} {r : Int × Int} {x : Int32} (h : en_C PP sh tys (.inr (t0, len, .inl (.inr el))) (.inl (cA, n, .inr (.inr (.inr (.inr f)))))) (he : en_ek el r = some k2) (h0 : 0 ≤ r.1) (h1 : r.1 ≤ x.toInt) (h2 : x.toInt ≤ r.2) (h3 : x.toInt < len) : (tys[t0]?).map Prod.fst = some cA ∧ n = len ∧ ∃ q : Nat, sh.1[q]? = some k2 ∧ f x.toNatClampNeg = some (sh.2 q) := by
  have hc := en_cN (x := x) (by omega)
  rcases el with k | c
  · obtain ⟨c1, c2, c3⟩ := h
    have e := Option.some.inj he
    subst e
    exact ⟨c1, c2, c3 _ (by omega)⟩
  · obtain ⟨c1, c2, c3⟩ := h
    obtain ⟨q, q1, q2⟩ := c3 x.toNatClampNeg (by omega)
    refine ⟨c1, c2, q, ?_, q2⟩
    rw [q1]
    simp only [en_ek] at he
    unfold en_sk
    split at he
    · next hr =>
      have e := Option.some.inj he
      subst e
      congr 1
      by_cases hz : r.1 = (c % 100 : Nat)
      · rw [if_pos hz, if_pos (by omega)]
      · rw [if_neg hz, if_neg (by omega)]
    · split at he
      · next hr =>
        have e := Option.some.inj he
        subst e
        rw [if_neg (by omega)]
      · cases he
/-- aaload -/
def en_aal (KT : List en_D) (tk : List Nat) (TY : List FieldType) (σ : en_S) : Option en_S := match σ.2.1 with
  | x :: i :: rest => match en_kd σ.1 tk i, en_eff σ.1 x with
    | some k, some r => match KT[k]? with
      | some (.inr (t0, len, .inl (.inr el))) => if 0 ≤ r.1 ∧ r.2 < len ∧ en_isRT TY[t0]? = true then (match en_lkf σ.2.2.2.1 4 i x, en_ek el r with
        | some c, some _ => some (σ.1, c :: rest, σ.2.2)
        | none, some k2 => some (σ.1 ++ [.inr (.inl k2)], σ.1.length :: rest, σ.2.2.1, (4, i, x, σ.1.length, 0, 0) :: σ.2.2.2.1, σ.2.2.2.2)
        | _, none => none) else none
      | _ => none
    | _, _ => none
  | _ => none
theorem en_aal_go (hexec : p.tables.exec = Jvm.exec) (hb : c.code = cc) (hK : va_K D cl tys s) (hTY : tys.map Prod.snd = TY) (hdg : decode cc pc = .ok (.aaload, 1)) (h : en_aal KT tk TY σ = some σ') (hp : ∃ t, ρ = ρ0 ++ t) (g : en_G nL D cl tys PP Ω KT tk md sh0 w0 A H0 σ sh ρ ws H locs ls) (hst : en_T ρ σ.2.1 st)
    (k : en_OK p l e R s m args below meth c Q nL D cl tys PP Ω KT tk md sh0 w0 A H0 ρ0 (pc + 1) σ') : W p l e R s m args below meth c H locs σ.2.2.2.2.2.1 σ.2.2.2.2.2.2 Q (F0 m pc ls st) := by
  unfold en_aal at h
  split at h
  · next x i rest hs =>
    split at h
    · next k0 r hk hr =>
      rw [hs] at hst
      have hq9 := hst.cons; clear hst; obtain ⟨vx, st0, rfl, hvx, hst⟩ := hq9
      have hq9 := hst.cons; clear hst; obtain ⟨vi, st1, rfl, hvi, hst⟩ := hq9
      obtain ⟨x', hx, x1, x2⟩ := en_eff_ok g.1 hr
      have ex : vx = .int x' := Option.some.inj (hvx.symm.trans hx)
      subst ex
      split at h
      · next t0 len el hkt =>
        split at h
        · next hcond =>
          obtain ⟨l1, l2, l3⟩ := hcond
          obtain ⟨k2, hk2⟩ : ∃ k2, en_ek el r = some k2 := by
            rcases h9 : en_ek el r with _ | k2
            · rw [h9] at h
              simp at h
            · exact ⟨k2, rfl⟩
          rw [hk2] at h
          obtain ⟨q, e1, kd, h1, h2, h3, h4, h5, h6⟩ := g.cell hk (fun t0 n v z => by rw [hkt] at z; cases z)
          have ekd := Option.some.inj (h4.symm.trans hkt)
          subst ekd
          rcases e1 with ⟨cA, n', f | f | f | f | f⟩ | o
          · rcases el with el | el <;> exact h5.elim
          · rcases el with el | el <;> exact h5.elim
          · rcases el with el | el <;> exact h5.elim
          · rcases el with el | el <;> exact h5.elim
          · obtain ⟨c1, c2, q2, b1, b2⟩ := en_ek_ok h5 hk2 l1 x1 x2 (by omega)
            subst c2
            have ei : vi = .ref (sh.2 q) := Option.some.inj (hvi.symm.trans h1)
            subst ei
            have hin : vp_in x' n' := en_vpin (by omega) (by omega)
            have row : W p l e R s m args below meth c H locs σ.2.2.2.2.2.1 σ.2.2.2.2.2.2 Q (F0 m (pc + 1) ls (.ref (sh.2 q2) :: st1)) → W p l e R s m args below meth c H locs σ.2.2.2.2.2.1 σ.2.2.2.2.2.2 Q (F0 m pc ls (.int x' :: .ref (sh.2 q) :: st1)) := by
              intro kk
              have kk : W p l e R s m args below meth c H locs σ.2.2.2.2.2.1 σ.2.2.2.2.2.2 Q (F0 m (pc + 1) ls (va_rf (f x'.toNatClampNeg) :: st1)) := by
                rw [b2]
                exact kk
              rcases ht : TY[t0]? with _ | ty
              · rw [ht] at l3
                cases l3
              · have hty := en_tyat hTY c1 ht
                rw [ht] at l3
                rcases ty with _ | _ | _ | _ | _ | _ | _ | _ | C | t
                · cases l3
                · cases l3
                · cases l3
                · cases l3
                · cases l3
                · cases l3
                · cases l3
                · cases l3
                · exact va_aldq hexec hb hK g.2.2.2.2.1 q t0 h3 hty hin hdg kk
                · exact va_aldqA hexec hb hK g.2.2.2.2.1 q t0 h3 hty hin hdg kk
            rcases hc : en_lkf σ.2.2.2.1 4 i x with _ | cN
            rotate_left
            · rw [hc] at h
              have e0 := Option.some.inj h
              subst e0
              obtain ⟨lo, hi, hm⟩ := en_lkf_ok hc
              obtain ⟨q', r', n9, cA', f', i', y, z1, z2, z3, z4, z5⟩ := g.2.2.1 _ hm
              have er : r' = sh.2 q := Value.ref.inj (Option.some.inj (z1.symm.trans h1))
              subst er
              obtain ⟨-, ee⟩ := g.inj h3 z2
              simp only [Sum.inl.injEq, Prod.mk.injEq, Sum.inr.injEq] at ee
              obtain ⟨-, -, rfl⟩ := ee
              have ei : i' = x' := Value.int.inj (Option.some.inj (z3.symm.trans hx))
              subst ei
              have ey : sh.2 q2 = y := Option.some.inj (b2.symm.trans z4)
              rw [ey] at row
              exact row (en_stk_go hp g (en_T.mk z5 hst) k)
            · rw [hc] at h
              have e0 := Option.some.inj h
              subst e0
              have g2 := g.push (stk := σ.1.length :: rest) (a := .inr (.inl k2)) (v := .ref (sh.2 q2)) ⟨q2, b1, rfl⟩ (en_nb en_nbr)
              refine row (k sh (ρ ++ [.ref (sh.2 q2)]) ws H locs ls (.ref (sh.2 q2) :: st1) (en_pre hp) ⟨g2.1, g2.2.1, fun fx hf => ?_, g2.2.2.2⟩ (en_T.mk (by rw [← g.1.1]; exact en_last) hst.up))
              rcases List.mem_cons.mp hf with rfl | hf
              · exact ⟨q, sh.2 q, n', cA, f, x', sh.2 q2, en_at h1, h3, en_at hx, b2, by rw [← g.1.1]; exact en_last⟩
              · exact g2.2.2.1 fx hf
          · rcases el with el | el <;> exact h5.elim
        · cases h
      · cases h
    · cases h
  · cases h
/-- arraylength -/
def en_aln (KT : List en_D) (tk : List Nat) (TY : List FieldType) (σ : en_S) : Option en_S := match σ.2.1 with
  | i :: rest => match en_kd σ.1 tk i with
    | some k => match KT[k]? with
      | some (.inr (t0, len, _)) => if len < 2147483648 ∧ t0 < TY.length then some (en_psh σ rest (.inl ((len : Int), (len : Int), 0, 0))) else none
      | _ => none
    | none => none
  | _ => none
theorem en_aln_go (hexec : p.tables.exec = Jvm.exec) (hb : c.code = cc) (hK : va_K D cl tys s) (hTY : tys.map Prod.snd = TY) (hdg : decode cc pc = .ok (.arraylength, 1)) (h : en_aln KT tk TY σ = some σ') (hp : ∃ t, ρ = ρ0 ++ t) (g : en_G nL D cl tys PP Ω KT tk md sh0 w0 A H0 σ sh ρ ws H locs ls) (hst : en_T ρ σ.2.1 st)
    (k : en_OK p l e R s m args below meth c Q nL D cl tys PP Ω KT tk md sh0 w0 A H0 ρ0 (pc + 1) σ') : W p l e R s m args below meth c H locs σ.2.2.2.2.2.1 σ.2.2.2.2.2.2 Q (F0 m pc ls st) := by
  unfold en_aln at h
  split at h
  · next i rest hs =>
    split at h
    · next k0 hk =>
      split at h
      · next t0 len el hkt =>
        split at h
        · next hcond =>
          have e0 := Option.some.inj h
          subst e0
          rw [hs] at hst
          have hq9 := hst.cons; clear hst; obtain ⟨vi, st1, rfl, hvi, hst⟩ := hq9
          rcases el with el | v9
          rotate_left
          · obtain ⟨q, cA, f, h1, h2, h3, h4, -⟩ := g.row hk hkt
            have ei : vi = .ref (sh.2 q) := Option.some.inj (hvi.symm.trans h1)
            subst ei
            have hty := en_tyat hTY h4 (List.getElem?_eq_getElem hcond.2)
            refine va_alen hexec hb hK g.2.2.2.2.1 q t0 h3 hty rfl hdg (en_new_go hp g hst k (en_vi ?_ ?_) (en_nb en_nb0))
            · show (len : Int) ≤ (Int32.ofNat len).toInt
              rw [show Int32.ofNat len = nI len from rfl, nI_toInt hcond.1]
              exact Int.le_refl _
            · show (Int32.ofNat len).toInt ≤ (len : Int)
              rw [show Int32.ofNat len = nI len from rfl, nI_toInt hcond.1]
              exact Int.le_refl _
          obtain ⟨q, e1, kd, h1, h2, h3, h4, h5, h6⟩ := g.cell hk (fun t0 n v z => by rw [hkt] at z; cases z)
          have ekd := Option.some.inj (h4.symm.trans hkt)
          subst ekd
          have ei : vi = .ref (sh.2 q) := Option.some.inj (hvi.symm.trans h1)
          subst ei
          rcases e1 with x9 | o
          · have hx9 : x9.2.1 = len ∧ (tys[t0]?).map Prod.fst = some x9.1 := by
              obtain ⟨cA, n', f | f | f | f | f⟩ := x9 <;> rcases el with el | el | el <;> first | exact h5.elim | exact ⟨h5.2.1, h5.1⟩
            obtain ⟨cA, x⟩ := x9
            obtain ⟨ex1, ex2⟩ := hx9
            have hlt : t0 < TY.length := hcond.2
            have hty := en_tyat hTY ex2 (List.getElem?_eq_getElem hlt)
            refine va_alen hexec hb hK g.2.2.2.2.1 q t0 h3 hty rfl hdg (en_new_go hp g hst k (en_vi ?_ ?_) (en_nb en_nb0))
            · show (len : Int) ≤ (Int32.ofNat x.1).toInt
              rw [ex1, show Int32.ofNat len = nI len from rfl, nI_toInt hcond.1]
              exact Int.le_refl _
            · show (Int32.ofNat x.1).toInt ≤ (len : Int)
              rw [ex1, show Int32.ofNat len = nI len from rfl, nI_toInt hcond.1]
              exact Int.le_refl _
          · rcases el with el | el | el <;> exact h5.elim
        · cases h
      · cases h
    · cases h
  · cases h
end
