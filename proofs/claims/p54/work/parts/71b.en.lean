/-! the engine: a whole row of ints copied onto another -/
def en_vsr (fa : List en_X) (i : Nat) : Nat → Nat → Option (List Nat)
  | _, 0 => some []
  | j, n + 1 => match en_lkf fa 1 i j, en_vsr fa i (j + 1) n with
    | some c, some r => some (c :: r)
    | _, _ => none
/-- the source: its type, its length, the state with no row open, its ints -/
def en_acs (KT : List en_D) (tk : List Nat) (σ : en_S) (a : Nat) : Option (Nat × Nat × en_S × List Nat) := match en_kd σ.1 tk a with
  | some k => match KT[k]? with
    | some (.inr (t0, len, .inr v)) => match en_rdy KT σ a v with
      | some σ1 => match σ1.2.2.2.2.1, en_cls KT σ1 with
        | some o, some σ2 => some (t0, len, σ2, o.2)
        | _, _ => none
      | none => none
    | some (.inr (t0, len, .inl (.inl _))) => match en_cls KT σ with
      | some σ2 => match en_vsr σ2.2.2.2.1 a 0 len with
        | some vs => some (t0, len, σ2, vs)
        | none => none
      | none => none
    | _ => none
  | none => none
def en_acp (om : List (Nat × Nat × Nat)) (KT : List en_D) (tk : List Nat) (TY : List FieldType) (md : List (Nat × Nat)) (σ : en_S) : Option en_S := match σ.2.1 with
  | n :: dp :: d :: sp :: a :: rest => match en_acs KT tk σ a with
    | some (t0, len, σ2, vs) => match en_kd σ2.1 tk d with
      | some kt => if en_bw σ2.1 n len len = true ∧ en_bw σ2.1 dp 0 0 = true ∧ en_bw σ2.1 sp 0 0 = true ∧ md.contains (kt, 0) = true ∧ len < 2147483648 ∧ en_wt σ2.1 rest ≤ 8 ∧ TY[t0]? = some .int then (match KT[kt]? with
        | some (.inr (t1, len1, .inr _)) => if len1 = len ∧ TY[t1]? = some .int then some (σ2.1, rest, σ2.2.2.1, σ2.2.2.2.1.filter (en_kp om σ2.1 [(kt, 0)]), some (d, vs), σ2.2.2.2.2.2) else none
        | some (.inr (t1, len1, .inl (.inl (lo, hi, _, _)))) => if len1 = len ∧ TY[t1]? = some .int ∧ lo ≤ -2147483648 ∧ 2147483647 ≤ hi then some (σ2.1, rest, σ2.2.2.1, en_elt d 0 vs ++ σ2.2.2.2.1.filter (en_kp om σ2.1 [(kt, 0)]), σ2.2.2.2.2) else none
        | _ => none) else none
      | none => none
    | none => none
  | _ => none
section
variable {p : Program} {l : Launch} {e : Env} {R : Room} {s : State} {m : MethodId} {args : Array Value} {below : List Frame} {meth : Method} {c : Code} {Q : State → Prop} {cc : ByteArray}
variable {nL : Nat} {D : va_G} {cl : List vw_C} {tys : List (ClassId × FieldType)} {PP : Int32 → Int32 → Prop} {Ω : Nat → en_H → va_W → Prop} {KT : List en_D} {tk : List Nat} {md : List (Nat × Nat)} {om : List (Nat × Nat × Nat)} {sh0 sh : en_H} {w0 : va_W} {A : Nat → Prop} {H0 : Heap} {σ σ' : en_S} {ρ0 ρ : List Value} {ws : va_W} {H : Heap} {locs : List Loc} {ls : Array Slot} {st : List Value} {pc pc' : Nat} {TY : List FieldType}
theorem en_vsr_ok {i r : Nat} {f : Nat → Int32} {fa : List en_X} (hi : ρ[i]? = some (.ref r)) (hq : ∀ (q' n' : Nat) (cA' : ClassId) (f' : Nat → Int32), ws[q']? = some (r, .inl (cA', n', .inl f')) → f' = f) (hfa : ∀ g ∈ fa, en_fs PP Ω sh ws ρ g) : ∀ (n j : Nat) (vs : List Nat), en_vsr fa i j n = some vs → vs.length = n ∧ ∀ k cx, vs[k]? = some cx → ρ[cx]? = some (Value.int (f (j + k)))
  | 0, j, vs, h => by
    have e := Option.some.inj h
    subst e
    exact ⟨rfl, fun k cx hk => by simp at hk⟩
  | n + 1, j, vs, h => by
    unfold en_vsr at h
    split at h
    · next cy r9 hc hr =>
      have e := Option.some.inj h
      subst e
      obtain ⟨h1, h2⟩ := en_vsr_ok hi hq hfa n (j + 1) r9 hr
      refine ⟨by rw [List.length_cons, h1], fun k cx hk => ?_⟩
      cases k with
      | zero =>
        have e1 : cy = cx := Option.some.inj hk
        subst e1
        obtain ⟨lo, hi', hm⟩ := en_lkf_ok hc
        obtain ⟨q', r', n', cA', f', z1, z2, z3, z4⟩ := hfa _ hm
        have er : r' = r := Value.ref.inj (Option.some.inj (z1.symm.trans hi))
        subst er
        have ef := hq q' n' cA' f' z2
        subst ef
        exact z4
      | succ k =>
        rw [show j + (k + 1) = j + 1 + k by omega]
        exact h2 k cx hk
    · cases h
theorem en_acs_ok {a t0 len : Nat} {vs : List Nat} (hPP : ∀ x y, PP x y → 0 ≤ x.toInt ∧ x.toInt ≤ 29 ∧ 0 ≤ y.toInt ∧ y.toInt ≤ 19) (g : en_G nL D cl tys PP Ω KT tk md sh0 w0 A H0 σ sh ρ ws H locs ls) (h : en_acs KT tk σ a = some (t0, len, σ', vs)) :
    ∃ t : List Value, en_G nL D cl tys PP Ω KT tk md sh0 w0 A H0 σ' sh (ρ ++ t) ws H locs ls ∧ σ'.2.2.2.2.1 = none ∧ σ'.2.1 = σ.2.1 ∧ σ'.2.2.2.2.2 = σ.2.2.2.2.2 ∧ ∃ (q : Nat) (cA : ClassId) (f : Nat → Int32), (ρ ++ t)[a]? = some (.ref (sh.2 q)) ∧ ws[q]? = some (sh.2 q, .inl (cA, len, .inl f)) ∧ (tys[t0]?).map Prod.fst = some cA ∧ vs.length = len ∧ ∀ k cx, vs[k]? = some cx → (ρ ++ t)[cx]? = some (Value.int (f k)) := by
  unfold en_acs at h
  split at h
  · next k hk =>
    split at h
    · next t1 len1 v hkt =>
      split at h
      · next σ1 hσ1 =>
        split at h
        · next o σ2 ho h2 =>
          have e := Option.some.inj h
          simp only [Prod.mk.injEq] at e
          obtain ⟨rfl, rfl, rfl, rfl⟩ := e
          obtain ⟨t, vs1, g1, g2, g3, g4⟩ := g.rdy hPP hk hkt hσ1
          have eo : o = (a, vs1) := Option.some.inj (ho.symm.trans g2)
          subst eo
          obtain ⟨c1, c2, c3, c4, c5, c6⟩ := g1.cls h2
          have hO := g1.2.2.2.1
          rw [g2] at hO
          obtain ⟨q0, k1, t2, v1, cA, f, a1, a2, a3, a4, a5, a6, a7, a8⟩ := hO
          obtain ⟨hki, hkk, q9, hq9, hi9⟩ := en_kd_ok g.1 hk
          have ev : Value.ref (sh.2 q9) = .ref (sh.2 q0) := Option.some.inj ((en_atL hi9).symm.trans a1)
          obtain ⟨ek, -⟩ := g1.uq a6 ⟨q9, hq9, ev.symm⟩
          have ek : k1 = k := Option.some.inj (a2.symm.trans ek)
          subst ek
          have ekt := Option.some.inj (a3.symm.trans hkt)
          simp only [Sum.inr.injEq, Prod.mk.injEq] at ekt
          obtain ⟨rfl, e2, rfl⟩ := ekt
          rw [e2] at a6
          exact ⟨t, c1, c2, c4.trans g3, c6.trans g4, q0, cA, f, a1, a6, a5, e2, a7⟩
        · cases h
      · cases h
    · next t1 len1 b9 hkt =>
      split at h
      · next σ2 h2 =>
        split at h
        · next vs1 hvs =>
          have e := Option.some.inj h
          simp only [Prod.mk.injEq] at e
          obtain ⟨rfl, rfl, rfl, rfl⟩ := e
          obtain ⟨c1, c2, c3, c4, c5, c6⟩ := g.cls h2
          have hk2 : en_kd σ2.1 tk a = some k := by rw [c3]; exact hk
          obtain ⟨q, e1, kd, h1, h2, h3, h4, h5, h6⟩ := c1.cell hk2 (fun t0 n v z => by rw [hkt] at z; cases z)
          have ekd := Option.some.inj (h4.symm.trans hkt)
          subst ekd
          obtain ⟨lo, hi, b0, o0⟩ := b9
          rcases e1 with ⟨cA, n', f | f | f | f | f⟩ | o
          · obtain ⟨d1, d2, d3⟩ := h5
            have d2 : n' = len1 := d2
            subst d2
            obtain ⟨v1, v2⟩ := en_vsr_ok (ws := ws) (PP := PP) (Ω := Ω) (f := f) h1 (fun q' n9 cA' f' z => by
              obtain ⟨-, ee⟩ := c1.inj h3 z
              simp only [Sum.inl.injEq, Prod.mk.injEq] at ee
              exact ee.2.2.symm) c1.2.2.1 n' 0 vs1 hvs
            refine ⟨[], by rw [List.append_nil]; exact c1, c2, c4, c6, q, cA, f, by rw [List.append_nil]; exact h1, h3, d1, v1, fun k cx hk => ?_⟩
            rw [List.append_nil]
            have := v2 k cx hk
            rwa [Nat.zero_add] at this
          · exact h5.elim
          · exact h5.elim
          · exact h5.elim
          · exact h5.elim
          · exact h5.elim
        · cases h
      · cases h
    · cases h
  · cases h
theorem en_acp_go {own : String} {CW : List Cond} {ix : Nat} (hΩ : en_Om om sh0 Ω) (hPP : ∀ x y, PP x y → 0 ≤ x.toInt ∧ x.toInt ≤ 29 ∧ 0 ≤ y.toInt ∧ y.toInt ≤ 19) (hTY : tys.map Prod.snd = TY) (hexec : p.tables.exec = Jvm.exec) (hb : c.code = cc) (hml : c.maxLocals = nL) (hts : ∀ w ∈ CW, w.before args s = true) (hown : s.vm.findClass own = some m.cls) (hK : va_K D cl tys s) (hRf : 1 ≤ R.frames) (hRl : 400 ≤ R.locals)
    (hw : Cond.methodLink own ix arraycopyName ∈ CW ∧ Cond.native arraycopyName ∈ CW ∧ Cond.static arraycopyName ∈ CW ∧ Cond.initialized "java/lang/System" ∈ CW) (hdg : decode cc pc = .ok (.invokestatic ix, 3))
    (h : en_acp om KT tk TY md σ = some σ') (hp : ∃ t, ρ = ρ0 ++ t) (g : en_G nL D cl tys PP Ω KT tk md sh0 w0 A H0 σ sh ρ ws H locs ls) (hst : en_T ρ σ.2.1 st) (k : en_OK p l e R s m args below meth c Q nL D cl tys PP Ω KT tk md sh0 w0 A H0 ρ0 (pc + 3) σ') : W p l e R s m args below meth c H locs σ.2.2.2.2.2.1 σ.2.2.2.2.2.2 Q (F0 m pc ls st) := by
  unfold en_acp at h
  split at h
  · next n dp d sp a rest hs =>
    split at h
    · next t0 len σ2 vs hacs =>
      split at h
      · next kt hkd =>
        split at h
        · next hcond =>
          obtain ⟨b1, b2, b3, hmd, hlen, hwt, hty0⟩ := hcond
          obtain ⟨t, g2, o2, s2, r2, q0, c0, f, u1, u2, u3, u4, u5⟩ := en_acs_ok hPP g hacs
          rw [hs] at hst
          replace hst := hst.up (t := t)
          have hq9 := hst.cons; clear hst; obtain ⟨vn, st1, rfl, hn0, hst⟩ := hq9
          have hq9 := hst.cons; clear hst; obtain ⟨vdp, st2, rfl, hdp0, hst⟩ := hq9
          have hq9 := hst.cons; clear hst; obtain ⟨vd, st3, rfl, hd0, hst⟩ := hq9
          have hq9 := hst.cons; clear hst; obtain ⟨vsp, st4, rfl, hsp0, hst⟩ := hq9
          have hq9 := hst.cons; clear hst; obtain ⟨va, st5, rfl, ha0, hst⟩ := hq9
          have hint : ∀ {i : Nat} {lo hi : Int}, en_bw σ2.1 i lo hi = true → ∃ x : Int32, (ρ ++ t)[i]? = some (.int x) ∧ lo ≤ x.toInt ∧ x.toInt ≤ hi := fun {i lo hi} hbw => by
            have hbw' := hbw
            unfold en_bw at hbw
            split at hbw
            · next r hr =>
              obtain ⟨x, x1, -⟩ := en_eff_ok g2.1 hr
              exact ⟨x, x1, en_bw_ok g2.1 x1 hbw'⟩
            · cases hbw
          obtain ⟨xn, n1, n2, n3⟩ := hint b1
          obtain ⟨xd, p1, p2, p3⟩ := hint b2
          obtain ⟨xs, z1, z2, z3⟩ := hint b3
          have e1 : vn = .int xn := Option.some.inj (hn0.symm.trans n1)
          have e2 : vdp = .int xd := Option.some.inj (hdp0.symm.trans p1)
          have e3 : vsp = .int xs := Option.some.inj (hsp0.symm.trans z1)
          have e4 : va = .ref (sh.2 q0) := Option.some.inj (ha0.symm.trans u1)
          subst e1 e2 e3 e4
          have hz : (0 : Int32).toInt = 0 := by decide
          have ed : xd = 0 := Int32.toInt_inj.mp (by omega)
          have es : xs = 0 := Int32.toInt_inj.mp (by omega)
          subst ed es
          have h00 : ¬ (0 : Int32) < 0 := by decide
          have hc0 : (0 : Int32).toNatClampNeg = 0 := by decide
          have hn0' : ¬ xn < 0 := fun z => by
            have := Int32.lt_iff_toInt_lt.mp z
            omega
          have hcn : xn.toNatClampNeg = len := by have := en_cN (x := xn) (by omega); omega
          have hlocs : (st5.map fun v => v.category).sum + (nativeFrameWords "java/lang/System" "arraycopy" 5 + 11) ≤ R.locals := by
            have h1 := en_wt_ok g2.1 _ _ hst
            have h2 : nativeFrameWords "java/lang/System" "arraycopy" 5 + 11 ≤ 300 := by decide
            omega
          have hmls : c.maxLocals = ls.size := by rw [hml]; exact g2.2.1.1.symm
          have hval : ∀ (gg : Nat → Int32) (j cx : Nat), vs[j]? = some cx → (ρ ++ t)[cx]? = some (Value.int (va_cpy f gg (0 : Int32).toNatClampNeg (0 : Int32).toNatClampNeg xn.toNatClampNeg j)) := fun gg j cx hj => by
            have hjl : j < len := by rw [← u4]; exact (List.getElem?_eq_some_iff.mp hj).1
            rw [u5 j cx hj, hc0, hcn]
            unfold va_cpy
            rw [if_pos ⟨Nat.zero_le _, by omega⟩, Nat.zero_add, Nat.sub_zero]
          have row : ∀ (q1 t1 : Nat) (c1 : ClassId) (gg : Nat → Int32), ws[q1]? = some (sh.2 q1, .inl (c1, len, .inl gg)) → tys[t1]? = some (c1, .int) → vd = .ref (sh.2 q1) → (∀ (H1 : Heap) (locs1 : List Loc), va_P D cl (ws.set q1 (sh.2 q1, .inl (c1, len, .inl (va_cpy f gg (0 : Int32).toNatClampNeg (0 : Int32).toNatClampNeg xn.toNatClampNeg)))) H1 → va_D A (ws.set q1 (sh.2 q1, .inl (c1, len, .inl (va_cpy f gg (0 : Int32).toNatClampNeg (0 : Int32).toNatClampNeg xn.toNatClampNeg)))) → va_S A H0 H1 locs1 → W p l e R s m args below meth c H1 locs1 σ.2.2.2.2.2.1 σ.2.2.2.2.2.2 Q (F0 m (pc + 3) ls st5)) →
              W p l e R s m args below meth c H locs σ.2.2.2.2.2.1 σ.2.2.2.2.2.2 Q (F0 m pc ls (.int xn :: .int 0 :: vd :: .int 0 :: .ref (sh.2 q0) :: st5)) := by
            intro q1 t1 c1 gg w1 w2 w3 kk
            subst w3
            exact va_copyi hexec hb hmls hown (hts _ hw.1) (hts _ hw.2.1) (hts _ hw.2.2.1) (hts _ hw.2.2.2) hK g2.2.2.2.2.1 g2.2.2.2.2.2.1 g2.2.2.2.2.2.2.1 q0 q1 t0 t1 u2 w1 (en_tyat hTY u3 hty0) w2 rfl h00 h00 hn0' (by rw [hc0, hcn]; omega) (by rw [hc0, hcn]; omega) (fun i _ => rfl) hRf hlocs hdg kk
          have hO := g2.2.2.2.1
          rw [o2] at hO
          split at h
          · next t1 len1 v hkt =>
            split at h
            · next hc2 =>
              obtain ⟨rfl, hty1⟩ := hc2
              have e0 := Option.some.inj h
              subst e0
              obtain ⟨q1, c1, gg, w1, w2, w3, w4, w5⟩ := g2.row hkd hkt
              have evd : vd = .ref (sh.2 q1) := Option.some.inj (hd0.symm.trans w1)
              refine row q1 t1 c1 gg w3 (en_tyat hTY w4 hty1) evd fun H1 locs1 hP hD hS => ?_
              have hFw : en_F [(kt, 0)] sh ws (ws.set q1 (sh.2 q1, .inl (c1, len1, .inl (va_cpy f gg (0 : Int32).toNatClampNeg (0 : Int32).toNatClampNeg xn.toNatClampNeg)))) := en_F.set w2 w3 ⟨rfl, rfl, fun z => absurd List.mem_cons_self z⟩
              have hlt : q1 < ws.length := (List.getElem?_eq_some_iff.mp w3).1
              have g9 : en_G nL D cl tys PP Ω KT tk md sh0 w0 A H0 (σ2.1, rest, σ2.2.2.1, σ2.2.2.2.1.filter (en_kp om σ2.1 [(kt, 0)]), some (d, vs), σ2.2.2.2.2.2) sh (ρ ++ t) (ws.set q1 (sh.2 q1, .inl (c1, len1, .inl (va_cpy f gg (0 : Int32).toNatClampNeg (0 : Int32).toNatClampNeg xn.toNatClampNeg)))) H1 locs1 ls := by
                refine ⟨g2.1, g2.2.1, fun fx hf => ?_, ⟨q1, kt, t1, v, c1, _, w1, w2, ?_, ?_, w4, ?_, fun j cx hj => hval gg j cx hj, ?_⟩, hP, hD, hS, ?_, g2.2.2.2.2.2.2.2.2⟩
                · obtain ⟨f1, f2⟩ := List.mem_filter.mp hf
                  exact en_fs.kp hΩ g2.2.2.2.2.2.2.2.2 hO g2.2.2.2.2.2.1 g2.1 hFw f2 (g2.2.2.1 fx f1)
                · show KT[kt]? = some (.inr (t1, vs.length, .inr v))
                  rw [u4]
                  exact hkt
                · show v.1.length = vs.length
                  rw [u4]
                  exact w5
                · show (ws.set q1 _)[q1]? = some (sh.2 q1, .inl (c1, vs.length, _))
                  rw [u4]
                  exact List.getElem?_set_self hlt
                · exact en_W.set (hO.ex fun _ z => z.elim) w2 hkt (fun z => absurd rfl z)
                · refine g2.2.2.2.2.2.2.2.1.tr ((hFw.less g2.2.2.2.2.2.2.2.2).sub fun z hz => ?_)
                  rcases List.mem_cons.mp hz with rfl | hz
                  · exact List.contains_iff_mem.mp hmd
                  · exact absurd hz List.not_mem_nil
              have h9 := k sh (ρ ++ t) _ H1 locs1 ls st5 (en_pre hp) g9 hst
              have h9 : W p l e R s m args below meth c H1 locs1 σ2.2.2.2.2.2.1 σ2.2.2.2.2.2.2 Q (F0 m (pc + 3) ls st5) := h9
              rw [r2] at h9
              exact h9
            · cases h
          · next t1 len1 lo hi b9 o9 hkt =>
            split at h
            · next hc2 =>
              obtain ⟨rfl, hty1, hlo, hhi⟩ := hc2
              have e0 := Option.some.inj h
              subst e0
              have hnk : ∀ t0 n v, KT[kt]? ≠ some (.inr (t0, n, .inr v)) := fun t0 n v z => by rw [hkt] at z; cases z
              obtain ⟨q1, ec, kd, w1, w2, w3, w4, w5, w6⟩ := g2.cell hkd hnk
              have ekd := Option.some.inj (w4.symm.trans hkt)
              subst ekd
              rcases ec with ⟨c1, n', gg | gg | gg | gg | gg⟩ | o
              · obtain ⟨d1, d2, d3⟩ := w5
                have d2 : n' = len1 := d2
                subst d2
                have evd : vd = .ref (sh.2 q1) := Option.some.inj (hd0.symm.trans w1)
                refine row q1 t1 c1 gg w3 (en_tyat hTY d1 hty1) evd fun H1 locs1 hP hD hS => ?_
                have hlt : q1 < ws.length := (List.getElem?_eq_some_iff.mp w3).1
                have g9 := g2.upd (e' := .inl (c1, n', .inl (va_cpy f gg (0 : Int32).toNatClampNeg (0 : Int32).toNatClampNeg xn.toNatClampNeg))) (md1 := [(kt, 0)]) (fa := en_elt d 0 vs) (stk := rest) w2 w3 w4 hnk ⟨d1, rfl, fun j _ => ⟨Int.le_trans hlo (en_lo _), Int.le_trans (en_hi _) hhi⟩⟩ ⟨rfl, rfl, fun z => absurd List.mem_cons_self z⟩ (fun z hz => by
                  rcases List.mem_cons.mp hz with rfl | hz
                  · exact List.contains_iff_mem.mp hmd
                  · exact absurd hz List.not_mem_nil) hP hD hS (fun fx hf => en_elt_ok w1 (List.getElem?_set_self hlt) vs 0 (fun j cx hj => by
                    rw [Nat.zero_add]
                    exact ⟨hval gg j cx hj, by rw [← u4]; exact (List.getElem?_eq_some_iff.mp hj).1⟩) fx hf) hΩ
                have h9 := k sh (ρ ++ t) _ H1 locs1 ls st5 (en_pre hp) g9 hst
                have h9 : W p l e R s m args below meth c H1 locs1 σ2.2.2.2.2.2.1 σ2.2.2.2.2.2.2 Q (F0 m (pc + 3) ls st5) := h9
                rw [r2] at h9
                exact h9
              · exact w5.elim
              · exact w5.elim
              · exact w5.elim
              · exact w5.elim
              · exact w5.elim
            · cases h
          · cases h
        · cases h
      · cases h
    · cases h
  · cases h
end
