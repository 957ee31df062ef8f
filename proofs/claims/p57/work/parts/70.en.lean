/-! the engine: calls, throws, ends -/
def en_rm (lv : Nat) (cs : Nat × Nat) : Room := { frames := 40 + lv, cells := cs.1, slots := cs.2, locals := 400 + 60 * lv }
theorem GoodIn.mono {a b ws : List Cond} (h : GoodIn a ws) (hs : ∀ w ∈ a, w ∈ b) : GoodIn b ws := fun w hw => ⟨hs w (h w hw).1, (h w hw).2⟩
def en_CV (CW : List Cond) (own : String) (ix : Nat) (y : MethodName) (C : String) (cy : ByteArray) (mxl : Nat) (ret : Option FieldType) (n : Nat) : Prop :=
  GoodIn CW (wsV own ix C y (Cond.code y cy mxl ret :: CW)) ∧ (y.cls = C ∧ y.cls ≠ "java/lang/invoke/MethodHandle" ∧ y.cls ≠ "java/lang/invoke/VarHandle" ∧ (parseMethodDescriptor y.desc).map (fun d => d.parameters.length) = some n)
def en_CZ (CW : List Cond) (own : String) (ix : Nat) (y : MethodName) (cy : ByteArray) (mxl : Nat) (ret : Option FieldType) (n : Nat) : Prop :=
  GoodIn CW (va_wsS own ix y (Cond.code y cy mxl ret :: CW)) ∧ (y.cls ≠ "java/lang/invoke/MethodHandle" ∧ y.cls ≠ "java/lang/invoke/VarHandle" ∧ (parseMethodDescriptor y.desc).map (fun d => d.parameters.length) = some n)
def en_CN (CW : List Cond) (own : String) (ix : Nat) (y : MethodName) (cy : ByteArray) (mxl : Nat) (ret : Option FieldType) (n : Nat) : Prop :=
  ∃ host : String, (own, ix, y, host) ∈ tf_M ∧ GoodIn CW (Cond.code y cy mxl ret :: CW) ∧ Cond.static y ∈ CW ∧ Cond.initialized y.cls ∈ CW ∧ (y.cls ≠ "java/lang/invoke/MethodHandle" ∧ y.cls ≠ "java/lang/invoke/VarHandle" ∧ (parseMethodDescriptor y.desc).map (fun d => d.parameters.length) = some n)
/-- an entry of a class's calls: the index, whether it has a receiver, the receiver's class, the result's sort, the level, the contract -/
abbrev en_C1 : Type := Nat × Bool × Nat × Nat × Nat × en_K
def en_CO (l : Launch) (own : String) (CW : List Cond) (cl : List vw_C) (TY : List FieldType) (PP : Int32 → Int32 → Prop) (om : List (Nat × Nat × Nat)) (Ω : Nat → en_H → va_W → Prop) (KT : List en_D) (q : en_C1) : Prop :=
  ∃ (y : MethodName) (C : String) (cy : ByteArray) (mxl : Nat) (ret : Option FieldType), mxl ≤ 41 ∧ en_Ctr l cl TY PP om Ω KT y (Cond.code y cy mxl ret :: CW) (en_rm q.2.2.2.2.1 q.2.2.2.2.2.2.2.2.2.2.1) q.2.2.2.1 q.2.2.2.2.2 ∧
    (q.2.1 = true → en_CV CW own q.1 y C cy mxl ret (q.2.2.2.2.2.1 - 1) ∧ 1 ≤ q.2.2.2.2.2.1 ∧ ∃ r, cl[q.2.2.1]? = some r ∧ r.1 = C) ∧ (q.2.1 = false → en_CZ CW own q.1 y cy mxl ret q.2.2.2.2.2.1 ∨ en_CN CW own q.1 y cy mxl ret q.2.2.2.2.2.1)
theorem en_T.app {ρ : List Value} : ∀ (a b : List Nat) (st : List Value), en_T ρ (a ++ b) st → ∃ s1 s2, st = s1 ++ s2 ∧ en_T ρ a s1 ∧ en_T ρ b s2
  | [], b, st, h => ⟨[], st, rfl, rfl, h⟩
  | i :: a, b, st, h => by
    obtain ⟨v, st', rfl, h1, h2⟩ := h.cons
    obtain ⟨s1, s2, rfl, g1, g2⟩ := en_T.app a b st' h2
    exact ⟨v :: s1, s2, rfl, en_T.mk h1 g1, g2⟩
theorem en_wt_ok {sh : en_H} {env : List en_A} {ρ : List Value} (he : en_E sh env ρ) : ∀ (stk : List Nat) (st : List Value), en_T ρ stk st → (st.map fun v => v.category).sum ≤ en_wt env stk
  | [], st, h => by rw [h.nil]; exact Nat.le_refl _
  | i :: r, st, h => by
    obtain ⟨v, st', rfl, h1, h2⟩ := h.cons
    have := en_wt_ok he r st' h2
    simp only [List.map_cons, List.sum_cons, en_wt]
    split
    · next ho =>
      rw [en_o1_ok he ho h1]
      omega
    · rcases lv_cat v with hv | hv <;> rw [hv] <;> omega
def en_okc (σ : en_S) (κ : en_K) (KT : List en_D) (tk : List Nat) (md : List (Nat × Nat)) (exs : List Nat) (mc ms lv lv' ciy : Nat) (isV : Bool) : Bool :=
  decide (κ.1 ≤ σ.2.1.length) && (decide (en_wt σ.1 (σ.2.1.drop κ.1) ≤ 8) && (decide (lv' + 1 ≤ lv) && ((!isV || (match (σ.2.1.take κ.1).reverse with
    | i :: _ => (match en_kd σ.1 tk i with
      | some k => (match KT[k]? with
        | some (.inl (ci, _)) => ci == ciy
        | _ => false)
      | none => false)
    | [] => false)) && (decide ((en_srch σ.2.2.2.1 (σ.2.1.take κ.1).reverse κ.2.1.2).take κ.1 = (σ.2.1.take κ.1).reverse) && en_may σ κ tk md exs mc ms (en_srch σ.2.2.2.1 (σ.2.1.take κ.1).reverse κ.2.1.2)))))
def en_inv (om : List (Nat × Nat × Nat)) (KT : List en_D) (tk : List Nat) (md : List (Nat × Nat)) (exs : List Nat) (mc ms lv : Nat) (σ : en_S) (pc ix : Nat) (isV : Bool) : List en_C1 → Option (List (Nat × en_S))
  | [] => none
  | q :: r => if q.1 = ix ∧ q.2.1 = isV ∧ en_okc σ q.2.2.2.2.2 KT tk md exs mc ms lv q.2.2.2.2.1 q.2.2.1 isV = true then
      some ((q.2.2.2.2.2.2.2.1.filter (fun o => en_fea σ.1 (σ.2.1.take q.2.2.2.2.2.1).reverse (o.1.take q.2.2.2.2.2.1))).map (fun o => (pc + 3, en_out om σ q.2.2.2.2.2 q.2.2.2.1 (σ.2.1.take q.2.2.2.2.2.1).reverse (σ.2.1.drop q.2.2.2.2.2.1) o)))
    else en_inv om KT tk md exs mc ms lv σ pc ix isV r
theorem en_inv_ok {om : List (Nat × Nat × Nat)} {KT : List en_D} {tk : List Nat} {md : List (Nat × Nat)} {exs : List Nat} {mc ms lv : Nat} {σ : en_S} {pc ix : Nat} {isV : Bool} : ∀ (CT : List en_C1) (L : List (Nat × en_S)), en_inv om KT tk md exs mc ms lv σ pc ix isV CT = some L → ∃ q ∈ CT, q.1 = ix ∧ q.2.1 = isV ∧ en_okc σ q.2.2.2.2.2 KT tk md exs mc ms lv q.2.2.2.2.1 q.2.2.1 isV = true ∧
    L = (q.2.2.2.2.2.2.2.1.filter (fun o => en_fea σ.1 (σ.2.1.take q.2.2.2.2.2.1).reverse (o.1.take q.2.2.2.2.2.1))).map (fun o => (pc + 3, en_out om σ q.2.2.2.2.2 q.2.2.2.1 (σ.2.1.take q.2.2.2.2.2.1).reverse (σ.2.1.drop q.2.2.2.2.2.1) o))
  | [], L, h => by simp [en_inv] at h
  | q :: r, L, h => by
    unfold en_inv at h
    split at h
    · next hc => exact ⟨q, List.mem_cons_self, hc.1, hc.2.1, hc.2.2, (Option.some.inj h).symm⟩
    · obtain ⟨q', h1, h2⟩ := en_inv_ok r L h
      exact ⟨q', List.mem_cons_of_mem _ h1, h2⟩
section
variable {p : Program} {l : Launch} {e : Env} {R : Room} {s : State} {m : MethodId} {args : Array Value} {below : List Frame} {meth : Method} {c : Code} {Q : State → Prop} {cc : ByteArray}
variable {nL : Nat} {D : va_G} {cl : List vw_C} {tys : List (ClassId × FieldType)} {PP : Int32 → Int32 → Prop} {Ω : Nat → en_H → va_W → Prop} {KT : List en_D} {tk : List Nat} {md : List (Nat × Nat)} {om : List (Nat × Nat × Nat)} {sh0 sh : en_H} {w0 : va_W} {A : Nat → Prop} {H0 : Heap} {σ σ' : en_S} {ρ0 ρ : List Value} {ws : va_W} {H : Heap} {locs : List Loc} {ls : Array Slot} {st : List Value} {pc pc' : Nat} {TY : List FieldType}
theorem en_inv_go {own : String} {CW : List Cond} {CT : List en_C1} {exs : List Nat} {mc ms lv ix : Nat} {isV : Bool} {L : List (Nat × en_S)} (hΩ : en_Om om sh0 Ω) (hPP : ∀ x y, PP x y → 0 ≤ x.toInt ∧ x.toInt ≤ 29 ∧ 0 ≤ y.toInt ∧ y.toInt ≤ 19) (hTY : tys.map Prod.snd = TY)
    (hexec : p.tables.exec = Jvm.exec) (hb : c.code = cc) (hml : c.maxLocals = nL) (hts : ∀ w ∈ CW, w.before args s = true) (hown : s.vm.findClass own = some m.cls) (hK : va_K D cl tys s) (hT : tf A s s.heap) (hA : ∀ q, s.heap.size ≤ q → A q)
    (hR : R = en_rm lv (mc, ms)) (hCT : ∀ q ∈ CT, en_CO l own CW cl TY PP om Ω KT q)
    (hdg : decode cc pc = .ok (if isV = true then Instr.invokevirtual ix else Instr.invokestatic ix, 3)) (h : en_inv om KT tk md exs mc ms lv σ pc ix isV CT = some L) (hp : ∃ t, ρ = ρ0 ++ t) (g : en_G nL D cl tys PP Ω KT tk md sh0 w0 A s.heap σ sh ρ ws H locs ls) (hst : en_T ρ σ.2.1 st)
    (hX : en_Lv p l e R s m args below meth c Q D cl tys PP KT tk md sh0 w0 A s.heap exs mc ms)
    (k : ∀ q ∈ L, en_OK p l e R s m args below meth c Q nL D cl tys PP Ω KT tk md sh0 w0 A s.heap ρ0 q.1 q.2) : W p l e R s m args below meth c H locs σ.2.2.2.2.2.1 σ.2.2.2.2.2.2 Q (F0 m pc ls st) := by
  obtain ⟨q, hq, rfl, rfl, hok, rfl⟩ := en_inv_ok _ _ h
  obtain ⟨ix, isV, ciy, rs, lv', κ⟩ := q
  dsimp only at hok hdg k ⊢
  obtain ⟨y, C, cy, mxl, ret, hmx, hM, hV, hZ⟩ := hCT _ hq
  dsimp only at hM hV hZ
  unfold en_okc at hok
  simp only [Bool.and_eq_true] at hok
  obtain ⟨o1, o2, o3, o4, o5, o6⟩ := hok
  have o1 := of_decide_eq_true o1
  have o2 := of_decide_eq_true o2
  have o3 := of_decide_eq_true o3
  have o5 := of_decide_eq_true o5
  obtain ⟨m1, m2, m3, m4, m5, m6, m7, m8, m9⟩ := en_may_ok o6
  obtain ⟨ρp, hPa, hρl, hρp⟩ := en_chk_ok (PP := PP) (Ω := Ω) (ws := ws) g.1 g.2.2.1 m1
  have hst0 := hst
  rw [← List.take_append_drop κ.1 σ.2.1] at hst0
  obtain ⟨s1, s2, rfl, t1, t2⟩ := en_T.app _ _ _ hst0
  have hn : (σ.2.1.take κ.1).reverse.length = κ.1 := by rw [List.length_reverse, List.length_take]; omega
  have hs1 : s1.length = κ.1 := by
    have := congrArg List.length t1
    simp only [List.length_map, List.length_take] at this
    omega
  have hargs : ρp.take κ.1 = s1.reverse := by
    refine List.ext_getElem? fun i => ?_
    by_cases hi : i < κ.1
    · rw [List.getElem?_take_of_lt hi]
      have hμ : (en_srch σ.2.2.2.1 (σ.2.1.take κ.1).reverse κ.2.1.2)[i]? = (σ.2.1.take κ.1).reverse[i]? := by
        rw [← o5, List.getElem?_take_of_lt hi, o5]
      have hil : i < (en_srch σ.2.2.2.1 (σ.2.1.take κ.1).reverse κ.2.1.2).length := by
        have h2 : i < (σ.2.1.take κ.1).reverse.length := by omega
        rw [List.getElem?_eq_getElem h2] at hμ
        exact (List.getElem?_eq_some_iff.mp hμ).1
      rw [hρp i hil]
      unfold en_nu
      rw [hμ]
      have h3 : (s1.reverse.map some)[i]? = ((σ.2.1.take κ.1).reverse.map (fun j => ρ[j]?))[i]? := by
        rw [List.map_reverse, List.map_reverse]
        exact congrArg (fun z => z.reverse[i]?) t1
      rw [List.getElem?_map, List.getElem?_map] at h3
      have h4 : i < (σ.2.1.take κ.1).reverse.length := by omega
      have h5 : i < s1.reverse.length := by rw [List.length_reverse]; omega
      rw [List.getElem?_eq_getElem h4, List.getElem?_eq_getElem h5] at h3
      rw [List.getElem?_eq_getElem h4, List.getElem?_eq_getElem h5]
      exact (Option.some.inj h3).symm
    · rw [List.getElem?_eq_none (by rw [List.length_take]; omega), List.getElem?_eq_none (by rw [List.length_reverse]; omega)]
  have hW0 : en_W PP KT κ.2.2.2.2.1 sh tys (fun _ => False) ws := by
    have hO := g.2.2.2.1
    rcases hop : σ.2.2.2.2.1 with _ | z
    · rw [hop] at hO
      exact ⟨hO.1, fun q k hq => by
        obtain ⟨e1, e2, e3⟩ := hO.2 q k hq
        exact ⟨e1, e2, fun a b => e3 (m2 k a) b⟩⟩
    · rw [hop] at hO
      obtain ⟨⟨kz, kz1, kz2⟩, -⟩ := m5 z hop
      obtain ⟨q0, k0, t0, v, cA, f, h1, h2, h3, h4, h5, h6, h7, h8⟩ := hO
      obtain ⟨-, -, q9, q91, q92⟩ := en_kd_ok g.1 kz1
      have ev : (Value.ref (sh.2 q0)) = .ref (sh.2 q9) := Option.some.inj (h1.symm.trans q92)
      obtain ⟨ek, -⟩ := g.uq h6 ⟨q9, q91, ev⟩
      have ek : k0 = kz := Option.some.inj (h2.symm.trans ek)
      subst ek
      exact ⟨h8.1, fun q k hq => by
        obtain ⟨e1, e2, e3⟩ := h8.2 q k hq
        refine ⟨e1, e2, fun a b => e3 (m2 k a) (fun z => ?_)⟩
        subst z
        have ek : k0 = k := Option.some.inj (h2.symm.trans hq)
        subst ek
        exact kz2 a⟩
  have hSz : s.heap.size ≤ H.size := g.2.2.2.2.2.2.1.1
  have hAA : ∀ q, va_A ws H.size q → A q := fun q hq => by
    rcases hq with ⟨j, ej, hj⟩ | hq
    · exact g.2.2.2.2.2.1.2 j _ hj
    · exact hA q (Nat.le_trans hSz hq)
  have hDw : va_D (va_A ws H.size) ws := ⟨g.2.2.2.2.2.1.1, fun j z hz => Or.inl ⟨j, z.2, hz⟩⟩
  have hMM := hM D tys sh ws H.size ρp hTY hW0 hDw (hΩ.gr g.2.2.2.2.2.2.2.2) hPa
  rw [hargs] at hMM
  have hpre : ∀ U : State, U.heap = H → s.WarmedH U.vm → en_B D cl tys ws H.size U := fun U hU hW => ⟨by rw [hU], by rw [hU]; exact g.2.2.2.2.1, va_K.moved hW.alike hK, tf.go hT g.2.2.2.2.2.2.1 hW hU hAA⟩
  have hwt : 2 * (F0 m pc ls (s1 ++ s2)).monitorRoom + (s2.map fun v => v.category).sum ≤ 8 := lv_room (Nat.le_trans (en_wt_ok g.1 _ _ t2) o2)
  have hRf : (en_rm lv' κ.2.2.2.2.2.1).frames + 1 ≤ R.frames ∧ 8 + (mxl + 11) + (en_rm lv' κ.2.2.2.2.2.1).locals ≤ R.locals := by
    subst hR
    constructor
    · show 40 + lv' + 1 ≤ 40 + lv
      omega
    · show 8 + (mxl + 11) + (400 + 60 * lv') ≤ 400 + 60 * lv
      omega
  have hRc : σ.2.2.2.2.2.1 + κ.2.2.2.2.2.1.1 ≤ R.cells ∧ σ.2.2.2.2.2.2 + κ.2.2.2.2.2.1.2 ≤ R.slots := by
    subst hR
    exact ⟨m7, m8⟩
  have kk : ∀ o ∈ κ.2.2.1, en_fea σ.1 (σ.2.1.take κ.1).reverse (o.1.take κ.1) = true → en_OK p l e R s m args below meth c Q nL D cl tys PP Ω KT tk md sh0 w0 A s.heap ρ0 (pc + 3) (en_out om σ κ rs (σ.2.1.take κ.1).reverse (σ.2.1.drop κ.1) o) := fun o ho hf => k _ (List.mem_map.mpr ⟨o, List.mem_filter.mpr ⟨ho, hf⟩, rfl⟩)
  cases isV with
  | true =>
    obtain ⟨⟨hG, hd⟩, h1n, r, hr, rfl⟩ := hV rfl
    -- the receiver
    rcases hrev : s1.reverse with _ | ⟨vb, As⟩
    · have := congrArg List.length hrev
      rw [List.length_reverse] at this
      simp only [List.length_nil] at this
      omega
    have hs1e : s1 = As.reverse ++ [vb] := by
      have := congrArg List.reverse hrev
      rw [List.reverse_reverse, List.reverse_cons] at this
      exact this
    have hAl : As.length = κ.1 - 1 := by
      have := congrArg List.length hs1e
      simp only [List.length_append, List.length_reverse, List.length_cons, List.length_nil] at this
      omega
    simp only [Bool.not_true, Bool.false_or] at o4
    split at o4
    · next i0 rest0 hrv =>
      split at o4
      · next k1 hk1 =>
        split at o4
        · next ci ts hkt =>
          have eci : ci = ciy := by simpa using o4
          subst eci
          obtain ⟨q0, e1, kd, w1, w2, w3, w4, w5, -⟩ := g.cell hk1 (fun t0 n v z => by rw [hkt] at z; cases z)
          have ekd := Option.some.inj (w4.symm.trans hkt)
          subst ekd
          rcases e1 with x | ⟨co, fs⟩
          · exact w5.elim
          have w5 : co = ci := w5.1
          subst w5
          have hvb : vb = .ref (sh.2 q0) := by
            have h3 : (s1.reverse.map some) = ((σ.2.1.take κ.1).reverse.map (fun j => ρ[j]?)) := by
              rw [List.map_reverse, List.map_reverse]
              exact congrArg List.reverse t1
            rw [hrev, hrv] at h3
            simp only [List.map_cons, List.cons.injEq] at h3
            exact Option.some.inj (h3.1.trans w1)
          subst hvb
          rw [hrev] at hMM
          have hdg : decode cc pc = .ok (.invokevirtual ix, 3) := hdg
          refine en_run_go (rest := σ.2.1.drop κ.1) hΩ hPP o6 o5 hn hp g t2 hρp hA (vx_runV (As := As) (rest := s2) (b := sh.2 q0) (C := r.1) ⟨hexec, hb, hml, hown, hts⟩ hMM (cwV (κ.1 - 1) hts hG rfl rfl rfl hd hRf) ⟨fun a U g mk q => ⟨q.1, q.2.blind⟩, va_recv hK g.2.2.2.2.1 (ci := co) (q0 := q0) hr w3, fun U hU hW => ⟨rfl, hpre U hU hW⟩⟩ rfl hAl g.2.1.1 ?_ hwt hdg hRc) hX kk
          show s1 ++ s2 = As.reverse ++ .ref (sh.2 q0) :: s2
          rw [hs1e, List.append_assoc]
          rfl
        · cases o4
      · cases o4
    · cases o4
  | false =>
    have hdg : decode cc pc = .ok (.invokestatic ix, 3) := hdg
    rcases hZ rfl with ⟨hG, hd⟩ | ⟨host, hm, hG, hs, hi, hd⟩
    · refine en_run_go (rest := σ.2.1.drop κ.1) hΩ hPP o6 o5 hn hp g t2 hρp hA (vx_runS (As := s1.reverse) (rest := s2) ⟨hexec, hb, hml, hown, hts⟩ hMM (va_cwS κ.1 hts hG rfl rfl rfl hd hRf) ⟨fun a U g mk q => ⟨q.1, q.2.blind⟩, fun U hU hW => ⟨rfl, hpre U hU hW⟩⟩ rfl (by rw [List.length_reverse]; exact hs1) g.2.1.1 ?_ hwt hdg hRc) hX kk
      show s1 ++ s2 = s1.reverse.reverse ++ s2
      rw [List.reverse_reverse]
    · refine en_run_go (rest := σ.2.1.drop κ.1) hΩ hPP o6 o5 hn hp g t2 hρp hA (vx_runSN (As := s1.reverse) (rest := s2) ⟨hexec, hb, hml, hown, hts⟩ hMM ⟨va_cnB κ.1 hts hG rfl rfl rfl (hT.2.2.2.2.2 _ hm) (hts _ hi) hd hRf, hts _ hs, trivial⟩ ⟨fun a U g mk q => ⟨q.1, q.2.blind⟩, fun U hU hW => ⟨rfl, hpre U hU hW⟩⟩ rfl (by rw [List.length_reverse]; exact hs1) g.2.1.1 ?_ hwt hdg hRc) hX kk
      show s1 ++ s2 = s1.reverse.reverse ++ s2
      rw [List.reverse_reverse]
end
