/-! the engine: roads, loops, the whole of a method -/
def en_tI (ρ : List Value) (i : Nat) : Int := match ρ[i]? with
  | some (.int x) => x.toInt
  | _ => 0
def en_val (ρ : List Value) : List (Int × Nat) → Int
  | [] => 0
  | t :: r => t.1 * en_tI ρ t.2 + en_val ρ r
/-- a cut: its place, what holds there, locals, cells and slots, a number that falls -/
abbrev en_U : Type := Nat × en_Pt × List (Nat × Nat) × (Nat × Nat) × List (Int × Nat) × Int
def en_mrg (c : Int) (i : Nat) : List (Int × Nat) → List (Int × Nat)
  | [] => [(c, i)]
  | t :: r => if t.2 = i then (t.1 + c, i) :: r else t :: en_mrg c i r
theorem en_mrg_ok {ρ : List Value} {c : Int} {i : Nat} : ∀ l : List (Int × Nat), en_val ρ (en_mrg c i l) = c * en_tI ρ i + en_val ρ l
  | [] => rfl
  | t :: r => by
    unfold en_mrg
    split
    · next h =>
      subst h
      show (t.1 + c) * en_tI ρ t.2 + en_val ρ r = c * en_tI ρ t.2 + (t.1 * en_tI ρ t.2 + en_val ρ r)
      rw [Int.add_mul]
      omega
    · show t.1 * en_tI ρ t.2 + en_val ρ (en_mrg c i r) = c * en_tI ρ i + (t.1 * en_tI ρ t.2 + en_val ρ r)
      rw [en_mrg_ok r]
      omega
/-- a sum told by symbols that are no sums themselves -/
def en_nrm (env : List en_A) (sg : Int) (ν : Nat → Nat) : List (Int × Nat) → List (Int × Nat) × Int → List (Int × Nat) × Int
  | [], a => a
  | t :: r, a => match env[ν t.2]? with
    | some (.inl (_, _, b + 1, o)) => en_nrm env sg ν r (en_mrg (sg * t.1) b a.1, a.2 + sg * t.1 * o)
    | _ => en_nrm env sg ν r (en_mrg (sg * t.1) (ν t.2) a.1, a.2)
theorem en_nrm_ok {sh : en_H} {env : List en_A} {ρ ρ' : List Value} {sg : Int} {ν : Nat → Nat} (he : en_E sh env ρ) : ∀ (l : List (Int × Nat)) (a : List (Int × Nat) × Int), (∀ t ∈ l, en_tI ρ' t.2 = en_tI ρ (ν t.2)) → en_val ρ (en_nrm env sg ν l a).1 + (en_nrm env sg ν l a).2 = sg * en_val ρ' l + (en_val ρ a.1 + a.2)
  | [], a, _ => by
    show en_val ρ a.1 + a.2 = sg * 0 + _
    rw [Int.mul_zero, Int.zero_add]
  | t :: r, a, hν => by
    have h0 := hν t List.mem_cons_self
    have hr := fun a => en_nrm_ok (sg := sg) he r a (fun t ht => hν t (List.mem_cons_of_mem _ ht))
    have hv : sg * en_val ρ' (t :: r) = sg * t.1 * en_tI ρ (ν t.2) + sg * en_val ρ' r := by
      show sg * (t.1 * en_tI ρ' t.2 + en_val ρ' r) = _
      rw [Int.mul_add, h0, Int.mul_assoc]
    unfold en_nrm
    split
    · next l0 u0 b o hb =>
      rw [hr, hv]
      show sg * en_val ρ' r + (en_val ρ (en_mrg (sg * t.1) b a.1) + (a.2 + sg * t.1 * o)) = _
      rw [en_mrg_ok]
      obtain ⟨v, v1, -, v3⟩ := he.2 _ _ hb
      obtain ⟨x, y, rfl, y1, y2⟩ := v3 l0 u0 b o rfl
      have e1 : en_tI ρ (ν t.2) = x.toInt := by unfold en_tI; rw [v1]
      have e2 : en_tI ρ b = y.toInt := by unfold en_tI; rw [y1]
      rw [e1, e2, y2, Int.mul_add]
      omega
    · rw [hr, hv]
      show sg * en_val ρ' r + (en_val ρ (en_mrg (sg * t.1) (ν t.2) a.1) + a.2) = _
      rw [en_mrg_ok]
      omega
def en_low (env : List en_A) : List (Int × Nat) → Option Int
  | [] => some 0
  | t :: r => match en_low env r with
    | some z => if t.1 = 0 then some z else (match en_eff env t.2 with
      | some a => some ((if 0 ≤ t.1 then t.1 * a.1 else t.1 * a.2) + z)
      | none => none)
    | none => none
theorem en_low_ok {sh : en_H} {env : List en_A} {ρ : List Value} (he : en_E sh env ρ) : ∀ (l : List (Int × Nat)) (z : Int), en_low env l = some z → z ≤ en_val ρ l
  | [], z, h => by
    have e0 := Option.some.inj h
    subst e0
    exact Int.le_refl _
  | t :: r, z, h => by
    unfold en_low at h
    split at h
    · next z2 h2 =>
      have hz := en_low_ok he r z2 h2
      show z ≤ t.1 * en_tI ρ t.2 + en_val ρ r
      split at h
      · next h0 =>
        have e0 := Option.some.inj h
        subst e0
        rw [h0, Int.zero_mul]
        omega
      · split at h
        · next a ha =>
          obtain ⟨x, x1, x2, x3⟩ := en_eff_ok he ha
          have e1 : en_tI ρ t.2 = x.toInt := by unfold en_tI; rw [x1]
          have e0 := Option.some.inj h
          subst e0
          rw [e1]
          split
          · next hp =>
            have := Int.mul_le_mul_of_nonneg_left x2 hp
            omega
          · next hp =>
            have := Int.mul_le_mul_of_nonpos_left (show t.1 ≤ 0 by omega) x3
            omega
        · cases h
    · cases h
/-- what falls: at least 1, and the new one is less -/
def en_dec (env : List en_A) (μ : List Nat) (old new : List (Int × Nat) × Int) : Bool :=
  (match en_low env (en_nrm env 1 (fun i => i) old.1 ([], old.2)).1 with
    | some z => decide (1 ≤ z + (en_nrm env 1 (fun i => i) old.1 ([], old.2)).2)
    | none => false) &&
  (match en_low env (en_nrm env (-1) (en_nu μ) new.1 ((en_nrm env 1 (fun i => i) old.1 ([], old.2)).1, (en_nrm env 1 (fun i => i) old.1 ([], old.2)).2 - new.2)).1 with
    | some z => decide (1 ≤ z + (en_nrm env (-1) (en_nu μ) new.1 ((en_nrm env 1 (fun i => i) old.1 ([], old.2)).1, (en_nrm env 1 (fun i => i) old.1 ([], old.2)).2 - new.2)).2)
    | none => false)
theorem en_dec_ok {sh : en_H} {env : List en_A} {ρ ρ' : List Value} {μ : List Nat} {old new : List (Int × Nat) × Int} (he : en_E sh env ρ) (hν : ∀ t ∈ new.1, en_tI ρ' t.2 = en_tI ρ (en_nu μ t.2)) (h : en_dec env μ old new = true) : 1 ≤ en_val ρ old.1 + old.2 ∧ en_val ρ' new.1 + new.2 + 1 ≤ en_val ρ old.1 + old.2 := by
  simp only [en_dec, Bool.and_eq_true] at h
  obtain ⟨h1, h2⟩ := h
  have n1 := en_nrm_ok (sg := 1) (ν := fun i => i) (ρ' := ρ) he old.1 ([], old.2) (fun _ _ => rfl)
  have n2 := en_nrm_ok (sg := -1) (ν := en_nu μ) (ρ' := ρ') he new.1 ((en_nrm env 1 (fun i => i) old.1 ([], old.2)).1, (en_nrm env 1 (fun i => i) old.1 ([], old.2)).2 - new.2) hν
  have e0 : en_val ρ ([] : List (Int × Nat)) = 0 := rfl
  dsimp only at n1 n2
  constructor
  · split at h1
    · next z hz =>
      have := en_low_ok he _ _ hz
      have h1 := of_decide_eq_true h1
      omega
    · cases h1
  · split at h2
    · next z hz =>
      have := en_low_ok he _ _ hz
      have h2 := of_decide_eq_true h2
      omega
    · cases h2
/-- the symbols of a cut's locals -/
def en_srl (lo : List (Nat × Nat)) : List Nat → List (Nat × Nat) → List Nat
  | μ, [] => μ
  | μ, q :: r => if q.2 = μ.length then (match en_find lo q.1 with
    | some i => en_srl lo (μ ++ [i]) r
    | none => μ) else en_srl lo μ r
def en_jmu (n : Nat) (U : en_U) (σ : en_S) : List Nat := en_srch σ.2.2.2.1 (en_srl σ.2.2.1 (List.range n) U.2.2.1) U.2.1.2
def en_jmp (KT : List en_D) (n : Nat) (cur : Option en_U) (U : en_U) (σ : en_S) : Bool := match en_cls KT σ with
  | some σ1 => decide (σ1.2.1 = []) && (decide ((en_jmu n U σ1).take n = List.range n) && (U.2.2.1.all (fun q => decide (q.2 < (en_jmu n U σ1).length) && (en_find σ1.2.2.1 q.1 == some (en_nu (en_jmu n U σ1) q.2))) && (en_chk σ1.1 σ1.2.2.2.1 (en_jmu n U σ1) U.2.1 && (U.2.1.1.all en_nob && (decide (σ.2.2.2.2.2.1 ≤ U.2.2.2.1.1) && (decide (σ.2.2.2.2.2.2 ≤ U.2.2.2.1.2) && (U.2.2.2.2.1.all (fun t => decide (t.2 < (en_jmu n U σ1).length)) && (match cur with
    | some C => en_dec σ1.1 (en_jmu n U σ1) C.2.2.2.2 U.2.2.2.2
    | none => true))))))))
  | none => false
/-- the state at a cut -/
def en_sU (U : en_U) : en_S := (U.2.1.1, [], U.2.2.1, U.2.1.2, none, U.2.2.2.1.1, U.2.2.2.1.2)
section
variable {p : Program} {l : Launch} {e : Env} {R : Room} {s : State} {m : MethodId} {args : Array Value} {below : List Frame} {meth : Method} {c : Code} {Q : State → Prop} {cc : ByteArray}
variable {nL : Nat} {D : va_G} {cl : List vw_C} {tys : List (ClassId × FieldType)} {PP : Int32 → Int32 → Prop} {Ω : Nat → en_H → va_W → Prop} {KT : List en_D} {tk : List Nat} {md : List (Nat × Nat)} {om : List (Nat × Nat × Nat)} {sh0 sh : en_H} {w0 : va_W} {A : Nat → Prop} {H0 : Heap} {σ σ' : en_S} {ρ0 ρ : List Value} {ws : va_W} {H : Heap} {locs : List Loc} {ls : Array Slot} {st : List Value} {pc pc' : Nat} {TY : List FieldType}
theorem en_tI_eq {ρ ρ' : List Value} {i j : Nat} (h : ρ'[i]? = ρ[j]?) : en_tI ρ' i = en_tI ρ j := by
  unfold en_tI
  rw [h]
theorem en_jmp_ok {n : Nat} {cur : Option en_U} {U : en_U} (h : en_jmp KT n cur U σ = true) (hn : n ≤ ρ.length) (g : en_G nL D cl tys PP Ω KT tk md sh0 w0 A H0 σ sh ρ ws H locs ls) (hst : en_T ρ σ.2.1 st) :
    ∃ ρ' : List Value, en_G nL D cl tys PP Ω KT tk md sh0 w0 A H0 (en_sU U) sh ρ' ws H locs ls ∧ st = [] ∧ n ≤ ρ'.length ∧ ρ'.take n = ρ.take n ∧ σ.2.2.2.2.2.1 ≤ U.2.2.2.1.1 ∧ σ.2.2.2.2.2.2 ≤ U.2.2.2.1.2 ∧ (∀ t ∈ U.2.2.2.2.1, t.2 < ρ'.length) ∧ ∀ C, cur = some C → 1 ≤ en_val ρ C.2.2.2.2.1 + C.2.2.2.2.2 ∧ en_val ρ' U.2.2.2.2.1 + U.2.2.2.2.2 + 1 ≤ en_val ρ C.2.2.2.2.1 + C.2.2.2.2.2 := by
  unfold en_jmp at h
  split at h
  · next σ1 h1 =>
    obtain ⟨g1, g2, g3, g4, g5, g6⟩ := g.cls h1
    simp only [Bool.and_eq_true] at h
    obtain ⟨q1, q2, q3, q4, q5, q6, q7, q8, q9⟩ := h
    have q1 := of_decide_eq_true q1
    have q2 := of_decide_eq_true q2
    obtain ⟨ρ', a1, a2, a3⟩ := en_chk_ok (PP := PP) (Ω := Ω) (ws := ws) g1.1 g1.2.2.1 q4
    have hμn : n ≤ (en_jmu n U σ1).length := by
      have := congrArg List.length q2
      rw [List.length_take, List.length_range] at this
      omega
    have hμ : ∀ i, i < n → en_nu (en_jmu n U σ1) i = i := fun i hi => by
      unfold en_nu
      have : (en_jmu n U σ1)[i]? = some i := by
        rw [← List.getElem?_take_of_lt hi, q2, List.getElem?_range hi]
      rw [this]
      rfl
    have hO := g1.2.2.2.1
    rw [g2] at hO
    have hst0 : st = [] := by
      rw [← g4, q1] at hst
      exact hst.nil
    refine ⟨ρ', ⟨⟨a1.1, fun i a ha => ?_⟩, ⟨g1.2.1.1, g1.2.1.2.1, fun q hq => ?_⟩, a1.2.2, hO, g1.2.2.2.2⟩, hst0, by rw [a2]; exact hμn, ?_, of_decide_eq_true q6, of_decide_eq_true q7, fun t ht => ?_, fun C hC => ?_⟩
    · obtain ⟨v, v1, v2⟩ := a1.2.1 i a ha
      have hnb := en_nob_ok (List.all_eq_true.mp q5 a (List.mem_of_getElem? ha))
      exact ⟨v, v1, v2, fun lo hi b o e => absurd e (hnb lo hi b o)⟩
    · have hq3 := List.all_eq_true.mp q3 q hq
      simp only [Bool.and_eq_true, beq_iff_eq] at hq3
      obtain ⟨b1, b2⟩ := hq3
      have b1 := of_decide_eq_true b1
      obtain ⟨v, v1, v2, -⟩ := g1.2.1.mem (en_find_ok b2)
      exact ⟨v, by rw [a3 _ b1]; exact v1, v2⟩
    · refine List.ext_getElem? fun i => ?_
      by_cases hi : i < n
      · rw [List.getElem?_take_of_lt hi, List.getElem?_take_of_lt hi, a3 i (by omega), hμ i hi]
      · rw [List.getElem?_eq_none (by rw [List.length_take]; omega), List.getElem?_eq_none (by rw [List.length_take]; omega)]
    · rw [a2]
      exact of_decide_eq_true (List.all_eq_true.mp q8 t ht)
    · subst hC
      exact en_dec_ok g1.1 (fun t ht => en_tI_eq (a3 _ (of_decide_eq_true (List.all_eq_true.mp q8 t ht)))) q9
  · cases h
def en_cut (cuts : List en_U) (pc : Nat) : Bool := cuts.any (fun U => Nat.beq U.1 pc)
def en_run (X : en_Cx) (M : en_Mx) (cuts : List en_U) (cur : Option en_U) : Nat → Nat → en_S → Bool
  | 0, _, _ => false
  | f + 1, pc, σ => match en_cd M.2.2.2.2.1 pc with
    | some ins => match en_stp X M pc σ ins with
      | some L => L.all (fun q => if en_cut cuts q.1 = true then cuts.any (fun U => Nat.beq U.1 q.1 && en_jmp X.1.1 M.1.1 cur U q.2) else en_run X M cuts cur f q.1 q.2)
      | none => false
    | none => false
end
section
variable {p : Program} {l : Launch} {e : Env} {s : State} {m : MethodId} {args : Array Value} {below : List Frame} {meth : Method} {c : Code} {cc : ByteArray}
variable {D : va_G} {cl : List vw_C} {tys : List (ClassId × FieldType)} {PP : Int32 → Int32 → Prop} {Ω : Nat → en_H → va_W → Prop} {sh0 : en_H} {w0 : va_W} {A : Nat → Prop} {σ : en_S} {ρ0 ρp : List Value} {pc : Nat} {own : String} {CW : List Cond} {X : en_Cx} {M : en_Mx}
/-- the end that a method comes to -/
def en_Z (below : List Frame) (args : Array Value) (s : State) (D : va_G) (cl : List vw_C) (tys : List (ClassId × FieldType)) (PP : Int32 → Int32 → Prop) (Ω : Nat → en_H → va_W → Prop) (X : en_Cx) (M : en_Mx) (sh0 : en_H) (w0 : va_W) (ρp : List Value) (A : Nat → Prop) : State → Prop := vx_MQ below (en_Q M.2.2.2.1.1 D cl tys PP Ω X.1.1 M.1 sh0 w0 ρp A) (en_XC D cl tys PP X.1.1 M.1.2.2.2.2.1 M.1.2.2.2.1 M.1.2.2.2.2.2.2 sh0 w0 A) args s M.1.2.2.2.2.2.1.1 M.1.2.2.2.2.2.1.2 A
theorem en_run_ok {cuts : List en_U} {cur : Option en_U} (hPP : ∀ x y, PP x y → 0 ≤ x.toInt ∧ x.toInt ≤ 29 ∧ 0 ≤ y.toInt ∧ y.toInt ≤ 19) (hF32 : en_f32) (hF64 : en_f64) (hX : en_Xok l own CW cl PP Ω X) (hΩ : en_Om X.1.2.2 sh0 Ω) (hTY : tys.map Prod.snd = X.1.2.1)
    (hexec : p.tables.exec = Jvm.exec) (hb : c.code = cc) (hml : c.maxLocals = M.2.2.1) (hl : l.stackTraces = false) (hlocks : meth.locks = false) (hne : ∀ x ∈ c.exceptionTable.toList, False) (hts : ∀ w ∈ CW, w.before args s = true) (hown : s.vm.findClass own = some m.cls) (hK : va_K D cl tys s) (hT : tf A s s.heap) (hA : ∀ q, s.heap.size ≤ q → A q)
    (hd : en_De M.2.2.2.2.1 cc) (hret : meth.sig.returnType = en_rt M.2.2.2.1.1 M.2.2.2.1.2) (ha : ρ0.take M.1.1 = ρp.take M.1.1) (hal : M.1.1 ≤ ρ0.length)
    (hJ : ∀ U ∈ cuts, ∀ (sh : en_H) (ρ' : List Value) (ws : va_W) (H : Heap) (locs : List Loc) (ls : Array Slot), en_G M.2.2.1 D cl tys PP Ω X.1.1 M.1.2.2.2.2.1 M.1.2.2.2.1 sh0 w0 A s.heap (en_sU U) sh ρ' ws H locs ls → M.1.1 ≤ ρ'.length → ρ'.take M.1.1 = ρp.take M.1.1 → (∀ t ∈ U.2.2.2.2.1, t.2 < ρ'.length) →
      (∀ C, cur = some C → ∃ ρ : List Value, (∃ t, ρ = ρ0 ++ t) ∧ 1 ≤ en_val ρ C.2.2.2.2.1 + C.2.2.2.2.2 ∧ en_val ρ' U.2.2.2.2.1 + U.2.2.2.2.2 + 1 ≤ en_val ρ C.2.2.2.2.1 + C.2.2.2.2.2) → W p l e (en_rm M.2.1 M.1.2.2.2.2.2.1) s m args below meth c H locs U.2.2.2.1.1 U.2.2.2.1.2 (en_Z below args s D cl tys PP Ω X M sh0 w0 ρp A) (F0 m U.1 ls [])) :
    ∀ (f pc : Nat) (σ : en_S), en_run X M cuts cur f pc σ = true → en_OK p l e (en_rm M.2.1 M.1.2.2.2.2.2.1) s m args below meth c (en_Z below args s D cl tys PP Ω X M sh0 w0 ρp A) M.2.2.1 D cl tys PP Ω X.1.1 M.1.2.2.2.2.1 M.1.2.2.2.1 sh0 w0 A s.heap ρ0 pc σ
  | 0, _, _, h => by cases h
  | f + 1, pc, σ, h => by
    unfold en_run at h
    split at h
    · next ins hins =>
      split at h
      · next L hL =>
        refine en_stp_ok hPP hF32 hF64 hX hΩ hTY hexec hb hml hl hlocks hne hts hown hK hT hA hd hret ha hal (en_cd_ok hd hins) hL fun q hq => ?_
        have hq2 := List.all_eq_true.mp h q hq
        split at hq2
        · next hU =>
          intro sh ρ ws H locs ls st hp g hst
          obtain ⟨U, hm, hf9⟩ := List.any_eq_true.mp hq2
          simp only [Bool.and_eq_true] at hf9
          obtain ⟨hf9, hq2⟩ := hf9
          have hpc : U.1 = q.1 := Nat.eq_of_beq_eq_true hf9
          have hle : M.1.1 ≤ ρ.length := by
            obtain ⟨t, rfl⟩ := hp
            rw [List.length_append]
            omega
          have htk : ρ.take M.1.1 = ρp.take M.1.1 := by
            obtain ⟨t, rfl⟩ := hp
            rw [List.take_append_of_le_length hal]
            exact ha
          obtain ⟨ρ', g1, rfl, g2, g3, g4, g5, g6, g7⟩ := en_jmp_ok hq2 hle g hst
          have h9 := hJ U hm sh ρ' ws H locs ls g1 g2 (g3.trans htk) g6 (fun C hC => ⟨ρ, hp, g7 C hC⟩)
          rw [hpc] at h9
          exact W.widen g4 g5 h9
        · exact en_run_ok hPP hF32 hF64 hX hΩ hTY hexec hb hml hl hlocks hne hts hown hK hT hA hd hret ha hal hJ f q.1 q.2 hq2
      · cases h
    · cases h
theorem en_val_up {ρ t : List Value} : ∀ l : List (Int × Nat), (∀ z ∈ l, z.2 < ρ.length) → en_val (ρ ++ t) l = en_val ρ l
  | [], _ => rfl
  | z :: r, h => by
    show z.1 * en_tI (ρ ++ t) z.2 + en_val (ρ ++ t) r = z.1 * en_tI ρ z.2 + en_val ρ r
    rw [en_val_up r (fun z hz => h z (List.mem_cons_of_mem _ hz)), en_tI_eq (i := z.2) (j := z.2) (ρ := ρ) (ρ' := ρ ++ t) (List.getElem?_append_left (h z List.mem_cons_self))]
/-- the whole of a method: from its start, and from each cut -/
def en_all (X : en_Cx) (M : en_Mx) (cuts : List en_U) (f : Nat) : Bool :=
  (M.1.2.1.1.all en_nob && ((M.1.2.1.1.take M.1.1).all en_one && (decide (M.1.1 ≤ M.1.2.1.1.length) && decide (M.1.1 ≤ M.2.2.1)))) && (en_run X M cuts none f 0 (M.1.2.1.1, [], (List.range M.1.1).map (fun i => (i, i)), M.1.2.1.2, none, 0, 0) && cuts.all (fun U => en_run X M cuts (some U) f U.1 (en_sU U)))
theorem en_lva : ∀ (vs : List Value) (i : Nat), (∀ v ∈ vs, v.category = 1) → lv_args i vs = vs.mapIdx (fun j v => (i + j, v))
  | [], i, _ => rfl
  | v :: vs, i, h => by
    have hv := h v List.mem_cons_self
    show (i, v) :: lv_args (if v.category = 2 then i + 2 else i + 1) vs = _
    rw [if_neg (by omega), en_lva vs (i + 1) (fun w hw => h w (List.mem_cons_of_mem _ hw)), List.mapIdx_cons]
    congr 1
    refine List.mapIdx_eq_mapIdx_iff.mpr fun j hj => ?_
    rw [show i + 1 + j = i + (j + 1) by omega]
theorem en_sl1 : ∀ vs : List Value, (∀ v ∈ vs, v.category = 1) → (lg_sl vs).length = vs.length
  | [], _ => rfl
  | v :: vs, h => by
    have hv := h v List.mem_cons_self
    have ih := en_sl1 vs (fun w hw => h w (List.mem_cons_of_mem _ hw))
    unfold lg_sl at ih ⊢
    rw [List.flatMap_cons, List.length_append, if_neg (by omega), ih, List.length_cons, List.length_cons, List.length_nil]
    omega
/-- vx_ofW for a method of any class that no native row runs -/
theorem en_ofW {l : Launch} {y : MethodName} {ws ws' : List Cond} {rm : Room} {Pc : Array Value → State → Prop} {Qc : Array Value → State → Outcome → State → Prop} {XC : String → State → State → Prop} {mc ms : Nat} {free : Addr → Prop} {cc : ByteArray} {maxL : Nat} {ret : Option FieldType}
    (hy : plainFor y = true) (hw : ws = Cond.code y cc maxL ret :: ws')
    (body : ∀ p e s m args below meth c s₁, BodyLoose p l y (headSpec ws rm) cc maxL ret e s m args below meth c s₁ → c.maxLocals = maxL → (∀ x ∈ c.exceptionTable.toList, False) → Pc args s →
      W p l e (headSpec ws rm).room s m args below meth c s.heap [] 0 0 (vx_MQ below Qc XC args s mc ms free) (entryFrame m args maxL)) : vx_Met l y ws rm Pc Qc XC mc ms free := by
  refine MetFree.of_bodySF (code := cc) (maxLocals := maxL) (ret := ret) hy ?_ ?_
  · intro args s m h hn
    obtain ⟨meth, c, h1, h2, h3, h4, h5, h6, -, -⟩ := Cond.code_spec hn (atoms_spec (ws := ws) h _ (by rw [hw]; exact List.mem_cons_self))
    exact ⟨meth, c, h1, h2, h3, h4, h5, h6⟩
  · intro p e s m args below meth c s₁ B hml hP _
    have hh0 : s₁.heap = s.heap := by rw [B.state]; rfl
    have ht : ∀ x ∈ c.exceptionTable.toList, False := by
      obtain ⟨meth9, c9, h1, h2, -, -, -, -, h7, -⟩ := Cond.code_spec B.named (atoms_spec (ws := ws) B.pre _ (by rw [hw]; exact List.mem_cons_self))
      cases Option.some.inj (h1.symm.trans B.method)
      cases Option.some.inj (h2.symm.trans (Stand.of_body B).code)
      intro x hx
      rw [Array.isEmpty_iff.mp h7] at hx
      cases hx
    obtain ⟨t, a1, o, b1, b2, b3⟩ := body p e s m args below meth c s₁ B hml ht hP s₁ hh0 (Stand.of_body B)
    exact ⟨t, o, a1, b1, b2, b3⟩
set_option maxHeartbeats 2000000 in
theorem en_main {y : MethodName} {cuts : List en_U} {f : Nat} (hPP : ∀ x y, PP x y → 0 ≤ x.toInt ∧ x.toInt ≤ 29 ∧ 0 ≤ y.toInt ∧ y.toInt ≤ 19) (hF32 : en_f32) (hF64 : en_f64) (hl : l.stackTraces = false) (hy : plainFor y = true) (hX : en_Xok l y.cls CW cl PP Ω X) (hd : en_De M.2.2.2.2.1 cc) (h : en_all X M cuts f = true) :
    en_Ctr l cl X.1.2.1 PP X.1.2.2 Ω X.1.1 y (Cond.code y cc M.2.2.1 (en_rt M.2.2.2.1.1 M.2.2.2.1.2) :: CW) (en_rm M.2.1 M.1.2.2.2.2.2.1) M.2.2.2.1.1 M.1 := by
  intro D tys sh0 w0 sz ρp hTY hW hD hΩ hPa
  simp only [en_all, Bool.and_eq_true] at h
  obtain ⟨⟨n1, n2, n3, n4⟩, h1, h2⟩ := h
  have n3 := of_decide_eq_true n3
  have n4 := of_decide_eq_true n4
  refine en_ofW (cc := cc) (maxL := M.2.2.1) (ret := en_rt M.2.2.2.1.1 M.2.2.2.1.2) hy rfl ?_
  intro p e s m args below meth c s₁ B hml hne hv
  obtain ⟨hargs, hsz, hP, hK, hT⟩ := hv
  subst hargs
  subst hsz
  have hexec := B.exec
  have hb := B.bytes
  have hret := B.returns
  have hlocks := B.notSynchronized
  have hown : s.vm.findClass y.cls = some m.cls := findClass_of_methodNamed B.named
  have hts : ∀ w ∈ CW, w.before (ρp.take M.1.1).toArray s = true := fun w hw => atoms_spec (ws := Cond.code y cc M.2.2.1 (en_rt M.2.2.2.1.1 M.2.2.2.1.2) :: CW) B.pre w (List.mem_cons_of_mem _ hw)
  have hA : ∀ q : Nat, s.heap.size ≤ q → va_A w0 s.heap.size q := fun q hq => Or.inr hq
  have hS : va_S (va_A w0 s.heap.size) s.heap s.heap [] := va_S.rf
  have hlen : ρp.length = M.1.2.1.1.length := hPa.1
  have hcat : ∀ v ∈ ρp.take M.1.1, v.category = 1 := fun v hv => by
    obtain ⟨i, hi⟩ := List.getElem?_of_mem hv
    have hlt : i < M.1.1 := by
      have := (List.getElem?_eq_some_iff.mp hi).1
      rw [List.length_take] at this
      omega
    rw [List.getElem?_take_of_lt hlt] at hi
    have ha : M.1.2.1.1[i]? = some (M.1.2.1.1[i]'(by omega)) := List.getElem?_eq_getElem (by omega)
    obtain ⟨w, w1, w2⟩ := hPa.2.1 i _ ha
    have ew : v = w := Option.some.inj (hi.symm.trans w1)
    subst ew
    refine en_one_ok (List.all_eq_true.mp n2 _ ?_) w2
    exact List.mem_of_getElem? (i := i) (by rw [List.getElem?_take_of_lt hlt]; exact ha)
  have hent := lv_entry (ρp.take M.1.1) (n := M.2.2.1) (by rw [en_sl1 _ hcat, List.length_take]; omega)
  have hg0 : ∀ ls : Array Slot, lv_has ls M.2.2.1 (lv_args 0 (ρp.take M.1.1)) → en_G M.2.2.1 D cl tys PP Ω X.1.1 M.1.2.2.2.2.1 M.1.2.2.2.1 sh0 w0 (va_A w0 s.heap.size) s.heap (M.1.2.1.1, [], (List.range M.1.1).map (fun i => (i, i)), M.1.2.1.2, none, 0, 0) sh0 ρp w0 s.heap [] ls := by
    intro ls hls
    refine ⟨⟨hlen, fun i a ha => ?_⟩, ⟨hls.1, hls.2.1, fun q hq => ?_⟩, hPa.2.2, hW, hP, hD, hS, en_F.rf, en_Gr.rf⟩
    · obtain ⟨v, v1, v2⟩ := hPa.2.1 i a ha
      have hnb := en_nob_ok (List.all_eq_true.mp n1 a (List.mem_of_getElem? ha))
      exact ⟨v, v1, v2, fun lo hi b o e => absurd e (hnb lo hi b o)⟩
    · obtain ⟨i, hi, rfl⟩ := List.mem_map.mp hq
      have hi := List.mem_range.mp hi
      have hv : ρp[i]? = some (ρp[i]'(by omega)) := List.getElem?_eq_getElem (by omega)
      refine ⟨_, hv, ?_⟩
      have hm : (i, ρp[i]'(by omega)) ∈ lv_args 0 (ρp.take M.1.1) := by
        rw [en_lva _ _ hcat]
        refine List.mem_of_getElem? (i := i) ?_
        rw [List.getElem?_mapIdx, List.getElem?_take_of_lt hi, hv]
        show some (0 + i, _) = some (i, _)
        rw [Nat.zero_add]
      exact hls.2.2 _ hm
  -- the cuts, by what falls
  have key : ∀ (N : Nat), ∀ U ∈ cuts, ∀ (sh : en_H) (ρ' : List Value) (ws : va_W) (H : Heap) (locs : List Loc) (ls : Array Slot), en_G M.2.2.1 D cl tys PP Ω X.1.1 M.1.2.2.2.2.1 M.1.2.2.2.1 sh0 w0 (va_A w0 s.heap.size) s.heap (en_sU U) sh ρ' ws H locs ls → M.1.1 ≤ ρ'.length → ρ'.take M.1.1 = ρp.take M.1.1 → (∀ t ∈ U.2.2.2.2.1, t.2 < ρ'.length) →
      (en_val ρ' U.2.2.2.2.1 + U.2.2.2.2.2).toNat < N → W p l e (en_rm M.2.1 M.1.2.2.2.2.2.1) s m (ρp.take M.1.1).toArray below meth c H locs U.2.2.2.1.1 U.2.2.2.1.2 (en_Z below (ρp.take M.1.1).toArray s D cl tys PP Ω X M sh0 w0 ρp (va_A w0 s.heap.size)) (F0 m U.1 ls []) := by
    intro N
    induction N with
    | zero => intro U _ sh ρ' ws H locs ls _ _ _ _ h; omega
    | succ N ih =>
      intro U hU sh ρ' ws H locs ls g hle htk hms hN
      have hrun := List.all_eq_true.mp h2 U hU
      refine en_run_ok (ρ0 := ρ') hPP hF32 hF64 hX hΩ hTY hexec hb hml hl hlocks hne hts hown hK hT hA hd hret htk hle ?_ f U.1 (en_sU U) hrun sh ρ' ws H locs ls [] ⟨[], (List.append_nil _).symm⟩ g rfl
      intro U' hU' sh' ρ2 ws' H' locs' ls' g' hle' htk' hms' hC
      obtain ⟨ρ3, ⟨t, rfl⟩, c1, c2⟩ := hC U rfl
      rw [en_val_up _ hms] at c1 c2
      exact ih U' hU' sh' ρ2 ws' H' locs' ls' g' hle' htk' hms' (by omega)
  rw [lg_entry_eq]
  refine en_run_ok (ρ0 := ρp) hPP hF32 hF64 hX hΩ hTY hexec hb hml hl hlocks hne hts hown hK hT hA hd hret rfl (by omega) ?_ f 0 _ h1 sh0 ρp w0 s.heap [] _ [] ⟨[], (List.append_nil _).symm⟩ (hg0 _ hent) rfl
  intro U' hU' sh' ρ2 ws' H' locs' ls' g' hle' htk' hms' _
  exact key _ U' hU' sh' ρ2 ws' H' locs' ls' g' hle' htk' hms' (Nat.lt_succ_self _)
end
