/-! the engine: locals, the stack, branches -/
def en_lv (ρ : List Value) (lo : List (Nat × Nat)) : List (Nat × Value) := lo.filterMap (fun q => (ρ[q.2]?).map fun v => (q.1, v))
def en_o1 (env : List en_A) (i : Nat) : Bool := match env[i]? with
  | some a => en_one a
  | none => false
theorem en_o1_ok {sh : en_H} {env : List en_A} {ρ : List Value} {i : Nat} {v : Value} (he : en_E sh env ρ) (h : en_o1 env i = true) (hv : ρ[i]? = some v) : v.category = 1 := by
  unfold en_o1 at h
  split at h
  · next a ha =>
    obtain ⟨w, h1, h2, -⟩ := he.2 i a ha
    have e := Option.some.inj (h1.symm.trans hv)
    subst e
    exact en_one_ok h h2
  · cases h
def en_s1l (env : List en_A) (lo : List (Nat × Nat)) (n i : Nat) : List (Nat × Nat) := (n, i) :: lo.filter (fun q => !(q.1 == n) && !(q.1 + 1 == n && !(en_o1 env q.2)))
def en_s2l (env : List en_A) (lo : List (Nat × Nat)) (n i : Nat) : List (Nat × Nat) := (n, i) :: lo.filter (fun q => !(q.1 == n) && (!(q.1 == n + 1) && !(q.1 + 1 == n && !(en_o1 env q.2))))
theorem en_L.has {ls : Array Slot} {nL : Nat} {ρ : List Value} {lo : List (Nat × Nat)} (h : en_L ls nL ρ lo) : lv_has ls nL (en_lv ρ lo) := ⟨h.1, h.2.1, fun q hq => by
  obtain ⟨z, hz, he⟩ := List.mem_filterMap.mp hq
  obtain ⟨v, h1, h2⟩ := h.2.2 z hz
  rw [h1] at he
  have e := Option.some.inj he
  subst e
  exact h2⟩
theorem en_L.mem {ls : Array Slot} {nL : Nat} {ρ : List Value} {lo : List (Nat × Nat)} (h : en_L ls nL ρ lo) {q : Nat × Nat} (hq : q ∈ lo) : ∃ v, ρ[q.2]? = some v ∧ ls[q.1]? = some (.val v) ∧ (q.1, v) ∈ en_lv ρ lo := by
  obtain ⟨v, h1, h2⟩ := h.2.2 q hq
  exact ⟨v, h1, h2, List.mem_filterMap.mpr ⟨q, hq, by rw [h1]; rfl⟩⟩
theorem en_L.st1 {sh : en_H} {env : List en_A} {ls ls' : Array Slot} {nL n i : Nat} {ρ : List Value} {v : Value} {lo : List (Nat × Nat)} (he : en_E sh env ρ) (h : en_L ls nL ρ lo) (hv : ρ[i]? = some v)
    (h' : lv_has ls' nL ((n, v) :: (en_lv ρ lo).filter (fun q => !(q.1 == n) && !(q.1 + 1 == n && q.2.category == 2)))) : en_L ls' nL ρ (en_s1l env lo n i) := by
  refine ⟨h'.1, h'.2.1, fun q hq => ?_⟩
  rcases List.mem_cons.mp hq with rfl | hq
  · exact ⟨v, hv, h'.2.2 (n, v) List.mem_cons_self⟩
  · obtain ⟨hq1, hq2⟩ := List.mem_filter.mp hq
    obtain ⟨w, w1, -, w3⟩ := h.mem hq1
    refine ⟨w, w1, h'.2.2 (q.1, w) (List.mem_cons_of_mem _ (List.mem_filter.mpr ⟨w3, ?_⟩))⟩
    simp only [Bool.and_eq_true, Bool.not_eq_true', Bool.and_eq_false_iff] at hq2 ⊢
    refine ⟨hq2.1, ?_⟩
    rcases hq2.2 with h2 | h2
    · exact Or.inl h2
    · refine Or.inr ?_
      rw [en_o1_ok he (by simpa using h2) w1]
      rfl
theorem en_L.st2 {sh : en_H} {env : List en_A} {ls ls' : Array Slot} {nL n i : Nat} {ρ : List Value} {v : Value} {lo : List (Nat × Nat)} (he : en_E sh env ρ) (h : en_L ls nL ρ lo) (hv : ρ[i]? = some v)
    (h' : lv_has ls' nL ((n, v) :: (en_lv ρ lo).filter (fun q => !(q.1 == n) && (!(q.1 == n + 1) && !(q.1 + 1 == n && q.2.category == 2))))) : en_L ls' nL ρ (en_s2l env lo n i) := by
  refine ⟨h'.1, h'.2.1, fun q hq => ?_⟩
  rcases List.mem_cons.mp hq with rfl | hq
  · exact ⟨v, hv, h'.2.2 (n, v) List.mem_cons_self⟩
  · obtain ⟨hq1, hq2⟩ := List.mem_filter.mp hq
    obtain ⟨w, w1, -, w3⟩ := h.mem hq1
    refine ⟨w, w1, h'.2.2 (q.1, w) (List.mem_cons_of_mem _ (List.mem_filter.mpr ⟨w3, ?_⟩))⟩
    simp only [Bool.and_eq_true, Bool.not_eq_true', Bool.and_eq_false_iff] at hq2 ⊢
    refine ⟨hq2.1, hq2.2.1, ?_⟩
    rcases hq2.2.2 with h2 | h2
    · exact Or.inl h2
    · refine Or.inr ?_
      rw [en_o1_ok he (by simpa using h2) w1]
      rfl
theorem en_lv_up {ρ t : List Value} : ∀ lo : List (Nat × Nat), (∀ q ∈ lo, ∃ v, ρ[q.2]? = some v) → en_lv (ρ ++ t) lo = en_lv ρ lo
  | [], _ => rfl
  | q :: r, h => by
    obtain ⟨v, hv⟩ := h q List.mem_cons_self
    have ih := en_lv_up (ρ := ρ) (t := t) r (fun z hz => h z (List.mem_cons_of_mem _ hz))
    unfold en_lv at ih ⊢
    rw [List.filterMap_cons, List.filterMap_cons, hv, en_atL hv, ih]
def en_find (lo : List (Nat × Nat)) (n : Nat) : Option Nat := (lo.find? (fun q => q.1 == n)).map Prod.snd
theorem en_find_ok {lo : List (Nat × Nat)} {n i : Nat} (h : en_find lo n = some i) : (n, i) ∈ lo := by
  obtain ⟨q, hq, rfl⟩ := Option.map_eq_some_iff.mp h
  have hm := List.mem_of_find?_eq_some hq
  have hn : q.1 = n := by simpa using List.find?_some hq
  subst hn
  exact hm
/-- the three sorts of a load or store: an int, a reference, a long -/
def en_isI : en_A → Bool
  | .inl _ => true
  | _ => false
def en_isR : en_A → Bool
  | .inr (.inl _) => true
  | _ => false
def en_isL : en_A → Bool
  | .inr (.inr c) => c == 0
  | _ => false
theorem en_isI_ok {sh : en_H} {a : en_A} {v : Value} (h : en_isI a = true) (hv : en_V sh a v) : ∃ x : Int32, v = .int x := by
  rcases a with a | k | c
  · obtain ⟨x, hx, -⟩ := hv
    exact ⟨x, hx⟩
  · cases h
  · cases h
theorem en_isR_ok {sh : en_H} {a : en_A} {v : Value} (h : en_isR a = true) (hv : en_V sh a v) : ∃ x : Nat, v = .ref x := by
  rcases a with a | k | c
  · cases h
  · obtain ⟨q, -, hq⟩ := hv
    exact ⟨_, hq⟩
  · cases h
theorem en_isL_ok {sh : en_H} {a : en_A} {v : Value} (h : en_isL a = true) (hv : en_V sh a v) : ∃ x : Int64, v = .long x := by
  rcases a with a | k | c
  · cases h
  · cases h
  · have e : c = 0 := by simpa [en_isL] using h
    subst e
    exact en_lng hv
section
variable {p : Program} {l : Launch} {e : Env} {R : Room} {s : State} {m : MethodId} {args : Array Value} {below : List Frame} {meth : Method} {c : Code} {Q : State → Prop} {cc : ByteArray}
variable {nL : Nat} {D : va_G} {cl : List vw_C} {tys : List (ClassId × FieldType)} {PP : Int32 → Int32 → Prop} {Ω : Nat → en_H → va_W → Prop} {KT : List en_D} {tk : List Nat} {md : List (Nat × Nat)} {sh0 sh : en_H} {w0 : va_W} {A : Nat → Prop} {H0 : Heap} {σ σ' : en_S} {ρ0 ρ : List Value} {ws : va_W} {H : Heap} {locs : List Loc} {ls : Array Slot} {st : List Value} {pc pc' : Nat}
def en_lod (t : en_A → Bool) (σ : en_S) (n : Nat) : Option en_S := match en_find σ.2.2.1 n with
  | some i => match σ.1[i]? with
    | some a => if t a = true then some (σ.1, i :: σ.2.1, σ.2.2) else none
    | none => none
  | none => none
theorem en_lod_go {n : Nat} {t : en_A → Bool} (h : en_lod t σ n = some σ') (hp : ∃ t, ρ = ρ0 ++ t) (g : en_G nL D cl tys PP Ω KT tk md sh0 w0 A H0 σ sh ρ ws H locs ls) (hst : en_T ρ σ.2.1 st)
    (row : ∀ (a : en_A) (v : Value), t a = true → en_V sh a v → ls[n]? = some (.val v) → W p l e R s m args below meth c H locs σ.2.2.2.2.2.1 σ.2.2.2.2.2.2 Q (F0 m pc' ls (v :: st)) → W p l e R s m args below meth c H locs σ.2.2.2.2.2.1 σ.2.2.2.2.2.2 Q (F0 m pc ls st))
    (k : en_OK p l e R s m args below meth c Q nL D cl tys PP Ω KT tk md sh0 w0 A H0 ρ0 pc' σ') : W p l e R s m args below meth c H locs σ.2.2.2.2.2.1 σ.2.2.2.2.2.2 Q (F0 m pc ls st) := by
  unfold en_lod at h
  split at h
  · next i hi =>
    split at h
    · next a ha =>
      split at h
      · next ht =>
        have e0 := Option.some.inj h
        subst e0
        obtain ⟨v, h1, h2, -⟩ := g.2.1.mem (en_find_ok hi)
        obtain ⟨w, w1, w2, -⟩ := g.1.2 i a ha
        have e1 := Option.some.inj (w1.symm.trans h1)
        subst e1
        exact row a w ht w2 h2 (en_stk_go hp g (en_T.mk h1 hst) k)
      · cases h
    · cases h
  · cases h
def en_sto (t : en_A → Bool) (σ : en_S) (n : Nat) : Option en_S := match σ.2.1 with
  | i :: rest => match σ.1[i]? with
    | some a => if t a = true then some (σ.1, rest, en_s1l σ.1 σ.2.2.1 n i, σ.2.2.2) else none
    | none => none
  | _ => none
theorem en_sto_go {n : Nat} {t : en_A → Bool} (h : en_sto t σ n = some σ') (hp : ∃ t, ρ = ρ0 ++ t) (g : en_G nL D cl tys PP Ω KT tk md sh0 w0 A H0 σ sh ρ ws H locs ls) (hst : en_T ρ σ.2.1 st)
    (row : ∀ (a : en_A) (v : Value) (rest : List Value) (lv lv' : List (Nat × Value)), t a = true → en_V sh a v → lv_has ls nL lv → (n, v) :: lv.filter (fun q => !(q.1 == n) && !(q.1 + 1 == n && q.2.category == 2)) = lv' → (∀ ls' : Array Slot, lv_has ls' nL lv' → W p l e R s m args below meth c H locs σ.2.2.2.2.2.1 σ.2.2.2.2.2.2 Q (F0 m pc' ls' rest)) → W p l e R s m args below meth c H locs σ.2.2.2.2.2.1 σ.2.2.2.2.2.2 Q (F0 m pc ls (v :: rest)))
    (k : en_OK p l e R s m args below meth c Q nL D cl tys PP Ω KT tk md sh0 w0 A H0 ρ0 pc' σ') : W p l e R s m args below meth c H locs σ.2.2.2.2.2.1 σ.2.2.2.2.2.2 Q (F0 m pc ls st) := by
  unfold en_sto at h
  split at h
  · next i rest hs =>
    split at h
    · next a ha =>
      split at h
      · next ht =>
        have e0 := Option.some.inj h
        subst e0
        rw [hs] at hst
        have hq9 := hst.cons; clear hst; obtain ⟨v, st1, rfl, hv, hst⟩ := hq9
        obtain ⟨w, w1, w2, -⟩ := g.1.2 i a ha
        have e1 := Option.some.inj (w1.symm.trans hv)
        subst e1
        exact row a w st1 _ _ ht w2 g.2.1.has rfl fun ls' hl' => k sh ρ ws H locs ls' st1 hp ⟨g.1, g.2.1.st1 g.1 hv hl', g.2.2⟩ hst
      · cases h
    · cases h
  · cases h
def en_stl (σ : en_S) (n : Nat) : Option en_S := match σ.2.1 with
  | i :: rest => if en_srt σ.1 i 0 = true then some (σ.1, rest, en_s2l σ.1 σ.2.2.1 n i, σ.2.2.2) else none
  | _ => none
theorem en_stl_go {n : Nat} (h : en_stl σ n = some σ') (hp : ∃ t, ρ = ρ0 ++ t) (g : en_G nL D cl tys PP Ω KT tk md sh0 w0 A H0 σ sh ρ ws H locs ls) (hst : en_T ρ σ.2.1 st)
    (row : ∀ (x : Int64) (rest : List Value) (lv lv' : List (Nat × Value)), lv_has ls nL lv → (n, Value.long x) :: lv.filter (fun q => !(q.1 == n) && (!(q.1 == n + 1) && !(q.1 + 1 == n && q.2.category == 2))) = lv' → (∀ ls' : Array Slot, lv_has ls' nL lv' → W p l e R s m args below meth c H locs σ.2.2.2.2.2.1 σ.2.2.2.2.2.2 Q (F0 m pc' ls' rest)) → W p l e R s m args below meth c H locs σ.2.2.2.2.2.1 σ.2.2.2.2.2.2 Q (F0 m pc ls (.long x :: rest)))
    (k : en_OK p l e R s m args below meth c Q nL D cl tys PP Ω KT tk md sh0 w0 A H0 ρ0 pc' σ') : W p l e R s m args below meth c H locs σ.2.2.2.2.2.1 σ.2.2.2.2.2.2 Q (F0 m pc ls st) := by
  unfold en_stl at h
  split at h
  · next i rest hs =>
    split at h
    · next ht =>
      have e0 := Option.some.inj h
      subst e0
      rw [hs] at hst
      have hq9 := hst.cons; clear hst; obtain ⟨v, st1, rfl, hv, hst⟩ := hq9
      obtain ⟨w, w1, w2⟩ := en_srt_ok g.1 ht
      obtain ⟨x, rfl⟩ := en_lng w2
      have e1 := Option.some.inj (w1.symm.trans hv)
      subst e1
      exact row x st1 _ _ g.2.1.has rfl fun ls' hl' => k sh ρ ws H locs ls' st1 hp ⟨g.1, g.2.1.st2 g.1 hv hl', g.2.2⟩ hst
    · cases h
  · cases h
/-- iinc -/
def en_inc (σ : en_S) (n : Nat) (d : Int) : Option en_S := match en_find σ.2.2.1 n with
  | some i => match en_eff σ.1 i with
    | some a => match en_add a ((Int32.ofInt d).toInt, (Int32.ofInt d).toInt) with
      | some r => some (σ.1 ++ [.inl (r.1, r.2.1, en_rl σ.1 i r.2.2)], σ.2.1, en_s1l (σ.1 ++ [.inl (r.1, r.2.1, en_rl σ.1 i r.2.2)]) σ.2.2.1 n σ.1.length, σ.2.2.2)
      | none => none
    | none => none
  | none => none
theorem en_inc_go {n : Nat} {d : Int} (hexec : p.tables.exec = Jvm.exec) (hb : c.code = cc) (hdg : decode cc pc = .ok (.iinc n d, 3)) (hn : n < nL) (h : en_inc σ n d = some σ') (hp : ∃ t, ρ = ρ0 ++ t) (g : en_G nL D cl tys PP Ω KT tk md sh0 w0 A H0 σ sh ρ ws H locs ls) (hst : en_T ρ σ.2.1 st) (k : en_OK p l e R s m args below meth c Q nL D cl tys PP Ω KT tk md sh0 w0 A H0 ρ0 (pc + 3) σ') : W p l e R s m args below meth c H locs σ.2.2.2.2.2.1 σ.2.2.2.2.2.2 Q (F0 m pc ls st) := by
  unfold en_inc at h
  split at h
  · next i hi =>
    split at h
    · next a ha =>
      split at h
      · next r hr =>
        have e0 := Option.some.inj h
        subst e0
        obtain ⟨v, h1, h2, h3⟩ := g.2.1.mem (en_find_ok hi)
        obtain ⟨x, hx, hx1, hx2⟩ := en_eff_ok g.1 ha
        have e1 : v = .int x := Option.some.inj (h1.symm.trans hx)
        subst e1
        obtain ⟨-, r1, r2, r3⟩ := en_add_ok a _ r x (Int32.ofInt d) hr hx1 hx2 (Int.le_refl _) (Int.le_refl _)
        obtain ⟨kk, hkk⟩ := List.getElem?_of_mem h3
        have g1 := g.push (a := .inl (r.1, r.2.1, en_rl σ.1 i r.2.2)) (v := .int (x + Int32.ofInt d)) (stk := σ.2.1) ⟨_, rfl, r1, r2⟩ (en_rl_ok g.1 hx r3)
        refine lv_iinc hexec hb hdg g.2.1.has hkk rfl hn rfl fun ls' hl' => ?_
        refine k sh (ρ ++ [.int (x + Int32.ofInt d)]) ws H locs ls' st (en_pre hp) ⟨g1.1, ?_, g1.2.2⟩ hst.up
        have hlen : ρ.length = σ.1.length := g.1.1
        have hLL : en_lv (ρ ++ [.int (x + Int32.ofInt d)]) σ.2.2.1 = en_lv ρ σ.2.2.1 := en_lv_up _ fun q hq => by
          obtain ⟨w, w1, -⟩ := g.2.1.2.2 q hq
          exact ⟨w, w1⟩
        refine en_L.st1 (v := .int (x + Int32.ofInt d)) g1.1 g.2.1.up (by rw [← hlen]; exact en_last) ?_
        rw [hLL]
        exact hl'
      · cases h
    · cases h
  · cases h
/-- the stack -/
def en_dup (σ : en_S) : Option en_S := match σ.2.1 with
  | i :: rest => if en_o1 σ.1 i = true then some (σ.1, i :: i :: rest, σ.2.2) else none
  | _ => none
def en_dup2 (σ : en_S) : Option en_S := match σ.2.1 with
  | j :: i :: rest => if en_o1 σ.1 j = true then (if en_o1 σ.1 i = true then some (σ.1, j :: i :: j :: i :: rest, σ.2.2) else none) else none
  | _ => none
def en_pop (σ : en_S) : Option en_S := match σ.2.1 with
  | i :: rest => if en_o1 σ.1 i = true then some (σ.1, rest, σ.2.2) else none
  | _ => none
theorem en_dup_go (hexec : p.tables.exec = Jvm.exec) (hb : c.code = cc) (hdg : decode cc pc = .ok (.dup, 1)) (h : en_dup σ = some σ') (hp : ∃ t, ρ = ρ0 ++ t) (g : en_G nL D cl tys PP Ω KT tk md sh0 w0 A H0 σ sh ρ ws H locs ls) (hst : en_T ρ σ.2.1 st) (k : en_OK p l e R s m args below meth c Q nL D cl tys PP Ω KT tk md sh0 w0 A H0 ρ0 (pc + 1) σ') : W p l e R s m args below meth c H locs σ.2.2.2.2.2.1 σ.2.2.2.2.2.2 Q (F0 m pc ls st) := by
  unfold en_dup at h
  split at h
  · next i rest hs =>
    split at h
    · next ht =>
      have e0 := Option.some.inj h
      subst e0
      rw [hs] at hst
      have hq9 := hst.cons; clear hst; obtain ⟨v, st1, rfl, hv, hst⟩ := hq9
      exact lv_dup hexec hb hdg (en_o1_ok g.1 ht hv) (en_stk_go hp g (en_T.mk hv (en_T.mk hv hst)) k)
    · cases h
  · cases h
theorem en_dup2_go (hexec : p.tables.exec = Jvm.exec) (hb : c.code = cc) (hdg : decode cc pc = .ok (.dup2, 1)) (h : en_dup2 σ = some σ') (hp : ∃ t, ρ = ρ0 ++ t) (g : en_G nL D cl tys PP Ω KT tk md sh0 w0 A H0 σ sh ρ ws H locs ls) (hst : en_T ρ σ.2.1 st) (k : en_OK p l e R s m args below meth c Q nL D cl tys PP Ω KT tk md sh0 w0 A H0 ρ0 (pc + 1) σ') : W p l e R s m args below meth c H locs σ.2.2.2.2.2.1 σ.2.2.2.2.2.2 Q (F0 m pc ls st) := by
  unfold en_dup2 at h
  split at h
  · next j i rest hs =>
    split at h
    · next ht =>
      split at h
      · next ht2 =>
        have e0 := Option.some.inj h
        subst e0
        rw [hs] at hst
        have hq9 := hst.cons; clear hst; obtain ⟨w, st1, rfl, hw, hst⟩ := hq9
        have hq9 := hst.cons; clear hst; obtain ⟨v, st2, rfl, hv, hst⟩ := hq9
        exact lv_dup2_11 hexec hb hdg (en_o1_ok g.1 ht hw) (en_o1_ok g.1 ht2 hv) (en_stk_go hp g (en_T.mk hw (en_T.mk hv (en_T.mk hw (en_T.mk hv hst)))) k)
      · cases h
    · cases h
  · cases h
theorem en_pop_go (hexec : p.tables.exec = Jvm.exec) (hb : c.code = cc) (hdg : decode cc pc = .ok (.pop, 1)) (h : en_pop σ = some σ') (hp : ∃ t, ρ = ρ0 ++ t) (g : en_G nL D cl tys PP Ω KT tk md sh0 w0 A H0 σ sh ρ ws H locs ls) (hst : en_T ρ σ.2.1 st) (k : en_OK p l e R s m args below meth c Q nL D cl tys PP Ω KT tk md sh0 w0 A H0 ρ0 (pc + 1) σ') : W p l e R s m args below meth c H locs σ.2.2.2.2.2.1 σ.2.2.2.2.2.2 Q (F0 m pc ls st) := by
  unfold en_pop at h
  split at h
  · next i rest hs =>
    split at h
    · next ht =>
      have e0 := Option.some.inj h
      subst e0
      rw [hs] at hst
      have hq9 := hst.cons; clear hst; obtain ⟨v, st1, rfl, hv, hst⟩ := hq9
      exact lv_pop hexec hb hdg (en_o1_ok g.1 ht hv) (en_stk_go hp g hst k)
    · cases h
  · cases h
end
