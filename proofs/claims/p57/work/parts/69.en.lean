/-! the engine: what stands behind a call -/
theorem en_Fc.eq {md : List (Nat × Nat)} {k : Nat} {e e' : va_E} (h : en_Fc md k e e') (hn : ∀ j, (k, j) ∉ md) : e' = e := by
  rcases e with x | o <;> rcases e' with x' | o'
  · rw [h.2.2 (hn 0)]
  · exact h.elim
  · exact h.elim
  · obtain ⟨c, fs⟩ := o
    obtain ⟨c', fs'⟩ := o'
    obtain ⟨h1, -, h3⟩ := h
    have h1 : c' = c := h1
    have h3 : fs' = fs := List.ext_getElem? fun j => h3 j (hn j)
    rw [h1, h3]
/-- a cell of a kind that the callee doesn't look at -/
theorem en_Px.old {tys : List (ClassId × FieldType)} {PP : Int32 → Int32 → Prop} {KT : List en_D} {tk : List Nat} {md : List (Nat × Nat)} {sh : en_H} {w : va_W} {u : en_H × va_W} (h : en_Px tys PP KT tk md sh w u) (hm : ∀ z ∈ md, z.1 ∈ tk) {q k : Nat} {e : va_E} (hk : k ∉ tk) (hq : sh.1[q]? = some k) (hw : w[q]? = some (sh.2 q, e)) : u.1.1[q]? = some k ∧ u.1.2 q = sh.2 q ∧ u.2[q]? = some (sh.2 q, e) := by
  obtain ⟨h1, h2, h3⟩ := h
  obtain ⟨g1, g2⟩ := h1.at hq
  obtain ⟨e', f1, f2⟩ := h3 q k e hq hw
  have ee := f2.eq fun j hj => hk (hm _ hj)
  subst ee
  exact ⟨g1, g2, f1⟩
theorem en_Px.wd {tys : List (ClassId × FieldType)} {PP : Int32 → Int32 → Prop} {KT : List en_D} {tk tk' : List Nat} {md : List (Nat × Nat)} {sh : en_H} {ex : Nat → Prop} {w : va_W} {u : en_H × va_W} (h : en_Px tys PP KT tk' md sh w u) (hm : ∀ z ∈ md, z.1 ∈ tk') (hW : en_W PP KT tk sh tys ex w) : en_W PP KT tk u.1 tys ex u.2 := by
  refine ⟨h.2.1.1, fun q k hq => ?_⟩
  by_cases hk : k ∈ tk'
  · obtain ⟨e, e1, e2⟩ := h.2.1.2 q k hq
    exact ⟨e, e1, fun _ _ => e2 hk (fun z => z)⟩
  · obtain ⟨⟨t, ht, ht2⟩, h2⟩ := h.1
    have hlt : q < sh.1.length := by
      rcases Nat.lt_or_ge q sh.1.length with hlt | hge
      · exact hlt
      · rw [ht, List.getElem?_append_right hge] at hq
        exact absurd (ht2 k (List.mem_of_getElem? hq)).1 hk
    have hq0 : sh.1[q]? = some k := by
      rw [ht, List.getElem?_append_left hlt] at hq
      exact hq
    obtain ⟨e, e1, e2⟩ := hW.2 q k hq0
    obtain ⟨-, g2, g3⟩ := h.old hm hk hq0 e1
    refine ⟨e, by rw [g2]; exact g3, fun a b => ?_⟩
    obtain ⟨kd, k1, k2⟩ := e2 a b
    exact ⟨kd, k1, k2.gr h.1⟩
def en_rfs (env : List en_A) : List Nat → List en_A → List en_A
  | i :: is, .inl (lo, hi, _, _) :: as => en_rfs (en_ref env i lo hi) is as
  | _ :: is, .inr _ :: as => en_rfs env is as
  | _, _ => env
theorem en_rfs_ok {sh : en_H} {ρ : List Value} : ∀ (is : List Nat) (as : List en_A) (env : List en_A), en_E sh env ρ → (∀ (k i : Nat) (a : en_A), is[k]? = some i → as[k]? = some a → ∃ v, ρ[i]? = some v ∧ en_V sh a v) → en_E sh (en_rfs env is as) ρ
  | [], as, env, h, _ => by cases as <;> exact h
  | _ :: _, [], env, h, _ => h
  | i :: is, .inl (lo, hi, b, o) :: as, env, h, hv => by
    obtain ⟨v, v1, x, rfl, x1, x2⟩ := hv 0 i _ rfl rfl
    exact en_rfs_ok is as _ (en_ref_ok h v1 x1 x2) (fun k i a h1 h2 => hv (k + 1) i a h1 h2)
  | i :: is, .inr z :: as, env, h, hv => en_rfs_ok is as _ h (fun k i a h1 h2 => hv (k + 1) i a h1 h2)
theorem en_rfs_len : ∀ (is : List Nat) (as : List en_A) (env : List en_A), (en_rfs env is as).length = env.length
  | [], as, env => by cases as <;> rfl
  | _ :: _, [], env => rfl
  | i :: is, .inl (lo, hi, b, o) :: as, env => by
    show (en_rfs (en_ref env i lo hi) is as).length = _
    rw [en_rfs_len is as, en_ref_len]
  | i :: is, .inr z :: as, env => en_rfs_len is as env
theorem en_E.apps {sh : en_H} : ∀ (as : List en_A) (vs : List Value) (env : List en_A) (ρ : List Value), en_E sh env ρ → as.all en_nob = true → vs.length = as.length → (∀ (k : Nat) (a : en_A), as[k]? = some a → ∃ v, vs[k]? = some v ∧ en_V sh a v) → en_E sh (env ++ as) (ρ ++ vs)
  | [], [], env, ρ, h, _, _, _ => by rw [List.append_nil, List.append_nil]; exact h
  | [], _ :: _, _, _, _, _, hl, _ => by simp at hl
  | _ :: _, [], _, _, _, _, hl, _ => by simp at hl
  | a :: as, v :: vs, env, ρ, h, hn, hl, hv => by
    simp only [List.all_cons, Bool.and_eq_true] at hn
    obtain ⟨w, w1, w2⟩ := hv 0 a rfl
    have ew : v = w := Option.some.inj w1
    subst ew
    have h2 := h.push w2 (fun lo hi b o e => absurd e (en_nob_ok hn.1 lo hi b o))
    have h3 := en_E.apps as vs _ _ h2 hn.2 (by simpa using hl) (fun k a' ha' => hv (k + 1) a' ha')
    rw [List.append_assoc, List.append_assoc] at h3
    exact h3
def en_wt (env : List en_A) : List Nat → Nat
  | [] => 0
  | i :: r => (if en_o1 env i = true then 1 else 2) + en_wt env r
def en_nu2 (μ0 : List Nat) (n N : Nat) (i : Nat) : Nat := if i < n then en_nu μ0 i else N + (i - n)
/-- the state behind a call, for one way that it may come out -/
def en_out (om : List (Nat × Nat × Nat)) (σ : en_S) (κ : en_K) (rs : Nat) (μ0 rest : List Nat) (o : en_Pt) : en_S :=
  en_sat (en_rfs σ.1 μ0 (o.1.take κ.1) ++ o.1.drop κ.1, (if rs < 4 then σ.1.length :: rest else rest), σ.2.2.1, o.2.map (en_mpf (en_nu2 μ0 κ.1 σ.1.length)) ++ σ.2.2.2.1.filter (en_kp om σ.1 κ.2.2.2.1), σ.2.2.2.2.1, σ.2.2.2.2.2.1 + κ.2.2.2.2.2.1.1, σ.2.2.2.2.2.2 + κ.2.2.2.2.2.1.2)
/-- whether a way of coming out fits what is known of the arguments -/
def en_fea (env : List en_A) : List Nat → List en_A → Bool
  | i :: is, .inl (lo, hi, _, _) :: as => (match en_eff env i with
    | some r => decide (lo ≤ r.2) && decide (r.1 ≤ hi)
    | none => true) && en_fea env is as
  | _ :: is, .inr _ :: as => en_fea env is as
  | _, _ => true
theorem en_fea_ok {sh : en_H} {env : List en_A} {ρ : List Value} (he : en_E sh env ρ) {sh' : en_H} : ∀ (is : List Nat) (as : List en_A), (∀ (k i : Nat) (a : en_A), is[k]? = some i → as[k]? = some a → ∃ v, ρ[i]? = some v ∧ en_V sh' a v) → en_fea env is as = true
  | [], as, _ => by cases as <;> rfl
  | _ :: _, [], _ => rfl
  | i :: is, .inl (lo, hi, b, o) :: as, hv => by
    simp only [en_fea, Bool.and_eq_true]
    refine ⟨?_, en_fea_ok he is as (fun k i a h1 h2 => hv (k + 1) i a h1 h2)⟩
    obtain ⟨v, v1, x, rfl, x1, x2⟩ := hv 0 i _ rfl rfl
    split
    · next r hr =>
      obtain ⟨y, y1, y2, y3⟩ := en_eff_ok he hr
      have e0 : y = x := Value.int.inj (Option.some.inj (y1.symm.trans v1))
      subst e0
      have x1 : lo ≤ y.toInt := x1
      have x2 : y.toInt ≤ hi := x2
      simp only [Bool.and_eq_true, decide_eq_true_eq]
      omega
    · rfl
  | i :: is, .inr z :: as, hv => en_fea_ok he is as (fun k i a h1 h2 => hv (k + 1) i a h1 h2)
/-- whether a call may stand here -/
def en_may (σ : en_S) (κ : en_K) (tk : List Nat) (md : List (Nat × Nat)) (exs : List Nat) (mc ms : Nat) (μ : List Nat) : Bool :=
  en_chk σ.1 σ.2.2.2.1 μ κ.2.1 && (κ.2.2.2.2.1.all (fun k => tk.contains k) && (κ.2.2.2.1.all (fun z => md.contains z && κ.2.2.2.2.1.contains z.1) && ((match σ.2.2.2.2.1 with
    | none => true
    | some o => (match en_kd σ.1 tk o.1 with
      | some k => !(κ.2.2.2.2.1.contains k)
      | none => false) && κ.2.2.2.2.2.2.isEmpty) && (κ.2.2.2.2.2.2.all (fun x => exs.contains x) && (decide (σ.2.2.2.2.2.1 + κ.2.2.2.2.2.1.1 ≤ mc) && (decide (σ.2.2.2.2.2.2 + κ.2.2.2.2.2.1.2 ≤ ms) && κ.2.2.1.all (fun o => (o.1.drop κ.1).all en_nob && decide (κ.1 ≤ o.1.length))))))))
section
variable {p : Program} {l : Launch} {e : Env} {R : Room} {s : State} {m : MethodId} {args : Array Value} {below : List Frame} {meth : Method} {c : Code} {Q : State → Prop} {cc : ByteArray}
variable {nL : Nat} {D : va_G} {cl : List vw_C} {tys : List (ClassId × FieldType)} {PP : Int32 → Int32 → Prop} {Ω : Nat → en_H → va_W → Prop} {KT : List en_D} {tk : List Nat} {md : List (Nat × Nat)} {om : List (Nat × Nat × Nat)} {sh0 sh : en_H} {w0 : va_W} {A : Nat → Prop} {H0 : Heap} {σ σ' : en_S} {ρ0 ρ : List Value} {ws : va_W} {H : Heap} {locs : List Loc} {ls : Array Slot} {st : List Value} {pc pc' : Nat} {TY : List FieldType}
theorem en_may_ok {κ : en_K} {exs : List Nat} {mc ms : Nat} {μ : List Nat} (h : en_may σ κ tk md exs mc ms μ = true) : en_chk σ.1 σ.2.2.2.1 μ κ.2.1 = true ∧ (∀ k ∈ κ.2.2.2.2.1, k ∈ tk) ∧ (∀ z ∈ κ.2.2.2.1, z ∈ md) ∧ (∀ z ∈ κ.2.2.2.1, z.1 ∈ κ.2.2.2.2.1) ∧
    (∀ o, σ.2.2.2.2.1 = some o → (∃ k, en_kd σ.1 tk o.1 = some k ∧ k ∉ κ.2.2.2.2.1) ∧ κ.2.2.2.2.2.2 = []) ∧ (∀ x ∈ κ.2.2.2.2.2.2, x ∈ exs) ∧ σ.2.2.2.2.2.1 + κ.2.2.2.2.2.1.1 ≤ mc ∧ σ.2.2.2.2.2.2 + κ.2.2.2.2.2.1.2 ≤ ms ∧ ∀ o ∈ κ.2.2.1, (o.1.drop κ.1).all en_nob = true ∧ κ.1 ≤ o.1.length := by
  unfold en_may at h
  simp only [Bool.and_eq_true] at h
  obtain ⟨h1, h2, h3, h4, h5, h6, h7, h8⟩ := h
  refine ⟨h1, fun k hk => List.contains_iff_mem.mp (List.all_eq_true.mp h2 k hk), fun z hz => ?_, fun z hz => ?_, fun o ho => ?_, fun x hx => List.contains_iff_mem.mp (List.all_eq_true.mp h5 x hx), of_decide_eq_true h6, of_decide_eq_true h7, fun o ho => ?_⟩
  · have := List.all_eq_true.mp h3 z hz
    simp only [Bool.and_eq_true] at this
    exact List.contains_iff_mem.mp this.1
  · have := List.all_eq_true.mp h3 z hz
    simp only [Bool.and_eq_true] at this
    exact List.contains_iff_mem.mp this.2
  · rw [ho] at h4
    simp only [Bool.and_eq_true] at h4
    obtain ⟨h4, h9⟩ := h4
    refine ⟨?_, List.isEmpty_iff.mp h9⟩
    split at h4
    · next k hk => exact ⟨k, hk, fun hm => by rw [List.contains_iff_mem.mpr hm] at h4; cases h4⟩
    · cases h4
  · have := List.all_eq_true.mp h8 o ho
    simp only [Bool.and_eq_true, decide_eq_true_eq] at this
    exact this
theorem en_back {κ : en_K} {exs : List Nat} {mc ms rs : Nat} {μ μ0 rest : List Nat} {ρp : List Value} {res : Option Value} {u : en_H × va_W} {H1 : Heap} {locs1 : List Loc} {A1 : Nat → Prop} (hΩ : en_Om om sh0 Ω) (hPP : ∀ x y, PP x y → 0 ≤ x.toInt ∧ x.toInt ≤ 29 ∧ 0 ≤ y.toInt ∧ y.toInt ≤ 19) (hm : en_may σ κ tk md exs mc ms μ = true) (hμ : μ.take κ.1 = μ0) (hn : μ0.length = κ.1) (hp : ∃ t, ρ = ρ0 ++ t) (g : en_G nL D cl tys PP Ω KT tk md sh0 w0 A H0 σ sh ρ ws H locs ls) (hst : en_T ρ rest st)
    (hρp : ∀ i, i < μ.length → ρp[i]? = ρ[en_nu μ i]?) (hpo : en_Po tys PP Ω KT κ sh ws ρp res u) (hP : va_P D cl u.2 H1) (hD : va_D A1 u.2) (hA1 : ∀ q, A1 q → A q) (hS : va_S A H0 H1 locs1) (hres : rs < 4 → ∃ v, res = some v) (hres2 : ¬ rs < 4 → res = none)
    (k : ∀ o ∈ κ.2.2.1, en_fea σ.1 μ0 (o.1.take κ.1) = true → en_OK p l e R s m args below meth c Q nL D cl tys PP Ω KT tk md sh0 w0 A H0 ρ0 (pc + 3) (en_out om σ κ rs μ0 rest o)) : W p l e R s m args below meth c H1 locs1 (σ.2.2.2.2.2.1 + κ.2.2.2.2.2.1.1) (σ.2.2.2.2.2.2 + κ.2.2.2.2.2.1.2) Q (F0 m (pc + 3) ls (res.toList ++ st)) := by
  obtain ⟨m1, m2, m3, m4, m5, m6, m7, m8, m9⟩ := en_may_ok hm
  obtain ⟨hpx, o, ho, ρ', ⟨a1, a2, a3⟩, a4, a5⟩ := hpo
  obtain ⟨hnb, hle⟩ := m9 o ho
  have hlen : ρ.length = σ.1.length := g.1.1
  have hμl : κ.1 ≤ μ.length := by
    have : (μ.take κ.1).length = κ.1 := by rw [hμ, hn]
    rw [List.length_take] at this
    omega
  have hμi : ∀ i, i < κ.1 → en_nu μ0 i = en_nu μ i := fun i hi => by
    unfold en_nu
    rw [← hμ, List.getElem?_take_of_lt hi]
  have hold : ∀ i, i < κ.1 → ρ'[i]? = ρ[en_nu μ0 i]? := fun i hi => by rw [a4 i hi, hρp i (by omega), hμi i hi]
  -- the further symbols' values
  have hargs : ∀ (j i : Nat) (a : en_A), μ0[j]? = some i → (o.1.take κ.1)[j]? = some a → ∃ v, ρ[i]? = some v ∧ en_V u.1 a v := fun j i a hj ha => by
    have hjn : j < κ.1 := by rw [← hn]; exact (List.getElem?_eq_some_iff.mp hj).1
    rw [List.getElem?_take_of_lt hjn] at ha
    obtain ⟨v, v1, v2⟩ := a2 j a ha
    refine ⟨v, ?_, v2⟩
    have := hold j hjn
    unfold en_nu at this
    rw [hj] at this
    rw [← v1, this]
    rfl
  have hE1 : en_E u.1 (en_rfs σ.1 μ0 (o.1.take κ.1)) ρ := en_rfs_ok _ _ _ (g.1.gr hpx.1) hargs
  have hE2 : en_E u.1 (en_rfs σ.1 μ0 (o.1.take κ.1) ++ o.1.drop κ.1) (ρ ++ ρ'.drop κ.1) := by
    refine en_E.apps _ _ _ _ hE1 hnb (by rw [List.length_drop, List.length_drop, a1]) fun j a ha => ?_
    rw [List.getElem?_drop] at ha
    obtain ⟨v, v1, v2⟩ := a2 _ a ha
    exact ⟨v, by rw [List.getElem?_drop]; exact v1, v2⟩
  have hmap : ∀ i v, ρ'[i]? = some v → (ρ ++ ρ'.drop κ.1)[en_nu2 μ0 κ.1 σ.1.length i]? = some v := fun i v hv => by
    unfold en_nu2
    split
    · next hi =>
      rw [hold i hi] at hv
      exact en_atL hv
    · next hi =>
      rw [List.getElem?_append_right (by omega), List.getElem?_drop, hlen, show κ.1 + (σ.1.length + (i - κ.1) - σ.1.length) = i by omega]
      exact hv
  obtain ⟨ex, hW, hx⟩ := g.wd
  have hst2 : en_T (ρ ++ ρ'.drop κ.1) (if rs < 4 then σ.1.length :: rest else rest) (res.toList ++ st) := by
    split
    · next hr =>
      obtain ⟨v, rfl⟩ := hres hr
      refine en_T.mk ?_ hst.up
      have h5 := a5 v rfl
      have := hmap κ.1 v h5
      unfold en_nu2 at this
      rw [if_neg (by omega), Nat.sub_self, Nat.add_zero] at this
      exact this
    · next hr =>
      rw [hres2 hr]
      exact hst.up
  refine k o ho (en_fea_ok g.1 _ _ hargs) u.1 (ρ ++ ρ'.drop κ.1) u.2 H1 locs1 ls (res.toList ++ st) (en_pre hp) (en_G.sat hPP ⟨hE2, g.2.1.up, fun f hf => ?_, ?_, hP, ⟨hD.1, fun j q hq => hA1 _ (hD.2 j q hq)⟩, hS, ?_, ?_⟩) hst2
  · rcases List.mem_append.mp hf with hf | hf
    · obtain ⟨f0, hf0, rfl⟩ := List.mem_map.mp hf
      exact en_mpf_to hmap (a3 f0 hf0)
    · obtain ⟨f1, f2⟩ := List.mem_filter.mp hf
      exact ((en_fs.kp hΩ g.2.2.2.2.2.2.2.2 hW g.2.2.2.2.2.1 g.1 hpx.2.2 f2 (g.2.2.1 f f1)).gr hΩ g.2.2.2.2.2.2.2.2 hpx.1).up
  · have hO := g.2.2.2.1
    show en_O PP KT tk u.1 tys (ρ ++ ρ'.drop κ.1) u.2 σ.2.2.2.2.1
    rcases hop : σ.2.2.2.2.1 with _ | z
    · rw [hop] at hO
      exact hpx.wd m4 hO
    · rw [hop] at hO
      obtain ⟨⟨kz, kz1, kz2⟩, -⟩ := m5 z hop
      obtain ⟨q0, k0, t0, v, cA, f, h1, h2, h3, h4, h5, h6, h7, h8⟩ := hO
      obtain ⟨-, -, q9, q91, q92⟩ := en_kd_ok g.1 kz1
      have ev : (Value.ref (sh.2 q0)) = .ref (sh.2 q9) := Option.some.inj (h1.symm.trans q92)
      obtain ⟨ek, -⟩ := g.uq h6 ⟨q9, q91, ev⟩
      have ek : k0 = kz := Option.some.inj (h2.symm.trans ek)
      subst ek
      obtain ⟨o1, o2, o3⟩ := hpx.old m4 kz2 h2 h6
      exact ⟨q0, k0, t0, v, cA, f, by rw [o2]; exact en_atL h1, o1, h3, h4, h5, by rw [o2]; exact o3, fun j sx hj => en_atL (h7 j sx hj), hpx.wd m4 h8⟩
  · exact g.2.2.2.2.2.2.2.1.tr ((hpx.2.2.less g.2.2.2.2.2.2.2.2).sub m3)
  · exact g.2.2.2.2.2.2.2.2.tr (hpx.1.sub m2)
/-- the world that a throw of a callee leaves, as the caller's own -/
theorem en_Px.own {κ : en_K} {exs : List Nat} {mc ms : Nat} {μ : List Nat} {u : en_H × va_W} (hm : en_may σ κ tk md exs mc ms μ = true) (g : en_G nL D cl tys PP Ω KT tk md sh0 w0 A H0 σ sh ρ ws H locs ls) (ho : σ.2.2.2.2.1 = none) (h : en_Px tys PP KT κ.2.2.2.2.1 κ.2.2.2.1 sh ws u) : en_Px tys PP KT tk md sh0 w0 u := by
  obtain ⟨m1, m2, m3, m4, -⟩ := en_may_ok hm
  have hO := g.2.2.2.1
  rw [ho] at hO
  exact ⟨g.2.2.2.2.2.2.2.2.tr (h.1.sub m2), h.wd m4 hO, g.2.2.2.2.2.2.2.1.tr ((h.2.2.less g.2.2.2.2.2.2.2.2).sub m3)⟩
/-- how a throw leaves the method -/
def en_Lv (p : Program) (l : Launch) (e : Env) (R : Room) (s : State) (m : MethodId) (args : Array Value) (below : List Frame) (meth : Method) (c : Code) (Q : State → Prop) (D : va_G) (cl : List vw_C) (tys : List (ClassId × FieldType)) (PP : Int32 → Int32 → Prop) (KT : List en_D) (tk : List Nat) (md : List (Nat × Nat)) (sh0 : en_H) (w0 : va_W) (A : Nat → Prop) (H0 : Heap) (exs : List Nat) (mc ms : Nat) : Prop :=
  ∀ (x : Nat) (ce : Cell) (q9 : Addr) (u : en_H × va_W) (H1 : Heap) (locs1 : List Loc) (cs sl pc : Nat) (ls : Array Slot) (st1 : List Value), x ∈ exs → en_Px tys PP KT tk md sh0 w0 u → va_P D cl u.2 H1 → va_D A u.2 → va_S A H0 H1 locs1 → H1[q9]? = some ce → ce.vm = .none → s.vm.findClass (en_xn x) = some ce.cls → cs ≤ mc → sl ≤ ms → vx_W p l e R s m args below meth c H1 locs1 cs sl Q (F0 m pc ls st1) q9
theorem en_run_go {κ : en_K} {exs : List Nat} {mc ms rs : Nat} {μ μ0 rest : List Nat} {ρp st0 : List Value} {av : Array Value} (hΩ : en_Om om sh0 Ω) (hPP : ∀ x y, PP x y → 0 ≤ x.toInt ∧ x.toInt ≤ 29 ∧ 0 ≤ y.toInt ∧ y.toInt ≤ 19) (hm : en_may σ κ tk md exs mc ms μ = true) (hμ : μ.take κ.1 = μ0) (hn : μ0.length = κ.1) (hp : ∃ t, ρ = ρ0 ++ t) (g : en_G nL D cl tys PP Ω KT tk md sh0 w0 A H0 σ sh ρ ws H locs ls) (hst : en_T ρ rest st)
    (hρp : ∀ i, i < μ.length → ρp[i]? = ρ[en_nu μ i]?) (hA : ∀ q, H0.size ≤ q → A q)
    (hr : vx_Run p l e R s m args below meth c H locs σ.2.2.2.2.2.1 σ.2.2.2.2.2.2 κ.2.2.2.2.2.1.1 κ.2.2.2.2.2.1.2 (F0 m pc ls st0) st (en_Q rs D cl tys PP Ω KT κ sh ws ρp (va_A ws H.size) av) (en_XC D cl tys PP KT κ.2.2.2.2.1 κ.2.2.2.1 κ.2.2.2.2.2.2 sh ws (va_A ws H.size)) (va_A ws H.size))
    (hX : en_Lv p l e R s m args below meth c Q D cl tys PP KT tk md sh0 w0 A H0 exs mc ms)
    (k : ∀ o ∈ κ.2.2.1, en_fea σ.1 μ0 (o.1.take κ.1) = true → en_OK p l e R s m args below meth c Q nL D cl tys PP Ω KT tk md sh0 w0 A H0 ρ0 (pc + 3) (en_out om σ κ rs μ0 rest o)) : W p l e R s m args below meth c H locs σ.2.2.2.2.2.1 σ.2.2.2.2.2.2 Q (F0 m pc ls st0) := by
  obtain ⟨m1, m2, m3, m4, m5, m6, m7, m8, m9⟩ := en_may_ok hm
  have hSz : H0.size ≤ H.size := g.2.2.2.2.2.2.1.1
  have hAA : ∀ q, va_A ws H.size q → A q := fun q hq => by
    rcases hq with ⟨j, ej, hj⟩ | hq
    · exact g.2.2.2.2.2.1.2 j _ hj
    · exact hA q (Nat.le_trans hSz hq)
  have kx : ∀ (E : String) (ce : Cell) (q9 : Addr) (u : en_H × va_W) (t : State) (H1 : Heap) (locs1 : List Loc), t.heap = H1 → s.vm.Alike t.vm → en_Px tys PP KT κ.2.2.2.2.1 κ.2.2.2.1 sh ws u → ((∃ x ∈ κ.2.2.2.2.2.2, E = en_xn x) ∧ en_Bw D cl (va_A ws H.size) u t) → H.size ≤ H1.size → (∀ q : Nat, q < H.size → ¬ va_A ws H.size q → H1[q]? = H[q]?) → va_S A H0 H1 locs1 → H1[q9]? = some ce → ce.vm = .none → s.vm.findClass E = some ce.cls → vx_W p l e R s m args below meth c H1 locs1 (σ.2.2.2.2.2.1 + κ.2.2.2.2.2.1.1) (σ.2.2.2.2.2.2 + κ.2.2.2.2.2.1.2) Q (F0 m pc ls st) q9 := by
    intro E ce q9 u t H1 locs1 ht _ hpx hB _ _ hS hcell hv hcl
    obtain ⟨⟨x, hx, rfl⟩, hB1, hB2⟩ := hB
    have ho : σ.2.2.2.2.1 = none := by
      rcases hop : σ.2.2.2.2.1 with _ | z
      · rfl
      · obtain ⟨-, hemp⟩ := m5 z hop
        rw [hemp] at hx
        exact absurd hx List.not_mem_nil
    exact hX x ce q9 u H1 locs1 _ _ pc ls st (m6 x hx) (hpx.own hm g ho) (by rw [← ht]; exact hB1) ⟨hB2.1, fun j q hq => hAA _ (hB2.2 j q hq)⟩ hS hcell hv hcl m7 m8
  have hS := g.2.2.2.2.2.2.1
  have h1 : ∀ q, q < H.size → va_A ws H.size q → A q := fun q _ h => hAA q h
  match rs with
  | 0 => exact vx_calli (a := av) hr hS h1 hAA h1 kx (fun r u t H1 locs1 ht hvm hw hB _ _ hS1 => en_back (res := some (.int r)) hΩ hPP hm hμ hn hp g hst hρp hw (by rw [← ht]; exact hB.1) hB.2 hAA hS1 (fun _ => ⟨_, rfl⟩) (fun z => absurd (by decide) z) k)
  | 1 => exact vx_calll (a := av) hr hS h1 hAA h1 kx (fun r u t H1 locs1 ht hvm hw hB _ _ hS1 => en_back (res := some (.long r)) hΩ hPP hm hμ hn hp g hst hρp hw (by rw [← ht]; exact hB.1) hB.2 hAA hS1 (fun _ => ⟨_, rfl⟩) (fun z => absurd (by decide) z) k)
  | 2 => exact vx_callf (a := av) hr hS h1 hAA h1 kx (fun r u t H1 locs1 ht hvm hw hB _ _ hS1 => en_back (res := some (.float r)) hΩ hPP hm hμ hn hp g hst hρp hw (by rw [← ht]; exact hB.1) hB.2 hAA hS1 (fun _ => ⟨_, rfl⟩) (fun z => absurd (by decide) z) k)
  | 3 => exact vx_calld (a := av) hr hS h1 hAA h1 kx (fun r u t H1 locs1 ht hvm hw hB _ _ hS1 => en_back (res := some (.double r)) hΩ hPP hm hμ hn hp g hst hρp hw (by rw [← ht]; exact hB.1) hB.2 hAA hS1 (fun _ => ⟨_, rfl⟩) (fun z => absurd (by decide) z) k)
  | n + 4 => exact vx_callv (a := av) hr hS h1 hAA h1 kx (fun u t H1 locs1 ht hvm hw hB _ _ hS1 => en_back (res := none) hΩ hPP hm hμ hn hp g hst hρp hw (by rw [← ht]; exact hB.1) hB.2 hAA hS1 (fun z => absurd z (by omega)) (fun _ => rfl) k)
end
