/-! the engine: a step is sound -/
def en_rt (rs rt : Nat) : Option FieldType := match rs with
  | 0 => some (en_ty rt)
  | 1 => some .long
  | 2 => some .float
  | 3 => some .double
  | _ => none
/-- what a class's tables say, in its words -/
def en_Xok (l : Launch) (own : String) (CW : List Cond) (cl : List vw_C) (PP : Int32 → Int32 → Prop) (Ω : Nat → en_H → va_W → Prop) (X : en_Cx) : Prop :=
  (∀ q ∈ X.2.1, en_Fd cl own CW q.1 q.2.1 q.2.2) ∧ (∀ q ∈ X.2.2.1, en_Fp cl own CW q.1 q.2.1 q.2.2.1 q.2.2.2) ∧ (∀ q ∈ X.2.2.2.1, en_CO l own CW cl X.1.2.1 PP X.1.2.2 Ω X.1.1 q) ∧ (∀ q ∈ X.2.2.2.2.1, Cond.constant own q.1 q.2 ∈ CW) ∧ (∀ q ∈ X.2.2.2.2.2.1, Cond.constantLong own q.1 q.2 ∈ CW) ∧ (∀ q ∈ X.2.2.2.2.2.2.1, en_TO l own CW q) ∧ (Cond.arrayClass .int ∈ CW ∧ Cond.arrayClass .char ∈ CW) ∧ ∀ ix ∈ X.2.2.2.2.2.2.2, Cond.methodLink own ix arraycopyName ∈ CW ∧ Cond.native arraycopyName ∈ CW ∧ Cond.static arraycopyName ∈ CW ∧ Cond.initialized "java/lang/System" ∈ CW
section
variable {p : Program} {l : Launch} {e : Env} {s : State} {m : MethodId} {args : Array Value} {below : List Frame} {meth : Method} {c : Code} {cc : ByteArray}
variable {D : va_G} {cl : List vw_C} {tys : List (ClassId × FieldType)} {PP : Int32 → Int32 → Prop} {Ω : Nat → en_H → va_W → Prop} {sh0 : en_H} {w0 : va_W} {A : Nat → Prop} {σ : en_S} {ρ0 ρp : List Value} {pc : Nat} {own : String} {CW : List Cond} {X : en_Cx} {M : en_Mx}
set_option maxHeartbeats 4000000 in
theorem en_stp_ok {L : List (Nat × en_S)} {ins : Instr × Nat} (hPP : ∀ x y, PP x y → 0 ≤ x.toInt ∧ x.toInt ≤ 29 ∧ 0 ≤ y.toInt ∧ y.toInt ≤ 19) (hF32 : en_f32) (hF64 : en_f64) (hX : en_Xok l own CW cl PP Ω X) (hΩ : en_Om X.1.2.2 sh0 Ω) (hTY : tys.map Prod.snd = X.1.2.1)
    (hexec : p.tables.exec = Jvm.exec) (hb : c.code = cc) (hml : c.maxLocals = M.2.2.1) (hl : l.stackTraces = false) (hlocks : meth.locks = false) (hne : ∀ x ∈ c.exceptionTable.toList, False) (hts : ∀ w ∈ CW, w.before args s = true) (hown : s.vm.findClass own = some m.cls) (hK : va_K D cl tys s) (hT : tf A s s.heap) (hA : ∀ q, s.heap.size ≤ q → A q)
    (hd : en_De M.2.2.2.2.1 cc) (hret : meth.sig.returnType = en_rt M.2.2.2.1.1 M.2.2.2.1.2) (ha : ρ0.take M.1.1 = ρp.take M.1.1) (hal : M.1.1 ≤ ρ0.length) (hdg : decode cc pc = .ok ins) (h : en_stp X M pc σ ins = some L)
    (k : ∀ q ∈ L, en_OK p l e (en_rm M.2.1 M.1.2.2.2.2.2.1) s m args below meth c (vx_MQ below (en_Q M.2.2.2.1.1 D cl tys PP Ω X.1.1 M.1 sh0 w0 ρp A) (en_XC D cl tys PP X.1.1 M.1.2.2.2.2.1 M.1.2.2.2.1 M.1.2.2.2.2.2.2 sh0 w0 A) args s M.1.2.2.2.2.2.1.1 M.1.2.2.2.2.2.1.2 A) M.2.2.1 D cl tys PP Ω X.1.1 M.1.2.2.2.2.1 M.1.2.2.2.1 sh0 w0 A s.heap ρ0 q.1 q.2) :
    en_OK p l e (en_rm M.2.1 M.1.2.2.2.2.2.1) s m args below meth c (vx_MQ below (en_Q M.2.2.2.1.1 D cl tys PP Ω X.1.1 M.1 sh0 w0 ρp A) (en_XC D cl tys PP X.1.1 M.1.2.2.2.2.1 M.1.2.2.2.1 M.1.2.2.2.2.2.2 sh0 w0 A) args s M.1.2.2.2.2.2.1.1 M.1.2.2.2.2.2.1.2 A) M.2.2.1 D cl tys PP Ω X.1.1 M.1.2.2.2.2.1 M.1.2.2.2.1 sh0 w0 A s.heap ρ0 pc σ := by
  intro sh ρ ws H locs ls st hp g hst
  obtain ⟨x1, x2, x3, x4, x5, x6, ⟨x7, x8⟩, x9⟩ := hX
  have hLv : en_Lv p l e (en_rm M.2.1 M.1.2.2.2.2.2.1) s m args below meth c (vx_MQ below (en_Q M.2.2.2.1.1 D cl tys PP Ω X.1.1 M.1 sh0 w0 ρp A) (en_XC D cl tys PP X.1.1 M.1.2.2.2.2.1 M.1.2.2.2.1 M.1.2.2.2.2.2.2 sh0 w0 A) args s M.1.2.2.2.2.2.1.1 M.1.2.2.2.2.2.1.2 A) D cl tys PP X.1.1 M.1.2.2.2.2.1 M.1.2.2.2.1 sh0 w0 A s.heap M.1.2.2.2.2.2.2 M.1.2.2.2.2.2.1.1 M.1.2.2.2.2.2.1.2 := by
    intro x ce q9 u H1 locs1 cs sl pc1 ls1 st1 hx hu hP hD hS hcell hv hcl h1 h2
    exact vx_out (fun x h => (hne x h).elim) hlocks hcell hv hcl (fun t ht _ => ⟨u, hu, ⟨⟨x, hx, rfl⟩, by rw [ht]; exact hP, hD⟩, hS.F ht⟩) hS.2.2 h1 h2
  have one : ∀ {pc' : Nat} {o : Option en_S}, en_1 pc' o = some L → ∃ σ', o = some σ' ∧ L = [(pc', σ')] := by
    intro pc' o ho
    rcases o with _ | σ'
    · cases ho
    · exact ⟨σ', rfl, (Option.some.inj ho).symm⟩
  have ap : ρ.take M.1.1 = ρp.take M.1.1 ∧ M.1.1 ≤ ρ.length := by
    obtain ⟨t, rfl⟩ := hp
    refine ⟨?_, by rw [List.length_append]; omega⟩
    rw [List.take_append_of_le_length hal]
    exact ha
  unfold en_stp at h
  split at h
  · obtain rfl := Option.some.inj h
    exact lv_iconst hexec hb hdg rfl (en_con_go hp g hst (k _ List.mem_cons_self))
  · obtain rfl := Option.some.inj h
    exact lv_bipush hexec hb hdg rfl (en_con_go hp g hst (k _ List.mem_cons_self))
  · obtain rfl := Option.some.inj h
    exact lv_sipush hexec hb hdg rfl (en_con_go hp g hst (k _ List.mem_cons_self))
  · split at h
    · next q hq =>
      obtain rfl := Option.some.inj h
      have hm := List.mem_of_find?_eq_some hq
      have hn := List.find?_some hq
      simp only [beq_iff_eq] at hn
      subst hn
      exact lv_ldc hexec hb hown (hts _ (x4 q hm)) hdg (en_con_go hp g hst (k _ List.mem_cons_self))
    · cases h
  · split at h
    · next q hq =>
      obtain rfl := Option.some.inj h
      have hm := List.mem_of_find?_eq_some hq
      have hn := List.find?_some hq
      simp only [beq_iff_eq] at hn
      subst hn
      exact lv_ldcw hexec hb hown (hts _ (x4 q hm)) hdg (en_con_go hp g hst (k _ List.mem_cons_self))
    · cases h
  · obtain rfl := Option.some.inj h
    exact lv_lconst hexec hb hdg rfl (en_new_go hp g hst (k _ List.mem_cons_self) en_vl (en_nb en_nbr))
  · split at h
    · next q hq =>
      obtain rfl := Option.some.inj h
      have hm := List.mem_of_find?_eq_some hq
      have hn := List.find?_some hq
      simp only [beq_iff_eq] at hn
      subst hn
      exact lv_ldc2 hexec hb hown (hts _ (x5 q hm)) hdg (en_new_go hp g hst (k _ List.mem_cons_self) en_vl (en_nb en_nbr))
    · cases h
  · obtain rfl := Option.some.inj h
    exact lv_fconst0 hexec hb hdg (en_new_go hp g hst (k _ List.mem_cons_self) (en_vf (by unfold vf_n32; decide)) (en_nb en_nbr))
  · obtain rfl := Option.some.inj h
    exact lv_dconst0 hexec hb hdg (en_new_go hp g hst (k _ List.mem_cons_self) en_vd (en_nb en_nbr))
  · obtain ⟨σ', h1, rfl⟩ := one h
    exact en_lod_go h1 hp g hst (fun a v t1 t2 t3 kk => by obtain ⟨x, rfl⟩ := en_isI_ok t1 t2; exact lv_iload hexec hb hdg t3 kk) (k _ List.mem_cons_self)
  · obtain ⟨σ', h1, rfl⟩ := one h
    exact en_lod_go h1 hp g hst (fun a v t1 t2 t3 kk => by obtain ⟨x, rfl⟩ := en_isI_ok t1 t2; exact lv_iload_n hexec hb hdg rfl t3 kk) (k _ List.mem_cons_self)
  · obtain ⟨σ', h1, rfl⟩ := one h
    exact en_lod_go h1 hp g hst (fun a v t1 t2 t3 kk => by obtain ⟨x, rfl⟩ := en_isR_ok t1 t2; exact lv_aload hexec hb hdg t3 kk) (k _ List.mem_cons_self)
  · obtain ⟨σ', h1, rfl⟩ := one h
    exact en_lod_go h1 hp g hst (fun a v t1 t2 t3 kk => by obtain ⟨x, rfl⟩ := en_isR_ok t1 t2; exact lv_aload_n hexec hb hdg rfl t3 kk) (k _ List.mem_cons_self)
  · obtain ⟨σ', h1, rfl⟩ := one h
    exact en_lod_go h1 hp g hst (fun a v t1 t2 t3 kk => by obtain ⟨x, rfl⟩ := en_isL_ok t1 t2; exact lv_lload hexec hb hdg t3 kk) (k _ List.mem_cons_self)
  · obtain ⟨σ', h1, rfl⟩ := one h
    exact en_lod_go h1 hp g hst (fun a v t1 t2 t3 kk => by obtain ⟨x, rfl⟩ := en_isL_ok t1 t2; exact lv_lload_n hexec hb hdg rfl t3 kk) (k _ List.mem_cons_self)
  · split at h
    · next hn =>
      obtain ⟨σ', h1, rfl⟩ := one h
      exact en_sto_go h1 hp g hst (fun a v rest lv lv' t1 t2 t3 t4 kk => by obtain ⟨x, rfl⟩ := en_isI_ok t1 t2; exact lv_istore hexec hb hdg t3 hn t4 kk) (k _ List.mem_cons_self)
    · cases h
  · split at h
    · next hn =>
      obtain ⟨σ', h1, rfl⟩ := one h
      exact en_sto_go h1 hp g hst (fun a v rest lv lv' t1 t2 t3 t4 kk => by obtain ⟨x, rfl⟩ := en_isI_ok t1 t2; exact lv_istore_n hexec hb hdg rfl t3 hn t4 kk) (k _ List.mem_cons_self)
    · cases h
  · split at h
    · next hn =>
      obtain ⟨σ', h1, rfl⟩ := one h
      exact en_sto_go h1 hp g hst (fun a v rest lv lv' t1 t2 t3 t4 kk => by obtain ⟨x, rfl⟩ := en_isR_ok t1 t2; exact lv_astore hexec hb hdg t3 hn t4 kk) (k _ List.mem_cons_self)
    · cases h
  · split at h
    · next hn =>
      obtain ⟨σ', h1, rfl⟩ := one h
      exact en_sto_go h1 hp g hst (fun a v rest lv lv' t1 t2 t3 t4 kk => by obtain ⟨x, rfl⟩ := en_isR_ok t1 t2; exact lv_astore_n hexec hb hdg rfl t3 hn t4 kk) (k _ List.mem_cons_self)
    · cases h
  · split at h
    · next hn =>
      obtain ⟨σ', h1, rfl⟩ := one h
      exact en_stl_go h1 hp g hst (fun x rest lv lv' t3 t4 kk => lv_lstore hexec hb hdg t3 hn t4 kk) (k _ List.mem_cons_self)
    · cases h
  · split at h
    · next hn =>
      obtain ⟨σ', h1, rfl⟩ := one h
      exact en_stl_go h1 hp g hst (fun x rest lv lv' t3 t4 kk => lv_lstore_n hexec hb hdg rfl t3 hn t4 kk) (k _ List.mem_cons_self)
    · cases h
  · split at h
    · next hn =>
      obtain ⟨σ', h1, rfl⟩ := one h
      exact en_inc_go hexec hb hdg hn h1 hp g hst (k _ List.mem_cons_self)
    · cases h
  · obtain ⟨σ', h1, rfl⟩ := one h
    exact en_iad_go hexec hb hdg h1 hp g hst (k _ List.mem_cons_self)
  · obtain ⟨σ', h1, rfl⟩ := one h
    exact en_isb_go hexec hb hdg h1 hp g hst (k _ List.mem_cons_self)
  · obtain ⟨σ', h1, rfl⟩ := one h
    exact en_bin_go en_mul_ok h1 hp g hst (fun x y rest _ kk => lv_imul hexec hb hdg kk) (k _ List.mem_cons_self)
  · obtain ⟨σ', h1, rfl⟩ := one h
    exact en_bin_go en_div_ok h1 hp g hst (fun x y rest hP kk => lv_idiv hexec hb hdg hP kk) (k _ List.mem_cons_self)
  · obtain ⟨σ', h1, rfl⟩ := one h
    exact en_bin_go en_rem_ok h1 hp g hst (fun x y rest hP kk => lv_irem hexec hb hdg hP kk) (k _ List.mem_cons_self)
  · obtain ⟨σ', h1, rfl⟩ := one h
    exact en_bin_go en_and_ok h1 hp g hst (fun x y rest _ kk => lv_iand hexec hb hdg kk) (k _ List.mem_cons_self)
  · obtain ⟨σ', h1, rfl⟩ := one h
    exact en_bin_go en_or_ok h1 hp g hst (fun x y rest _ kk => lv_ior hexec hb hdg kk) (k _ List.mem_cons_self)
  · obtain ⟨σ', h1, rfl⟩ := one h
    exact en_bin_go (en_any_ok (fun x y => x ^^^ y)) h1 hp g hst (fun x y rest _ kk => lv_ixor hexec hb hdg kk) (k _ List.mem_cons_self)
  · obtain ⟨σ', h1, rfl⟩ := one h
    exact en_bin_go en_shr_ok h1 hp g hst (fun x y rest _ kk => lv_iushr hexec hb hdg rfl kk) (k _ List.mem_cons_self)
  · obtain ⟨σ', h1, rfl⟩ := one h
    exact en_un_go en_neg_ok h1 hp g hst (fun x rest kk => lv_ineg hexec hb hdg kk) (k _ List.mem_cons_self)
  · obtain ⟨σ', h1, rfl⟩ := one h
    exact en_un_go en_i2c_ok h1 hp g hst (fun x rest kk => lv_i2c hexec hb hdg rfl kk) (k _ List.mem_cons_self)
  · split at h
    · next i rest hs =>
      split at h
      · next hi =>
        obtain rfl := Option.some.inj h
        exact en_i2l_go hexec hb hdg hs hi hp g hst (k _ List.mem_cons_self)
      · cases h
    · cases h
  · obtain ⟨σ', h1, rfl⟩ := one h
    exact en_binL_go h1 hp g hst (fun x y rest kk => lv_ladd hexec hb hdg kk) (k _ List.mem_cons_self)
  · obtain ⟨σ', h1, rfl⟩ := one h
    exact en_binL_go h1 hp g hst (fun x y rest kk => lv_lmul hexec hb hdg kk) (k _ List.mem_cons_self)
  · obtain ⟨σ', h1, rfl⟩ := one h
    exact en_i2f_go hexec hb hdg h1 hp g hst (k _ List.mem_cons_self)
  · obtain ⟨σ', h1, rfl⟩ := one h
    exact en_i2d_go hexec hb hdg h1 hp g hst (k _ List.mem_cons_self)
  · obtain ⟨σ', h1, rfl⟩ := one h
    exact en_fdv_go hF32 hexec hb hdg h1 hp g hst (k _ List.mem_cons_self)
  · obtain ⟨σ', h1, rfl⟩ := one h
    exact en_ddv_go hF64 hexec hb hdg h1 hp g hst (k _ List.mem_cons_self)
  · obtain ⟨σ', h1, rfl⟩ := one h
    exact en_dup_go hexec hb hdg h1 hp g hst (k _ List.mem_cons_self)
  · obtain ⟨σ', h1, rfl⟩ := one h
    exact en_dup2_go hexec hb hdg h1 hp g hst (k _ List.mem_cons_self)
  · obtain ⟨σ', h1, rfl⟩ := one h
    exact en_pop_go hexec hb hdg h1 hp g hst (k _ List.mem_cons_self)
  · exact en_icm_go hPP hexec hb hdg h hp g hst k
  · exact en_ifc_go hPP hexec hb hdg h hp g hst k
  · split at h
    · next t ht =>
      obtain rfl := Option.some.inj h
      exact lv_goto hexec hb hdg (en_tg_ok ht) (k _ List.mem_cons_self sh ρ ws H locs ls st hp g hst)
    · cases h
  · split at h
    · next i rest hs =>
      split at h
      · next hcond =>
        obtain ⟨hz, hi⟩ := hcond
        have hst2 := hst
        rw [hs] at hst2
        have hq9 := hst2.cons; clear hst2; obtain ⟨vx, st1, rfl, hvx, hst2⟩ := hq9
        unfold en_int at hi
        split at hi
        · next r hr =>
          obtain ⟨x, hx, -⟩ := en_eff_ok g.1 hr
          have ex : vx = .int x := Option.some.inj (hvx.symm.trans hx)
          subst ex
          obtain ⟨tgt, t1, t2⟩ := en_lks_go hp g hst2 hx _ L h k
          exact lv_lookup hexec hb hdg hz rfl t1 t2
        · cases hi
      · cases h
    · cases h
  · split at h
    · next q hq =>
      obtain ⟨σ', h1, rfl⟩ := one h
      have hm := List.mem_of_find?_eq_some hq
      have hn := List.find?_some hq
      simp only [beq_iff_eq] at hn
      subst hn
      exact en_get_go hexec hb hts hown hK (x1 q hm) hdg h1 hp g hst (k _ List.mem_cons_self)
    · cases h
  · split at h
    · next q hq =>
      obtain ⟨σ', h1, rfl⟩ := one h
      have hm := List.mem_of_find?_eq_some hq
      have hn := List.find?_some hq
      simp only [beq_iff_eq] at hn
      subst hn
      exact en_put_go hΩ hexec hb hts hown hK (x2 q hm) hdg h1 hp g hst (k _ List.mem_cons_self)
    · cases h
  · obtain ⟨σ', h1, rfl⟩ := one h
    exact en_ald_go (ins := .iaload) hPP hTY h1 hp g hst (fun q t0 a n cA f i rest a1 a2 a3 kk => va_iald hexec hb hK g.2.2.2.2.1 q t0 a1 a2 a3 hdg kk) (k _ List.mem_cons_self)
  · obtain ⟨σ', h1, rfl⟩ := one h
    exact en_ald_go (ins := .caload) hPP hTY h1 hp g hst (fun q t0 a n cA f i rest a1 a2 a3 kk => va_cald hexec hb hK g.2.2.2.2.1 q t0 a1 a2 a3 hdg kk) (k _ List.mem_cons_self)
  · obtain ⟨σ', h1, rfl⟩ := one h
    exact en_ald_go (ins := .baload) hPP hTY h1 hp g hst (fun q t0 a n cA f i rest a1 a2 a3 kk => va_zald hexec hb hK g.2.2.2.2.1 q t0 a1 a2 a3 hdg kk) (k _ List.mem_cons_self)
  · obtain ⟨σ', h1, rfl⟩ := one h
    exact en_ast_go hΩ hPP hTY h1 hp g hst (fun q t0 a n cA f i y rest a1 a2 a3 kk => va_iast hexec hb hK g.2.2.2.2.1 g.2.2.2.2.2.1 g.2.2.2.2.2.2.1 q t0 a1 a2 a3 hdg kk) (k _ List.mem_cons_self)
  · obtain ⟨σ', h1, rfl⟩ := one h
    exact en_ast_go hΩ hPP hTY h1 hp g hst (fun q t0 a n cA f i y rest a1 a2 a3 kk => va_cast hexec hb hK g.2.2.2.2.1 g.2.2.2.2.2.1 g.2.2.2.2.2.2.1 q t0 a1 a2 a3 hdg kk) (k _ List.mem_cons_self)
  · obtain ⟨σ', h1, rfl⟩ := one h
    exact en_ast_go hΩ hPP hTY h1 hp g hst (fun q t0 a n cA f i y rest a1 a2 a3 kk => va_zast hexec hb hK g.2.2.2.2.1 g.2.2.2.2.2.1 g.2.2.2.2.2.2.1 q t0 a1 a2 a3 hdg kk) (k _ List.mem_cons_self)
  · obtain ⟨σ', h1, rfl⟩ := one h
    exact en_aal_go hexec hb hK hTY hdg h1 hp g hst (k _ List.mem_cons_self)
  · obtain ⟨σ', h1, rfl⟩ := one h
    exact en_aln_go hexec hb hK hTY hdg h1 hp g hst (k _ List.mem_cons_self)
  · split at h
    · next q hq =>
      obtain ⟨σ', h1, rfl⟩ := one h
      exact en_nwr_go (atype := .int) (ty := 0) hΩ hexec hb hK hTY hA ⟨Nat.le_refl _, Nat.le_refl _⟩ rfl (hts _ x7) hdg h1 hp g hst (k _ List.mem_cons_self)
    · cases h
  · split at h
    · next q hq =>
      obtain ⟨σ', h1, rfl⟩ := one h
      exact en_nwr_go (atype := .char) (ty := 1) hΩ hexec hb hK hTY hA ⟨Nat.le_refl _, Nat.le_refl _⟩ rfl (hts _ x8) hdg h1 hp g hst (k _ List.mem_cons_self)
    · cases h
  · obtain ⟨g9, e8, e9⟩ := g.shut
    have q9 := en_inv_go (isV := true) hΩ hPP hTY hexec hb hml hts hown hK hT hA rfl x3 hdg h hp g9 (by rw [e8]; exact hst) hLv k
    rw [e9] at q9
    exact q9
  · split at h
    · next hac =>
      obtain ⟨σ', h1, rfl⟩ := one h
      exact en_acp_go hΩ hPP hTY hexec hb hml hts hown hK (by show 1 ≤ 40 + M.2.1; omega) (by show 400 ≤ 400 + 60 * M.2.1; omega) (x9 _ (List.contains_iff_mem.mp hac)) hdg h1 hp g hst (k _ List.mem_cons_self)
    obtain ⟨g9, e8, e9⟩ := g.shut
    have q9 := en_inv_go (isV := false) hΩ hPP hTY hexec hb hml hts hown hK hT hA rfl x3 hdg h hp g9 (by rw [e8]; exact hst) hLv k
    rw [e9] at q9
    exact q9
  · split at h
    · next hh => exact en_thr_go hexec hb hml hlocks hne hts hown hT rfl x6 hd hdg hh g hst
    · cases h
  · split at h
    · next r hs hrs =>
      split at h
      · next a hra =>
        split at h
        · next hcond =>
          obtain ⟨l1, l2, hfin⟩ := hcond
          rw [hs] at hst
          have hq9 := hst.cons; clear hst; obtain ⟨vx, st1, rfl, hvx, hst⟩ := hq9
          rw [hst.nil]
          obtain ⟨x, hx, y1, y2⟩ := en_eff_ok g.1 hra
          have ex : vx = .int x := Option.some.inj (hvx.symm.trans hx)
          subst ex
          obtain ⟨po, c1, c2⟩ := en_fin_ok (ρp := ρp) (res := some (.int x)) rfl rfl hfin g ap.1 ap.2 rfl (fun v hv => ⟨r, rfl, by rw [← hv]; exact hx⟩)
          rw [hrs] at hret ⊢
          obtain ⟨n1, -⟩ := en_fit (ty := M.2.2.2.1.2) (x := x) (by omega) (by omega)
          have hS := g.2.2.2.2.2.2.1
          exact vx_ret (W.widen c1 c2 (W.zret (ty := en_ty M.2.2.2.1.2) hexec hb hret n1 (fun t ht _ => ⟨⟨x, (sh, ws), rfl, po, by rw [ht]; exact g.2.2.2.2.1, g.2.2.2.2.2.1⟩, hS.F ht⟩) hS.2.2 hdg hlocks))
        · cases h
      · cases h
    · cases h
  · split at h
    · next r hs hrs =>
      split at h
      · next hcond =>
        obtain ⟨l1, hfin⟩ := hcond
        rw [hs] at hst
        have hq9 := hst.cons; clear hst; obtain ⟨vx, st1, rfl, hvx, hst⟩ := hq9
        rw [hst.nil]
        obtain ⟨w, w1, w2⟩ := en_srt_ok g.1 l1
        obtain ⟨x, rfl⟩ := en_lng w2
        have ex : vx = .long x := Option.some.inj (hvx.symm.trans w1)
        subst ex
        obtain ⟨po, c1, c2⟩ := en_fin_ok (ρp := ρp) (res := some (.long x)) rfl rfl hfin g ap.1 ap.2 rfl (fun v hv => ⟨r, rfl, by rw [← hv]; exact w1⟩)
        rw [hrs] at hret ⊢
        have hS := g.2.2.2.2.2.2.1
        exact vx_ret (W.widen c1 c2 (W.lret hexec hb hret (fun t ht _ => ⟨⟨x, (sh, ws), rfl, po, by rw [ht]; exact g.2.2.2.2.1, g.2.2.2.2.2.1⟩, hS.F ht⟩) hS.2.2 hdg hlocks))
      · cases h
    · cases h
  · split at h
    · next r hs hrs =>
      split at h
      · next hcond =>
        obtain ⟨l1, hfin⟩ := hcond
        rw [hs] at hst
        have hq9 := hst.cons; clear hst; obtain ⟨vx, st1, rfl, hvx, hst⟩ := hq9
        rw [hst.nil]
        obtain ⟨w, w1, w2⟩ := en_srt_ok g.1 l1
        obtain ⟨x, rfl⟩ : ∃ x : UInt32, w = .float x := by
          rcases w2 with ⟨z, -⟩ | ⟨-, x, hx, -⟩ | ⟨z, -⟩
          · cases z
          · exact ⟨x, hx⟩
          · cases z
        have ex : vx = .float x := Option.some.inj (hvx.symm.trans w1)
        subst ex
        obtain ⟨po, c1, c2⟩ := en_fin_ok (ρp := ρp) (res := some (.float x)) rfl rfl hfin g ap.1 ap.2 rfl (fun v hv => ⟨r, rfl, by rw [← hv]; exact w1⟩)
        rw [hrs] at hret ⊢
        have hS := g.2.2.2.2.2.2.1
        exact vx_ret (W.widen c1 c2 (W.fret hexec hb hret (fun t ht _ => ⟨⟨x, (sh, ws), rfl, po, by rw [ht]; exact g.2.2.2.2.1, g.2.2.2.2.2.1⟩, hS.F ht⟩) hS.2.2 hdg hlocks))
      · cases h
    · cases h
  · split at h
    · next r hs hrs =>
      split at h
      · next hcond =>
        obtain ⟨l1, hfin⟩ := hcond
        rw [hs] at hst
        have hq9 := hst.cons; clear hst; obtain ⟨vx, st1, rfl, hvx, hst⟩ := hq9
        rw [hst.nil]
        obtain ⟨w, w1, w2⟩ := en_srt_ok g.1 l1
        obtain ⟨x, rfl⟩ : ∃ x : UInt64, w = .double x := by
          rcases w2 with ⟨z, -⟩ | ⟨z, -⟩ | ⟨-, x, hx⟩
          · cases z
          · cases z
          · exact ⟨x, hx⟩
        have ex : vx = .double x := Option.some.inj (hvx.symm.trans w1)
        subst ex
        obtain ⟨po, c1, c2⟩ := en_fin_ok (ρp := ρp) (res := some (.double x)) rfl rfl hfin g ap.1 ap.2 rfl (fun v hv => ⟨r, rfl, by rw [← hv]; exact w1⟩)
        rw [hrs] at hret ⊢
        have hS := g.2.2.2.2.2.2.1
        exact vx_ret (W.widen c1 c2 (W.dret hexec hb hret (fun t ht _ => ⟨⟨x, (sh, ws), rfl, po, by rw [ht]; exact g.2.2.2.2.1, g.2.2.2.2.2.1⟩, hS.F ht⟩) hS.2.2 hdg hlocks))
      · cases h
    · cases h
  · split at h
    · next hs hrs =>
      split at h
      · next hfin =>
        rw [hs] at hst
        rw [hst.nil]
        obtain ⟨po, c1, c2⟩ := en_fin_ok (ρp := ρp) (res := none) rfl rfl hfin g ap.1 ap.2 rfl (fun v hv => by cases hv)
        rw [hrs] at hret ⊢
        have hS := g.2.2.2.2.2.2.1
        exact vx_ret (W.widen c1 c2 (W.vret hexec hb hret (fun t ht _ => ⟨⟨(sh, ws), rfl, po, by rw [ht]; exact g.2.2.2.2.1, g.2.2.2.2.2.1⟩, hS.F ht⟩) hS.2.2 hdg hlocks))
      · cases h
    · cases h
  · cases h
end
