/-! the engine: throws, ends, new rows -/
/-- a throw of the class itself: the indexes of the class, the text and the constructor; which exception -/
abbrev en_T1 : Type := Nat × Nat × Nat × Nat
/-- 'throw new E("text")' in the class itself -/
def en_TW (l : Launch) (CW : List Cond) (ik ic x : Nat) : Prop := ∀ (p : Program) (e : Env) (R : Room) (s : State) (m : MethodId) (args : Array Value) (below : List Frame) (meth : Method) (c : Code) (H : Heap) (locs : List Loc) (cells slots mc ms : Nat) (Qc : Array Value → State → Outcome → State → Prop) (XC : String → State → State → Prop) (A free : Nat → Prop) (cc : ByteArray) (pc is : Nat) (ls : Array Slot) (rest : List Value) (text : String),
  p.tables.exec = Jvm.exec → c.code = cc → s.vm.findClass RX6 = some m.cls → (∀ w ∈ CW, w.before args s = true) → tf A s s.heap → va_S A s.heap H locs → (is, text) ∈ tf_str → ls.size = c.maxLocals → decode cc pc = .ok (.new ik, 3) → decode cc (pc + 3) = .ok (.dup, 1) →
  ((decode cc (pc + 4) = .ok (.ldc is, 2) ∧ decode cc (pc + 6) = .ok (.invokespecial ic, 3) ∧ decode cc (pc + 9) = .ok (.athrow, 1)) ∨ (decode cc (pc + 4) = .ok (.ldc_w is, 3) ∧ decode cc (pc + 7) = .ok (.invokespecial ic, 3) ∧ decode cc (pc + 10) = .ok (.athrow, 1))) →
  (∀ x ∈ c.exceptionTable.toList, False) → 12 < R.frames → (rest.map fun v => v.category).sum + 200 ≤ R.locals → cells + 1 ≤ R.cells → slots + 6 ≤ R.slots → meth.locks = false → (∀ t : State, s.vm.Alike t.vm → H.size ≤ t.heap.size → (∀ q : Nat, q < H.size → t.heap[q]? = H[q]?) → XC (en_xn x) s t) → (∀ z ∈ locs, free z.base) → cells + 1 ≤ mc → slots + 6 ≤ ms →
  W p l e R s m args below meth c H locs cells slots (vx_MQ below Qc XC args s mc ms free) (F0 m pc ls rest)
theorem en_tw {l : Launch} {CW : List Cond} {ik ic x : Nat} (hl : l.stackTraces = false) (t1 : (ic, en_xn x) ∈ tf_E) (t3 : Cond.classLink RX6 ik (en_xn x) ∈ CW) (t4 : Cond.initialized (en_xn x) ∈ CW) (t5 : ∀ w ∈ (vx_atS RX6 ic (en_xn x) tf_N2).filter goodWord, w ∈ CW) : en_TW l CW ik ic x := by
  intro p e R s m args below meth c H locs cells slots mc ms Qc XC A free cc pc is ls rest text hexec hb hown hts hT hS ht hsz d0 d3 d4 hne hf hlo hc hs hlocks hx hfr hmc hms
  obtain ⟨sa, hsa⟩ := hT.2.1 _ ht
  obtain ⟨f1, f2, f3⟩ := tf_ok _ t1
  have k2 : ∀ w ∈ vx_atS RX6 ic (en_xn x) tf_N2, w.before args s = true := vx_hat (fun w hw => hts w (t5 w hw)) f2 (fun w hw => va_Nw.use ((Bool.and_eq_true _ _ ▸ tf_face w hw).1) (hT.1 w hw))
  have k3 : ∀ w ∈ Cond.classLink RX6 ik (en_xn x) :: Cond.initialized (en_xn x) :: vx_atS RX6 ic (en_xn x) tf_N2, vx_ot w = true := by
    intro w hw
    rcases List.mem_cons.mp hw with rfl | hw
    · rfl
    · rcases List.mem_cons.mp hw with rfl | hw
      · rfl
      · exact f3 w hw
  have r1 : tf_N2.length + 3 < R.frames := by show 5 < _; omega
  have r2 : (rest.map fun v => v.category).sum + (13 * (tf_N2.length + 1) + 43) ≤ R.locals := by show _ + 82 ≤ _; omega
  rcases d4 with ⟨d4, d6, d9⟩ | ⟨d4, d6, d9⟩
  · exact vx_throwS (names := tf_N2) hexec hb hl hown f1 (by decide +kernel) (hts _ t3) (hts _ t4) hsa k2 k3 hT.2.2.1 hT.2.2.2.1 hS hsz d0 d3 d4 d6 d9 (fun x hx => (hne x hx).elim) r1 r2 hc hs hlocks hx hfr hmc hms
  · exact vx_throwSW (names := tf_N2) hexec hb hl hown f1 (by decide +kernel) (hts _ t3) (hts _ t4) hsa k2 k3 hT.2.2.1 hT.2.2.2.1 hS hsz d0 d3 d4 d6 d9 (fun x hx => (hne x hx).elim) r1 r2 hc hs hlocks hx hfr hmc hms
def en_TO (l : Launch) (own : String) (CW : List Cond) (q : en_T1) : Prop := own = RX6 ∧ (∃ text : String, (q.2.1, text) ∈ tf_str) ∧ en_TW l CW q.1 q.2.2.1 q.2.2.2
abbrev en_Tb : Type := List (Nat × List (Nat × Instr × Nat))
def en_cd (tb : en_Tb) (pc : Nat) : Option (Instr × Nat) := match tb.find? (fun z => Nat.blt pc z.1) with
  | some z => (z.2.find? (fun q => Nat.beq q.1 pc)).map (fun q => q.2)
  | none => none
def en_De (tb : en_Tb) (cc : ByteArray) : Prop := ∀ z ∈ tb, ∀ q ∈ z.2, decode cc q.1 = .ok q.2
theorem en_cd_ok {tb : en_Tb} {cc : ByteArray} {pc : Nat} {q : Instr × Nat} (hd : en_De tb cc) (h : en_cd tb pc = some q) : decode cc pc = .ok q := by
  unfold en_cd at h
  split at h
  · next z hz =>
    obtain ⟨x, hx, rfl⟩ := Option.map_eq_some_iff.mp h
    have hm := List.mem_of_find?_eq_some hx
    have hn := List.find?_some hx
    have hn : x.1 = pc := Nat.eq_of_beq_eq_true hn
    rw [← hn]
    exact hd z (List.mem_of_find?_eq_some hz) x hm
  · cases h
def en_thr (tb : en_Tb) (TT : List en_T1) (exs : List Nat) (mc ms : Nat) (σ : en_S) (pc ik : Nat) : Bool := match en_cd tb (pc + 3), en_cd tb (pc + 4) with
  | some (.dup, 1), some (.ldc is, 2) => (match en_cd tb (pc + 6), en_cd tb (pc + 9) with
    | some (.invokespecial ic, 3), some (.athrow, 1) => TT.any (fun q => (q.1 == ik && (q.2.1 == is && (q.2.2.1 == ic && exs.contains q.2.2.2)))) && (σ.2.2.2.2.1.isNone && (decide (en_wt σ.1 σ.2.1 ≤ 8) && (decide (σ.2.2.2.2.2.1 + 1 ≤ mc) && decide (σ.2.2.2.2.2.2 + 6 ≤ ms))))
    | _, _ => false)
  | some (.dup, 1), some (.ldc_w is, 3) => (match en_cd tb (pc + 7), en_cd tb (pc + 10) with
    | some (.invokespecial ic, 3), some (.athrow, 1) => TT.any (fun q => (q.1 == ik && (q.2.1 == is && (q.2.2.1 == ic && exs.contains q.2.2.2)))) && (σ.2.2.2.2.1.isNone && (decide (en_wt σ.1 σ.2.1 ≤ 8) && (decide (σ.2.2.2.2.2.1 + 1 ≤ mc) && decide (σ.2.2.2.2.2.2 + 6 ≤ ms))))
    | _, _ => false)
  | _, _ => false
section
variable {p : Program} {l : Launch} {e : Env} {R : Room} {s : State} {m : MethodId} {args : Array Value} {below : List Frame} {meth : Method} {c : Code} {Q : State → Prop} {cc : ByteArray}
variable {nL : Nat} {D : va_G} {cl : List vw_C} {tys : List (ClassId × FieldType)} {PP : Int32 → Int32 → Prop} {Ω : Nat → en_H → va_W → Prop} {KT : List en_D} {tk : List Nat} {md : List (Nat × Nat)} {om : List (Nat × Nat × Nat)} {sh0 sh : en_H} {w0 : va_W} {A : Nat → Prop} {H0 : Heap} {σ σ' : en_S} {ρ0 ρ : List Value} {ws : va_W} {H : Heap} {locs : List Loc} {ls : Array Slot} {st : List Value} {pc pc' : Nat} {TY : List FieldType}
theorem en_thr_go {own : String} {CW : List Cond} {tb : en_Tb} {TT : List en_T1} {exs : List Nat} {mc ms lv ik : Nat} {Qc : Array Value → State → Outcome → State → Prop} (hexec : p.tables.exec = Jvm.exec) (hb : c.code = cc) (hml : c.maxLocals = nL) (hlocks : meth.locks = false) (hne : ∀ x ∈ c.exceptionTable.toList, False) (hts : ∀ w ∈ CW, w.before args s = true) (hown : s.vm.findClass own = some m.cls) (hT : tf A s s.heap)
    (hR : R = en_rm lv (mc, ms)) (hTT : ∀ q ∈ TT, en_TO l own CW q) (hd : en_De tb cc) (hdg : decode cc pc = .ok (.new ik, 3)) (h : en_thr tb TT exs mc ms σ pc ik = true) (g : en_G nL D cl tys PP Ω KT tk md sh0 w0 A s.heap σ sh ρ ws H locs ls) (hst : en_T ρ σ.2.1 st) :
    W p l e R s m args below meth c H locs σ.2.2.2.2.2.1 σ.2.2.2.2.2.2 (vx_MQ below Qc (en_XC D cl tys PP KT tk md exs sh0 w0 A) args s mc ms A) (F0 m pc ls st) := by
  have hS := g.2.2.2.2.2.2.1
  have hsz : ls.size = c.maxLocals := by rw [hml]; exact g.2.1.1
  have key : ∀ (is ic : Nat), (TT.any (fun q => (q.1 == ik && (q.2.1 == is && (q.2.2.1 == ic && exs.contains q.2.2.2)))) && (σ.2.2.2.2.1.isNone && (decide (en_wt σ.1 σ.2.1 ≤ 8) && (decide (σ.2.2.2.2.2.1 + 1 ≤ mc) && decide (σ.2.2.2.2.2.2 + 6 ≤ ms))))) = true → decode cc (pc + 3) = .ok (.dup, 1) →
      ((decode cc (pc + 4) = .ok (.ldc is, 2) ∧ decode cc (pc + 6) = .ok (.invokespecial ic, 3) ∧ decode cc (pc + 9) = .ok (.athrow, 1)) ∨ (decode cc (pc + 4) = .ok (.ldc_w is, 3) ∧ decode cc (pc + 7) = .ok (.invokespecial ic, 3) ∧ decode cc (pc + 10) = .ok (.athrow, 1))) →
      W p l e R s m args below meth c H locs σ.2.2.2.2.2.1 σ.2.2.2.2.2.2 (vx_MQ below Qc (en_XC D cl tys PP KT tk md exs sh0 w0 A) args s mc ms A) (F0 m pc ls st) := by
    intro is ic hc d3 d4
    simp only [Bool.and_eq_true] at hc
    obtain ⟨h1, h2, h3, h4, h5⟩ := hc
    obtain ⟨⟨qk, qs, qc, x⟩, hq, hq2⟩ := List.any_eq_true.mp h1
    simp only [Bool.and_eq_true, beq_iff_eq] at hq2
    obtain ⟨rfl, rfl, rfl, hx⟩ := hq2
    obtain ⟨eo, ⟨text, ht⟩, hw⟩ := hTT _ hq
    subst eo
    have ho : σ.2.2.2.2.1 = none := Option.isNone_iff_eq_none.mp h2
    have hW : en_W PP KT tk sh tys (fun _ => False) ws := by
      have hO := g.2.2.2.1
      rw [ho] at hO
      exact hO
    have h3 := of_decide_eq_true h3
    have h4 := of_decide_eq_true h4
    have h5 := of_decide_eq_true h5
    have hwt := en_wt_ok g.1 _ _ hst
    subst hR
    refine hw p e _ s m args below meth c H locs _ _ mc ms Qc _ A A cc pc qs ls st text hexec hb hown hts hT hS ht hsz hdg d3 d4 hne (by show 12 < 40 + lv; omega) (by show _ + 200 ≤ 400 + 60 * lv; omega) h4 h5 hlocks ?_ hS.2.2 h4 h5
    intro t _ hz hk9
    exact ⟨(sh, ws), ⟨g.2.2.2.2.2.2.2.2, hW, g.2.2.2.2.2.2.2.1⟩, ⟨⟨x, List.contains_iff_mem.mp hx, rfl⟩, g.2.2.2.2.1.kept (fun j z hj => hk9 z.1 ((g.2.2.2.2.1 j z hj).lt)), g.2.2.2.2.2.1⟩, Nat.le_trans hS.1 hz, fun q hq hnA => (hk9 q (Nat.lt_of_lt_of_le hq hS.1)).trans (hS.2.1 q hq hnA)⟩
  unfold en_thr at h
  split at h
  · next is q3 q4 =>
    split at h
    · next ic q6 q9 => exact key is ic h (en_cd_ok hd q3) (Or.inl ⟨en_cd_ok hd q4, en_cd_ok hd q6, en_cd_ok hd q9⟩)
    · cases h
  · next is q3 q4 =>
    split at h
    · next ic q6 q9 => exact key is ic h (en_cd_ok hd q3) (Or.inr ⟨en_cd_ok hd q4, en_cd_ok hd q6, en_cd_ok hd q9⟩)
    · cases h
  · cases h
/-- an end: the row that is open is closed, and the state is one of the ways that the contract tells; r: the result's symbol -/
def en_fin (KT : List en_D) (κ : en_K) (σ : en_S) (r : List Nat) : Bool := match en_cls KT σ with
  | some σ1 => κ.2.2.1.any (fun o => decide ((en_srch σ1.2.2.2.1 (List.range κ.1 ++ r) o.2).take (κ.1 + r.length) = List.range κ.1 ++ r) && en_chk σ1.1 σ1.2.2.2.1 (en_srch σ1.2.2.2.1 (List.range κ.1 ++ r) o.2) o) && (decide (σ.2.2.2.2.2.1 ≤ κ.2.2.2.2.2.1.1) && decide (σ.2.2.2.2.2.2 ≤ κ.2.2.2.2.2.1.2))
  | none => false
theorem en_fin_ok {κ : en_K} {r : List Nat} {ρp : List Value} {res : Option Value} (htk : tk = κ.2.2.2.2.1) (hmd : md = κ.2.2.2.1) (h : en_fin KT κ σ r = true) (g : en_G nL D cl tys PP Ω KT tk md sh0 w0 A H0 σ sh ρ ws H locs ls) (ha : ρ.take κ.1 = ρp.take κ.1) (hl : κ.1 ≤ ρ.length) (hr : r.length = (match res with | some _ => 1 | none => 0)) (hres : ∀ v, res = some v → ∃ j, r = [j] ∧ ρ[j]? = some v) :
    en_Po tys PP Ω KT κ sh0 w0 ρp res (sh, ws) ∧ σ.2.2.2.2.2.1 ≤ κ.2.2.2.2.2.1.1 ∧ σ.2.2.2.2.2.2 ≤ κ.2.2.2.2.2.1.2 := by
  unfold en_fin at h
  split at h
  · next σ1 h1 =>
    simp only [Bool.and_eq_true] at h
    obtain ⟨h2, h3, h4⟩ := h
    obtain ⟨o, ho, ho2⟩ := List.any_eq_true.mp h2
    simp only [Bool.and_eq_true] at ho2
    obtain ⟨ho2, ho3⟩ := ho2
    have ho2 := of_decide_eq_true ho2
    obtain ⟨g1, g2, -⟩ := g.cls h1
    obtain ⟨ρ', a1, a2, a3⟩ := en_chk_ok (PP := PP) (Ω := Ω) (ws := ws) g1.1 g1.2.2.1 ho3
    have hO := g1.2.2.2.1
    rw [g2] at hO
    subst htk
    subst hmd
    have hlen : κ.1 + r.length ≤ (en_srch σ1.2.2.2.1 (List.range κ.1 ++ r) o.2).length := by
      have := congrArg List.length ho2
      rw [List.length_take, List.length_append, List.length_range] at this
      omega
    have hμ : ∀ i, i < κ.1 + r.length → en_nu (en_srch σ1.2.2.2.1 (List.range κ.1 ++ r) o.2) i = en_nu (List.range κ.1 ++ r) i := fun i hi => by
      have h9 := congrArg (fun z => z[i]?) ho2
      simp only [List.getElem?_take_of_lt hi] at h9
      unfold en_nu
      rw [h9]
    refine ⟨⟨⟨g1.2.2.2.2.2.2.2.2, hO, g1.2.2.2.2.2.2.2.1⟩, o, ho, ρ', a1, fun i hi => ?_, fun v hv => ?_⟩, of_decide_eq_true h3, of_decide_eq_true h4⟩
    · rw [a3 i (by omega), hμ i (by omega)]
      have e1 : en_nu (List.range κ.1 ++ r) i = i := by
        unfold en_nu
        rw [List.getElem?_append_left (by rw [List.length_range]; exact hi), List.getElem?_range hi]
        rfl
      rw [e1]
      have := congrArg (fun z => z[i]?) ha
      simp only [List.getElem?_take_of_lt hi] at this
      exact this
    · obtain ⟨j, rfl, hj⟩ := hres v hv
      have h1 : κ.1 < κ.1 + [j].length := by simp
      rw [a3 κ.1 (by omega), hμ κ.1 h1]
      have e1 : en_nu (List.range κ.1 ++ [j]) κ.1 = j := by
        unfold en_nu
        rw [List.getElem?_append_right (by rw [List.length_range]; exact Nat.le_refl _), List.length_range, Nat.sub_self]
        rfl
      rw [e1]
      exact hj
  · cases h
/-- zeros fit -/
def en_nz (ty len : Nat) : en_A ⊕ en_V8 → Bool
  | .inl (.inl (lo, hi, _, _)) => decide (lo ≤ 0) && decide (0 ≤ hi)
  | .inr v => ty == 0 && (decide (v.1.length = len) && (v.2.isEmpty && v.1.all (fun b => decide (b.1 ≤ 0) && decide (0 ≤ b.2))))
  | _ => false
theorem en_nz_ok {ty len t0 : Nat} {el : en_A ⊕ en_V8} {cA : ClassId} (h : en_nz ty len el = true) (hcA : (tys[t0]?).map Prod.fst = some cA) : en_C PP sh tys (.inr (t0, len, el)) (.inl (cA, len, .inl (fun _ => 0))) := by
  have hz : (0 : Int32).toInt = 0 := by decide
  rcases el with (⟨lo, hi, b, o⟩ | el) | v
  · simp only [en_nz, Bool.and_eq_true, decide_eq_true_eq] at h
    refine ⟨hcA, rfl, fun j _ => ?_⟩
    show lo ≤ (0 : Int32).toInt ∧ (0 : Int32).toInt ≤ hi
    omega
  · cases h
  · simp only [en_nz, Bool.and_eq_true, decide_eq_true_eq] at h
    obtain ⟨-, h1, h2, h3⟩ := h
    refine ⟨hcA, rfl, h1, fun j r hr => ?_, fun m hm => ?_⟩
    · have h4 := List.all_eq_true.mp h3 r (List.mem_of_getElem? hr)
      simp only [Bool.and_eq_true, decide_eq_true_eq] at h4
      show r.1 ≤ (0 : Int32).toInt ∧ (0 : Int32).toInt ≤ r.2
      omega
    · rw [List.isEmpty_iff.mp h2] at hm
      exact absurd hm List.not_mem_nil
/-- a new row of ints or chars -/
def en_nwr (KT : List en_D) (tk : List Nat) (TY : List FieldType) (mc ms : Nat) (ty : Nat) (k : Nat) (σ : en_S) : Option en_S := match σ.2.1 with
  | x :: rest => match en_eff σ.1 x, KT[k]? with
    | some r, some (.inr (t0, len, el)) => if r.1 = len ∧ r.2 = len ∧ TY[t0]? = some (en_ty ty) ∧ ty < 2 ∧ en_nz ty len el = true ∧ tk.contains k = true ∧ en_nk k ∧ len ≤ 1000 ∧ σ.2.2.2.2.2.1 + 1 ≤ mc ∧ σ.2.2.2.2.2.2 + len ≤ ms then some (σ.1 ++ [.inr (.inl k)], σ.1.length :: rest, σ.2.2.1, σ.2.2.2.1, σ.2.2.2.2.1, σ.2.2.2.2.2.1 + 1, σ.2.2.2.2.2.2 + len) else none
    | _, _ => none
  | _ => none
end
section
variable {p : Program} {l : Launch} {e : Env} {R : Room} {s : State} {m : MethodId} {args : Array Value} {below : List Frame} {meth : Method} {c : Code} {Q : State → Prop} {cc : ByteArray}
variable {nL : Nat} {D : va_G} {cl : List vw_C} {tys : List (ClassId × FieldType)} {PP : Int32 → Int32 → Prop} {Ω : Nat → en_H → va_W → Prop} {KT : List en_D} {tk : List Nat} {md : List (Nat × Nat)} {om : List (Nat × Nat × Nat)} {sh0 sh : en_H} {w0 : va_W} {A : Nat → Prop} {H0 : Heap} {σ σ' : en_S} {ρ0 ρ : List Value} {ws : va_W} {H : Heap} {locs : List Loc} {ls : Array Slot} {st : List Value} {pc pc' : Nat} {TY : List FieldType}
/-- a further cell, of a kind -/
def en_shx (sh : en_H) (k a : Nat) : en_H := (sh.1 ++ [k], fun i => if i = sh.1.length then a else sh.2 i)
theorem en_shx_gr {k a : Nat} (hk : k ∈ tk) (h20 : en_nk k) : en_Gr tk sh (en_shx sh k a) := ⟨⟨[k], rfl, fun z hz => by
  rcases List.mem_cons.mp hz with rfl | hz
  · exact ⟨hk, h20⟩
  · exact absurd hz List.not_mem_nil⟩, fun q hq => if_neg (by omega)⟩
theorem en_W.app {ex : Nat → Prop} {k a : Nat} {e1 : va_E} {kd : en_D} (h : en_W PP KT tk sh tys ex ws) (hk : k ∈ tk) (h20 : en_nk k) (hkd : KT[k]? = some kd) (hc : en_C PP (en_shx sh k a) tys kd e1) : en_W PP KT tk (en_shx sh k a) tys ex (ws ++ [(a, e1)]) := by
  have hg : en_Gr tk sh (en_shx sh k a) := en_shx_gr hk h20
  refine ⟨by show _ = (sh.1 ++ [k]).length; rw [List.length_append, List.length_append, h.1]; rfl, fun q k' hq => ?_⟩
  have hq : (sh.1 ++ [k])[q]? = some k' := hq
  rcases Nat.lt_or_ge q sh.1.length with hlt | hge
  · rw [List.getElem?_append_left hlt] at hq
    obtain ⟨e2, g1, g2⟩ := h.2 q k' hq
    refine ⟨e2, ?_, fun b1 b2 => ?_⟩
    · rw [(hg.at hq).2]
      exact en_atL g1
    · obtain ⟨kd', k1, k2⟩ := g2 b1 b2
      exact ⟨kd', k1, k2.gr hg⟩
  · have h1 : q < (sh.1 ++ [k]).length := (List.getElem?_eq_some_iff.mp hq).1
    have h2 : q = sh.1.length := by rw [List.length_append] at h1; simp only [List.length_cons, List.length_nil] at h1; omega
    subst h2
    rw [List.getElem?_append_right (Nat.le_refl _), Nat.sub_self] at hq
    have ek : k = k' := Option.some.inj hq
    subst ek
    refine ⟨e1, ?_, fun _ _ => ⟨kd, hkd, hc⟩⟩
    rw [← h.1, List.getElem?_append_right (Nat.le_refl _), Nat.sub_self]
    show some (a, e1) = some ((if ws.length = sh.1.length then a else sh.2 _), e1)
    rw [if_pos h.1]
theorem en_nwr_go {ty k : Nat} {mc ms : Nat} {atype : ArrayType} (hΩ : en_Om om sh0 Ω) (hexec : p.tables.exec = Jvm.exec) (hb : c.code = cc) (hK : va_K D cl tys s) (hTY : tys.map Prod.snd = TY) (hA : ∀ q, H0.size ≤ q → A q) (hRc : mc ≤ R.cells ∧ ms ≤ R.slots) (hat : newarray.typeOf atype = en_ty ty) (hin : (Cond.arrayClass (newarray.typeOf atype)).before args s = true)
    (hdg : decode cc pc = .ok (.newarray atype, 2)) (h : en_nwr KT tk TY mc ms ty k σ = some σ') (hp : ∃ t, ρ = ρ0 ++ t) (g : en_G nL D cl tys PP Ω KT tk md sh0 w0 A H0 σ sh ρ ws H locs ls) (hst : en_T ρ σ.2.1 st) (kk : en_OK p l e R s m args below meth c Q nL D cl tys PP Ω KT tk md sh0 w0 A H0 ρ0 (pc + 2) σ') : W p l e R s m args below meth c H locs σ.2.2.2.2.2.1 σ.2.2.2.2.2.2 Q (F0 m pc ls st) := by
  unfold en_nwr at h
  split at h
  · next x rest hs =>
    split at h
    · next r t0 len el hr hkt =>
      split at h
      · next hcond =>
        obtain ⟨l1, l2, l3, l4, l5, l7, l20, l8, l9, l10⟩ := hcond
        have e0 := Option.some.inj h
        subst e0
        rw [hs] at hst
        have hq9 := hst.cons; clear hst; obtain ⟨vx, st1, rfl, hvx, hst⟩ := hq9
        obtain ⟨x', hx, x1, x2⟩ := en_eff_ok g.1 hr
        have ex : vx = .int x' := Option.some.inj (hvx.symm.trans hx)
        subst ex
        have hx0 : x'.toInt = len := by omega
        have hn0 : ¬ x' < 0 := fun z => by
          have := Int32.lt_iff_toInt_lt.mp z
          have hz : (0 : Int32).toInt = 0 := by decide
          omega
        have hcl : x'.toNatClampNeg = len := by have := en_cN (x := x') (by omega); omega
        have hbytes : len * componentBytes (en_ty ty) ≤ 536870912 := by
          match ty with
          | 0 => show len * 4 ≤ _; omega
          | 1 => show len * 2 ≤ _; omega
          | n + 2 => omega
        have hdef : ∀ cA : ClassId, vp_cell cA (len, .inl (fun _ => 0)) = arrV cA len (fun _ => defaultValue (en_ty ty)) := fun cA => by
          match ty with
          | 0 => rfl
          | 1 => rfl
          | n + 2 => omega
        refine va_newa hexec hb hin hat hK g.2.2.2.2.1 g.2.2.2.2.2.1 g.2.2.2.2.2.2.1 hA (a0 := (len, .inl (fun _ => 0))) (N' := len) hdef hn0 hcl hbytes (Nat.le_trans l9 hRc.1) (Nat.le_trans l10 hRc.2) hdg (fun q cA H1 hK2 hP hD hS => ?_)
        have hk : k ∈ tk := List.contains_iff_mem.mp l7
        have hg : en_Gr tk sh (en_shx sh k q) := en_shx_gr hk l20
        obtain ⟨ex, hW, hxx⟩ := g.wd
        have hcA : (tys[t0]?).map Prod.fst = some cA := by
          rcases ht : tys[t0]? with _ | z
          · exfalso
            subst hTY
            rw [List.getElem?_map, ht] at l3
            cases l3
          · obtain ⟨c0, ty0⟩ := z
            have hty0 : ty0 = en_ty ty := by
              subst hTY
              rw [List.getElem?_map, ht] at l3
              exact Option.some.inj l3
            subst hty0
            have h1 := (hK.2 t0 _ ht).2
            have h2 := (hK2.2 tys.length (cA, en_ty ty) (by rw [List.getElem?_append_right (Nat.le_refl _), Nat.sub_self]; rfl)).2
            have h3 : c0 = cA := by
              match ty with
              | 0 => exact Option.some.inj (h1.symm.trans h2)
              | 1 => exact Option.some.inj (h1.symm.trans h2)
              | n + 2 => omega
            subst h3
            rfl
        have hC : en_C PP (en_shx sh k q) tys (.inr (t0, len, el)) (.inl (cA, len, .inl (fun _ => 0))) := en_nz_ok l5 hcA
        have hE := (g.1.gr hg).push (a := .inr (.inl k)) (v := .ref q) ⟨sh.1.length, by show (sh.1 ++ [k])[sh.1.length]? = some k; rw [List.getElem?_append_right (Nat.le_refl _), Nat.sub_self]; rfl, by show Value.ref q = .ref (if sh.1.length = sh.1.length then q else sh.2 _); rw [if_pos rfl]⟩ (fun lo hi b o e => absurd e (en_nbr lo hi b o))
        refine kk (en_shx sh k q) (ρ ++ [.ref q]) _ H1 locs ls (.ref q :: st1) (en_pre hp) ⟨hE, g.2.1.up, fun f hf => ((g.2.2.1 f hf).app hΩ g.2.2.2.2.2.2.2.2 hg).up, ?_, hP, hD, hS, ?_, g.2.2.2.2.2.2.2.2.tr hg⟩ (en_T.mk (by rw [← g.1.1]; exact en_last) hst.up)
        · have hO := g.2.2.2.1
          show en_O PP KT tk (en_shx sh k q) tys (ρ ++ [.ref q]) (ws ++ _) σ.2.2.2.2.1
          rcases hop : σ.2.2.2.2.1 with _ | z
          · rw [hop] at hO
            exact en_W.app hO hk l20 hkt hC
          · rw [hop] at hO
            obtain ⟨q0, k0, t1, v, cB, f, h1, h2, h3, h4, h5, h6, h7, h8⟩ := hO
            obtain ⟨g1, g2⟩ := hg.at h2
            exact ⟨q0, k0, t1, v, cB, f, by rw [g2]; exact en_at h1, g1, h3, h4, h5, by rw [g2]; exact en_atL h6, fun j sx hj => en_at (h7 j sx hj), en_W.app h8 hk l20 hkt hC⟩
        · intro q' k' e0 hq' h0
          obtain ⟨e1, f1, f2⟩ := g.2.2.2.2.2.2.2.1 q' k' e0 hq' h0
          exact ⟨e1, en_atL f1, f2⟩
      · cases h
    · cases h
  · cases h
end
