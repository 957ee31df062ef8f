/-! the law's invariant, whole; calls of the model out of the law -/
section
variable {p : Program} {l : Launch} {e : Env} {R : Room} {s : State} {m : MethodId} {args : Array Value} {below : List Frame} {meth : Method} {c : Code} {Q : State → Prop}
variable {D : va_G} {tys : List (ClassId × FieldType)} {cO cD : ClassId} {A : Nat → Prop} {sh : en_H} {w : va_W} {H : Heap} {locs : List Loc} {ls : Array Slot} {pc cells slots qx qo qd : Nat} {E : Int32 → Int32 → Prop} {LP : en_H → va_W → Prop}
/-- what stays the same along the law -/
def lw_Fm (p : Program) (R : Room) (s : State) (m : MethodId) (args : Array Value) (c : Code) (D : va_G) (tys : List (ClassId × FieldType)) (cO cD : ClassId) (A : Nat → Prop) : Prop := (p.tables.exec = Jvm.exec) ∧ (c.code = cL_law) ∧ (c.maxLocals = 9) ∧ (s.vm.findClass RL = some m.cls) ∧ (∀ w ∈ en_cw, w.before args s = true) ∧ (tys.map Prod.snd = en_TY0) ∧ (va_K D vwCl (tys ++ [(cO, .long), (cD, .double)]) s) ∧ (tf A s s.heap) ∧ (∀ q, s.heap.size ≤ q → A q) ∧ (100 ≤ R.frames ∧ 4000 ≤ R.locals)
theorem lw_Fm.hx {p : Program} {R : Room} {s : State} {m : MethodId} {args : Array Value} {c : Code} {D : va_G} {tys : List (ClassId × FieldType)} {cO cD : ClassId} {A : Nat → Prop} (I : lw_Fm p R s m args c D tys cO cD A) : p.tables.exec = Jvm.exec := I.1
theorem lw_Fm.hb {p : Program} {R : Room} {s : State} {m : MethodId} {args : Array Value} {c : Code} {D : va_G} {tys : List (ClassId × FieldType)} {cO cD : ClassId} {A : Nat → Prop} (I : lw_Fm p R s m args c D tys cO cD A) : c.code = cL_law := I.2.1
theorem lw_Fm.hml {p : Program} {R : Room} {s : State} {m : MethodId} {args : Array Value} {c : Code} {D : va_G} {tys : List (ClassId × FieldType)} {cO cD : ClassId} {A : Nat → Prop} (I : lw_Fm p R s m args c D tys cO cD A) : c.maxLocals = 9 := I.2.2.1
theorem lw_Fm.hown {p : Program} {R : Room} {s : State} {m : MethodId} {args : Array Value} {c : Code} {D : va_G} {tys : List (ClassId × FieldType)} {cO cD : ClassId} {A : Nat → Prop} (I : lw_Fm p R s m args c D tys cO cD A) : s.vm.findClass RL = some m.cls := I.2.2.2.1
theorem lw_Fm.hts {p : Program} {R : Room} {s : State} {m : MethodId} {args : Array Value} {c : Code} {D : va_G} {tys : List (ClassId × FieldType)} {cO cD : ClassId} {A : Nat → Prop} (I : lw_Fm p R s m args c D tys cO cD A) : ∀ w ∈ en_cw, w.before args s = true := I.2.2.2.2.1
theorem lw_Fm.hTY {p : Program} {R : Room} {s : State} {m : MethodId} {args : Array Value} {c : Code} {D : va_G} {tys : List (ClassId × FieldType)} {cO cD : ClassId} {A : Nat → Prop} (I : lw_Fm p R s m args c D tys cO cD A) : tys.map Prod.snd = en_TY0 := I.2.2.2.2.2.1
theorem lw_Fm.hK {p : Program} {R : Room} {s : State} {m : MethodId} {args : Array Value} {c : Code} {D : va_G} {tys : List (ClassId × FieldType)} {cO cD : ClassId} {A : Nat → Prop} (I : lw_Fm p R s m args c D tys cO cD A) : va_K D vwCl (tys ++ [(cO, .long), (cD, .double)]) s := I.2.2.2.2.2.2.1
theorem lw_Fm.hT {p : Program} {R : Room} {s : State} {m : MethodId} {args : Array Value} {c : Code} {D : va_G} {tys : List (ClassId × FieldType)} {cO cD : ClassId} {A : Nat → Prop} (I : lw_Fm p R s m args c D tys cO cD A) : tf A s s.heap := I.2.2.2.2.2.2.2.1
theorem lw_Fm.hA {p : Program} {R : Room} {s : State} {m : MethodId} {args : Array Value} {c : Code} {D : va_G} {tys : List (ClassId × FieldType)} {cO cD : ClassId} {A : Nat → Prop} (I : lw_Fm p R s m args c D tys cO cD A) : ∀ q, s.heap.size ≤ q → A q := I.2.2.2.2.2.2.2.2.1
theorem lw_Fm.hR {p : Program} {R : Room} {s : State} {m : MethodId} {args : Array Value} {c : Code} {D : va_G} {tys : List (ClassId × FieldType)} {cO cD : ClassId} {A : Nat → Prop} (I : lw_Fm p R s m args c D tys cO cD A) : 100 ≤ R.frames ∧ 4000 ≤ R.locals := I.2.2.2.2.2.2.2.2.2
/-- the heap behind the world -/
def lw_H (D : va_G) (A : Nat → Prop) (s : State) (w : va_W) (H : Heap) (locs : List Loc) : Prop := (va_P D vwCl w H) ∧ (va_D A w) ∧ (va_S A s.heap H locs)
theorem lw_H.hP {D : va_G} {A : Nat → Prop} {s : State} {w : va_W} {H : Heap} {locs : List Loc} (I : lw_H D A s w H locs) : va_P D vwCl w H := I.1
theorem lw_H.hD {D : va_G} {A : Nat → Prop} {s : State} {w : va_W} {H : Heap} {locs : List Loc} (I : lw_H D A s w H locs) : va_D A w := I.2.1
theorem lw_H.hS {D : va_G} {A : Nat → Prop} {s : State} {w : va_W} {H : Heap} {locs : List Loc} (I : lw_H D A s w H locs) : va_S A s.heap H locs := I.2.2
/-- a predicate of the lists' cells: kept where they are -/
def lw_stw (wt : List (Nat × Nat)) (LP : en_H → va_W → Prop) : Prop := ∀ (tk : List Nat) (md : List (Nat × Nat)) (sh sh' : en_H) (w w' : va_W), en_Gr tk sh sh' → en_F md sh w w' → (∀ z ∈ md, (z.1 ≠ 39 ∧ z.1 < 49 ∨ 56 ≤ z.1) ∧ z ∉ wt) → LP sh w → LP sh' w'
def lw_st (LP : en_H → va_W → Prop) : Prop := lw_stw lw_wt LP
/-- the course's cells in the shape -/
def lw_sp (sh : en_H) : Prop := (∀ j, j < 9 → sh.1[2 + j]? = some 22) ∧ (∀ q, sh.1[q]? = some 22 → 2 ≤ q ∧ q < 11) ∧ (∀ q : Nat, ¬ sh.1[q]? = some 48) ∧ (∀ q, sh.1[q]? = some 21 → q = 1) ∧ sh.1[1]? = some 21
def lw_cr (sh : en_H) (w : va_W) : Prop := ∃ (cA : ClassId) (f : Nat → Option Nat), w[1]? = some (sh.2 1, .inl (cA, 9, .inr (.inr (.inr (.inr f))))) ∧ ∀ j, j < 9 → f j = some (sh.2 (2 + j))
def lw_I (E : Int32 → Int32 → Prop) (LP : en_H → va_W → Prop) (tys : List (ClassId × FieldType)) (cO cD : ClassId) (qx qo qd : Nat) (sh : en_H) (w : va_W) (st : Nat) (cx cy : Int32) (fs : List Value) : Prop := (sh.1[0]? = some 20) ∧ (sh.1[18]? = some 28 ∧ sh.1[11]? = some 26) ∧ (∀ q, sh.1[q]? = some 27 → 12 ≤ q ∧ q < 18) ∧ (∀ j, j < 6 → sh.1[12 + j]? = some 27) ∧ (lw_sp sh) ∧ (lw_cr sh w) ∧ (∀ q, sh.1[q]? = some 28 → q = 18) ∧ (sh.1[qx]? = some 0) ∧ (sh.1[qo]? = some 56) ∧ (sh.1[qd]? = some 57) ∧ (∀ cx cy, en_Om en_om0 sh (en_Of cx cy)) ∧ (st ≤ 4) ∧ (∃ g, w[qo]? = some (sh.2 qo, .inl (cO, 1, .inr (.inl g)))) ∧ (∃ g, w[qd]? = some (sh.2 qd, .inl (cD, 1, .inr (.inr (.inr (.inl g)))))) ∧ (∃ (fx : List Value) (v v9 : Int32), w[qx]? = some (sh.2 qx, .inr (12, fx)) ∧ True ∧ True ∧ E v v9) ∧ (LP sh w) ∧ (lw_S tys st cx cy sh w fs)
theorem lw_I.h20 {E : Int32 → Int32 → Prop} {LP : en_H → va_W → Prop} {tys : List (ClassId × FieldType)} {cO cD : ClassId} {qx qo qd : Nat} {sh : en_H} {w : va_W} {st : Nat} {cx cy : Int32} {fs : List Value} (I : lw_I E LP tys cO cD qx qo qd sh w st cx cy fs) : sh.1[0]? = some 20 := I.1
theorem lw_I.h28 {E : Int32 → Int32 → Prop} {LP : en_H → va_W → Prop} {tys : List (ClassId × FieldType)} {cO cD : ClassId} {qx qo qd : Nat} {sh : en_H} {w : va_W} {st : Nat} {cx cy : Int32} {fs : List Value} (I : lw_I E LP tys cO cD qx qo qd sh w st cx cy fs) : sh.1[18]? = some 28 := I.2.1.1
theorem lw_I.h26 {E : Int32 → Int32 → Prop} {LP : en_H → va_W → Prop} {tys : List (ClassId × FieldType)} {cO cD : ClassId} {qx qo qd : Nat} {sh : en_H} {w : va_W} {st : Nat} {cx cy : Int32} {fs : List Value} (I : lw_I E LP tys cO cD qx qo qd sh w st cx cy fs) : sh.1[11]? = some 26 := I.2.1.2
theorem lw_I.h27 {E : Int32 → Int32 → Prop} {LP : en_H → va_W → Prop} {tys : List (ClassId × FieldType)} {cO cD : ClassId} {qx qo qd : Nat} {sh : en_H} {w : va_W} {st : Nat} {cx cy : Int32} {fs : List Value} (I : lw_I E LP tys cO cD qx qo qd sh w st cx cy fs) : ∀ q, sh.1[q]? = some 27 → 12 ≤ q ∧ q < 18 := I.2.2.1
theorem lw_I.h27b {E : Int32 → Int32 → Prop} {LP : en_H → va_W → Prop} {tys : List (ClassId × FieldType)} {cO cD : ClassId} {qx qo qd : Nat} {sh : en_H} {w : va_W} {st : Nat} {cx cy : Int32} {fs : List Value} (I : lw_I E LP tys cO cD qx qo qd sh w st cx cy fs) : ∀ j, j < 6 → sh.1[12 + j]? = some 27 := I.2.2.2.1
theorem lw_I.hsp {E : Int32 → Int32 → Prop} {LP : en_H → va_W → Prop} {tys : List (ClassId × FieldType)} {cO cD : ClassId} {qx qo qd : Nat} {sh : en_H} {w : va_W} {st : Nat} {cx cy : Int32} {fs : List Value} (I : lw_I E LP tys cO cD qx qo qd sh w st cx cy fs) : lw_sp sh := I.2.2.2.2.1
theorem lw_I.hcr {E : Int32 → Int32 → Prop} {LP : en_H → va_W → Prop} {tys : List (ClassId × FieldType)} {cO cD : ClassId} {qx qo qd : Nat} {sh : en_H} {w : va_W} {st : Nat} {cx cy : Int32} {fs : List Value} (I : lw_I E LP tys cO cD qx qo qd sh w st cx cy fs) : lw_cr sh w := I.2.2.2.2.2.1
theorem lw_I.h28u {E : Int32 → Int32 → Prop} {LP : en_H → va_W → Prop} {tys : List (ClassId × FieldType)} {cO cD : ClassId} {qx qo qd : Nat} {sh : en_H} {w : va_W} {st : Nat} {cx cy : Int32} {fs : List Value} (I : lw_I E LP tys cO cD qx qo qd sh w st cx cy fs) : ∀ q, sh.1[q]? = some 28 → q = 18 := I.2.2.2.2.2.2.1
theorem lw_I.hx {E : Int32 → Int32 → Prop} {LP : en_H → va_W → Prop} {tys : List (ClassId × FieldType)} {cO cD : ClassId} {qx qo qd : Nat} {sh : en_H} {w : va_W} {st : Nat} {cx cy : Int32} {fs : List Value} (I : lw_I E LP tys cO cD qx qo qd sh w st cx cy fs) : sh.1[qx]? = some 0 := I.2.2.2.2.2.2.2.1
theorem lw_I.ho {E : Int32 → Int32 → Prop} {LP : en_H → va_W → Prop} {tys : List (ClassId × FieldType)} {cO cD : ClassId} {qx qo qd : Nat} {sh : en_H} {w : va_W} {st : Nat} {cx cy : Int32} {fs : List Value} (I : lw_I E LP tys cO cD qx qo qd sh w st cx cy fs) : sh.1[qo]? = some 56 := I.2.2.2.2.2.2.2.2.1
theorem lw_I.hd {E : Int32 → Int32 → Prop} {LP : en_H → va_W → Prop} {tys : List (ClassId × FieldType)} {cO cD : ClassId} {qx qo qd : Nat} {sh : en_H} {w : va_W} {st : Nat} {cx cy : Int32} {fs : List Value} (I : lw_I E LP tys cO cD qx qo qd sh w st cx cy fs) : sh.1[qd]? = some 57 := I.2.2.2.2.2.2.2.2.2.1
theorem lw_I.hO {E : Int32 → Int32 → Prop} {LP : en_H → va_W → Prop} {tys : List (ClassId × FieldType)} {cO cD : ClassId} {qx qo qd : Nat} {sh : en_H} {w : va_W} {st : Nat} {cx cy : Int32} {fs : List Value} (I : lw_I E LP tys cO cD qx qo qd sh w st cx cy fs) : ∀ cx cy, en_Om en_om0 sh (en_Of cx cy) := I.2.2.2.2.2.2.2.2.2.2.1
theorem lw_I.hst {E : Int32 → Int32 → Prop} {LP : en_H → va_W → Prop} {tys : List (ClassId × FieldType)} {cO cD : ClassId} {qx qo qd : Nat} {sh : en_H} {w : va_W} {st : Nat} {cx cy : Int32} {fs : List Value} (I : lw_I E LP tys cO cD qx qo qd sh w st cx cy fs) : st ≤ 4 := I.2.2.2.2.2.2.2.2.2.2.2.1
theorem lw_I.hwo {E : Int32 → Int32 → Prop} {LP : en_H → va_W → Prop} {tys : List (ClassId × FieldType)} {cO cD : ClassId} {qx qo qd : Nat} {sh : en_H} {w : va_W} {st : Nat} {cx cy : Int32} {fs : List Value} (I : lw_I E LP tys cO cD qx qo qd sh w st cx cy fs) : ∃ g, w[qo]? = some (sh.2 qo, .inl (cO, 1, .inr (.inl g))) := I.2.2.2.2.2.2.2.2.2.2.2.2.1
theorem lw_I.hwd {E : Int32 → Int32 → Prop} {LP : en_H → va_W → Prop} {tys : List (ClassId × FieldType)} {cO cD : ClassId} {qx qo qd : Nat} {sh : en_H} {w : va_W} {st : Nat} {cx cy : Int32} {fs : List Value} (I : lw_I E LP tys cO cD qx qo qd sh w st cx cy fs) : ∃ g, w[qd]? = some (sh.2 qd, .inl (cD, 1, .inr (.inr (.inr (.inl g))))) := I.2.2.2.2.2.2.2.2.2.2.2.2.2.1
theorem lw_I.hed {E : Int32 → Int32 → Prop} {LP : en_H → va_W → Prop} {tys : List (ClassId × FieldType)} {cO cD : ClassId} {qx qo qd : Nat} {sh : en_H} {w : va_W} {st : Nat} {cx cy : Int32} {fs : List Value} (I : lw_I E LP tys cO cD qx qo qd sh w st cx cy fs) : ∃ (fx : List Value) (v v9 : Int32), w[qx]? = some (sh.2 qx, .inr (12, fx)) ∧ True ∧ True ∧ E v v9 := I.2.2.2.2.2.2.2.2.2.2.2.2.2.2.1
theorem lw_I.hl {E : Int32 → Int32 → Prop} {LP : en_H → va_W → Prop} {tys : List (ClassId × FieldType)} {cO cD : ClassId} {qx qo qd : Nat} {sh : en_H} {w : va_W} {st : Nat} {cx cy : Int32} {fs : List Value} (I : lw_I E LP tys cO cD qx qo qd sh w st cx cy fs) : LP sh w := I.2.2.2.2.2.2.2.2.2.2.2.2.2.2.2.1
theorem lw_I.hs {E : Int32 → Int32 → Prop} {LP : en_H → va_W → Prop} {tys : List (ClassId × FieldType)} {cO cD : ClassId} {qx qo qd : Nat} {sh : en_H} {w : va_W} {st : Nat} {cx cy : Int32} {fs : List Value} (I : lw_I E LP tys cO cD qx qo qd sh w st cx cy fs) : lw_S tys st cx cy sh w fs := I.2.2.2.2.2.2.2.2.2.2.2.2.2.2.2.2
theorem lw_I.hlen {st : Nat} {cx cy : Int32} {fs : List Value} (I : lw_I E LP tys cO cD qx qo qd sh w st cx cy fs) : 19 ≤ sh.1.length := (List.getElem?_eq_some_iff.mp I.h28).1
theorem lw_I.had {st : Nat} {cx cy : Int32} {fs : List Value} (I : lw_I E LP tys cO cD qx qo qd sh w st cx cy fs) : en_ad sh w := lw_ad I.hs.1 I.h20 I.hlen
/-- what a call leaves of the invariant's frame -/
def lw_mdw (wt md : List (Nat × Nat)) : Bool := md.all fun z => !(wt.contains z) && z != (21, 0) && (z.1 != 39 && (decide (z.1 < 49) || decide (56 ≤ z.1)))
def lw_md (md : List (Nat × Nat)) : Bool := lw_mdw lw_wt md
theorem lw_md_ok {wt md : List (Nat × Nat)} (h : lw_mdw wt md = true) : ∀ z ∈ md, z ∉ wt ∧ z ≠ (21, 0) ∧ (z.1 ≠ 39 ∧ z.1 < 49 ∨ 56 ≤ z.1) := fun z hz => by
  have h9 := List.all_eq_true.mp h z hz
  simp only [Bool.and_eq_true, Bool.or_eq_true, Bool.not_eq_true', bne_iff_ne, decide_eq_true_eq, List.contains_eq_mem, decide_eq_false_iff_not] at h9
  refine ⟨h9.1.1, h9.1.2, ?_⟩
  rcases h9.2.2 with h | h
  · exact Or.inl ⟨h9.2.1, h⟩
  · exact Or.inr h
theorem lw_ag {tk : List Nat} {sh sh' : en_H} {q k : Nat} (g : en_Gr tk sh sh') (h : sh.1[q]? = some k) : sh'.1[q]? = some k := (g.at h).1
theorem lw_new {tk : List Nat} {sh sh' : en_H} {q k : Nat} (g : en_Gr tk sh sh') (hk : ¬ en_nk k) (h : sh'.1[q]? = some k) : sh.1[q]? = some k := by
  obtain ⟨⟨t, ht, ht2⟩, -⟩ := g
  rw [ht] at h
  rcases Nat.lt_or_ge q sh.1.length with hlt | hge
  · rw [List.getElem?_append_left hlt] at h
    exact h
  · rw [List.getElem?_append_right hge] at h
    exact absurd (ht2 k (List.mem_of_getElem? h)).2 hk
theorem lw_spg {tk : List Nat} {sh sh' : en_H} (g : en_Gr tk sh sh') (h : lw_sp sh) : lw_sp sh' := ⟨fun j hj => lw_ag g (h.1 j hj), fun q hq => h.2.1 q (lw_new g (by decide) hq), fun q hq => h.2.2.1 q (lw_new g (by decide) hq), fun q hq => h.2.2.2.1 q (lw_new g (by decide) hq), lw_ag g h.2.2.2.2⟩
theorem lw_crg {tk : List Nat} {md : List (Nat × Nat)} {PP : Int32 → Int32 → Prop} {KT : List en_D} {u : en_H × va_W} (h : en_Px tys PP KT tk md sh w u) (hm : (21, 0) ∉ md) (hs : lw_sp sh) (hc : lw_cr sh w) : lw_cr u.1 u.2 := by
  obtain ⟨cA, f, h1, h2⟩ := hc
  refine ⟨cA, f, by rw [(h.1.at hs.2.2.2.2).2]; exact wr_keep h hs.2.2.2.2 hm h1, fun j hj => ?_⟩
  rw [(h.1.at (hs.1 j hj)).2]
  exact h2 j hj
/-- the invariant behind a call, but for the model's state -/
theorem lw_Iq {st st' : Nat} {cx cy cx' cy' : Int32} {fs fs' : List Value} {tk : List Nat} {md : List (Nat × Nat)} {PP : Int32 → Int32 → Prop} {KT : List en_D} {u : en_H × va_W} {wt : List (Nat × Nat)} (hLP : lw_stw wt LP) (I : lw_I E LP tys cO cD qx qo qd sh w st cx cy fs) (h : en_Px tys PP KT tk md sh w u) (hm : lw_mdw wt md = true) (hw' : u.2[0]? = some (u.1.2 0, .inr (13, fs'))) (hst : st' ≤ 4) (hwo' : ∃ g, u.2[qo]? = some (u.1.2 qo, .inl (cO, 1, .inr (.inl g)))) (hwd' : ∃ g, u.2[qd]? = some (u.1.2 qd, .inl (cD, 1, .inr (.inr (.inr (.inl g)))))) (hS : lw_S tys st' cx' cy' u.1 u.2 fs') : lw_I E LP tys cO cD qx qo qd u.1 u.2 st' cx' cy' fs' := by
  have hm := lw_md_ok hm
  have hg := h.1
  refine ⟨lw_ag hg I.h20, ⟨lw_ag hg I.h28, lw_ag hg I.h26⟩, fun q hq => I.h27 q (lw_new hg (by decide) hq), fun j hj => lw_ag hg (I.h27b j hj), lw_spg hg I.hsp, lw_crg h (fun hz => (hm _ hz).2.1 rfl) I.hsp I.hcr, fun q hq => I.h28u q (lw_new hg (by decide) hq), lw_ag hg I.hx, lw_ag hg I.ho, lw_ag hg I.hd, fun a b => (I.hO a b).gr hg, hst, hwo', hwd', ?_, ?_, hS⟩
  · obtain ⟨fx, v, v9, a1, a2, a3, a4⟩ := I.hed
    obtain ⟨e9, b1, b2⟩ := h.2.2 qx 0 _ I.hx a1
    obtain ⟨e8, d1, d2⟩ := h.2.2 0 20 _ I.h20 I.hs.2.1
    rcases e9 with x | ⟨ci, fx'⟩
    · exact b2.elim
    rcases e8 with x | ⟨ci8, fs8⟩
    · exact d2.elim
    obtain ⟨c1, c2, c3⟩ := b2
    obtain ⟨f1, f2, f3⟩ := d2
    have c1 : ci = 12 := c1
    subst c1
    have ef : fs8 = fs' := by
      have h9 := Option.some.inj (d1.symm.trans hw')
      exact (Prod.mk.inj (Sum.inr.inj (Prod.mk.inj h9).2)).2
    subst ef
    exact ⟨fx', v, v9, by rw [(hg.at I.hx).2]; exact b1, trivial, trivial, a4⟩
  · exact hLP tk md sh u.1 w u.2 hg h.2.2 (fun z hz => ⟨(hm z hz).2.2, (hm z hz).1⟩) I.hl
theorem lw_Io {st : Nat} {cx cy : Int32} {fs : List Value} {tk : List Nat} {md : List (Nat × Nat)} {PP : Int32 → Int32 → Prop} {KT : List en_D} {u : en_H × va_W} (I : lw_I E LP tys cO cD qx qo qd sh w st cx cy fs) (h : en_Px tys PP KT tk md sh w u) (hm : (56, 0) ∉ md) : ∃ g, u.2[qo]? = some (u.1.2 qo, .inl (cO, 1, .inr (.inl g))) := by
  obtain ⟨g, hg9⟩ := I.hwo
  exact ⟨g, by rw [(h.1.at I.ho).2]; exact wr_keep h I.ho hm hg9⟩
theorem lw_Id {st : Nat} {cx cy : Int32} {fs : List Value} {tk : List Nat} {md : List (Nat × Nat)} {PP : Int32 → Int32 → Prop} {KT : List en_D} {u : en_H × va_W} (I : lw_I E LP tys cO cD qx qo qd sh w st cx cy fs) (h : en_Px tys PP KT tk md sh w u) (hm : (57, 0) ∉ md) : ∃ g, u.2[qd]? = some (u.1.2 qd, .inl (cD, 1, .inr (.inr (.inr (.inl g))))) := by
  obtain ⟨g, hg9⟩ := I.hwd
  exact ⟨g, by rw [(h.1.at I.hd).2]; exact wr_keep h I.hd hm hg9⟩
/-- a quiet call -/
theorem lw_Iqq {st : Nat} {cx cy : Int32} {fs : List Value} {tk : List Nat} {md : List (Nat × Nat)} {u : en_H × va_W} {wt : List (Nat × Nat)} (hLP : lw_stw wt LP) (I : lw_I E LP tys cO cD qx qo qd sh w st cx cy fs) (h : en_Px tys (en_Pc cx cy) en_KT tk md sh w u) (hm : lw_mdw wt md = true) (hq : lw_qt st md tk = true) (hA : (20, 4) ∉ md ∧ (28, 0) ∉ md) (hL : (20, 28) ∉ md) (hwo' : ∃ g, u.2[qo]? = some (u.1.2 qo, .inl (cO, 1, .inr (.inl g)))) (hwd' : ∃ g, u.2[qd]? = some (u.1.2 qd, .inl (cD, 1, .inr (.inr (.inr (.inl g)))))) : ∃ fs', lw_I E LP tys cO cD qx qo qd u.1 u.2 st cx cy fs' := by
  obtain ⟨fs', g1, g2⟩ := lw_fs I.h20 I.hs.2.1 h
  refine ⟨fs', lw_Iq hLP I h hm g1 I.hst hwo' hwd' (lw_q I.h20 I.hlen (I.hO cx cy) I.hs h hq g1 fun h3 => ?_)⟩
  refine lw_ahq I.h28 I.h20 I.hs.2.1 h g1 hA (I.hs.2.2.2.2 h3).2.2 (fun h9 => (g2 28 hL).trans h9) ⟨I.hs.1.1, fun x hx => ?_⟩
  obtain ⟨e9, a1, -⟩ := I.hs.1.2 18 28 I.h28
  rw [Option.some.inj (hx.symm.trans a1)]
/-- a call of the model -/
theorem lw_mc {KT : List en_D} {PP : Int32 → Int32 → Prop} {Ω : Nat → en_H → va_W → Prop} {κ : en_K} {rs ix lv' mxl : Nat} {ρp As : List Value} {y : MethodName} {cy : ByteArray} {ret : Option FieldType} {fs : List Value} (F : lw_Fm p R s m args c D tys cO cD A) (L : lw_H D A s w H locs) (hM : en_Ctr l vwCl en_TY0 PP en_om0 Ω KT y (Cond.code y cy mxl ret :: en_cw) (en_rm lv' κ.2.2.2.2.2.1) rs κ) (hV : en_CV en_cw RL ix y RX7 cy mxl ret (κ.1 - 1))
    (hb0 : w[0]? = some (sh.2 0, .inr (13, fs))) (hρ : ρp.take κ.1 = .ref (sh.2 0) :: As) (hAl : As.length = κ.1 - 1) (hmx : mxl ≤ 41) (hlv : lv' ≤ 40) (hcs : cells + κ.2.2.2.2.2.1.1 ≤ R.cells ∧ slots + κ.2.2.2.2.2.1.2 ≤ R.slots) (hls : ls.size = 9) (hex : κ.2.2.2.2.2.2 = []) (hW : en_W PP KT κ.2.2.2.2.1 sh tys (fun _ => False) w) (hΩ : en_Om en_om0 sh Ω) (hPa : en_Pa PP Ω sh w κ.2.1 ρp) (hdg : decode cL_law pc = .ok (.invokevirtual ix, 3))
    (k : ∀ (u : en_H × va_W) (res : Option Value) (H1 : Heap) (locs1 : List Loc), en_rv rs res → en_Po tys PP Ω KT κ sh w ρp res u → lw_H D A s u.2 H1 locs1 → W p l e R s m args below meth c H1 locs1 (cells + κ.2.2.2.2.2.1.1) (slots + κ.2.2.2.2.2.1.2) Q (F0 m (pc + 3) ls (res.toList ++ []))) :
    W p l e R s m args below meth c H locs cells slots Q (F0 m pc ls (As.reverse ++ [.ref (sh.2 0)])) := by
  refine en_hcV (co := 13) (q0 := 0) (b := sh.2 0) (rest := []) hM hV rfl rfl hb0 hρ hAl hmx ⟨?_, ?_⟩ hcs (by decide) F.hx F.hb (F.hml.trans hls.symm) F.hts F.hown F.hTY F.hK.pre F.hT L.hP L.hD L.hS F.hA hW hΩ hPa hdg (fun x hx9 => ?_) (fun u res H1 locs1 hrv hpo hP1 hD1 hS1 => k u res H1 locs1 hrv hpo ⟨hP1, hD1, hS1⟩)
  · have := F.hR.1; omega
  · have := F.hR.2; omega
  · rw [hex] at hx9
    exact absurd hx9 List.not_mem_nil
end
/-- a field of the model told to a contract -/
theorem lw_f0 {PP : Int32 → Int32 → Prop} {Ω : Nat → en_H → va_W → Prop} {sh : en_H} {w : va_W} {fs ρ : List Value} {j c : Nat} {x : Int32} {lo hi : Int} (hw : w[0]? = some (sh.2 0, .inr (13, fs))) (h0 : ρ[0]? = some (.ref (sh.2 0))) (hf : fs[j]? = some (.int x)) (hc : ρ[c]? = some (.int x)) : en_fs PP Ω sh w ρ (0, 0, j, c, lo, hi) := ⟨0, _, 13, fs, _, h0, hw, hf, hc⟩
theorem lw_pa {PP : Int32 → Int32 → Prop} {Ω : Nat → en_H → va_W → Prop} {sh : en_H} {ws : va_W} {env : List en_A} {fa : List en_X} {ρ : List Value} (h : wr_vs sh env ρ) (hf : ∀ f ∈ fa, en_fs PP Ω sh ws ρ f) : en_Pa PP Ω sh ws (env, fa) ρ := by
  obtain ⟨h1, h2, -⟩ := wr_pa (PP := PP) (Ω := Ω) (ws := ws) h
  exact ⟨h1, h2, hf⟩
/-- the lasting facts of a state -/
theorem lw_boff {st : Nat} {fs : List Value} (h : ¬ 3 ≤ st) (hB : ∀ b ∈ lw_B st, lw_b fs b) : lw_b fs (22, 0, 0) := by
  match st, h with
  | 0, _ => exact hB _ List.mem_cons_self
  | 1, _ => exact hB _ List.mem_cons_self
  | 2, _ => exact hB _ List.mem_cons_self
  | n + 3, h => exact absurd (Nat.le_add_left 3 n) h
theorem lw_bon {st : Nat} {fs : List Value} (h : 3 ≤ st) (hB : ∀ b ∈ lw_B st, lw_b fs b) : lw_b fs (22, 1, 1) ∧ lw_b fs (16, 1, 9) ∧ lw_b fs (25, 0, 8) := by
  match st, h with
  | 3, _ => exact ⟨hB _ (by decide), hB _ (by decide), hB _ (by decide)⟩
  | n + 4, _ => exact ⟨hB _ (show (22, 1, 1) ∈ lw_B 4 by decide), hB _ (show (16, 1, 9) ∈ lw_B 4 by decide), hB _ (show (25, 0, 8) ∈ lw_B 4 by decide)⟩
def lw_l28 (o : en_Pt) : Bool := o.2.any fun f => f.1 == 0 && (f.2.1 == 0 && (f.2.2.1 == 28 && (match o.1[f.2.2.2.1]? with | some (.inl r) => decide (-1 ≤ r.1) && decide (r.2.1 ≤ -1) | _ => false)))
theorem lw_l28_ok {PP : Int32 → Int32 → Prop} {Ω : Nat → en_H → va_W → Prop} {sh : en_H} {w : va_W} {A : Nat → Prop} {o : en_Pt} {ρ fs : List Value} (h : lw_l28 o = true) (hD : va_D A w) (hw : w[0]? = some (sh.2 0, .inr (13, fs))) (h0 : ρ[0]? = some (.ref (sh.2 0))) (hPa : en_Pa PP Ω sh w o ρ) : fs[28]? = some (.int (-1)) := by
  obtain ⟨f, hf, h9⟩ := List.any_eq_true.mp h
  obtain ⟨tag, a, b, c, lo, hi⟩ := f
  simp only [Bool.and_eq_true, beq_iff_eq] at h9
  obtain ⟨rfl, rfl, rfl, h9⟩ := h9
  split at h9
  · next r hr =>
    simp only [Bool.and_eq_true, decide_eq_true_eq] at h9
    obtain ⟨v, v1, x, rfl, v2, v3⟩ := hPa.2.1 c _ hr
    obtain ⟨q, r9, ci, fs9, v9, b1, b2, b3, b4⟩ := hPa.2.2 _ hf
    have er : r9 = sh.2 0 := Value.ref.inj (Option.some.inj (b1.symm.trans h0))
    subst er
    have eq : q = 0 := hD.1 q 0 _ _ b2 hw rfl
    subst eq
    have e9 : fs9 = fs := (Prod.mk.inj (Sum.inr.inj (Prod.mk.inj (Option.some.inj (b2.symm.trans hw))).2)).2
    subst e9
    have ex : v9 = .int x := Option.some.inj (b4.symm.trans v1)
    subst ex
    have e : x = -1 := Int32.toInt_inj.mp (by rw [show ((-1 : Int32)).toInt = -1 from rfl]; omega)
    rw [← e]
    exact b3
  · cases h9
