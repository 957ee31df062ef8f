/-! constructors, over the whole world -/
theorem va_RA_fc {U : State} {c : ClassId} {ty : FieldType} (h : va_RA U c ty) : U.vm.findClass ("[" ++ ty.toString) = some c := by
  cases ty with
  | object C =>
    obtain ⟨_, _, _, _, _, h⟩ := h
    exact h
  | _ => exact h
theorem li_cT {D : va_G} {tys : List (ClassId × FieldType)} {s : State} {cL cA : ClassId} {t9 : Nat} {ty : FieldType} (hK : va_K D vwCl tys s) (hK9 : va_K D vwCl (tys ++ [(cA, ty)]) s) (ht : tys[t9]? = some (cL, ty)) : cA = cL := by
  have h1 := va_RA_fc (hK.2 t9 _ ht).2
  have h9 : (tys ++ [(cA, ty)])[tys.length]? = some (cA, ty) := by simp
  have h2 := va_RA_fc (hK9.2 tys.length _ h9).2
  exact Option.some.inj (h2.symm.trans h1)
theorem li_R.nx {w w1 w2 : va_W} {qs : List Nat} {p : Nat} (h : li_R w w1 qs) (g : li_R w1 w2 [p]) (hp : w.length ≤ p) : li_R w w2 qs := ⟨Nat.le_trans h.1 g.1, fun j hj hn => (g.2.1 j (Nat.lt_of_lt_of_le hj h.1) (by simp; omega)).trans (h.2.1 j hj hn), fun j x hx => by
  obtain ⟨x1, a, b⟩ := h.2.2 j x hx
  obtain ⟨x2, c, d⟩ := g.2.2 j x1 a
  exact ⟨x2, c, d.1.trans b.1, b.2.tr d.2⟩⟩
theorem li_R.n1 {w w1 w2 : va_W} {qs : List Nat} {p : Nat} (h : li_R w w1 qs) (g : li_R w1 w2 [p]) (hp : p ∈ qs) : li_R w w2 qs := h.tr (g.mono (by simp; exact hp))
/-- the arrays' classes -/
def ct_T (tys : List (ClassId × FieldType)) (cI cX cZ cH cPl cII cCC cL : ClassId) : Prop := (tys[0]? = some (cI, .int) ∧ tys[1]? = some (cX, .char) ∧ tys[2]? = some (cZ, .boolean) ∧ tys[3]? = some (cH, .object "FairwayChancery$Hole") ∧ tys[4]? = some (cPl, .object "FairwayChancery$Player")) ∧ tys[5]? = some (cII, .array .int) ∧ tys[6]? = some (cCC, .array .char) ∧ tys[9]? = some (cL, .object "java/lang/Object")
section
variable {p : Program} {l : Launch} {e : Env} {R : Room} {s : State} {m : MethodId} {args : Array Value} {below : List Frame} {meth : Method} {c : Code} {Q : State → Prop} {cc : ByteArray}
variable {D : va_G} {tys : List (ClassId × FieldType)} {A : Nat → Prop} {w : va_W} {H : Heap} {locs : List Loc} {ls : Array Slot} {pc cells slots e0 ca : Nat} {ad : li_ad} {P : Option Value → va_W → Prop} {rest As : List Value} {y : MethodName} {cy : ByteArray} {mxl lv mc ms rs n ix : Nat} {ret : Option FieldType} {own C host : String} {b : Nat}
def li_CN (y : MethodName) (cy : ByteArray) (mxl n : Nat) : Prop := Cond.initialized y.cls ∈ en_cw ∧ Cond.instanceMethod y ∈ en_cw ∧ Cond.code y cy mxl none ∈ en_cw ∧ y.name = "<init>" ∧ (y.cls ≠ "java/lang/invoke/MethodHandle" ∧ y.cls ≠ "java/lang/invoke/VarHandle" ∧ (parseMethodDescriptor y.desc).map (fun d => d.parameters.length) = some n)
/-- a nest mate's constructor -/
theorem li_cIN (hM : li_C l y cy mxl none lv mc ms 2 (.ref b :: As) D tys w H.size e0 ca ad P) (hV : li_CN y cy mxl n) (hN : va_Nw (.methodLinkNest own ix y host) s) (hAl : As.length = n) (hlv : 40 + lv + 1 ≤ R.frames ∧ 8 + (mxl + 11) + (400 + 60 * lv) ≤ R.locals) (hcs : cells + mc ≤ R.cells ∧ slots + ms ≤ R.slots) (hwt : (rest.map fun v => v.category).sum ≤ 8)
    (hexec : p.tables.exec = Jvm.exec) (hb : c.code = cc) (hml : c.maxLocals = ls.size) (hts : ∀ w ∈ en_cw, w.before args s = true) (hown : s.vm.findClass own = some m.cls) (hK : va_K D vwCl tys s) (hT : tf A s s.heap) (hL : li_f e0 ca ad A s s.heap) (hP : va_P D vwCl w H) (hD : va_D A w) (hS : va_S A s.heap H locs) (hA : ∀ q, s.heap.size ≤ q → A q) (hdg : decode cc pc = .ok (.invokespecial ix, 3))
    (k : ∀ (res : Option Value) (w1 : va_W) (H1 : Heap) (locs1 : List Loc), li_rv 2 res → P res w1 → va_P D vwCl w1 H1 → va_D A w1 → va_S A s.heap H1 locs1 → W p l e R s m args below meth c H1 locs1 (cells + mc) (slots + ms) Q (F0 m (pc + 3) ls (res.toList ++ rest))) :
    W p l e R s m args below meth c H locs cells slots Q (F0 m pc ls (As.reverse ++ .ref b :: rest)) := by
  obtain ⟨h1, h2⟩ := li_pre (As := .ref b :: As) hK hT hL hP hD hS hA
  obtain ⟨v1, v3, v4, v5, v6⟩ := hV
  exact li_call hD hS hA (va_runIN (As := As) (rest := rest) (b := b) ⟨hexec, hb, rfl, hown, hts⟩ hM ⟨va_cnB n hts (cw_g (cw_c v4 fun _ h => h)) rfl rfl rfl hN (hts _ v1) v6 hlv, v5, hts _ v3⟩ ⟨h1, h2⟩ rfl hAl hml.symm rfl (lv_room hwt) hdg hcs) k
end
def ct_1 (cI : ClassId) (w : va_W) (q y L : Nat) : Prop := ∃ a b c : Nat, w[q]? = some (y, .inr (7, [.ref a, .ref b, .ref c, .int 0, .int 0, .int 0])) ∧ w[L]? = some (a, .inl (cI, 9, .inl fun _ => 0)) ∧ w[L + 1]? = some (b, .inl (cI, 9, .inl fun _ => 0)) ∧ w[L + 2]? = some (c, .inl (cI, 9, .inl fun _ => 0))
def ct_2 (cI : ClassId) (w : va_W) (q y L : Nat) : Prop := ∃ a : Nat, w[q]? = some (y, .inr (8, [.ref a, .int 0, .int 0, .int 0])) ∧ w[L]? = some (a, .inl (cI, 20, .inl fun _ => 0))
def ct_3 (cX : ClassId) (w : va_W) (q y L : Nat) : Prop := ∃ (a : Nat) (f : Nat → Int32), w[q]? = some (y, .inr (9, [.ref a, .int 0, .int 0, .int 0, .int 0, .int 0])) ∧ w[L]? = some (a, .inl (cX, 600, .inl f)) ∧ (∀ j, 0 ≤ (f j).toInt ∧ (f j).toInt ≤ 65535) ∧ ∀ j, j < 600 → f j = 46
def ct_0 (w : va_W) (q y : Nat) : Prop := w[q]? = some (y, .inr (6, [.int 0, .int 0, .int 0, .int 0, .int 0, .int 0, .int 0, .int 0, .int 0, .int 0, .int 0, .int 0, .int 0, .int 0, .int 0, .int 0]))
def ct_4 (w : va_W) (q y L : Nat) : Prop := ∃ a : Nat, w[q]? = some (y, .inr (10, [.ref a, .int (-1), .int 0, .int 0, .int 0, .int 0])) ∧ ct_0 w L a
def ct_5 (cI : ClassId) (w : va_W) (q y L : Nat) : Prop := ∃ a b c : Nat, w[q]? = some (y, .inr (11, [.ref a, .ref b, .ref c, .int 0])) ∧ ct_0 w L a ∧ ct_1 cI w (L + 1) b (L + 2) ∧ ct_2 cI w (L + 5) c (L + 6)
section
variable {cI cX : ClassId} {w w1 : va_W} {q y L : Nat} {qs : List Nat}
theorem ct_1.st (h : ct_1 cI w q y L) (hR : li_R w w1 qs) (hq : ∀ z, z = q ∨ (L ≤ z ∧ z < L + 3) → z ∉ qs) : ct_1 cI w1 q y L := by
  obtain ⟨a, b, c, h1, h2, h3, h4⟩ := h
  exact ⟨a, b, c, hR.at h1 (hq _ (Or.inl rfl)), hR.at h2 (hq _ (Or.inr (by omega))), hR.at h3 (hq _ (Or.inr (by omega))), hR.at h4 (hq _ (Or.inr (by omega)))⟩
theorem ct_2.st (h : ct_2 cI w q y L) (hR : li_R w w1 qs) (hq : ∀ z, z = q ∨ (L ≤ z ∧ z < L + 1) → z ∉ qs) : ct_2 cI w1 q y L := by
  obtain ⟨a, h1, h2⟩ := h
  exact ⟨a, hR.at h1 (hq _ (Or.inl rfl)), hR.at h2 (hq _ (Or.inr (by omega)))⟩
theorem ct_3.st (h : ct_3 cX w q y L) (hR : li_R w w1 qs) (hq : ∀ z, z = q ∨ (L ≤ z ∧ z < L + 1) → z ∉ qs) : ct_3 cX w1 q y L := by
  obtain ⟨a, f, h1, h2, h3⟩ := h
  exact ⟨a, f, hR.at h1 (hq _ (Or.inl rfl)), hR.at h2 (hq _ (Or.inr (by omega))), h3⟩
theorem ct_4.st (h : ct_4 w q y L) (hR : li_R w w1 qs) (hq : ∀ z, z = q ∨ (L ≤ z ∧ z < L + 1) → z ∉ qs) : ct_4 w1 q y L := by
  obtain ⟨a, h1, h2⟩ := h
  exact ⟨a, hR.at h1 (hq _ (Or.inl rfl)), hR.at h2 (hq _ (Or.inr (by omega)))⟩
theorem ct_5.st (h : ct_5 cI w q y L) (hR : li_R w w1 qs) (hq : ∀ z, z = q ∨ (L ≤ z ∧ z < L + 7) → z ∉ qs) : ct_5 cI w1 q y L := by
  obtain ⟨a, b, c, h1, h2, h3, h4⟩ := h
  exact ⟨a, b, c, hR.at h1 (hq _ (Or.inl rfl)), hR.at h2 (hq _ (Or.inr (by omega))), h3.st hR (fun z hz => hq z (Or.inr (by omega))), h4.st hR (fun z hz => hq z (Or.inr (by omega)))⟩
end
/-- a list as an element of a list -/
def li_y (w : va_W) (y : Nat) : Prop := ∃ (q : Nat) (vs : List Value), w[q]? = some (y, .inr (5, vs))
theorem li_y.st {w w1 : va_W} {y : Nat} {qs : List Nat} (h : li_y w y) (hR : li_R w w1 qs) (_ : ∀ z ∈ qs, li_nb w z) : li_y w1 y := by
  obtain ⟨q, vs, h⟩ := h
  obtain ⟨⟨a, e⟩, b1, b2, b3⟩ := hR.2.2 q _ h
  have b2 : a = y := b2
  subst b2
  rcases e with x | ⟨ci, vs'⟩
  · exact b3.elim
  · have e9 : ci = 5 := b3.1
    subst e9
    exact ⟨q, vs', b1⟩
theorem li_yr {D : va_G} {tys : List (ClassId × FieldType)} {s : State} {w : va_W} {H : Heap} {y : Nat} (h : li_y w y) (hK : va_K D vwCl tys s) (hP : va_P D vwCl w H) : ∃ cell : Cell, H[y]? = some cell ∧ cell.vm.isStatics = false ∧ s.vm.findClass "java/util/ArrayList" = some cell.cls := by
  obtain ⟨q, vs, h⟩ := h
  exact va_recv hK hP (ci := 5) (q0 := q) rfl h
/-- an array of arrays -/
def ct_rows (cA cy : ClassId) (w : va_W) (p a n : Nat) (z : vp_A) : Prop := ∃ g : Nat → Option Nat, w[p]? = some (a, .inl (cA, n, .inr (.inr (.inr (.inr g))))) ∧ ∀ j, j < n → ∃ b : Nat, g j = some b ∧ w[p + 1 + j]? = some (b, .inl (cy, z))
theorem ct_rows.st {cA cy : ClassId} {w w1 : va_W} {p a n : Nat} {z9 : vp_A} {qs : List Nat} (h : ct_rows cA cy w p a n z9) (hR : li_R w w1 qs) (hq : ∀ z, (p ≤ z ∧ z < p + 1 + n) → z ∉ qs) : ct_rows cA cy w1 p a n z9 := by
  obtain ⟨g, h1, h2⟩ := h
  refine ⟨g, hR.at h1 (hq p (by omega)), fun j hj => ?_⟩
  obtain ⟨b, h3, h4⟩ := h2 j hj
  exact ⟨b, h3, hR.at h4 (hq _ (by omega))⟩
theorem li_apps (w xs : va_W) : ∃ w1 : va_W, w1 = w ++ xs ∧ w1.length = w.length + xs.length ∧ (∀ j, j < w.length → w1[j]? = w[j]?) ∧ ∀ i, w1[w.length + i]? = xs[i]? := ⟨_, rfl, by simp, fun j hj => List.getElem?_append_left hj, fun i => by rw [List.getElem?_append_right (by omega)]; congr 1; omega⟩
theorem li_R.aps {w w1 : va_W} {qs : List Nat} {n : Nat} (h2 : w1.length = w.length + n) (h3 : ∀ j, j < w.length → w1[j]? = w[j]?) : li_R w w1 qs := ⟨by omega, fun j hj _ => h3 j hj, fun j y hy => ⟨y, (h3 j (List.getElem?_eq_some_iff.mp hy).1).trans hy, rfl, li_sh.rf _⟩⟩
section
variable {p : Program} {l : Launch} {e : Env} {R : Room} {s : State} {m : MethodId} {args : Array Value} {below : List Frame} {meth : Method} {c : Code} {H : Heap} {locs : List Loc} {cells slots : Nat} {Q : State → Prop}
theorem ct_mna {cc : ByteArray} {pc : Nat} {ls : Array Slot} {rest : List Value} {D : va_G} {cl : List vw_C} {A : Nat → Prop} {tys : List (ClassId × FieldType)} {ws : va_W} {H0 : Heap} (hexec : p.tables.exec = Jvm.exec) (hb : c.code = cc) {own : String} {index : Nat} {ty : FieldType} {cy : ClassId} (hown : s.vm.findClass own = some m.cls) (hclink : (Cond.classLink own index ("[" ++ (FieldType.array ty).toString)).before args s = true) (hover : va_AOA ty s) (harr : (Cond.arrayClass ty).before args s = true) (hcy : s.vm.findClass (FieldType.array ty).toString = some cy)
    (hK : va_K D cl tys s) (hP : va_P D cl ws H) (hD : va_D A ws) (hS : va_S A H0 H locs) (hA : ∀ q, H0.size ≤ q → A q) {n k : Int32} {N' K' : Nat} {z : vp_A} (hn : ¬ n < 0) (hk : ¬ k < 0) (hN : n.toNatClampNeg = N') (hM : k.toNatClampNeg = K')
    (hb1 : N' * 4 ≤ 536870912) (hb2 : K' * componentBytes ty ≤ 536870912) (hb3 : K' ≤ 536870912) (hdf : fits ty (defaultValue ty) = true) (hdd : (defaultValue ty).isDefault = true) (hcells : cells + (1 + N') ≤ R.cells) (hslots : slots + (N' + N' * K') ≤ R.slots) (hz : ∀ c : ClassId, Jvm.Free.Multi.innerC c K' (defaultValue ty) = vp_cell c z) (hdg : decode cc pc = .ok (.multianewarray index 2, 4))
    (kk : ∀ (q : Nat) (cA : ClassId) (H1 : Heap) (w1 : va_W), va_K D cl (tys ++ [(cA, .array ty)]) s → w1.length = ws.length + (1 + N') → (∀ j, j < ws.length → w1[j]? = ws[j]?) → ct_rows cA cy w1 ws.length q N' z → va_P D cl w1 H1 → va_D A w1 → va_S A H0 H1 locs →
      W p l e R s m args below meth c H1 locs (cells + 1 + N') (slots + N' + N' * K') Q (F0 m (pc + 4) ls (.ref q :: rest))) : W p l e R s m args below meth c H locs cells slots Q (F0 m pc ls (.int k :: .int n :: rest)) := by
  have hP0 : va_P D cl (ws ++ va_pl [] (fun _ => .inr (0, []))) H := by
    show va_P D cl (ws ++ []) H
    rw [List.append_nil]
    exact hP
  have hD0 : va_D A (ws ++ va_pl [] (fun _ => .inr (0, []))) := by
    show va_D A (ws ++ [])
    rw [List.append_nil]
    exact hD
  refine va_mna hexec hb hown hclink hover harr hcy hK hP0 hD0 hS hA hn hk hN hM hb1 hb2 hb3 hdf hdd hcells hslots hz hdg (fun q r cA H1 _ _ hK1 hP1 hD1 hS1 => ?_)
  have hF : ∀ i, i < N' → vr_up (fun _ => .inr (0, [])) ((List.range N').map r) (.inl (cy, z)) (r i) = (.inl (cy, z) : va_E) := fun i hi => vr_up_in (List.mem_map.mpr ⟨i, List.mem_range.mpr hi, rfl⟩)
  generalize vr_up (fun _ => (.inr (0, []) : va_E)) ((List.range N').map r) (.inl (cy, z)) = F at hF hP1 hD1
  rw [List.nil_append, List.append_assoc] at hP1 hD1
  obtain ⟨w1, ew, hl1, h1, h2⟩ := li_apps ws ([(q, .inl (cA, N', .inr (.inr (.inr (.inr (fun i => if i < N' then some (r i) else none))))))] ++ va_pl ((List.range N').map r) F)
  rw [← ew] at hP1 hD1
  refine kk q cA H1 w1 hK1 ?_ h1 ⟨_, (h2 0).trans rfl, fun j hj => ⟨r j, if_pos hj, ?_⟩⟩ hP1 hD1 hS1
  · rw [hl1, List.length_append]
    unfold va_pl
    rw [List.length_map, List.length_map, List.length_range]
    rfl
  · rw [Nat.add_assoc, h2 (1 + j)]
    rw [List.getElem?_append_right (by simp)]
    have e1 : 1 + j - [((q, .inl (cA, N', .inr (.inr (.inr (.inr (fun i => if i < N' then some (r i) else none)))))) : Nat × va_E)].length = j := by simp
    rw [e1]
    unfold va_pl
    rw [List.getElem?_map, List.getElem?_map, List.getElem?_range hj]
    show some (r j, F (r j)) = _
    rw [hF j hj]
end
theorem ct_ups {f : Nat → Option Nat} {k j : Nat} {v : Option Nat} (hk : k < 2 ^ 31) : va_up f (nI k).toNatClampNeg v j = if j = k then v else f j := by
  rw [nI_clamp hk]
  rfl
def ct_6 (cI cX cH cPl : ClassId) (w : va_W) (q y L : Nat) : Prop := ∃ (aH aP aO aM : Nat) (fH fP : Nat → Option Nat), w[q]? = some (y, .inr (12, [.ref aH, .ref aP, .ref aO, .ref aM, .int 0, .int 0, .int 1, .int 110, .int 0, .int 115, .int 0, .int 0, .int 0, .int 0])) ∧ w[L]? = some (aH, .inl (cH, 9, .inr (.inr (.inr (.inr fH))))) ∧ (∀ j, j < 9 → ∃ a, fH j = some a ∧ ct_3 cX w (L + (1 + 2 * j)) a (L + (1 + 2 * j + 1))) ∧ w[L + 19]? = some (aP, .inl (cPl, 6, .inr (.inr (.inr (.inr fP))))) ∧ (∀ j, j < 6 → ∃ a, fP j = some a ∧ ct_5 cI w (L + (20 + 8 * j)) a (L + (20 + 8 * j + 1))) ∧ w[L + 68]? = some (aO, .inl (cI, 6, .inl fun _ => 0)) ∧ ct_4 w (L + 69) aM (L + 70)
theorem ct_all {n : Nat} {f : Nat → Option Nat} {P Q : Nat → Nat → Prop} (h : ∀ j, j < n → ∃ a, f j = some a ∧ P j a) (g : ∀ j a, j < n → P j a → Q j a) : ∀ j, j < n → ∃ a, f j = some a ∧ Q j a := fun j hj => by
  obtain ⟨a, h1, h2⟩ := h j hj
  exact ⟨a, h1, g j a hj h2⟩
theorem ct_ext {k a : Nat} {f : Nat → Option Nat} {P : Nat → Nat → Prop} (hk : k < 2 ^ 31) (h : ∀ j, j < k → ∃ b, f j = some b ∧ P j b) (g : P k a) : ∀ j, j < k + 1 → ∃ b, va_up f (nI k).toNatClampNeg (some a) j = some b ∧ P j b := fun j hj => by
  rw [ct_ups hk]
  by_cases e : j = k
  · subst e
    rw [if_pos rfl]
    exact ⟨a, rfl, g⟩
  · rw [if_neg e]
    exact h j (by omega)
def ct_7 (cI cX cZ cII cCC cL : ClassId) (e0 : Nat) (w : va_W) (q y L : Nat) : Prop := ∃ (a0 a1 a2 a3 a4 a5 a6 a7 a8 a9 a10 a11 a12 a13 a14 a15 rD l0 l1 l2 l3 l4 l5 : Nat) (mc : Int32) (gD : Nat → Option Nat), w[q]? = some (y, .inr (13, [.ref a0, .ref a1, .ref a2, .ref a3, .ref a4, .ref a5, .ref a6, .ref a7, .ref a8, .ref a9, .ref a10, .ref a11, .ref a12, .ref a13, .ref a14, .ref a15, .int 0, .int 0, .int 1, .int 110, .int 0, .int 0, .int 0, .int 0, .int 0, .int 0, .int 0, .int 0, .int 0, .int 0, .int 0])) ∧
  (ct_rows cII cI w L a0 9 (7, .inl fun _ => 0) ∧ ct_rows cCC cX w (L + 10) a1 9 (600, .inl fun _ => 0) ∧ w[L + 20]? = some (a2, .inl (cI, 6, .inl fun _ => 0)) ∧ ct_rows cII cI w (L + 21) a3 6 (24, .inl fun _ => 0) ∧ w[L + 28]? = some (a4, .inl (cI, 24, .inl fun _ => 0)) ∧ ct_rows cII cI w (L + 29) a5 6 (9, .inl fun _ => 0) ∧ ct_rows cII cI w (L + 36) a6 6 (9, .inl fun _ => 0) ∧ ct_rows cII cI w (L + 43) a7 6 (9, .inl fun _ => 0)) ∧
  (w[L + 50]? = some (a8, .inl (cZ, 6, .inl fun _ => 0)) ∧ w[L + 51]? = some (a9, .inl (cZ, 6, .inl fun _ => 0)) ∧ w[L + 52]? = some (a10, .inl (cZ, 6, .inl fun _ => 0)) ∧ w[L + 53]? = some (a11, .inl (cI, 6, .inl fun _ => 0)) ∧ w[L + 54]? = some (a12, .inr (5, [.int mc, .ref rD, .int 6])) ∧ w[L + 55]? = some (a13, .inl (cI, 6, .inl fun _ => 0)) ∧ w[L + 56]? = some (a14, .inl (cI, 6, .inl fun _ => 0)) ∧ w[L + 57]? = some (a15, .inl (cI, 9, .inl fun _ => 0))) ∧
  w[L + 59]? = some (rD, .inl (cL, 10, .inr (.inr (.inr (.inr gD))))) ∧ (gD 0 = some l0 ∧ gD 1 = some l1 ∧ gD 2 = some l2 ∧ gD 3 = some l3 ∧ gD 4 = some l4 ∧ gD 5 = some l5) ∧
  w[L + 58]? = some (l0, .inr (5, [.int 0, .ref e0, .int 0])) ∧ w[L + 60]? = some (l1, .inr (5, [.int 0, .ref e0, .int 0])) ∧ w[L + 61]? = some (l2, .inr (5, [.int 0, .ref e0, .int 0])) ∧ w[L + 62]? = some (l3, .inr (5, [.int 0, .ref e0, .int 0])) ∧ w[L + 63]? = some (l4, .inr (5, [.int 0, .ref e0, .int 0])) ∧ w[L + 64]? = some (l5, .inr (5, [.int 0, .ref e0, .int 0]))
theorem li_R.nx2 {w w1 w2 : va_W} {qs : List Nat} {p r : Nat} (h : li_R w w1 qs) (g : li_R w1 w2 [p, r]) (hp : w.length ≤ p) (hr : w.length ≤ r) : li_R w w2 qs := ⟨Nat.le_trans h.1 g.1, fun j hj hn => (g.2.1 j (Nat.lt_of_lt_of_le hj h.1) (by simp; omega)).trans (h.2.1 j hj hn), fun j x hx => by
  obtain ⟨x1, a, b⟩ := h.2.2 j x hx
  obtain ⟨x2, c, d⟩ := g.2.2 j x1 a
  exact ⟨x2, c, d.1.trans b.1, b.2.tr d.2⟩⟩
