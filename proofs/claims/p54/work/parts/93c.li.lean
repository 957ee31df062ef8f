/-! lists: one contract a call, whatever the array -/
theorem li_Qm {D : va_G} {P P' : Option Value → va_W → Prop} {A : Nat → Prop} (h : ∀ res w1, P res w1 → P' res w1) : ∀ (rs : Nat) (a : Array Value) (s : State) (o : Outcome) (s' : State), li_Q rs D P A a s o s' → li_Q rs D P' A a s o s' := fun rs a s o s' hQ => by
  match rs, hQ with
  | 0, ⟨⟨r, u, h1, h2, h3⟩, h4⟩ => exact ⟨⟨r, u, h1, h _ _ h2, h3⟩, h4⟩
  | 1, ⟨⟨u, r, h1, h2, h3, h5⟩, h4⟩ => exact ⟨⟨u, r, h1, h2, h _ _ h3, h5⟩, h4⟩
  | n + 2, ⟨⟨u, h1, h2, h3⟩, h4⟩ => exact ⟨⟨u, h1, h _ _ h2, h3⟩, h4⟩
theorem li_C.mono {l : Launch} {y : MethodName} {cy : ByteArray} {mxl lv mc ms rs sz e0 ca : Nat} {ret : Option FieldType} {As : List Value} {D : va_G} {tys : List (ClassId × FieldType)} {w : va_W} {ad : li_ad} {P P' : Option Value → va_W → Prop} (h : li_C l y cy mxl ret lv mc ms rs As D tys w sz e0 ca ad P) (hP : ∀ res w1, P res w1 → P' res w1) : li_C l y cy mxl ret lv mc ms rs As D tys w sz e0 ca ad P' := by
  unfold li_C Met at h ⊢
  exact Jvm.Free.MetFree.mono h (fun _ _ x => x) (fun _ _ _ _ _ x => x) (fun a s o s' _ hQ => ⟨li_Qm hP rs a s o s' hQ.1, hQ.2⟩)
section
variable {l : Launch} {D : va_G} {tys : List (ClassId × FieldType)} {w : va_W} {sz e0 ca q qa la n t9 : Nat} {ad : li_ad} {cL : ClassId}
theorem li_L.nb (h : li_L w q qa la e0 cL ad n) : li_nb w q := by
  obtain ⟨f, ⟨mc, ra, hq, -⟩, -⟩ := h
  exact li_nbo hq
/-- the list's places hold no box, and so boxes stay -/
theorem li_S.nb2 {f : Nat → Option Nat} {mc : Int32} {ra : Nat} {x : ClassId × vp_A} (hq : w[q]? = some (la, .inr (5, [.int mc, .ref ra, .int (nI n)]))) (ha : w[qa]? = some (ra, .inl x)) : ∀ z ∈ [q, qa], li_nb w z := fun z hz => by
  rcases List.mem_cons.mp hz with rfl | hz
  · exact li_nbo hq
  · rw [List.mem_singleton.mp hz]
    exact li_nba ha
theorem lk_size (hD0 : va_D (va_A w sz) w) (h : li_L w q qa la e0 cL ad n) : li_C l yJx4a65c_size_8abf5 cJx4a65c_size_8abf5 1 (some .int) 0 0 0 0 [.ref la] D tys w sz e0 ca ad (fun res w1 => res = some (.int (nI n)) ∧ w1 = w) := by
  obtain ⟨f, ⟨mc, ra, hq, -⟩, -⟩ := h
  exact li_Jx4a65c_size_8abf5 l D tys w sz e0 ca ad hD0 q la ra n mc hq
theorem lk_isEmpty (hD0 : va_D (va_A w sz) w) (h : li_L w q qa la e0 cL ad n) (hn : n < 1000) : li_C l yJx4a65c_isEmpty_aae02 cJx4a65c_isEmpty_aae02 1 (some .boolean) 0 0 0 0 [.ref la] D tys w sz e0 ca ad (fun res w1 => res = some (.int (if n = 0 then 1 else 0)) ∧ w1 = w) := by
  obtain ⟨f, ⟨mc, ra, hq, -⟩, -⟩ := h
  exact li_Jx4a65c_isEmpty_aae02 l D tys w sz e0 ca ad hD0 q la ra n mc hq hn
theorem lk_get (hD0 : va_D (va_A w sz) w) (ht9 : tys[t9]? = some (cL, .object "java/lang/Object")) (h : li_L w q qa la e0 cL ad n) {i : Nat} (hi : i < n) : li_C l yJx4a65c_get_915e3 cJx4a65c_get_915e3 2 (some (.object "java/lang/Object")) 2 0 0 1 [.ref la, .int (nI i)] D tys w sz e0 ca ad (fun res w1 => ∃ y, res = some (.ref y) ∧ li_x w ad y ∧ w1 = w) := by
  obtain ⟨f, ⟨mc, ra, hq, ha⟩, hE⟩ := h
  rcases ha with ⟨rfl, -⟩ | ⟨N, ha, hn, h3⟩
  · exact absurd hi (Nat.not_lt_zero i)
  · obtain ⟨y, hf, hy⟩ := hE i hi
    exact (li_Jx4a65c_get_915e3 l D tys w sz e0 ca ad hD0 q qa la ra n N mc f cL t9 i y hq ha ht9 hn (by omega) hi hf).mono fun res w1 h => ⟨y, h.1, hy, h.2⟩
theorem lk_set (hD0 : va_D (va_A w sz) w) (ht9 : tys[t9]? = some (cL, .object "java/lang/Object")) (h : li_L w q qa la e0 cL ad n) {i y2 : Nat} (hi : i < n) (hy2 : li_x w ad y2) : li_C l yJx4a65c_set_bcc79 cJx4a65c_set_bcc79 4 (some (.object "java/lang/Object")) 2 0 0 1 [.ref la, .int (nI i), .ref y2] D tys w sz e0 ca ad (fun res w1 => ∃ y, res = some (.ref y) ∧ li_x w1 ad y ∧ li_L w1 q qa la e0 cL ad n ∧ li_R w w1 [q, qa] ∧ w1.length = w.length) := by
  obtain ⟨f, ⟨mc, ra, hq, ha⟩, hE⟩ := h
  rcases ha with ⟨rfl, -⟩ | ⟨N, ha, hn, h3⟩
  · exact absurd hi (Nat.not_lt_zero i)
  · obtain ⟨y, hf, hy⟩ := hE i hi
    have hne : q ≠ qa := fun e9 => by rw [e9] at hq; rw [hq] at ha; cases ha
    have hnb : ∀ z ∈ [qa], li_nb w z := fun z hz => by rw [List.mem_singleton.mp hz]; exact li_nba ha
    refine (li_Jx4a65c_set_bcc79 l D tys w sz e0 ca ad hD0 q qa la ra n N mc f cL t9 i y y2 hq ha ht9 hn (by omega) hi hf hy2).mono fun res w1 h => ?_
    obtain ⟨h1, h2, h4, h5⟩ := h
    refine ⟨y, h1, hy.st h5 hnb, ⟨_, ⟨mc, ra, h5.at hq (by simp; exact hne), Or.inr ⟨N, h2, hn, h3⟩⟩, fun k hk => ?_⟩, h5.mono (by simp), h4⟩
    by_cases e : k = i
    · subst e
      exact ⟨y2, va_up_self _ _ _, hy2.st h5 hnb⟩
    · obtain ⟨y3, a3, b3⟩ := hE k hk
      exact ⟨y3, (va_up_ne _ _ e).trans a3, b3.st h5 hnb⟩
/-- behind an addition -/
def lk_P (w : va_W) (q qa la e0 : Nat) (cL : ClassId) (ad : li_ad) (n : Nat) (w1 : va_W) : Prop := ∃ qb : Nat, li_L w1 q qb la e0 cL ad (n + 1) ∧ (qb = qa ∨ w.length ≤ qb) ∧ w1.length ≤ w.length + 1 ∧ li_R w w1 [q, qa]
theorem lk_Pa {f g : Nat → Option Nat} {y : Nat} {w1 : va_W} {qb : Nat} (hE : li_E w ad n f) (hy : li_x w ad y) (hnb : ∀ z ∈ [q, qa], li_nb w z) (h1 : li_S w1 q qb la e0 cL (n + 1) g) (h2 : ∀ k, k < n + 1 → (∃ j, j < n ∧ g k = f j) ∨ g k = some y) (h3 : qb = qa ∨ w.length ≤ qb) (h4 : w1.length ≤ w.length + 1) (h5 : li_R w w1 [q, qa]) : lk_P w q qa la e0 cL ad n w1 := ⟨qb, ⟨g, h1, fun k hk => by
  rcases h2 k hk with ⟨j, hj, e⟩ | e
  · obtain ⟨y3, a3, b3⟩ := hE j hj
    exact ⟨y3, e.trans a3, b3.st h5 hnb⟩
  · exact ⟨y, e, hy.st h5 hnb⟩⟩, h3, h4, h5⟩
theorem lk_aa {f g : Nat → Option Nat} {y : Nat} (h1 : ∀ k, k < n → g k = f k) (h2 : g n = some y) : ∀ k, k < n + 1 → (∃ j, j < n ∧ g k = f j) ∨ g k = some y := fun k hk => by
  by_cases e : k = n
  · subst e
    exact Or.inr h2
  · exact Or.inl ⟨k, by omega, h1 k (by omega)⟩
/-- a place that is an object's too: for an empty list -/
theorem lk_nb0 {vs : List Value} (hq : w[q]? = some (la, .inr (5, vs))) (hqa : li_nb w qa) : ∀ z ∈ [q, qa], li_nb w z := fun z hz => by
  rcases List.mem_cons.mp hz with rfl | hz
  · exact li_nbo hq
  · rw [List.mem_singleton.mp hz]
    exact hqa
theorem lk_add (hD0 : va_D (va_A w sz) w) (ht9 : tys[t9]? = some (cL, .object "java/lang/Object")) (h : li_L w q qa la e0 cL ad n) (hqa : li_nb w qa) (hn20 : n ≤ 20) {y : Nat} (hy : li_x w ad y) : li_C l yJx4a65c_add_9ea2d cJx4a65c_add_9ea2d 2 (some .boolean) 6 1 22 0 [.ref la, .ref y] D tys w sz e0 ca ad (fun res w1 => lk_P w q qa la e0 cL ad n w1) := by
  obtain ⟨f, ⟨mc, ra, hq, ha⟩, hE⟩ := h
  rcases ha with ⟨rfl, rfl⟩ | ⟨N, ha, hn, h3⟩
  · exact (li_add_0 l D tys w sz _ ca ad hD0 q qa la mc f cL t9 y hq ht9 hy).mono fun res w1 h => by
      obtain ⟨qb, g, h1, h2, h3, h4, h5, h6⟩ := h
      exact lk_Pa hE hy (lk_nb0 hq hqa) h1 (lk_aa h2 h3) h4 h5 h6
  · have hnb := li_S.nb2 (f := f) hq ha
    by_cases hnN : n < N
    · exact (li_add_r l D tys w sz e0 ca ad hD0 q qa la ra n N mc f cL t9 y hq ha ht9 hnN (by omega) h3 hy).mono fun res w1 h => by
        obtain ⟨qb, g, h1, h2, h3, h4, h5, h6⟩ := h
        exact lk_Pa hE hy hnb h1 (lk_aa h2 h3) h4 h5 h6
    · have e : n = N := by omega
      subst e
      rcases h3 with rfl | rfl | rfl
      · exact (li_add_10 l D tys w sz e0 ca ad hD0 q la mc qa ra f cL t9 y hq ha ht9 hE hy).mono fun res w1 h => by
          obtain ⟨qb, g, h1, h2, h3, h4, h5, h6⟩ := h
          exact lk_Pa hE hy hnb h1 (lk_aa h2 h3) h4 h5 h6
      · exact (li_add_15 l D tys w sz e0 ca ad hD0 q la mc qa ra f cL t9 y hq ha ht9 hE hy).mono fun res w1 h => by
          obtain ⟨qb, g, h1, h2, h3, h4, h5, h6⟩ := h
          exact lk_Pa hE hy hnb h1 (lk_aa h2 h3) h4 h5 h6
      · omega
theorem lk_ins (hD0 : va_D (va_A w sz) w) (ht9 : tys[t9]? = some (cL, .object "java/lang/Object")) (h : li_L w q qa la e0 cL ad n) (hqa : li_nb w qa) (hn20 : n ≤ 20) {i y : Nat} (hi : i ≤ n) (hy : li_x w ad y) : li_C l yJx4a65c_add_7a177 cJx4a65c_add_7a177 5 none 5 1 22 2 [.ref la, .int (nI i), .ref y] D tys w sz e0 ca ad (fun res w1 => lk_P w q qa la e0 cL ad n w1) := by
  obtain ⟨f, ⟨mc, ra, hq, ha⟩, hE⟩ := h
  rcases ha with ⟨rfl, rfl⟩ | ⟨N, ha, hn, h3⟩
  · exact (li_ins_0 l D tys w sz _ ca ad hD0 q qa la mc f cL t9 i y hq ht9 hi hy).mono fun res w1 h => by
      obtain ⟨qb, g, h1, h2, h4, h5, h6⟩ := h
      exact lk_Pa hE hy (lk_nb0 hq hqa) h1 h2 h4 h5 h6
  · have hnb := li_S.nb2 (f := f) hq ha
    by_cases hnN : n < N
    · exact (li_ins_r l D tys w sz e0 ca ad hD0 q qa la ra n N mc f cL t9 i y hq ha ht9 hnN (by omega) h3 hi hE hy).mono fun res w1 h => by
        obtain ⟨qb, g, h1, h2, h4, h5, h6⟩ := h
        exact lk_Pa hE hy hnb h1 h2 h4 h5 h6
    · have e : n = N := by omega
      subst e
      rcases h3 with rfl | rfl | rfl
      · exact (li_ins_10 l D tys w sz e0 ca ad hD0 q la mc qa ra f cL t9 i y hq ha ht9 hE hi hy).mono fun res w1 h => by
          obtain ⟨qb, g, h1, h2, h4, h5, h6⟩ := h
          exact lk_Pa hE hy hnb h1 h2 h4 h5 h6
      · exact (li_ins_15 l D tys w sz e0 ca ad hD0 q la mc qa ra f cL t9 i y hq ha ht9 hE hi hy).mono fun res w1 h => by
          obtain ⟨qb, g, h1, h2, h4, h5, h6⟩ := h
          exact lk_Pa hE hy hnb h1 h2 h4 h5 h6
      · omega
theorem lk_remove (hD0 : va_D (va_A w sz) w) (ht9 : tys[t9]? = some (cL, .object "java/lang/Object")) (h : li_L w q qa la e0 cL ad 21) : li_C l yJx4a65c_remove_915e3 cJx4a65c_remove_915e3 4 (some (.object "java/lang/Object")) 2 0 0 1 [.ref la, .int 0] D tys w sz e0 ca ad (fun res w1 => ∃ y, res = some (.ref y) ∧ li_x w1 ad y ∧ li_L w1 q qa la e0 cL ad 20 ∧ li_R w w1 [q, qa] ∧ w1.length = w.length) := by
  obtain ⟨f, ⟨mc, ra, hq, ha⟩, hE⟩ := h
  rcases ha with ⟨h0, -⟩ | ⟨N, ha, hn, h3⟩
  · exact absurd h0 (by decide)
  · have e : N = 22 := by omega
    subst e
    obtain ⟨y, hf, hy⟩ := hE 0 (by decide)
    have hnb := li_S.nb2 (f := f) (n := 21) hq ha
    refine (li_Jx4a65c_remove_915e3 l D tys w sz e0 ca ad hD0 q qa la ra mc f cL t9 y hq ha ht9 hE hf).mono fun res w1 h => ?_
    obtain ⟨h1, h2, h4, h5, h6⟩ := h
    refine ⟨y, h1, hy.st h6 hnb, ⟨_, ⟨mc + 1, ra, h2, Or.inr ⟨22, h4, by decide, h3⟩⟩, fun k hk => ?_⟩, h6, h5⟩
    obtain ⟨y3, a3, b3⟩ := hE (k + 1) (by omega)
    refine ⟨y3, ?_, b3.st h6 hnb⟩
    rw [va_up_ne _ _ (by omega)]
    show (if 0 ≤ k ∧ k < 0 + 20 then f (1 + (k - 0)) else f k) = some y3
    rw [if_pos (by omega), show 1 + (k - 0) = k + 1 by omega]
    exact a3
theorem lk_intValue (hD0 : va_D (va_A w sz) w) {y : Nat} (hy : li_x w ad y) : li_C l yJ6_intValue_8abf5 cJ6_intValue_8abf5 1 (some .int) 0 0 0 0 [.ref y] D tys w sz e0 ca ad (fun res w1 => w1 = w) := by
  rcases hy with ⟨qb, v, -, hq⟩ | ⟨k, hk, rfl⟩
  · exact li_intValue_w l D tys w sz e0 ca ad hD0 qb y v hq
  · exact li_intValue_c l D tys w sz e0 ca ad hD0 k hk
/-- a list elsewhere stays -/
theorem li_L.st {w1 : va_W} {qs : List Nat} (h : li_L w q qa la e0 cL ad n) (hR : li_R w w1 qs) (hq : ∀ z ∈ qs, li_nb w z) (h1 : q ∉ qs) (h2 : qa ∉ qs) : li_L w1 q qa la e0 cL ad n := by
  obtain ⟨f, ⟨mc, ra, hq9, ha⟩, hE⟩ := h
  refine ⟨f, ⟨mc, ra, hR.at hq9 h1, ?_⟩, hE.st hR hq⟩
  rcases ha with h | ⟨N, ha, hn, h3⟩
  · exact Or.inl h
  · exact Or.inr ⟨N, hR.at ha h2, hn, h3⟩
end
section
variable {p : Program} {l : Launch} {e : Env} {R : Room} {s : State} {m : MethodId} {args : Array Value} {below : List Frame} {meth : Method} {c : Code} {Q : State → Prop} {cc : ByteArray}
variable {D : va_G} {tys : List (ClassId × FieldType)} {A : Nat → Prop} {w : va_W} {H : Heap} {locs : List Loc} {ls : Array Slot} {pc cells slots e0 ca : Nat} {ad : li_ad} {P : Option Value → va_W → Prop} {rest As : List Value} {x y : MethodName} {cy : ByteArray} {mxl lv mc ms rs n ix cnt : Nat} {ret : Option FieldType} {own C : String} {b : Nat} {cC : ClassId}
theorem li_call5 {st0 : List Value} {av : Array Value} (hD : va_D A w) (hS : va_S A s.heap H locs) (hA : ∀ q, s.heap.size ≤ q → A q)
    (hr : va_Run5 p l e R s m args below meth c H locs cells slots mc ms (F0 m pc ls st0) rest (li_Q rs D P (va_A w H.size) av) (va_A w H.size))
    (k : ∀ (res : Option Value) (w1 : va_W) (H1 : Heap) (locs1 : List Loc), li_rv rs res → P res w1 → va_P D vwCl w1 H1 → va_D A w1 → va_S A s.heap H1 locs1 → W p l e R s m args below meth c H1 locs1 (cells + mc) (slots + ms) Q (F0 m (pc + 5) ls (res.toList ++ rest))) :
    W p l e R s m args below meth c H locs cells slots Q (F0 m pc ls st0) := by
  have hAA := li_AA hD hS hA
  have fin : ∀ w1, va_D (va_A w H.size) w1 → va_D A w1 := fun w1 h => ⟨h.1, fun j q hq => hAA _ (h.2 j q hq)⟩
  match rs with
  | 0 => exact va_callFi (a := av) hr hS (fun q _ h => hAA q h) hAA (fun r u t H1 locs1 ht hvm hw hB _ _ hS1 => k (some (.int r)) u H1 locs1 ⟨r, rfl⟩ hw (by rw [← ht]; exact hB.1) (fin u hB.2) hS1)
  | 1 => exact va_callFr (a := av) hr hS (fun q _ h => hAA q h) hAA (fun u ra t H1 locs1 ht hvm hw hB _ _ hS1 => k (some (.ref ra)) u H1 locs1 ⟨ra, rfl⟩ hB.1 (by rw [← ht]; exact hB.2.1) (fin u hB.2.2) hS1)
  | n + 2 => exact va_callFv (a := av) hr hS (fun q _ h => hAA q h) hAA (fun u t H1 locs1 ht hvm hw hB _ _ hS1 => k none u H1 locs1 rfl hw (by rw [← ht]; exact hB.1) (fin u hB.2) hS1)
/-- a call by an interface -/
def li_CF (own C : String) (ix : Nat) (x y : MethodName) (cy : ByteArray) (mxl : Nat) (ret : Option FieldType) (n : Nat) : Prop := GoodIn en_cw (va_wsF own ix C x y (Cond.code y cy mxl ret :: en_cw)) ∧ (x.cls ≠ "java/lang/invoke/MethodHandle" ∧ x.cls ≠ "java/lang/invoke/VarHandle" ∧ (parseMethodDescriptor x.desc).map (fun d => d.parameters.length) = some n)
theorem li_cF (hM : li_C l y cy mxl ret lv mc ms rs (.ref b :: As) D tys w H.size e0 ca ad P) (hV : li_CF own C ix x y cy mxl ret n) (hF : va_Fw C x y s) (hat : ClassAt s C cC) (hrc : ∃ cell : Cell, H[b]? = some cell ∧ cell.vm.isStatics = false ∧ s.vm.findClass C = some cell.cls) (hAl : As.length = n) (hlv : 40 + lv + 1 ≤ R.frames ∧ 8 + (mxl + 11) + (400 + 60 * lv) ≤ R.locals) (hcs : cells + mc ≤ R.cells ∧ slots + ms ≤ R.slots) (hwt : (rest.map fun v => v.category).sum ≤ 8)
    (hexec : p.tables.exec = Jvm.exec) (hb : c.code = cc) (hml : c.maxLocals = ls.size) (hts : ∀ w ∈ en_cw, w.before args s = true) (hown : s.vm.findClass own = some m.cls) (hK : va_K D vwCl tys s) (hT : tf A s s.heap) (hL : li_f e0 ca ad A s s.heap) (hP : va_P D vwCl w H) (hD : va_D A w) (hS : va_S A s.heap H locs) (hA : ∀ q, s.heap.size ≤ q → A q) (hdg : decode cc pc = .ok (.invokeinterface ix cnt, 5))
    (k : ∀ (res : Option Value) (w1 : va_W) (H1 : Heap) (locs1 : List Loc), li_rv rs res → P res w1 → va_P D vwCl w1 H1 → va_D A w1 → va_S A s.heap H1 locs1 → W p l e R s m args below meth c H1 locs1 (cells + mc) (slots + ms) Q (F0 m (pc + 5) ls (res.toList ++ rest))) :
    W p l e R s m args below meth c H locs cells slots Q (F0 m pc ls (As.reverse ++ .ref b :: rest)) := by
  obtain ⟨h1, h2⟩ := li_pre (As := .ref b :: As) hK hT hL hP hD hS hA
  exact li_call5 hD hS hA (va_runF (As := As) (rest := rest) (b := b) (C := C) hat ⟨hexec, hb, rfl, hown, hts⟩ hM (va_cwF n hts hV.1 rfl rfl rfl hF hV.2 hlv) ⟨h1, hrc, h2⟩ rfl hAl hml.symm rfl (lv_room hwt) hdg hcs) k
end
theorem li_R.nw {w0 w w1 : va_W} {qs : List Nat} (h : li_R w0 w []) (g : li_R w w1 qs) (hq : ∀ q ∈ qs, w0.length ≤ q) : li_R w0 w1 [] := ⟨Nat.le_trans h.1 g.1, fun j hj _ => (g.2.1 j (Nat.lt_of_lt_of_le hj h.1) fun hm => Nat.not_lt.mpr (hq j hm) hj).trans (h.2.1 j hj (by simp)), fun j x hx => by
  obtain ⟨x1, a, b⟩ := h.2.2 j x hx
  obtain ⟨x2, c, d⟩ := g.2.2 j x1 a
  exact ⟨x2, c, d.1.trans b.1, b.2.tr d.2⟩⟩
theorem li_L.nba {w : va_W} {q qa la e0 n : Nat} {cL : ClassId} {ad : li_ad} (h : li_L w q qa la e0 cL ad (n + 1)) : li_nb w qa := by
  obtain ⟨f, ⟨mc, ra, -, ha⟩, -⟩ := h
  rcases ha with ⟨h, -⟩ | ⟨N, ha, -, -⟩
  · exact absurd h (Nat.succ_ne_zero n)
  · exact li_nba ha
theorem li_nbi {w : va_W} {q la : Nat} {vs : List Value} (h : w[q]? = some (la, .inr (4, vs))) : li_nb w q := fun y v h9 => by
  have e := (Prod.mk.inj (Option.some.inj (h.symm.trans h9))).2
  have e1 := (Prod.mk.inj (Sum.inr.inj e)).1
  exact absurd e1 (by decide)
/-- what stays the same along a body -/
def mo_F (p : Program) (R : Room) (s : State) (m : MethodId) (args : Array Value) (c : Code) (cc : ByteArray) (nL : Nat) (D : va_G) (tys : List (ClassId × FieldType)) (A : Nat → Prop) (e0 ca : Nat) (ad : li_ad) : Prop := (p.tables.exec = Jvm.exec) ∧ (c.code = cc) ∧ (c.maxLocals = nL) ∧ (∀ z ∈ en_cw, z.before args s = true) ∧ (s.vm.findClass RX7 = some m.cls) ∧ (va_K D vwCl tys s) ∧ (tf A s s.heap) ∧ (li_f e0 ca ad A s s.heap) ∧ (∀ q, s.heap.size ≤ q → A q) ∧ (48 ≤ R.frames ∧ 880 ≤ R.locals)
theorem lk_rv {D : va_G} {tys : List (ClassId × FieldType)} {s : State} {w : va_W} {H : Heap} {q qa la e0 n : Nat} {cL : ClassId} {ad : li_ad} (h : li_L w q qa la e0 cL ad n) (hK : va_K D vwCl tys s) (hP : va_P D vwCl w H) : ∃ cell : Cell, H[la]? = some cell ∧ cell.vm.isStatics = false ∧ s.vm.findClass RJx4a65c = some cell.cls := by
  obtain ⟨f, ⟨mc, ra, hq, -⟩, -⟩ := h
  exact va_recv hK hP (ci := 5) (q0 := q) rfl hq
theorem li_nbs {w w1 : va_W} {q : Nat} {qs : List Nat} (h : li_nb w q) (hR : li_R w w1 qs) (hq : q < w.length) (hqs : q ∉ qs) : li_nb w1 q := fun y v h9 => h y v (by rw [← hR.2.1 q hq hqs]; exact h9)
theorem li_L.lta {w : va_W} {q qa la e0 n : Nat} {cL : ClassId} {ad : li_ad} (h : li_L w q qa la e0 cL ad (n + 1)) : qa < w.length := by
  obtain ⟨f, ⟨mc, ra, -, ha⟩, -⟩ := h
  rcases ha with ⟨h, -⟩ | ⟨N, ha, -, -⟩
  · exact absurd h (Nat.succ_ne_zero n)
  · exact (List.getElem?_eq_some_iff.mp ha).1
