set_option maxHeartbeats 4000000 in
theorem li_J3_checkIndex_8e157 (l : Launch) (D : va_G) (tys : List (ClassId × FieldType)) (w : va_W) (sz e0 ca : Nat) (ad : li_ad) (hD0 : va_D (va_A w sz) w) (i n : Nat) (hi : i < n) (hN : n < 1000) : li_C l yJ3_checkIndex_8e157 cJ3_checkIndex_8e157 3 (some .int) 0 0 0 0 [.int (nI i), .int (nI n), .null] D tys w sz e0 ca ad (fun res w1 => w1 = w) := by
  refine Met.ofW (cc := cJ3_checkIndex_8e157) (maxL := 3) (ret := (some .int)) (by decide +kernel) rfl ?_
  intro p e s m args below meth c s₁ B9 hml hv
  obtain ⟨rfl, ⟨hsz, hP, hK, hT⟩, hL⟩ := hv
  subst hsz
  have hx := B9.exec
  have hb := B9.bytes
  have hr := B9.returns
  have hlocks := B9.notSynchronized
  have hts0 := atoms_spec (ws := Cond.code yJ3_checkIndex_8e157 cJ3_checkIndex_8e157 3 (some .int) :: en_cw) B9.pre
  have hts : ∀ z ∈ en_cw, z.before _ s = true := fun z hz => hts0 z (List.mem_cons_of_mem _ hz)
  have hown : s.vm.findClass RJ3 = some m.cls := findClass_of_methodNamed B9.named
  have hA : ∀ q : Nat, s.heap.size ≤ q → va_A w s.heap.size q := fun q h => Or.inr h
  have hS : va_S (va_A w s.heap.size) s.heap s.heap [] := va_S.rf
  have hD : va_D (va_A w s.heap.size) w := ⟨hD0.1, fun j z hz => Or.inl ⟨j, z.2, hz⟩⟩
  have hR9 : li_R w w [] := li_R.rf
  have hl := lv_entry ([.int (nI i), .int (nI n), .null]) (n := 3) (Nat.le_of_ble_eq_true rfl)
  rw [lg_entry_eq]
  generalize (lg_sl ([.int (nI i), .int (nI n), .null]) ++ List.replicate (3 - (lg_sl ([.int (nI i), .int (nI n), .null])).length) Slot.unset).toArray = ls at hl ⊢
  have hl : lv_has ls 3 [(0, .int (nI i)), (1, .int (nI n)), (2, .null)] := hl
  refine lv_iload_n hx hb dj_J3_checkIndex_8e157_0 rfl (lv_at hl 0 rfl) ?_
  refine lv_if_lt (tgt := 9) hx hb dj_J3_checkIndex_8e157_1 (by decide) (fun h9 => absurd h9 (by rw [Int32.lt_iff_toInt_lt, nI_toInt (by omega)]; exact Int.not_lt.mpr (by simp))) (fun _ => ?_)
  refine lv_iload_n hx hb dj_J3_checkIndex_8e157_4 rfl (lv_at hl 0 rfl) ?_
  refine lv_iload_n hx hb dj_J3_checkIndex_8e157_5 rfl (lv_at hl 1 rfl) ?_
  refine lv_icmp_lt (tgt := 16) hx hb dj_J3_checkIndex_8e157_6 (by decide) (fun _ => ?_) (fun h9 => absurd (nI_lt hi (by omega)) h9)
  refine lv_iload_n hx hb dj_J3_checkIndex_8e157_16 rfl (lv_at hl 0 rfl) ?_
  exact W.iret (v := (nI i)) hx hb hr (fun t ht hW9 => ⟨⟨(nI i), w, rfl, rfl, ⟨by rw [ht]; exact hP, hD⟩⟩, hS.F ht⟩) hS.2.2 dj_J3_checkIndex_8e157_17
set_option maxHeartbeats 4000000 in
theorem li_J15_checkIndex_7cf53 (l : Launch) (D : va_G) (tys : List (ClassId × FieldType)) (w : va_W) (sz e0 ca : Nat) (ad : li_ad) (hD0 : va_D (va_A w sz) w) (i n : Nat) (hi : i < n) (hN : n < 1000) : li_C l yJ15_checkIndex_7cf53 cJ15_checkIndex_7cf53 2 (some .int) 1 0 0 0 [.int (nI i), .int (nI n)] D tys w sz e0 ca ad (fun res w1 => w1 = w) := by
  refine Met.ofW (cc := cJ15_checkIndex_7cf53) (maxL := 2) (ret := (some .int)) (by decide +kernel) rfl ?_
  intro p e s m args below meth c s₁ B9 hml hv
  obtain ⟨rfl, ⟨hsz, hP, hK, hT⟩, hL⟩ := hv
  subst hsz
  have hx := B9.exec
  have hb := B9.bytes
  have hr := B9.returns
  have hlocks := B9.notSynchronized
  have hts0 := atoms_spec (ws := Cond.code yJ15_checkIndex_7cf53 cJ15_checkIndex_7cf53 2 (some .int) :: en_cw) B9.pre
  have hts : ∀ z ∈ en_cw, z.before _ s = true := fun z hz => hts0 z (List.mem_cons_of_mem _ hz)
  have hown : s.vm.findClass RJ15 = some m.cls := findClass_of_methodNamed B9.named
  have hA : ∀ q : Nat, s.heap.size ≤ q → va_A w s.heap.size q := fun q h => Or.inr h
  have hS : va_S (va_A w s.heap.size) s.heap s.heap [] := va_S.rf
  have hD : va_D (va_A w s.heap.size) w := ⟨hD0.1, fun j z hz => Or.inl ⟨j, z.2, hz⟩⟩
  have hR9 : li_R w w [] := li_R.rf
  have hl := lv_entry ([.int (nI i), .int (nI n)]) (n := 2) (Nat.le_of_ble_eq_true rfl)
  rw [lg_entry_eq]
  generalize (lg_sl ([.int (nI i), .int (nI n)]) ++ List.replicate (2 - (lg_sl ([.int (nI i), .int (nI n)])).length) Slot.unset).toArray = ls at hl ⊢
  have hl : lv_has ls 2 [(0, .int (nI i)), (1, .int (nI n))] := hl
  refine lv_iload_n hx hb dj_J15_checkIndex_7cf53_0 rfl (lv_at hl 0 rfl) ?_
  refine lv_iload_n hx hb dj_J15_checkIndex_7cf53_1 rfl (lv_at hl 1 rfl) ?_
  refine lv_null hx hb dj_J15_checkIndex_7cf53_2 ?_
  refine li_cS (As := [.int (nI i), .int (nI n), .null]) (rest := []) (li_J3_checkIndex_8e157 l D tys w _ e0 ca ad (⟨hD.1, fun j z hz => Or.inl ⟨j, z.2, hz⟩⟩ : va_D (va_A w s.heap.size) w) i n hi hN) gj_J15_105 rfl ⟨Nat.le_of_ble_eq_true rfl, Nat.le_of_ble_eq_true rfl⟩ ⟨Nat.le_of_ble_eq_true rfl, Nat.le_of_ble_eq_true rfl⟩ (Nat.le_of_ble_eq_true rfl) hx hb (hml.trans hl.1.symm) hts hown hK hT hL hP hD hS hA dj_J15_checkIndex_7cf53_3 (fun res w9 H locs hrv hqq hP hD hS => ?_)
  have hq9 : w = w9 := Eq.symm hqq
  subst hq9
  obtain ⟨r9, rfl⟩ := hrv
  exact W.iret (v := r9) hx hb hr (fun t ht hW9 => ⟨⟨r9, w, rfl, rfl, ⟨by rw [ht]; exact hP, hD⟩⟩, hS.F ht⟩) hS.2.2 dj_J15_checkIndex_7cf53_6
set_option maxHeartbeats 4000000 in
theorem li_Jx4a65c_size_8abf5 (l : Launch) (D : va_G) (tys : List (ClassId × FieldType)) (w : va_W) (sz e0 ca : Nat) (ad : li_ad) (hD0 : va_D (va_A w sz) w) (q la ra n : Nat) (mc : Int32) (hq : w[q]? = some (la, .inr (5, [.int mc, .ref ra, .int (nI n)]))) : li_C l yJx4a65c_size_8abf5 cJx4a65c_size_8abf5 1 (some .int) 0 0 0 0 [.ref la] D tys w sz e0 ca ad (fun res w1 => res = some (.int (nI n)) ∧ w1 = w) := by
  refine Met.ofW (cc := cJx4a65c_size_8abf5) (maxL := 1) (ret := (some .int)) (by decide +kernel) rfl ?_
  intro p e s m args below meth c s₁ B9 hml hv
  obtain ⟨rfl, ⟨hsz, hP, hK, hT⟩, hL⟩ := hv
  subst hsz
  have hx := B9.exec
  have hb := B9.bytes
  have hr := B9.returns
  have hlocks := B9.notSynchronized
  have hts0 := atoms_spec (ws := Cond.code yJx4a65c_size_8abf5 cJx4a65c_size_8abf5 1 (some .int) :: en_cw) B9.pre
  have hts : ∀ z ∈ en_cw, z.before _ s = true := fun z hz => hts0 z (List.mem_cons_of_mem _ hz)
  have hown : s.vm.findClass RJx4a65c = some m.cls := findClass_of_methodNamed B9.named
  have hA : ∀ q : Nat, s.heap.size ≤ q → va_A w s.heap.size q := fun q h => Or.inr h
  have hS : va_S (va_A w s.heap.size) s.heap s.heap [] := va_S.rf
  have hD : va_D (va_A w s.heap.size) w := ⟨hD0.1, fun j z hz => Or.inl ⟨j, z.2, hz⟩⟩
  have hR9 : li_R w w [] := li_R.rf
  have hl := lv_entry ([.ref la]) (n := 1) (Nat.le_of_ble_eq_true rfl)
  rw [lg_entry_eq]
  generalize (lg_sl ([.ref la]) ++ List.replicate (1 - (lg_sl ([.ref la])).length) Slot.unset).toArray = ls at hl ⊢
  have hl : lv_has ls 1 [(0, .ref la)] := hl
  refine lv_aload_n hx hb dj_Jx4a65c_size_8abf5_0 rfl (lv_at hl 0 rfl) ?_
  refine va_get (D := D) (ci := 5) (v := .int (nI n)) (C := RJx4a65c) (T := TJx4a65c) (N := 3) hx hb hts uwj_Jx4a65c hown hK hP q hq rfl 2 (by decide) (hts _ cwj1422) (fun _ h9 => h9) rfl dj_Jx4a65c_size_8abf5_1 ?_
  exact W.iret (v := (nI n)) hx hb hr (fun t ht hW9 => ⟨⟨(nI n), w, rfl, ⟨rfl, rfl⟩, ⟨by rw [ht]; exact hP, hD⟩⟩, hS.F ht⟩) hS.2.2 dj_Jx4a65c_size_8abf5_4
set_option maxHeartbeats 4000000 in
theorem li_Jx4a65c_isEmpty_aae02 (l : Launch) (D : va_G) (tys : List (ClassId × FieldType)) (w : va_W) (sz e0 ca : Nat) (ad : li_ad) (hD0 : va_D (va_A w sz) w) (q la ra n : Nat) (mc : Int32) (hq : w[q]? = some (la, .inr (5, [.int mc, .ref ra, .int (nI n)]))) (hN : n < 1000) : li_C l yJx4a65c_isEmpty_aae02 cJx4a65c_isEmpty_aae02 1 (some .boolean) 0 0 0 0 [.ref la] D tys w sz e0 ca ad (fun res w1 => res = some (.int (if n = 0 then 1 else 0)) ∧ w1 = w) := by
  refine Met.ofW (cc := cJx4a65c_isEmpty_aae02) (maxL := 1) (ret := (some .boolean)) (by decide +kernel) rfl ?_
  intro p e s m args below meth c s₁ B9 hml hv
  obtain ⟨rfl, ⟨hsz, hP, hK, hT⟩, hL⟩ := hv
  subst hsz
  have hx := B9.exec
  have hb := B9.bytes
  have hr := B9.returns
  have hlocks := B9.notSynchronized
  have hts0 := atoms_spec (ws := Cond.code yJx4a65c_isEmpty_aae02 cJx4a65c_isEmpty_aae02 1 (some .boolean) :: en_cw) B9.pre
  have hts : ∀ z ∈ en_cw, z.before _ s = true := fun z hz => hts0 z (List.mem_cons_of_mem _ hz)
  have hown : s.vm.findClass RJx4a65c = some m.cls := findClass_of_methodNamed B9.named
  have hA : ∀ q : Nat, s.heap.size ≤ q → va_A w s.heap.size q := fun q h => Or.inr h
  have hS : va_S (va_A w s.heap.size) s.heap s.heap [] := va_S.rf
  have hD : va_D (va_A w s.heap.size) w := ⟨hD0.1, fun j z hz => Or.inl ⟨j, z.2, hz⟩⟩
  have hR9 : li_R w w [] := li_R.rf
  have hl := lv_entry ([.ref la]) (n := 1) (Nat.le_of_ble_eq_true rfl)
  rw [lg_entry_eq]
  generalize (lg_sl ([.ref la]) ++ List.replicate (1 - (lg_sl ([.ref la])).length) Slot.unset).toArray = ls at hl ⊢
  have hl : lv_has ls 1 [(0, .ref la)] := hl
  refine lv_aload_n hx hb dj_Jx4a65c_isEmpty_aae02_0 rfl (lv_at hl 0 rfl) ?_
  refine va_get (D := D) (ci := 5) (v := .int (nI n)) (C := RJx4a65c) (T := TJx4a65c) (N := 3) hx hb hts uwj_Jx4a65c hown hK hP q hq rfl 2 (by decide) (hts _ cwj1422) (fun _ h9 => h9) rfl dj_Jx4a65c_isEmpty_aae02_1 ?_
  by_cases hn0 : n = 0
  · subst hn0
    refine lv_if_ne (tgt := 11) hx hb dj_Jx4a65c_isEmpty_aae02_4 (by decide) (fun h9 => absurd (by decide) h9) (fun _ => ?_)
    refine lv_iconst (v := 1) hx hb dj_Jx4a65c_isEmpty_aae02_7 (by decide) ?_
    refine lv_goto (tgt := 12) hx hb dj_Jx4a65c_isEmpty_aae02_8 (by decide) ?_
    exact W.zret (v := 1) (ty := .boolean) hx hb hr (by decide) (fun t ht hW9 => ⟨⟨1, w, rfl, ⟨rfl, rfl⟩, ⟨by rw [ht]; exact hP, hD⟩⟩, hS.F ht⟩) hS.2.2 dj_Jx4a65c_isEmpty_aae02_12
  · refine lv_if_ne (tgt := 11) hx hb dj_Jx4a65c_isEmpty_aae02_4 (by decide) (fun _ => ?_) (fun h9 => absurd ((nI_eq (show n < 2 ^ 31 by omega) (show 0 < 2 ^ 31 by decide)).mp (show nI n = nI 0 from h9)) hn0)
    refine lv_iconst (v := 0) hx hb dj_Jx4a65c_isEmpty_aae02_11 (by decide) ?_
    exact W.zret (v := 0) (ty := .boolean) hx hb hr (by decide) (fun t ht hW9 => ⟨⟨0, w, rfl, ⟨by rw [if_neg hn0], rfl⟩, ⟨by rw [ht]; exact hP, hD⟩⟩, hS.F ht⟩) hS.2.2 dj_Jx4a65c_isEmpty_aae02_12
set_option maxHeartbeats 4000000 in
theorem li_Jx4a65c_elementData_915e3 (l : Launch) (D : va_G) (tys : List (ClassId × FieldType)) (w : va_W) (sz e0 ca : Nat) (ad : li_ad) (hD0 : va_D (va_A w sz) w) (q qa la ra n N : Nat) (mc : Int32) (f : Nat → Option Nat) (cL : ClassId) (t9 : Nat) (i y : Nat) (hq : w[q]? = some (la, .inr (5, [.int mc, .ref ra, .int (nI n)]))) (ha : w[qa]? = some (ra, .inl (cL, N, .inr (.inr (.inr (.inr f)))))) (ht9 : tys[t9]? = some (cL, .object "java/lang/Object")) (hn : n ≤ N) (hN : N < 1000) (hi : i < n) (hf : f i = some y) : li_C l yJx4a65c_elementData_915e3 cJx4a65c_elementData_915e3 2 (some (.object "java/lang/Object")) 0 0 0 1 [.ref la, .int (nI i)] D tys w sz e0 ca ad (fun res w1 => res = some (.ref y) ∧ w1 = w) := by
  refine Met.ofW (cc := cJx4a65c_elementData_915e3) (maxL := 2) (ret := (some (.object "java/lang/Object"))) (by decide +kernel) rfl ?_
  intro p e s m args below meth c s₁ B9 hml hv
  obtain ⟨rfl, ⟨hsz, hP, hK, hT⟩, hL⟩ := hv
  subst hsz
  have hx := B9.exec
  have hb := B9.bytes
  have hr := B9.returns
  have hlocks := B9.notSynchronized
  have hts0 := atoms_spec (ws := Cond.code yJx4a65c_elementData_915e3 cJx4a65c_elementData_915e3 2 (some (.object "java/lang/Object")) :: en_cw) B9.pre
  have hts : ∀ z ∈ en_cw, z.before _ s = true := fun z hz => hts0 z (List.mem_cons_of_mem _ hz)
  have hown : s.vm.findClass RJx4a65c = some m.cls := findClass_of_methodNamed B9.named
  have hA : ∀ q : Nat, s.heap.size ≤ q → va_A w s.heap.size q := fun q h => Or.inr h
  have hS : va_S (va_A w s.heap.size) s.heap s.heap [] := va_S.rf
  have hD : va_D (va_A w s.heap.size) w := ⟨hD0.1, fun j z hz => Or.inl ⟨j, z.2, hz⟩⟩
  have hR9 : li_R w w [] := li_R.rf
  have hl := lv_entry ([.ref la, .int (nI i)]) (n := 2) (Nat.le_of_ble_eq_true rfl)
  rw [lg_entry_eq]
  generalize (lg_sl ([.ref la, .int (nI i)]) ++ List.replicate (2 - (lg_sl ([.ref la, .int (nI i)])).length) Slot.unset).toArray = ls at hl ⊢
  have hl : lv_has ls 2 [(0, .ref la), (1, .int (nI i))] := hl
  refine lv_aload_n hx hb dj_Jx4a65c_elementData_915e3_0 rfl (lv_at hl 0 rfl) ?_
  refine va_get (D := D) (ci := 5) (v := .ref ra) (C := RJx4a65c) (T := TJx4a65c) (N := 3) hx hb hts uwj_Jx4a65c hown hK hP q hq rfl 1 (by decide) (hts _ cwj1419) (fun _ h9 => h9) rfl dj_Jx4a65c_elementData_915e3_1 ?_
  refine lv_iload_n hx hb dj_Jx4a65c_elementData_915e3_4 rfl (lv_at hl 1 rfl) ?_
  refine va_aldq hx hb hK hP qa t9 ha ht9 (vp_in_nI (show i < N by omega) (by omega)) dj_Jx4a65c_elementData_915e3_5 ?_
  rw [nI_clamp (show i < 2 ^ 31 by omega), hf]
  exact W.aret (v := .ref y) hx hb hr (Or.inl ⟨_, rfl⟩) (Or.inr ⟨_, rfl⟩) (fun t ht hW9 => ⟨⟨w, _, rfl, trivial, ⟨rfl, rfl⟩, by rw [ht]; exact hP, hD⟩, hS.F ht⟩) hS.2.2 dj_Jx4a65c_elementData_915e3_6
set_option maxHeartbeats 4000000 in
theorem li_Jx4a65c_get_915e3 (l : Launch) (D : va_G) (tys : List (ClassId × FieldType)) (w : va_W) (sz e0 ca : Nat) (ad : li_ad) (hD0 : va_D (va_A w sz) w) (q qa la ra n N : Nat) (mc : Int32) (f : Nat → Option Nat) (cL : ClassId) (t9 : Nat) (i y : Nat) (hq : w[q]? = some (la, .inr (5, [.int mc, .ref ra, .int (nI n)]))) (ha : w[qa]? = some (ra, .inl (cL, N, .inr (.inr (.inr (.inr f)))))) (ht9 : tys[t9]? = some (cL, .object "java/lang/Object")) (hn : n ≤ N) (hN : N < 1000) (hi : i < n) (hf : f i = some y) : li_C l yJx4a65c_get_915e3 cJx4a65c_get_915e3 2 (some (.object "java/lang/Object")) 2 0 0 1 [.ref la, .int (nI i)] D tys w sz e0 ca ad (fun res w1 => res = some (.ref y) ∧ w1 = w) := by
  refine Met.ofW (cc := cJx4a65c_get_915e3) (maxL := 2) (ret := (some (.object "java/lang/Object"))) (by decide +kernel) rfl ?_
  intro p e s m args below meth c s₁ B9 hml hv
  obtain ⟨rfl, ⟨hsz, hP, hK, hT⟩, hL⟩ := hv
  subst hsz
  have hx := B9.exec
  have hb := B9.bytes
  have hr := B9.returns
  have hlocks := B9.notSynchronized
  have hts0 := atoms_spec (ws := Cond.code yJx4a65c_get_915e3 cJx4a65c_get_915e3 2 (some (.object "java/lang/Object")) :: en_cw) B9.pre
  have hts : ∀ z ∈ en_cw, z.before _ s = true := fun z hz => hts0 z (List.mem_cons_of_mem _ hz)
  have hown : s.vm.findClass RJx4a65c = some m.cls := findClass_of_methodNamed B9.named
  have hA : ∀ q : Nat, s.heap.size ≤ q → va_A w s.heap.size q := fun q h => Or.inr h
  have hS : va_S (va_A w s.heap.size) s.heap s.heap [] := va_S.rf
  have hD : va_D (va_A w s.heap.size) w := ⟨hD0.1, fun j z hz => Or.inl ⟨j, z.2, hz⟩⟩
  have hR9 : li_R w w [] := li_R.rf
  have hl := lv_entry ([.ref la, .int (nI i)]) (n := 2) (Nat.le_of_ble_eq_true rfl)
  rw [lg_entry_eq]
  generalize (lg_sl ([.ref la, .int (nI i)]) ++ List.replicate (2 - (lg_sl ([.ref la, .int (nI i)])).length) Slot.unset).toArray = ls at hl ⊢
  have hl : lv_has ls 2 [(0, .ref la), (1, .int (nI i))] := hl
  refine lv_iload_n hx hb dj_Jx4a65c_get_915e3_0 rfl (lv_at hl 1 rfl) ?_
  refine lv_aload_n hx hb dj_Jx4a65c_get_915e3_1 rfl (lv_at hl 0 rfl) ?_
  refine va_get (D := D) (ci := 5) (v := .int (nI n)) (C := RJx4a65c) (T := TJx4a65c) (N := 3) hx hb hts uwj_Jx4a65c hown hK hP q hq rfl 2 (by decide) (hts _ cwj1422) (fun _ h9 => h9) rfl dj_Jx4a65c_get_915e3_2 ?_
  refine li_cS (As := [.int (nI i), .int (nI n)]) (rest := []) (li_J15_checkIndex_7cf53 l D tys w _ e0 ca ad (⟨hD.1, fun j z hz => Or.inl ⟨j, z.2, hz⟩⟩ : va_D (va_A w s.heap.size) w) i n hi (by omega)) gj_Jx4a65c_118 rfl ⟨Nat.le_of_ble_eq_true rfl, Nat.le_of_ble_eq_true rfl⟩ ⟨Nat.le_of_ble_eq_true rfl, Nat.le_of_ble_eq_true rfl⟩ (Nat.le_of_ble_eq_true rfl) hx hb (hml.trans hl.1.symm) hts hown hK hT hL hP hD hS hA dj_Jx4a65c_get_915e3_5 (fun res w9 H locs hrv hqq hP hD hS => ?_)
  have hq9 : w = w9 := Eq.symm hqq
  subst hq9
  obtain ⟨r9, rfl⟩ := hrv
  refine lv_pop hx hb dj_Jx4a65c_get_915e3_8 rfl ?_
  refine lv_aload_n hx hb dj_Jx4a65c_get_915e3_9 rfl (lv_at hl 0 rfl) ?_
  refine lv_iload_n hx hb dj_Jx4a65c_get_915e3_10 rfl (lv_at hl 1 rfl) ?_
  refine li_cV (As := [.int (nI i)]) (rest := []) (li_Jx4a65c_elementData_915e3 l D tys w _ e0 ca ad (⟨hD.1, fun j z hz => Or.inl ⟨j, z.2, hz⟩⟩ : va_D (va_A w H.size) w) q qa la ra n N mc f cL t9 i y hq ha ht9 hn hN hi hf) gj_Jx4a65c_123 (va_recv hK hP (ci := 5) (q0 := q) rfl hq) rfl ⟨Nat.le_of_ble_eq_true rfl, Nat.le_of_ble_eq_true rfl⟩ ⟨Nat.le_of_ble_eq_true rfl, Nat.le_of_ble_eq_true rfl⟩ (Nat.le_of_ble_eq_true rfl) hx hb (hml.trans hl.1.symm) hts hown hK hT hL hP hD hS hA dj_Jx4a65c_get_915e3_11 (fun res w9 H locs hrv hqq hP hD hS => ?_)
  obtain ⟨er, ew⟩ := hqq
  have ew := Eq.symm ew
  subst er
  subst ew
  exact W.aret (v := .ref y) hx hb hr (Or.inl ⟨_, rfl⟩) (Or.inr ⟨_, rfl⟩) (fun t ht hW9 => ⟨⟨w, _, rfl, trivial, ⟨rfl, rfl⟩, by rw [ht]; exact hP, hD⟩, hS.F ht⟩) hS.2.2 dj_Jx4a65c_get_915e3_14
set_option maxHeartbeats 4000000 in
theorem li_newLength_10 (l : Launch) (D : va_G) (tys : List (ClassId × FieldType)) (w : va_W) (sz e0 ca : Nat) (ad : li_ad) (hD0 : va_D (va_A w sz) w) : li_C l yJ8_newLength_cabcc cJ8_newLength_cabcc 4 (some .int) 0 0 0 0 [.int 10, .int 1, .int 5] D tys w sz e0 ca ad (fun res w1 => res = some (.int 15) ∧ w1 = w) := by
  refine Met.ofW (cc := cJ8_newLength_cabcc) (maxL := 4) (ret := (some .int)) (by decide +kernel) rfl ?_
  intro p e s m args below meth c s₁ B9 hml hv
  obtain ⟨rfl, ⟨hsz, hP, hK, hT⟩, hL⟩ := hv
  subst hsz
  have hx := B9.exec
  have hb := B9.bytes
  have hr := B9.returns
  have hlocks := B9.notSynchronized
  have hts0 := atoms_spec (ws := Cond.code yJ8_newLength_cabcc cJ8_newLength_cabcc 4 (some .int) :: en_cw) B9.pre
  have hts : ∀ z ∈ en_cw, z.before _ s = true := fun z hz => hts0 z (List.mem_cons_of_mem _ hz)
  have hown : s.vm.findClass RJ8 = some m.cls := findClass_of_methodNamed B9.named
  have hA : ∀ q : Nat, s.heap.size ≤ q → va_A w s.heap.size q := fun q h => Or.inr h
  have hS : va_S (va_A w s.heap.size) s.heap s.heap [] := va_S.rf
  have hD : va_D (va_A w s.heap.size) w := ⟨hD0.1, fun j z hz => Or.inl ⟨j, z.2, hz⟩⟩
  have hR9 : li_R w w [] := li_R.rf
  have hl := lv_entry ([.int 10, .int 1, .int 5]) (n := 4) (Nat.le_of_ble_eq_true rfl)
  rw [lg_entry_eq]
  generalize (lg_sl ([.int 10, .int 1, .int 5]) ++ List.replicate (4 - (lg_sl ([.int 10, .int 1, .int 5])).length) Slot.unset).toArray = ls at hl ⊢
  have hl : lv_has ls 4 [(0, .int 10), (1, .int 1), (2, .int 5)] := hl
  refine lv_iload_n hx hb dj_J8_newLength_cabcc_0 rfl (lv_at hl 0 rfl) ?_
  refine lv_iload_n hx hb dj_J8_newLength_cabcc_1 rfl (lv_at hl 1 rfl) ?_
  refine lv_iload_n hx hb dj_J8_newLength_cabcc_2 rfl (lv_at hl 2 rfl) ?_
  refine va_mmax hx hb (by rw [hml]; exact hl.1.symm) hown (hts _ cwj1454) (hts _ cwj1234) (hts _ cwj87) (hts _ cwj1235) (Nat.le_of_ble_eq_true rfl) (Nat.le_of_ble_eq_true rfl) (Nat.le_of_ble_eq_true rfl) (Nat.le_of_ble_eq_true rfl) dj_J8_newLength_cabcc_3 ?_
  refine lv_topi (fun y2 ey2 => ?_)
  obtain rfl : y2 = 5 := ey2.trans (by decide)
  refine lv_iadd hx hb dj_J8_newLength_cabcc_6 ?_
  refine lv_topi (fun y3 ey3 => ?_)
  obtain rfl : y3 = 15 := ey3.trans (by decide)
  refine lv_istore_n (lv' := [(3, .int 15), (0, .int 10), (1, .int 1), (2, .int 5)]) hx hb dj_J8_newLength_cabcc_7 rfl hl (by decide) rfl (fun ls hl => ?_)
  refine lv_iconst (v := 0) hx hb dj_J8_newLength_cabcc_8 (by decide) ?_
  refine lv_iload_n hx hb dj_J8_newLength_cabcc_9 rfl (lv_at hl 0 rfl) ?_
  refine lv_icmp_ge (tgt := 21) hx hb dj_J8_newLength_cabcc_10 (by decide) (fun c9 => absurd c9 (by decide)) (fun _ => ?_)
  refine lv_iload_n hx hb dj_J8_newLength_cabcc_13 rfl (lv_at hl 0 rfl) ?_
  refine lv_ldc (v := 2147483639) hx hb hown (hts _ cwj1455) dj_J8_newLength_cabcc_14 ?_
  refine lv_icmp_gt (tgt := 21) hx hb dj_J8_newLength_cabcc_16 (by decide) (fun c9 => absurd c9 (by decide)) (fun _ => ?_)
  refine lv_iload_n hx hb dj_J8_newLength_cabcc_19 rfl (lv_at hl 0 rfl) ?_
  exact W.iret (v := 15) hx hb hr (fun t ht hW9 => ⟨⟨15, w, rfl, ⟨rfl, rfl⟩, ⟨by rw [ht]; exact hP, hD⟩⟩, hS.F ht⟩) hS.2.2 dj_J8_newLength_cabcc_20
set_option maxHeartbeats 4000000 in
theorem li_newLength_15 (l : Launch) (D : va_G) (tys : List (ClassId × FieldType)) (w : va_W) (sz e0 ca : Nat) (ad : li_ad) (hD0 : va_D (va_A w sz) w) : li_C l yJ8_newLength_cabcc cJ8_newLength_cabcc 4 (some .int) 0 0 0 0 [.int 15, .int 1, .int 7] D tys w sz e0 ca ad (fun res w1 => res = some (.int 22) ∧ w1 = w) := by
  refine Met.ofW (cc := cJ8_newLength_cabcc) (maxL := 4) (ret := (some .int)) (by decide +kernel) rfl ?_
  intro p e s m args below meth c s₁ B9 hml hv
  obtain ⟨rfl, ⟨hsz, hP, hK, hT⟩, hL⟩ := hv
  subst hsz
  have hx := B9.exec
  have hb := B9.bytes
  have hr := B9.returns
  have hlocks := B9.notSynchronized
  have hts0 := atoms_spec (ws := Cond.code yJ8_newLength_cabcc cJ8_newLength_cabcc 4 (some .int) :: en_cw) B9.pre
  have hts : ∀ z ∈ en_cw, z.before _ s = true := fun z hz => hts0 z (List.mem_cons_of_mem _ hz)
  have hown : s.vm.findClass RJ8 = some m.cls := findClass_of_methodNamed B9.named
  have hA : ∀ q : Nat, s.heap.size ≤ q → va_A w s.heap.size q := fun q h => Or.inr h
  have hS : va_S (va_A w s.heap.size) s.heap s.heap [] := va_S.rf
  have hD : va_D (va_A w s.heap.size) w := ⟨hD0.1, fun j z hz => Or.inl ⟨j, z.2, hz⟩⟩
  have hR9 : li_R w w [] := li_R.rf
  have hl := lv_entry ([.int 15, .int 1, .int 7]) (n := 4) (Nat.le_of_ble_eq_true rfl)
  rw [lg_entry_eq]
  generalize (lg_sl ([.int 15, .int 1, .int 7]) ++ List.replicate (4 - (lg_sl ([.int 15, .int 1, .int 7])).length) Slot.unset).toArray = ls at hl ⊢
  have hl : lv_has ls 4 [(0, .int 15), (1, .int 1), (2, .int 7)] := hl
  refine lv_iload_n hx hb dj_J8_newLength_cabcc_0 rfl (lv_at hl 0 rfl) ?_
  refine lv_iload_n hx hb dj_J8_newLength_cabcc_1 rfl (lv_at hl 1 rfl) ?_
  refine lv_iload_n hx hb dj_J8_newLength_cabcc_2 rfl (lv_at hl 2 rfl) ?_
  refine va_mmax hx hb (by rw [hml]; exact hl.1.symm) hown (hts _ cwj1454) (hts _ cwj1234) (hts _ cwj87) (hts _ cwj1235) (Nat.le_of_ble_eq_true rfl) (Nat.le_of_ble_eq_true rfl) (Nat.le_of_ble_eq_true rfl) (Nat.le_of_ble_eq_true rfl) dj_J8_newLength_cabcc_3 ?_
  refine lv_topi (fun y2 ey2 => ?_)
  obtain rfl : y2 = 7 := ey2.trans (by decide)
  refine lv_iadd hx hb dj_J8_newLength_cabcc_6 ?_
  refine lv_topi (fun y3 ey3 => ?_)
  obtain rfl : y3 = 22 := ey3.trans (by decide)
  refine lv_istore_n (lv' := [(3, .int 22), (0, .int 15), (1, .int 1), (2, .int 7)]) hx hb dj_J8_newLength_cabcc_7 rfl hl (by decide) rfl (fun ls hl => ?_)
  refine lv_iconst (v := 0) hx hb dj_J8_newLength_cabcc_8 (by decide) ?_
  refine lv_iload_n hx hb dj_J8_newLength_cabcc_9 rfl (lv_at hl 0 rfl) ?_
  refine lv_icmp_ge (tgt := 21) hx hb dj_J8_newLength_cabcc_10 (by decide) (fun c9 => absurd c9 (by decide)) (fun _ => ?_)
  refine lv_iload_n hx hb dj_J8_newLength_cabcc_13 rfl (lv_at hl 0 rfl) ?_
  refine lv_ldc (v := 2147483639) hx hb hown (hts _ cwj1455) dj_J8_newLength_cabcc_14 ?_
  refine lv_icmp_gt (tgt := 21) hx hb dj_J8_newLength_cabcc_16 (by decide) (fun c9 => absurd c9 (by decide)) (fun _ => ?_)
  refine lv_iload_n hx hb dj_J8_newLength_cabcc_19 rfl (lv_at hl 0 rfl) ?_
  exact W.iret (v := 22) hx hb hr (fun t ht hW9 => ⟨⟨22, w, rfl, ⟨rfl, rfl⟩, ⟨by rw [ht]; exact hP, hD⟩⟩, hS.F ht⟩) hS.2.2 dj_J8_newLength_cabcc_20
set_option maxHeartbeats 4000000 in
theorem li_copyOf3_10 (l : Launch) (D : va_G) (tys : List (ClassId × FieldType)) (w : va_W) (sz e0 ca : Nat) (ad : li_ad) (hD0 : va_D (va_A w sz) w) (qa ra : Nat) (f : Nat → Option Nat) (cL : ClassId) (t9 : Nat) (ha : w[qa]? = some (ra, .inl (cL, 10, .inr (.inr (.inr (.inr f)))))) (ht9 : tys[t9]? = some (cL, .object "java/lang/Object")) (hE : li_E w ad 10 f) : li_C l yJ7_copyOf_6403c cJ7_copyOf_6403c 4 (some (.array (.object "java/lang/Object"))) 1 1 15 1 [.ref ra, .int 15, .ref ca] D tys w sz e0 ca ad (fun res w1 => ∃ r9 : Nat, res = some (.ref r9) ∧ w1.length = w.length + 1 ∧ w1[w.length]? = some (r9, .inl (cL, 15, .inr (.inr (.inr (.inr (va_cpy f (fun _ => none) 0 0 10)))))) ∧ li_R w w1 []) := by
  refine Met.ofW (cc := cJ7_copyOf_6403c) (maxL := 4) (ret := (some (.array (.object "java/lang/Object")))) (by decide +kernel) rfl ?_
  intro p e s m args below meth c s₁ B9 hml hv
  obtain ⟨rfl, ⟨hsz, hP, hK, hT⟩, hL⟩ := hv
  subst hsz
  have hx := B9.exec
  have hb := B9.bytes
  have hr := B9.returns
  have hlocks := B9.notSynchronized
  have hts0 := atoms_spec (ws := Cond.code yJ7_copyOf_6403c cJ7_copyOf_6403c 4 (some (.array (.object "java/lang/Object"))) :: en_cw) B9.pre
  have hts : ∀ z ∈ en_cw, z.before _ s = true := fun z hz => hts0 z (List.mem_cons_of_mem _ hz)
  have hown : s.vm.findClass RJ7 = some m.cls := findClass_of_methodNamed B9.named
  have hA : ∀ q : Nat, s.heap.size ≤ q → va_A w s.heap.size q := fun q h => Or.inr h
  have hS : va_S (va_A w s.heap.size) s.heap s.heap [] := va_S.rf
  have hD : va_D (va_A w s.heap.size) w := ⟨hD0.1, fun j z hz => Or.inl ⟨j, z.2, hz⟩⟩
  have hR9 : li_R w w [] := li_R.rf
  have hl := lv_entry ([.ref ra, .int 15, .ref ca]) (n := 4) (Nat.le_of_ble_eq_true rfl)
  rw [lg_entry_eq]
  generalize (lg_sl ([.ref ra, .int 15, .ref ca]) ++ List.replicate (4 - (lg_sl ([.ref ra, .int 15, .ref ca])).length) Slot.unset).toArray = ls at hl ⊢
  have hl : lv_has ls 4 [(0, .ref ra), (1, .int 15), (2, .ref ca)] := hl
  refine lv_aload_n hx hb dj_J7_copyOf_6403c_0 rfl (lv_at hl 2 rfl) ?_
  refine va_ldcM hx hb hown (hts _ cwj1489) hL.2.2.2.2.2.1 dj_J7_copyOf_6403c_1 ?_
  refine lv_acmp_ne (rx := some ca) (ry := some ca) (tgt := 13) hx hb dj_J7_copyOf_6403c_3 (by decide) (fun c9 => absurd rfl c9) (fun _ => ?_)
  refine lv_iload_n hx hb dj_J7_copyOf_6403c_6 rfl (lv_at hl 1 rfl) ?_
  refine va_newq hx hb hown (hts _ cwj1491) hL.2.2.2.2.2.2.1 hK hP hD hS hA (by decide) (N' := 15) (by decide) (by decide) (Nat.le_of_ble_eq_true rfl) (Nat.le_of_ble_eq_true rfl) dj_J7_copyOf_6403c_7 (fun rn1 cn1 H hK9 hP hD hS => ?_)
  have ec1 : cL = cn1 := (li_cA hK hK9 ht9).symm
  subst ec1
  obtain ⟨w1, ew1, g1, gl1, gn1⟩ := li_app w (rn1, .inl (cL, 15, .inr (.inr (.inr (.inr (fun _ => none))))))
  rw [← ew1] at hP hD
  have hR9 : li_R w w1 [] := hR9.tr (li_R.ap gl1 gn1)
  have g1A := (gn1 qa (List.getElem?_eq_some_iff.mp ha).1).trans ha
  have hne1A : qa ≠ w.length := by have h9 := (List.getElem?_eq_some_iff.mp ha).1; omega
  refine lv_goto (tgt := 24) hx hb dj_J7_copyOf_6403c_10 (by decide) ?_
  refine lv_astore_n (lv' := [(3, .ref rn1), (0, .ref ra), (1, .int 15), (2, .ref ca)]) hx hb dj_J7_copyOf_6403c_24 rfl hl (by decide) rfl (fun ls hl => ?_)
  refine lv_aload_n hx hb dj_J7_copyOf_6403c_25 rfl (lv_at hl 1 rfl) ?_
  refine lv_iconst (v := 0) hx hb dj_J7_copyOf_6403c_26 (by decide) ?_
  refine lv_aload_n hx hb dj_J7_copyOf_6403c_27 rfl (lv_at hl 0 rfl) ?_
  refine lv_iconst (v := 0) hx hb dj_J7_copyOf_6403c_28 (by decide) ?_
  refine lv_aload_n hx hb dj_J7_copyOf_6403c_29 rfl (lv_at hl 1 rfl) ?_
  refine va_alen hx hb hK hP qa t9 g1A ht9 (v := 10) rfl dj_J7_copyOf_6403c_30 ?_
  refine lv_iload_n hx hb dj_J7_copyOf_6403c_31 rfl (lv_at hl 2 rfl) ?_
  refine va_mmin hx hb (by rw [hml]; exact hl.1.symm) hown (hts _ cwj1492) (hts _ cwj420) (hts _ cwj87) (hts _ cwj421) (Nat.le_of_ble_eq_true rfl) (Nat.le_of_ble_eq_true rfl) (Nat.le_of_ble_eq_true rfl) (Nat.le_of_ble_eq_true rfl) dj_J7_copyOf_6403c_32 ?_
  refine lv_topi (fun y3 ey3 => ?_)
  obtain rfl : y3 = 10 := ey3.trans (by decide)
  refine va_copyq (C := "java/lang/Integer") hx hb (by rw [hml]; exact hl.1.symm) hown (hts _ cwj1493) (hts _ cwj1495) (hts _ cwj1494) (hts _ cwj89) hK hP hD hS qa w.length t9 t9 g1A g1 ht9 ht9 (by decide) (by decide) (by decide) (by decide) (by decide) (fun i9 h9 y9 e9 => li_hel hE hR9 (by simp) hK hL hP hS e9 (by have h7 : i9 < 10 := h9; show 0 + i9 < 10; omega)) (vb_asgC hL.2.2.2.2.2.2.2.1) (Nat.le_of_ble_eq_true rfl) (Nat.le_of_ble_eq_true rfl) dj_J7_copyOf_6403c_35 (fun H locs hP hD hS => ?_)
  obtain ⟨w4, ew4, g4, gl4, gn4⟩ := li_set g1 (.inl (cL, 15, .inr (.inr (.inr (.inr (va_cpy f (fun _ => none) 0 0 10))))))
  have hP : va_P D vwCl w4 H := by rw [ew4]; exact hP
  have hD : va_D (va_A w s.heap.size) w4 := by rw [ew4]; exact hD
  have hR9 : li_R w w4 [] := hR9.sn g1 (by omega) g4 gl4 gn4
  have g4A := (gn4 qa hne1A).trans g1A
  refine lv_aload_n hx hb dj_J7_copyOf_6403c_38 rfl (lv_at hl 0 rfl) ?_
  exact W.aret (v := .ref rn1) hx hb hr (Or.inr ⟨_, rfl⟩) (Or.inr ⟨_, rfl⟩) (fun t ht hW9 => ⟨⟨w4, _, rfl, trivial, ⟨_, rfl, by omega, g4, hR9⟩, by rw [ht]; exact hP, hD⟩, hS.F ht⟩) hS.2.2 dj_J7_copyOf_6403c_39
set_option maxHeartbeats 4000000 in
theorem li_copyOf2_10 (l : Launch) (D : va_G) (tys : List (ClassId × FieldType)) (w : va_W) (sz e0 ca : Nat) (ad : li_ad) (hD0 : va_D (va_A w sz) w) (qa ra : Nat) (f : Nat → Option Nat) (cL : ClassId) (t9 : Nat) (ha : w[qa]? = some (ra, .inl (cL, 10, .inr (.inr (.inr (.inr f)))))) (ht9 : tys[t9]? = some (cL, .object "java/lang/Object")) (hE : li_E w ad 10 f) : li_C l yJ7_copyOf_1904c cJ7_copyOf_1904c 2 (some (.array (.object "java/lang/Object"))) 2 1 15 1 [.ref ra, .int 15] D tys w sz e0 ca ad (fun res w1 => ∃ r9 : Nat, res = some (.ref r9) ∧ w1.length = w.length + 1 ∧ w1[w.length]? = some (r9, .inl (cL, 15, .inr (.inr (.inr (.inr (va_cpy f (fun _ => none) 0 0 10)))))) ∧ li_R w w1 []) := by
  refine Met.ofW (cc := cJ7_copyOf_1904c) (maxL := 2) (ret := (some (.array (.object "java/lang/Object")))) (by decide +kernel) rfl ?_
  intro p e s m args below meth c s₁ B9 hml hv
  obtain ⟨rfl, ⟨hsz, hP, hK, hT⟩, hL⟩ := hv
  subst hsz
  have hx := B9.exec
  have hb := B9.bytes
  have hr := B9.returns
  have hlocks := B9.notSynchronized
  have hts0 := atoms_spec (ws := Cond.code yJ7_copyOf_1904c cJ7_copyOf_1904c 2 (some (.array (.object "java/lang/Object"))) :: en_cw) B9.pre
  have hts : ∀ z ∈ en_cw, z.before _ s = true := fun z hz => hts0 z (List.mem_cons_of_mem _ hz)
  have hown : s.vm.findClass RJ7 = some m.cls := findClass_of_methodNamed B9.named
  have hA : ∀ q : Nat, s.heap.size ≤ q → va_A w s.heap.size q := fun q h => Or.inr h
  have hS : va_S (va_A w s.heap.size) s.heap s.heap [] := va_S.rf
  have hD : va_D (va_A w s.heap.size) w := ⟨hD0.1, fun j z hz => Or.inl ⟨j, z.2, hz⟩⟩
  have hR9 : li_R w w [] := li_R.rf
  have hl := lv_entry ([.ref ra, .int 15]) (n := 2) (Nat.le_of_ble_eq_true rfl)
  rw [lg_entry_eq]
  generalize (lg_sl ([.ref ra, .int 15]) ++ List.replicate (2 - (lg_sl ([.ref ra, .int 15])).length) Slot.unset).toArray = ls at hl ⊢
  have hl : lv_has ls 2 [(0, .ref ra), (1, .int 15)] := hl
  refine lv_aload_n hx hb dj_J7_copyOf_1904c_0 rfl (lv_at hl 0 rfl) ?_
  refine lv_iload_n hx hb dj_J7_copyOf_1904c_1 rfl (lv_at hl 1 rfl) ?_
  refine lv_aload_n hx hb dj_J7_copyOf_1904c_2 rfl (lv_at hl 0 rfl) ?_
  refine va_getC (C := "[Ljava/lang/Object;") hx hb (by rw [hml]; exact hl.1.symm) hown (hts _ cwj1462) hL.2.2.2.2.2.2.2.2.2.2.1.use (hts _ cwj2379) (hts _ cwj1463) (hts _ cwj1485) hL.2.2.2.2.2.1 (li_arc hK hP ha ht9) (Nat.le_of_ble_eq_true rfl) (Nat.le_of_ble_eq_true rfl) dj_J7_copyOf_1904c_3 ?_
  refine li_cS (As := [.ref ra, .int 15, .ref ca]) (rest := []) (li_copyOf3_10 l D tys w _ e0 ca ad (⟨hD.1, fun j z hz => Or.inl ⟨j, z.2, hz⟩⟩ : va_D (va_A w s.heap.size) w) qa ra f cL t9 ha ht9 hE) gj_J7_300 rfl ⟨Nat.le_of_ble_eq_true rfl, Nat.le_of_ble_eq_true rfl⟩ ⟨Nat.le_of_ble_eq_true rfl, Nat.le_of_ble_eq_true rfl⟩ (Nat.le_of_ble_eq_true rfl) hx hb (hml.trans hl.1.symm) hts hown hK hT hL hP hD hS hA dj_J7_copyOf_1904c_6 (fun res w9 H locs hrv hqq hP hD hS => ?_)
  obtain ⟨r9, er, hlen, g9, hR9⟩ := hqq
  subst er
  exact W.aret (v := .ref r9) hx hb hr (Or.inr ⟨_, rfl⟩) (Or.inr ⟨_, rfl⟩) (fun t ht hW9 => ⟨⟨w9, _, rfl, trivial, ⟨_, rfl, hlen, g9, hR9⟩, by rw [ht]; exact hP, hD⟩, hS.F ht⟩) hS.2.2 dj_J7_copyOf_1904c_9
set_option maxHeartbeats 4000000 in
theorem li_grow1_10 (l : Launch) (D : va_G) (tys : List (ClassId × FieldType)) (w : va_W) (sz e0 ca : Nat) (ad : li_ad) (hD0 : va_D (va_A w sz) w) (q la : Nat) (mc : Int32) (qa ra : Nat) (f : Nat → Option Nat) (cL : ClassId) (t9 : Nat) (hq : w[q]? = some (la, .inr (5, [.int mc, .ref ra, .int 10]))) (ha : w[qa]? = some (ra, .inl (cL, 10, .inr (.inr (.inr (.inr f)))))) (ht9 : tys[t9]? = some (cL, .object "java/lang/Object")) (hE : li_E w ad 10 f) : li_C l yJx4a65c_grow_92f84 cJx4a65c_grow_92f84 4 (some (.array (.object "java/lang/Object"))) 3 1 15 1 [.ref la, .int 11] D tys w sz e0 ca ad (fun res w1 => ∃ r9 : Nat, res = some (.ref r9) ∧ w1.length = w.length + 1 ∧ w1[q]? = some (la, .inr (5, [.int mc, .ref r9, .int 10])) ∧ w1[w.length]? = some (r9, .inl (cL, 15, .inr (.inr (.inr (.inr (va_cpy f (fun _ => none) 0 0 10)))))) ∧ li_R w w1 [q]) := by
  refine Met.ofW (cc := cJx4a65c_grow_92f84) (maxL := 4) (ret := (some (.array (.object "java/lang/Object")))) (by decide +kernel) rfl ?_
  intro p e s m args below meth c s₁ B9 hml hv
  obtain ⟨rfl, ⟨hsz, hP, hK, hT⟩, hL⟩ := hv
  subst hsz
  have hx := B9.exec
  have hb := B9.bytes
  have hr := B9.returns
  have hlocks := B9.notSynchronized
  have hts0 := atoms_spec (ws := Cond.code yJx4a65c_grow_92f84 cJx4a65c_grow_92f84 4 (some (.array (.object "java/lang/Object"))) :: en_cw) B9.pre
  have hts : ∀ z ∈ en_cw, z.before _ s = true := fun z hz => hts0 z (List.mem_cons_of_mem _ hz)
  have hown : s.vm.findClass RJx4a65c = some m.cls := findClass_of_methodNamed B9.named
  have hA : ∀ q : Nat, s.heap.size ≤ q → va_A w s.heap.size q := fun q h => Or.inr h
  have hS : va_S (va_A w s.heap.size) s.heap s.heap [] := va_S.rf
  have hD : va_D (va_A w s.heap.size) w := ⟨hD0.1, fun j z hz => Or.inl ⟨j, z.2, hz⟩⟩
  have hR9 : li_R w w [q] := li_R.rf
  have hl := lv_entry ([.ref la, .int 11]) (n := 4) (Nat.le_of_ble_eq_true rfl)
  rw [lg_entry_eq]
  generalize (lg_sl ([.ref la, .int 11]) ++ List.replicate (4 - (lg_sl ([.ref la, .int 11])).length) Slot.unset).toArray = ls at hl ⊢
  have hl : lv_has ls 4 [(0, .ref la), (1, .int 11)] := hl
  have hne : q ≠ qa := fun e9 => by rw [e9] at hq; rw [hq] at ha; cases ha
  refine lv_aload_n hx hb dj_Jx4a65c_grow_92f84_0 rfl (lv_at hl 0 rfl) ?_
  refine va_get (D := D) (ci := 5) (v := .ref ra) (C := RJx4a65c) (T := TJx4a65c) (N := 3) hx hb hts uwj_Jx4a65c hown hK hP q hq rfl 1 (by decide) (hts _ cwj1419) (fun _ h9 => h9) rfl dj_Jx4a65c_grow_92f84_1 ?_
  refine va_alen hx hb hK hP qa t9 ha ht9 (v := 10) rfl dj_Jx4a65c_grow_92f84_4 ?_
  refine lv_istore_n (lv' := [(2, .int 10), (0, .ref la), (1, .int 11)]) hx hb dj_Jx4a65c_grow_92f84_5 rfl hl (by decide) rfl (fun ls hl => ?_)
  refine lv_iload_n hx hb dj_Jx4a65c_grow_92f84_6 rfl (lv_at hl 0 rfl) ?_
  refine lv_if_gt (tgt := 20) hx hb dj_Jx4a65c_grow_92f84_7 (by decide) (fun _ => ?_) (fun c9 => absurd (by decide) c9)
  refine lv_iload_n hx hb dj_Jx4a65c_grow_92f84_20 rfl (lv_at hl 0 rfl) ?_
  refine lv_iload_n hx hb dj_Jx4a65c_grow_92f84_21 rfl (lv_at hl 2 rfl) ?_
  refine lv_iload_n hx hb dj_Jx4a65c_grow_92f84_22 rfl (lv_at hl 0 rfl) ?_
  refine lv_isub hx hb dj_Jx4a65c_grow_92f84_23 ?_
  refine lv_topi (fun y1 ey1 => ?_)
  obtain rfl : y1 = 1 := ey1.trans (by decide)
  refine lv_iload_n hx hb dj_Jx4a65c_grow_92f84_24 rfl (lv_at hl 0 rfl) ?_
  refine lv_iconst (v := 1) hx hb dj_Jx4a65c_grow_92f84_25 (by decide) ?_
  refine lv_ishr hx hb dj_Jx4a65c_grow_92f84_26 ?_
  refine lv_topi (fun y2 ey2 => ?_)
  obtain rfl : y2 = 5 := ey2.trans (by decide)
  refine li_cS (As := [.int 10, .int 1, .int 5]) (rest := []) (li_newLength_10 l D tys w _ e0 ca ad (⟨hD.1, fun j z hz => Or.inl ⟨j, z.2, hz⟩⟩ : va_D (va_A w s.heap.size) w)) gj_Jx4a65c_73 rfl ⟨Nat.le_of_ble_eq_true rfl, Nat.le_of_ble_eq_true rfl⟩ ⟨Nat.le_of_ble_eq_true rfl, Nat.le_of_ble_eq_true rfl⟩ (Nat.le_of_ble_eq_true rfl) hx hb (hml.trans hl.1.symm) hts hown hK hT hL hP hD hS hA dj_Jx4a65c_grow_92f84_27 (fun res w9 H locs hrv hqq hP hD hS => ?_)
  obtain ⟨er, ew⟩ := hqq
  have ew := Eq.symm ew
  subst er
  subst ew
  refine lv_istore_n (lv' := [(3, .int 15), (2, .int 10), (0, .ref la), (1, .int 11)]) hx hb dj_Jx4a65c_grow_92f84_30 rfl hl (by decide) rfl (fun ls hl => ?_)
  refine lv_aload_n hx hb dj_Jx4a65c_grow_92f84_31 rfl (lv_at hl 2 rfl) ?_
  refine lv_aload_n hx hb dj_Jx4a65c_grow_92f84_32 rfl (lv_at hl 2 rfl) ?_
  refine va_get (D := D) (ci := 5) (v := .ref ra) (C := RJx4a65c) (T := TJx4a65c) (N := 3) hx hb hts uwj_Jx4a65c hown hK hP q hq rfl 1 (by decide) (hts _ cwj1419) (fun _ h9 => h9) rfl dj_Jx4a65c_grow_92f84_33 ?_
  refine lv_iload_n hx hb dj_Jx4a65c_grow_92f84_36 rfl (lv_at hl 0 rfl) ?_
  refine li_cS (As := [.ref ra, .int 15]) (rest := [.ref la]) (li_copyOf2_10 l D tys w _ e0 ca ad (⟨hD.1, fun j z hz => Or.inl ⟨j, z.2, hz⟩⟩ : va_D (va_A w H.size) w) qa ra f cL t9 ha ht9 hE) gj_Jx4a65c_66 rfl ⟨Nat.le_of_ble_eq_true rfl, Nat.le_of_ble_eq_true rfl⟩ ⟨Nat.le_of_ble_eq_true rfl, Nat.le_of_ble_eq_true rfl⟩ (Nat.le_of_ble_eq_true rfl) hx hb (hml.trans hl.1.symm) hts hown hK hT hL hP hD hS hA dj_Jx4a65c_grow_92f84_37 (fun res w9 H locs hrv hqq hP hD hS => ?_)
  obtain ⟨r9, er, hlen, g9, hR8⟩ := hqq
  subst er
  have hq9 := hR8.at hq (by simp)
  have hR9 : li_R w w9 [q] := hR8.mono (by simp)
  have hD : va_D (va_A w s.heap.size) w9 := hD
  have hneB : w.length ≠ q := by have h9 := (List.getElem?_eq_some_iff.mp hq).1; omega
  refine lv_dup_x1 hx hb dj_Jx4a65c_grow_92f84_40 rfl rfl ?_
  refine va_put (D := D) (ci := 5) (v := .ref r9) (ty := (.array (.object "java/lang/Object"))) (C := RJx4a65c) (T := TJx4a65c) (N := 3) hx hb hts uwj_Jx4a65c tyJx4a65c tyJx4a65c_ok nmJx4a65c hown hK hP hD hS q hq9 rfl 1 (by decide) (hts _ cwj1419) (fun _ h9 => h9) rfl (by decide +kernel) rfl rfl (Nat.le_of_ble_eq_true rfl) dj_Jx4a65c_grow_92f84_41 (fun H locs hP hD hS => ?_)
  obtain ⟨w3, ew3, g3, gl3, gn3⟩ := li_set hq9 (.inr (5, [.int mc, .ref r9, .int 10]))
  have hP : va_P D vwCl w3 H := by rw [ew3]; exact hP
  have hD : va_D (va_A w s.heap.size) w3 := by rw [ew3]; exact hD
  have hR9 : li_R w w3 [q] := hR9.tr (li_R.st hq9 (by simp) g3 gl3 gn3 ⟨rfl, rfl⟩)
  have g3B := (gn3 w.length hneB).trans g9
  exact W.aret (v := .ref r9) hx hb hr (Or.inr ⟨_, rfl⟩) (Or.inr ⟨_, rfl⟩) (fun t ht hW9 => ⟨⟨w3, _, rfl, trivial, ⟨_, rfl, by omega, g3, g3B, hR9⟩, by rw [ht]; exact hP, hD⟩, hS.F ht⟩) hS.2.2 dj_Jx4a65c_grow_92f84_44
set_option maxHeartbeats 4000000 in
theorem li_grow0_10 (l : Launch) (D : va_G) (tys : List (ClassId × FieldType)) (w : va_W) (sz e0 ca : Nat) (ad : li_ad) (hD0 : va_D (va_A w sz) w) (q la : Nat) (mc : Int32) (qa ra : Nat) (f : Nat → Option Nat) (cL : ClassId) (t9 : Nat) (hq : w[q]? = some (la, .inr (5, [.int mc, .ref ra, .int 10]))) (ha : w[qa]? = some (ra, .inl (cL, 10, .inr (.inr (.inr (.inr f)))))) (ht9 : tys[t9]? = some (cL, .object "java/lang/Object")) (hE : li_E w ad 10 f) : li_C l yJx4a65c_grow_d5877 cJx4a65c_grow_d5877 1 (some (.array (.object "java/lang/Object"))) 4 1 15 1 [.ref la] D tys w sz e0 ca ad (fun res w1 => ∃ r9 : Nat, res = some (.ref r9) ∧ w1.length = w.length + 1 ∧ w1[q]? = some (la, .inr (5, [.int mc, .ref r9, .int 10])) ∧ w1[w.length]? = some (r9, .inl (cL, 15, .inr (.inr (.inr (.inr (va_cpy f (fun _ => none) 0 0 10)))))) ∧ li_R w w1 [q]) := by
  refine Met.ofW (cc := cJx4a65c_grow_d5877) (maxL := 1) (ret := (some (.array (.object "java/lang/Object")))) (by decide +kernel) rfl ?_
  intro p e s m args below meth c s₁ B9 hml hv
  obtain ⟨rfl, ⟨hsz, hP, hK, hT⟩, hL⟩ := hv
  subst hsz
  have hx := B9.exec
  have hb := B9.bytes
  have hr := B9.returns
  have hlocks := B9.notSynchronized
  have hts0 := atoms_spec (ws := Cond.code yJx4a65c_grow_d5877 cJx4a65c_grow_d5877 1 (some (.array (.object "java/lang/Object"))) :: en_cw) B9.pre
  have hts : ∀ z ∈ en_cw, z.before _ s = true := fun z hz => hts0 z (List.mem_cons_of_mem _ hz)
  have hown : s.vm.findClass RJx4a65c = some m.cls := findClass_of_methodNamed B9.named
  have hA : ∀ q : Nat, s.heap.size ≤ q → va_A w s.heap.size q := fun q h => Or.inr h
  have hS : va_S (va_A w s.heap.size) s.heap s.heap [] := va_S.rf
  have hD : va_D (va_A w s.heap.size) w := ⟨hD0.1, fun j z hz => Or.inl ⟨j, z.2, hz⟩⟩
  have hR9 : li_R w w [q] := li_R.rf
  have hl := lv_entry ([.ref la]) (n := 1) (Nat.le_of_ble_eq_true rfl)
  rw [lg_entry_eq]
  generalize (lg_sl ([.ref la]) ++ List.replicate (1 - (lg_sl ([.ref la])).length) Slot.unset).toArray = ls at hl ⊢
  have hl : lv_has ls 1 [(0, .ref la)] := hl
  have hne : q ≠ qa := fun e9 => by rw [e9] at hq; rw [hq] at ha; cases ha
  refine lv_aload_n hx hb dj_Jx4a65c_grow_d5877_0 rfl (lv_at hl 0 rfl) ?_
  refine lv_aload_n hx hb dj_Jx4a65c_grow_d5877_1 rfl (lv_at hl 0 rfl) ?_
  refine va_get (D := D) (ci := 5) (v := .int 10) (C := RJx4a65c) (T := TJx4a65c) (N := 3) hx hb hts uwj_Jx4a65c hown hK hP q hq rfl 2 (by decide) (hts _ cwj1422) (fun _ h9 => h9) rfl dj_Jx4a65c_grow_d5877_2 ?_
  refine lv_iconst (v := 1) hx hb dj_Jx4a65c_grow_d5877_5 (by decide) ?_
  refine lv_iadd hx hb dj_Jx4a65c_grow_d5877_6 ?_
  refine lv_topi (fun y1 ey1 => ?_)
  obtain rfl : y1 = 11 := ey1.trans (by decide)
  refine li_cV (As := [.int 11]) (rest := []) (li_grow1_10 l D tys w _ e0 ca ad (⟨hD.1, fun j z hz => Or.inl ⟨j, z.2, hz⟩⟩ : va_D (va_A w s.heap.size) w) q la mc qa ra f cL t9 hq ha ht9 hE) gj_Jx4a65c_69 (va_recv hK hP (ci := 5) (q0 := q) rfl hq) rfl ⟨Nat.le_of_ble_eq_true rfl, Nat.le_of_ble_eq_true rfl⟩ ⟨Nat.le_of_ble_eq_true rfl, Nat.le_of_ble_eq_true rfl⟩ (Nat.le_of_ble_eq_true rfl) hx hb (hml.trans hl.1.symm) hts hown hK hT hL hP hD hS hA dj_Jx4a65c_grow_d5877_7 (fun res w9 H locs hrv hqq hP hD hS => ?_)
  obtain ⟨r9, er, hlen, g8, g9, hR8⟩ := hqq
  subst er
  exact W.aret (v := .ref r9) hx hb hr (Or.inr ⟨_, rfl⟩) (Or.inr ⟨_, rfl⟩) (fun t ht hW9 => ⟨⟨w9, _, rfl, trivial, ⟨_, rfl, hlen, g8, g9, hR8⟩, by rw [ht]; exact hP, hD⟩, hS.F ht⟩) hS.2.2 dj_Jx4a65c_grow_d5877_10
set_option maxHeartbeats 4000000 in
theorem li_copyOf3_15 (l : Launch) (D : va_G) (tys : List (ClassId × FieldType)) (w : va_W) (sz e0 ca : Nat) (ad : li_ad) (hD0 : va_D (va_A w sz) w) (qa ra : Nat) (f : Nat → Option Nat) (cL : ClassId) (t9 : Nat) (ha : w[qa]? = some (ra, .inl (cL, 15, .inr (.inr (.inr (.inr f)))))) (ht9 : tys[t9]? = some (cL, .object "java/lang/Object")) (hE : li_E w ad 15 f) : li_C l yJ7_copyOf_6403c cJ7_copyOf_6403c 4 (some (.array (.object "java/lang/Object"))) 1 1 22 1 [.ref ra, .int 22, .ref ca] D tys w sz e0 ca ad (fun res w1 => ∃ r9 : Nat, res = some (.ref r9) ∧ w1.length = w.length + 1 ∧ w1[w.length]? = some (r9, .inl (cL, 22, .inr (.inr (.inr (.inr (va_cpy f (fun _ => none) 0 0 15)))))) ∧ li_R w w1 []) := by
  refine Met.ofW (cc := cJ7_copyOf_6403c) (maxL := 4) (ret := (some (.array (.object "java/lang/Object")))) (by decide +kernel) rfl ?_
  intro p e s m args below meth c s₁ B9 hml hv
  obtain ⟨rfl, ⟨hsz, hP, hK, hT⟩, hL⟩ := hv
  subst hsz
  have hx := B9.exec
  have hb := B9.bytes
  have hr := B9.returns
  have hlocks := B9.notSynchronized
  have hts0 := atoms_spec (ws := Cond.code yJ7_copyOf_6403c cJ7_copyOf_6403c 4 (some (.array (.object "java/lang/Object"))) :: en_cw) B9.pre
  have hts : ∀ z ∈ en_cw, z.before _ s = true := fun z hz => hts0 z (List.mem_cons_of_mem _ hz)
  have hown : s.vm.findClass RJ7 = some m.cls := findClass_of_methodNamed B9.named
  have hA : ∀ q : Nat, s.heap.size ≤ q → va_A w s.heap.size q := fun q h => Or.inr h
  have hS : va_S (va_A w s.heap.size) s.heap s.heap [] := va_S.rf
  have hD : va_D (va_A w s.heap.size) w := ⟨hD0.1, fun j z hz => Or.inl ⟨j, z.2, hz⟩⟩
  have hR9 : li_R w w [] := li_R.rf
  have hl := lv_entry ([.ref ra, .int 22, .ref ca]) (n := 4) (Nat.le_of_ble_eq_true rfl)
  rw [lg_entry_eq]
  generalize (lg_sl ([.ref ra, .int 22, .ref ca]) ++ List.replicate (4 - (lg_sl ([.ref ra, .int 22, .ref ca])).length) Slot.unset).toArray = ls at hl ⊢
  have hl : lv_has ls 4 [(0, .ref ra), (1, .int 22), (2, .ref ca)] := hl
  refine lv_aload_n hx hb dj_J7_copyOf_6403c_0 rfl (lv_at hl 2 rfl) ?_
  refine va_ldcM hx hb hown (hts _ cwj1489) hL.2.2.2.2.2.1 dj_J7_copyOf_6403c_1 ?_
  refine lv_acmp_ne (rx := some ca) (ry := some ca) (tgt := 13) hx hb dj_J7_copyOf_6403c_3 (by decide) (fun c9 => absurd rfl c9) (fun _ => ?_)
  refine lv_iload_n hx hb dj_J7_copyOf_6403c_6 rfl (lv_at hl 1 rfl) ?_
  refine va_newq hx hb hown (hts _ cwj1491) hL.2.2.2.2.2.2.1 hK hP hD hS hA (by decide) (N' := 22) (by decide) (by decide) (Nat.le_of_ble_eq_true rfl) (Nat.le_of_ble_eq_true rfl) dj_J7_copyOf_6403c_7 (fun rn1 cn1 H hK9 hP hD hS => ?_)
  have ec1 : cL = cn1 := (li_cA hK hK9 ht9).symm
  subst ec1
  obtain ⟨w1, ew1, g1, gl1, gn1⟩ := li_app w (rn1, .inl (cL, 22, .inr (.inr (.inr (.inr (fun _ => none))))))
  rw [← ew1] at hP hD
  have hR9 : li_R w w1 [] := hR9.tr (li_R.ap gl1 gn1)
  have g1A := (gn1 qa (List.getElem?_eq_some_iff.mp ha).1).trans ha
  have hne1A : qa ≠ w.length := by have h9 := (List.getElem?_eq_some_iff.mp ha).1; omega
  refine lv_goto (tgt := 24) hx hb dj_J7_copyOf_6403c_10 (by decide) ?_
  refine lv_astore_n (lv' := [(3, .ref rn1), (0, .ref ra), (1, .int 22), (2, .ref ca)]) hx hb dj_J7_copyOf_6403c_24 rfl hl (by decide) rfl (fun ls hl => ?_)
  refine lv_aload_n hx hb dj_J7_copyOf_6403c_25 rfl (lv_at hl 1 rfl) ?_
  refine lv_iconst (v := 0) hx hb dj_J7_copyOf_6403c_26 (by decide) ?_
  refine lv_aload_n hx hb dj_J7_copyOf_6403c_27 rfl (lv_at hl 0 rfl) ?_
  refine lv_iconst (v := 0) hx hb dj_J7_copyOf_6403c_28 (by decide) ?_
  refine lv_aload_n hx hb dj_J7_copyOf_6403c_29 rfl (lv_at hl 1 rfl) ?_
  refine va_alen hx hb hK hP qa t9 g1A ht9 (v := 15) rfl dj_J7_copyOf_6403c_30 ?_
  refine lv_iload_n hx hb dj_J7_copyOf_6403c_31 rfl (lv_at hl 2 rfl) ?_
  refine va_mmin hx hb (by rw [hml]; exact hl.1.symm) hown (hts _ cwj1492) (hts _ cwj420) (hts _ cwj87) (hts _ cwj421) (Nat.le_of_ble_eq_true rfl) (Nat.le_of_ble_eq_true rfl) (Nat.le_of_ble_eq_true rfl) (Nat.le_of_ble_eq_true rfl) dj_J7_copyOf_6403c_32 ?_
  refine lv_topi (fun y3 ey3 => ?_)
  obtain rfl : y3 = 15 := ey3.trans (by decide)
  refine va_copyq (C := "java/lang/Integer") hx hb (by rw [hml]; exact hl.1.symm) hown (hts _ cwj1493) (hts _ cwj1495) (hts _ cwj1494) (hts _ cwj89) hK hP hD hS qa w.length t9 t9 g1A g1 ht9 ht9 (by decide) (by decide) (by decide) (by decide) (by decide) (fun i9 h9 y9 e9 => li_hel hE hR9 (by simp) hK hL hP hS e9 (by have h7 : i9 < 15 := h9; show 0 + i9 < 15; omega)) (vb_asgC hL.2.2.2.2.2.2.2.1) (Nat.le_of_ble_eq_true rfl) (Nat.le_of_ble_eq_true rfl) dj_J7_copyOf_6403c_35 (fun H locs hP hD hS => ?_)
  obtain ⟨w4, ew4, g4, gl4, gn4⟩ := li_set g1 (.inl (cL, 22, .inr (.inr (.inr (.inr (va_cpy f (fun _ => none) 0 0 15))))))
  have hP : va_P D vwCl w4 H := by rw [ew4]; exact hP
  have hD : va_D (va_A w s.heap.size) w4 := by rw [ew4]; exact hD
  have hR9 : li_R w w4 [] := hR9.sn g1 (by omega) g4 gl4 gn4
  have g4A := (gn4 qa hne1A).trans g1A
  refine lv_aload_n hx hb dj_J7_copyOf_6403c_38 rfl (lv_at hl 0 rfl) ?_
  exact W.aret (v := .ref rn1) hx hb hr (Or.inr ⟨_, rfl⟩) (Or.inr ⟨_, rfl⟩) (fun t ht hW9 => ⟨⟨w4, _, rfl, trivial, ⟨_, rfl, by omega, g4, hR9⟩, by rw [ht]; exact hP, hD⟩, hS.F ht⟩) hS.2.2 dj_J7_copyOf_6403c_39
set_option maxHeartbeats 4000000 in
theorem li_copyOf2_15 (l : Launch) (D : va_G) (tys : List (ClassId × FieldType)) (w : va_W) (sz e0 ca : Nat) (ad : li_ad) (hD0 : va_D (va_A w sz) w) (qa ra : Nat) (f : Nat → Option Nat) (cL : ClassId) (t9 : Nat) (ha : w[qa]? = some (ra, .inl (cL, 15, .inr (.inr (.inr (.inr f)))))) (ht9 : tys[t9]? = some (cL, .object "java/lang/Object")) (hE : li_E w ad 15 f) : li_C l yJ7_copyOf_1904c cJ7_copyOf_1904c 2 (some (.array (.object "java/lang/Object"))) 2 1 22 1 [.ref ra, .int 22] D tys w sz e0 ca ad (fun res w1 => ∃ r9 : Nat, res = some (.ref r9) ∧ w1.length = w.length + 1 ∧ w1[w.length]? = some (r9, .inl (cL, 22, .inr (.inr (.inr (.inr (va_cpy f (fun _ => none) 0 0 15)))))) ∧ li_R w w1 []) := by
  refine Met.ofW (cc := cJ7_copyOf_1904c) (maxL := 2) (ret := (some (.array (.object "java/lang/Object")))) (by decide +kernel) rfl ?_
  intro p e s m args below meth c s₁ B9 hml hv
  obtain ⟨rfl, ⟨hsz, hP, hK, hT⟩, hL⟩ := hv
  subst hsz
  have hx := B9.exec
  have hb := B9.bytes
  have hr := B9.returns
  have hlocks := B9.notSynchronized
  have hts0 := atoms_spec (ws := Cond.code yJ7_copyOf_1904c cJ7_copyOf_1904c 2 (some (.array (.object "java/lang/Object"))) :: en_cw) B9.pre
  have hts : ∀ z ∈ en_cw, z.before _ s = true := fun z hz => hts0 z (List.mem_cons_of_mem _ hz)
  have hown : s.vm.findClass RJ7 = some m.cls := findClass_of_methodNamed B9.named
  have hA : ∀ q : Nat, s.heap.size ≤ q → va_A w s.heap.size q := fun q h => Or.inr h
  have hS : va_S (va_A w s.heap.size) s.heap s.heap [] := va_S.rf
  have hD : va_D (va_A w s.heap.size) w := ⟨hD0.1, fun j z hz => Or.inl ⟨j, z.2, hz⟩⟩
  have hR9 : li_R w w [] := li_R.rf
  have hl := lv_entry ([.ref ra, .int 22]) (n := 2) (Nat.le_of_ble_eq_true rfl)
  rw [lg_entry_eq]
  generalize (lg_sl ([.ref ra, .int 22]) ++ List.replicate (2 - (lg_sl ([.ref ra, .int 22])).length) Slot.unset).toArray = ls at hl ⊢
  have hl : lv_has ls 2 [(0, .ref ra), (1, .int 22)] := hl
  refine lv_aload_n hx hb dj_J7_copyOf_1904c_0 rfl (lv_at hl 0 rfl) ?_
  refine lv_iload_n hx hb dj_J7_copyOf_1904c_1 rfl (lv_at hl 1 rfl) ?_
  refine lv_aload_n hx hb dj_J7_copyOf_1904c_2 rfl (lv_at hl 0 rfl) ?_
  refine va_getC (C := "[Ljava/lang/Object;") hx hb (by rw [hml]; exact hl.1.symm) hown (hts _ cwj1462) hL.2.2.2.2.2.2.2.2.2.2.1.use (hts _ cwj2379) (hts _ cwj1463) (hts _ cwj1485) hL.2.2.2.2.2.1 (li_arc hK hP ha ht9) (Nat.le_of_ble_eq_true rfl) (Nat.le_of_ble_eq_true rfl) dj_J7_copyOf_1904c_3 ?_
  refine li_cS (As := [.ref ra, .int 22, .ref ca]) (rest := []) (li_copyOf3_15 l D tys w _ e0 ca ad (⟨hD.1, fun j z hz => Or.inl ⟨j, z.2, hz⟩⟩ : va_D (va_A w s.heap.size) w) qa ra f cL t9 ha ht9 hE) gj_J7_300 rfl ⟨Nat.le_of_ble_eq_true rfl, Nat.le_of_ble_eq_true rfl⟩ ⟨Nat.le_of_ble_eq_true rfl, Nat.le_of_ble_eq_true rfl⟩ (Nat.le_of_ble_eq_true rfl) hx hb (hml.trans hl.1.symm) hts hown hK hT hL hP hD hS hA dj_J7_copyOf_1904c_6 (fun res w9 H locs hrv hqq hP hD hS => ?_)
  obtain ⟨r9, er, hlen, g9, hR9⟩ := hqq
  subst er
  exact W.aret (v := .ref r9) hx hb hr (Or.inr ⟨_, rfl⟩) (Or.inr ⟨_, rfl⟩) (fun t ht hW9 => ⟨⟨w9, _, rfl, trivial, ⟨_, rfl, hlen, g9, hR9⟩, by rw [ht]; exact hP, hD⟩, hS.F ht⟩) hS.2.2 dj_J7_copyOf_1904c_9
set_option maxHeartbeats 4000000 in
theorem li_grow1_15 (l : Launch) (D : va_G) (tys : List (ClassId × FieldType)) (w : va_W) (sz e0 ca : Nat) (ad : li_ad) (hD0 : va_D (va_A w sz) w) (q la : Nat) (mc : Int32) (qa ra : Nat) (f : Nat → Option Nat) (cL : ClassId) (t9 : Nat) (hq : w[q]? = some (la, .inr (5, [.int mc, .ref ra, .int 15]))) (ha : w[qa]? = some (ra, .inl (cL, 15, .inr (.inr (.inr (.inr f)))))) (ht9 : tys[t9]? = some (cL, .object "java/lang/Object")) (hE : li_E w ad 15 f) : li_C l yJx4a65c_grow_92f84 cJx4a65c_grow_92f84 4 (some (.array (.object "java/lang/Object"))) 3 1 22 1 [.ref la, .int 16] D tys w sz e0 ca ad (fun res w1 => ∃ r9 : Nat, res = some (.ref r9) ∧ w1.length = w.length + 1 ∧ w1[q]? = some (la, .inr (5, [.int mc, .ref r9, .int 15])) ∧ w1[w.length]? = some (r9, .inl (cL, 22, .inr (.inr (.inr (.inr (va_cpy f (fun _ => none) 0 0 15)))))) ∧ li_R w w1 [q]) := by
  refine Met.ofW (cc := cJx4a65c_grow_92f84) (maxL := 4) (ret := (some (.array (.object "java/lang/Object")))) (by decide +kernel) rfl ?_
  intro p e s m args below meth c s₁ B9 hml hv
  obtain ⟨rfl, ⟨hsz, hP, hK, hT⟩, hL⟩ := hv
  subst hsz
  have hx := B9.exec
  have hb := B9.bytes
  have hr := B9.returns
  have hlocks := B9.notSynchronized
  have hts0 := atoms_spec (ws := Cond.code yJx4a65c_grow_92f84 cJx4a65c_grow_92f84 4 (some (.array (.object "java/lang/Object"))) :: en_cw) B9.pre
  have hts : ∀ z ∈ en_cw, z.before _ s = true := fun z hz => hts0 z (List.mem_cons_of_mem _ hz)
  have hown : s.vm.findClass RJx4a65c = some m.cls := findClass_of_methodNamed B9.named
  have hA : ∀ q : Nat, s.heap.size ≤ q → va_A w s.heap.size q := fun q h => Or.inr h
  have hS : va_S (va_A w s.heap.size) s.heap s.heap [] := va_S.rf
  have hD : va_D (va_A w s.heap.size) w := ⟨hD0.1, fun j z hz => Or.inl ⟨j, z.2, hz⟩⟩
  have hR9 : li_R w w [q] := li_R.rf
  have hl := lv_entry ([.ref la, .int 16]) (n := 4) (Nat.le_of_ble_eq_true rfl)
  rw [lg_entry_eq]
  generalize (lg_sl ([.ref la, .int 16]) ++ List.replicate (4 - (lg_sl ([.ref la, .int 16])).length) Slot.unset).toArray = ls at hl ⊢
  have hl : lv_has ls 4 [(0, .ref la), (1, .int 16)] := hl
  have hne : q ≠ qa := fun e9 => by rw [e9] at hq; rw [hq] at ha; cases ha
  refine lv_aload_n hx hb dj_Jx4a65c_grow_92f84_0 rfl (lv_at hl 0 rfl) ?_
  refine va_get (D := D) (ci := 5) (v := .ref ra) (C := RJx4a65c) (T := TJx4a65c) (N := 3) hx hb hts uwj_Jx4a65c hown hK hP q hq rfl 1 (by decide) (hts _ cwj1419) (fun _ h9 => h9) rfl dj_Jx4a65c_grow_92f84_1 ?_
  refine va_alen hx hb hK hP qa t9 ha ht9 (v := 15) rfl dj_Jx4a65c_grow_92f84_4 ?_
  refine lv_istore_n (lv' := [(2, .int 15), (0, .ref la), (1, .int 16)]) hx hb dj_Jx4a65c_grow_92f84_5 rfl hl (by decide) rfl (fun ls hl => ?_)
  refine lv_iload_n hx hb dj_Jx4a65c_grow_92f84_6 rfl (lv_at hl 0 rfl) ?_
  refine lv_if_gt (tgt := 20) hx hb dj_Jx4a65c_grow_92f84_7 (by decide) (fun _ => ?_) (fun c9 => absurd (by decide) c9)
  refine lv_iload_n hx hb dj_Jx4a65c_grow_92f84_20 rfl (lv_at hl 0 rfl) ?_
  refine lv_iload_n hx hb dj_Jx4a65c_grow_92f84_21 rfl (lv_at hl 2 rfl) ?_
  refine lv_iload_n hx hb dj_Jx4a65c_grow_92f84_22 rfl (lv_at hl 0 rfl) ?_
  refine lv_isub hx hb dj_Jx4a65c_grow_92f84_23 ?_
  refine lv_topi (fun y1 ey1 => ?_)
  obtain rfl : y1 = 1 := ey1.trans (by decide)
  refine lv_iload_n hx hb dj_Jx4a65c_grow_92f84_24 rfl (lv_at hl 0 rfl) ?_
  refine lv_iconst (v := 1) hx hb dj_Jx4a65c_grow_92f84_25 (by decide) ?_
  refine lv_ishr hx hb dj_Jx4a65c_grow_92f84_26 ?_
  refine lv_topi (fun y2 ey2 => ?_)
  obtain rfl : y2 = 7 := ey2.trans (by decide)
  refine li_cS (As := [.int 15, .int 1, .int 7]) (rest := []) (li_newLength_15 l D tys w _ e0 ca ad (⟨hD.1, fun j z hz => Or.inl ⟨j, z.2, hz⟩⟩ : va_D (va_A w s.heap.size) w)) gj_Jx4a65c_73 rfl ⟨Nat.le_of_ble_eq_true rfl, Nat.le_of_ble_eq_true rfl⟩ ⟨Nat.le_of_ble_eq_true rfl, Nat.le_of_ble_eq_true rfl⟩ (Nat.le_of_ble_eq_true rfl) hx hb (hml.trans hl.1.symm) hts hown hK hT hL hP hD hS hA dj_Jx4a65c_grow_92f84_27 (fun res w9 H locs hrv hqq hP hD hS => ?_)
  obtain ⟨er, ew⟩ := hqq
  have ew := Eq.symm ew
  subst er
  subst ew
  refine lv_istore_n (lv' := [(3, .int 22), (2, .int 15), (0, .ref la), (1, .int 16)]) hx hb dj_Jx4a65c_grow_92f84_30 rfl hl (by decide) rfl (fun ls hl => ?_)
  refine lv_aload_n hx hb dj_Jx4a65c_grow_92f84_31 rfl (lv_at hl 2 rfl) ?_
  refine lv_aload_n hx hb dj_Jx4a65c_grow_92f84_32 rfl (lv_at hl 2 rfl) ?_
  refine va_get (D := D) (ci := 5) (v := .ref ra) (C := RJx4a65c) (T := TJx4a65c) (N := 3) hx hb hts uwj_Jx4a65c hown hK hP q hq rfl 1 (by decide) (hts _ cwj1419) (fun _ h9 => h9) rfl dj_Jx4a65c_grow_92f84_33 ?_
  refine lv_iload_n hx hb dj_Jx4a65c_grow_92f84_36 rfl (lv_at hl 0 rfl) ?_
  refine li_cS (As := [.ref ra, .int 22]) (rest := [.ref la]) (li_copyOf2_15 l D tys w _ e0 ca ad (⟨hD.1, fun j z hz => Or.inl ⟨j, z.2, hz⟩⟩ : va_D (va_A w H.size) w) qa ra f cL t9 ha ht9 hE) gj_Jx4a65c_66 rfl ⟨Nat.le_of_ble_eq_true rfl, Nat.le_of_ble_eq_true rfl⟩ ⟨Nat.le_of_ble_eq_true rfl, Nat.le_of_ble_eq_true rfl⟩ (Nat.le_of_ble_eq_true rfl) hx hb (hml.trans hl.1.symm) hts hown hK hT hL hP hD hS hA dj_Jx4a65c_grow_92f84_37 (fun res w9 H locs hrv hqq hP hD hS => ?_)
  obtain ⟨r9, er, hlen, g9, hR8⟩ := hqq
  subst er
  have hq9 := hR8.at hq (by simp)
  have hR9 : li_R w w9 [q] := hR8.mono (by simp)
  have hD : va_D (va_A w s.heap.size) w9 := hD
  have hneB : w.length ≠ q := by have h9 := (List.getElem?_eq_some_iff.mp hq).1; omega
  refine lv_dup_x1 hx hb dj_Jx4a65c_grow_92f84_40 rfl rfl ?_
  refine va_put (D := D) (ci := 5) (v := .ref r9) (ty := (.array (.object "java/lang/Object"))) (C := RJx4a65c) (T := TJx4a65c) (N := 3) hx hb hts uwj_Jx4a65c tyJx4a65c tyJx4a65c_ok nmJx4a65c hown hK hP hD hS q hq9 rfl 1 (by decide) (hts _ cwj1419) (fun _ h9 => h9) rfl (by decide +kernel) rfl rfl (Nat.le_of_ble_eq_true rfl) dj_Jx4a65c_grow_92f84_41 (fun H locs hP hD hS => ?_)
  obtain ⟨w3, ew3, g3, gl3, gn3⟩ := li_set hq9 (.inr (5, [.int mc, .ref r9, .int 15]))
  have hP : va_P D vwCl w3 H := by rw [ew3]; exact hP
  have hD : va_D (va_A w s.heap.size) w3 := by rw [ew3]; exact hD
  have hR9 : li_R w w3 [q] := hR9.tr (li_R.st hq9 (by simp) g3 gl3 gn3 ⟨rfl, rfl⟩)
  have g3B := (gn3 w.length hneB).trans g9
  exact W.aret (v := .ref r9) hx hb hr (Or.inr ⟨_, rfl⟩) (Or.inr ⟨_, rfl⟩) (fun t ht hW9 => ⟨⟨w3, _, rfl, trivial, ⟨_, rfl, by omega, g3, g3B, hR9⟩, by rw [ht]; exact hP, hD⟩, hS.F ht⟩) hS.2.2 dj_Jx4a65c_grow_92f84_44
set_option maxHeartbeats 4000000 in
theorem li_grow0_15 (l : Launch) (D : va_G) (tys : List (ClassId × FieldType)) (w : va_W) (sz e0 ca : Nat) (ad : li_ad) (hD0 : va_D (va_A w sz) w) (q la : Nat) (mc : Int32) (qa ra : Nat) (f : Nat → Option Nat) (cL : ClassId) (t9 : Nat) (hq : w[q]? = some (la, .inr (5, [.int mc, .ref ra, .int 15]))) (ha : w[qa]? = some (ra, .inl (cL, 15, .inr (.inr (.inr (.inr f)))))) (ht9 : tys[t9]? = some (cL, .object "java/lang/Object")) (hE : li_E w ad 15 f) : li_C l yJx4a65c_grow_d5877 cJx4a65c_grow_d5877 1 (some (.array (.object "java/lang/Object"))) 4 1 22 1 [.ref la] D tys w sz e0 ca ad (fun res w1 => ∃ r9 : Nat, res = some (.ref r9) ∧ w1.length = w.length + 1 ∧ w1[q]? = some (la, .inr (5, [.int mc, .ref r9, .int 15])) ∧ w1[w.length]? = some (r9, .inl (cL, 22, .inr (.inr (.inr (.inr (va_cpy f (fun _ => none) 0 0 15)))))) ∧ li_R w w1 [q]) := by
  refine Met.ofW (cc := cJx4a65c_grow_d5877) (maxL := 1) (ret := (some (.array (.object "java/lang/Object")))) (by decide +kernel) rfl ?_
  intro p e s m args below meth c s₁ B9 hml hv
  obtain ⟨rfl, ⟨hsz, hP, hK, hT⟩, hL⟩ := hv
  subst hsz
  have hx := B9.exec
  have hb := B9.bytes
  have hr := B9.returns
  have hlocks := B9.notSynchronized
  have hts0 := atoms_spec (ws := Cond.code yJx4a65c_grow_d5877 cJx4a65c_grow_d5877 1 (some (.array (.object "java/lang/Object"))) :: en_cw) B9.pre
  have hts : ∀ z ∈ en_cw, z.before _ s = true := fun z hz => hts0 z (List.mem_cons_of_mem _ hz)
  have hown : s.vm.findClass RJx4a65c = some m.cls := findClass_of_methodNamed B9.named
  have hA : ∀ q : Nat, s.heap.size ≤ q → va_A w s.heap.size q := fun q h => Or.inr h
  have hS : va_S (va_A w s.heap.size) s.heap s.heap [] := va_S.rf
  have hD : va_D (va_A w s.heap.size) w := ⟨hD0.1, fun j z hz => Or.inl ⟨j, z.2, hz⟩⟩
  have hR9 : li_R w w [q] := li_R.rf
  have hl := lv_entry ([.ref la]) (n := 1) (Nat.le_of_ble_eq_true rfl)
  rw [lg_entry_eq]
  generalize (lg_sl ([.ref la]) ++ List.replicate (1 - (lg_sl ([.ref la])).length) Slot.unset).toArray = ls at hl ⊢
  have hl : lv_has ls 1 [(0, .ref la)] := hl
  have hne : q ≠ qa := fun e9 => by rw [e9] at hq; rw [hq] at ha; cases ha
  refine lv_aload_n hx hb dj_Jx4a65c_grow_d5877_0 rfl (lv_at hl 0 rfl) ?_
  refine lv_aload_n hx hb dj_Jx4a65c_grow_d5877_1 rfl (lv_at hl 0 rfl) ?_
  refine va_get (D := D) (ci := 5) (v := .int 15) (C := RJx4a65c) (T := TJx4a65c) (N := 3) hx hb hts uwj_Jx4a65c hown hK hP q hq rfl 2 (by decide) (hts _ cwj1422) (fun _ h9 => h9) rfl dj_Jx4a65c_grow_d5877_2 ?_
  refine lv_iconst (v := 1) hx hb dj_Jx4a65c_grow_d5877_5 (by decide) ?_
  refine lv_iadd hx hb dj_Jx4a65c_grow_d5877_6 ?_
  refine lv_topi (fun y1 ey1 => ?_)
  obtain rfl : y1 = 16 := ey1.trans (by decide)
  refine li_cV (As := [.int 16]) (rest := []) (li_grow1_15 l D tys w _ e0 ca ad (⟨hD.1, fun j z hz => Or.inl ⟨j, z.2, hz⟩⟩ : va_D (va_A w s.heap.size) w) q la mc qa ra f cL t9 hq ha ht9 hE) gj_Jx4a65c_69 (va_recv hK hP (ci := 5) (q0 := q) rfl hq) rfl ⟨Nat.le_of_ble_eq_true rfl, Nat.le_of_ble_eq_true rfl⟩ ⟨Nat.le_of_ble_eq_true rfl, Nat.le_of_ble_eq_true rfl⟩ (Nat.le_of_ble_eq_true rfl) hx hb (hml.trans hl.1.symm) hts hown hK hT hL hP hD hS hA dj_Jx4a65c_grow_d5877_7 (fun res w9 H locs hrv hqq hP hD hS => ?_)
  obtain ⟨r9, er, hlen, g8, g9, hR8⟩ := hqq
  subst er
  exact W.aret (v := .ref r9) hx hb hr (Or.inr ⟨_, rfl⟩) (Or.inr ⟨_, rfl⟩) (fun t ht hW9 => ⟨⟨w9, _, rfl, trivial, ⟨_, rfl, hlen, g8, g9, hR8⟩, by rw [ht]; exact hP, hD⟩, hS.F ht⟩) hS.2.2 dj_Jx4a65c_grow_d5877_10
set_option maxHeartbeats 4000000 in
theorem li_grow1_0 (l : Launch) (D : va_G) (tys : List (ClassId × FieldType)) (w : va_W) (sz e0 ca : Nat) (ad : li_ad) (hD0 : va_D (va_A w sz) w) (q la : Nat) (mc : Int32) (cL : ClassId) (t9 : Nat) (hq : w[q]? = some (la, .inr (5, [.int mc, .ref e0, .int 0]))) (ht9 : tys[t9]? = some (cL, .object "java/lang/Object")) : li_C l yJx4a65c_grow_92f84 cJx4a65c_grow_92f84 4 (some (.array (.object "java/lang/Object"))) 3 1 10 1 [.ref la, .int 1] D tys w sz e0 ca ad (fun res w1 => ∃ r9 : Nat, res = some (.ref r9) ∧ w1.length = w.length + 1 ∧ w1[q]? = some (la, .inr (5, [.int mc, .ref r9, .int 0])) ∧ w1[w.length]? = some (r9, .inl (cL, 10, .inr (.inr (.inr (.inr (fun _ => none)))))) ∧ li_R w w1 [q]) := by
  refine Met.ofW (cc := cJx4a65c_grow_92f84) (maxL := 4) (ret := (some (.array (.object "java/lang/Object")))) (by decide +kernel) rfl ?_
  intro p e s m args below meth c s₁ B9 hml hv
  obtain ⟨rfl, ⟨hsz, hP, hK, hT⟩, hL⟩ := hv
  subst hsz
  have hx := B9.exec
  have hb := B9.bytes
  have hr := B9.returns
  have hlocks := B9.notSynchronized
  have hts0 := atoms_spec (ws := Cond.code yJx4a65c_grow_92f84 cJx4a65c_grow_92f84 4 (some (.array (.object "java/lang/Object"))) :: en_cw) B9.pre
  have hts : ∀ z ∈ en_cw, z.before _ s = true := fun z hz => hts0 z (List.mem_cons_of_mem _ hz)
  have hown : s.vm.findClass RJx4a65c = some m.cls := findClass_of_methodNamed B9.named
  have hA : ∀ q : Nat, s.heap.size ≤ q → va_A w s.heap.size q := fun q h => Or.inr h
  have hS : va_S (va_A w s.heap.size) s.heap s.heap [] := va_S.rf
  have hD : va_D (va_A w s.heap.size) w := ⟨hD0.1, fun j z hz => Or.inl ⟨j, z.2, hz⟩⟩
  have hR9 : li_R w w [q] := li_R.rf
  have hl := lv_entry ([.ref la, .int 1]) (n := 4) (Nat.le_of_ble_eq_true rfl)
  rw [lg_entry_eq]
  generalize (lg_sl ([.ref la, .int 1]) ++ List.replicate (4 - (lg_sl ([.ref la, .int 1])).length) Slot.unset).toArray = ls at hl ⊢
  have hl : lv_has ls 4 [(0, .ref la), (1, .int 1)] := hl
  refine lv_aload_n hx hb dj_Jx4a65c_grow_92f84_0 rfl (lv_at hl 0 rfl) ?_
  refine va_get (D := D) (ci := 5) (v := .ref e0) (C := RJx4a65c) (T := TJx4a65c) (N := 3) hx hb hts uwj_Jx4a65c hown hK hP q hq rfl 1 (by decide) (hts _ cwj1419) (fun _ h9 => h9) rfl dj_Jx4a65c_grow_92f84_1 ?_
  refine va_tlen hx hb hL.2.1 hS (v := 0) (by decide) dj_Jx4a65c_grow_92f84_4 ?_
  refine lv_istore_n (lv' := [(2, .int 0), (0, .ref la), (1, .int 1)]) hx hb dj_Jx4a65c_grow_92f84_5 rfl hl (by decide) rfl (fun ls hl => ?_)
  refine lv_iload_n hx hb dj_Jx4a65c_grow_92f84_6 rfl (lv_at hl 0 rfl) ?_
  refine lv_if_gt (tgt := 20) hx hb dj_Jx4a65c_grow_92f84_7 (by decide) (fun c9 => absurd c9 (by decide)) (fun _ => ?_)
  refine lv_aload_n hx hb dj_Jx4a65c_grow_92f84_10 rfl (lv_at hl 1 rfl) ?_
  refine va_get (D := D) (ci := 5) (v := .ref e0) (C := RJx4a65c) (T := TJx4a65c) (N := 3) hx hb hts uwj_Jx4a65c hown hK hP q hq rfl 1 (by decide) (hts _ cwj1419) (fun _ h9 => h9) rfl dj_Jx4a65c_grow_92f84_11 ?_
  refine va_gets hx hb hL.1 hS hown (hts _ cwj1417) (fun _ h9 => h9) dj_Jx4a65c_grow_92f84_14 ?_
  refine lv_acmp_eq (rx := some e0) (ry := some e0) (tgt := 45) hx hb dj_Jx4a65c_grow_92f84_17 (by decide) (fun _ => ?_) (fun c9 => absurd rfl c9)
  refine lv_aload_n hx hb dj_Jx4a65c_grow_92f84_45 rfl (lv_at hl 1 rfl) ?_
  refine lv_bipush (v := 10) hx hb dj_Jx4a65c_grow_92f84_46 (by decide) ?_
  refine lv_iload_n hx hb dj_Jx4a65c_grow_92f84_48 rfl (lv_at hl 2 rfl) ?_
  refine va_mmax hx hb (by rw [hml]; exact hl.1.symm) hown (hts _ cwj1496) (hts _ cwj1234) (hts _ cwj87) (hts _ cwj1235) (Nat.le_of_ble_eq_true rfl) (Nat.le_of_ble_eq_true rfl) (Nat.le_of_ble_eq_true rfl) (Nat.le_of_ble_eq_true rfl) dj_Jx4a65c_grow_92f84_49 ?_
  refine lv_topi (fun y2 ey2 => ?_)
  obtain rfl : y2 = 10 := ey2.trans (by decide)
  refine va_newq hx hb hown (hts _ cwj1497) hL.2.2.2.2.2.2.1 hK hP hD hS hA (by decide) (N' := 10) (by decide) (by decide) (Nat.le_of_ble_eq_true rfl) (Nat.le_of_ble_eq_true rfl) dj_Jx4a65c_grow_92f84_52 (fun rn3 cn3 H hK9 hP hD hS => ?_)
  have ec3 : cL = cn3 := (li_cA hK hK9 ht9).symm
  subst ec3
  obtain ⟨w3, ew3, g3, gl3, gn3⟩ := li_app w (rn3, .inl (cL, 10, .inr (.inr (.inr (.inr (fun _ => none))))))
  rw [← ew3] at hP hD
  have hR9 : li_R w w3 [q] := hR9.tr (li_R.ap gl3 gn3)
  have g3L := (gn3 q (List.getElem?_eq_some_iff.mp hq).1).trans hq
  have hne3L : q ≠ w.length := by have h9 := (List.getElem?_eq_some_iff.mp hq).1; omega
  refine lv_dup_x1 hx hb dj_Jx4a65c_grow_92f84_55 rfl rfl ?_
  refine va_put (D := D) (ci := 5) (v := .ref rn3) (ty := (.array (.object "java/lang/Object"))) (C := RJx4a65c) (T := TJx4a65c) (N := 3) hx hb hts uwj_Jx4a65c tyJx4a65c tyJx4a65c_ok nmJx4a65c hown hK hP hD hS q g3L rfl 1 (by decide) (hts _ cwj1419) (fun _ h9 => h9) rfl (by decide +kernel) rfl rfl (Nat.le_of_ble_eq_true rfl) dj_Jx4a65c_grow_92f84_56 (fun H locs hP hD hS => ?_)
  obtain ⟨w4, ew4, g4, gl4, gn4⟩ := li_set g3L (.inr (5, [.int mc, .ref rn3, .int 0]))
  have hP : va_P D vwCl w4 H := by rw [ew4]; exact hP
  have hD : va_D (va_A w s.heap.size) w4 := by rw [ew4]; exact hD
  have hR9 : li_R w w4 [q] := hR9.tr (li_R.st g3L (by simp) g4 gl4 gn4 ⟨rfl, rfl⟩)
  have g4B := (gn4 w.length (Ne.symm hne3L)).trans g3
  exact W.aret (v := .ref rn3) hx hb hr (Or.inr ⟨_, rfl⟩) (Or.inr ⟨_, rfl⟩) (fun t ht hW9 => ⟨⟨w4, _, rfl, trivial, ⟨_, rfl, by omega, g4, g4B, hR9⟩, by rw [ht]; exact hP, hD⟩, hS.F ht⟩) hS.2.2 dj_Jx4a65c_grow_92f84_59
set_option maxHeartbeats 4000000 in
theorem li_grow0_0 (l : Launch) (D : va_G) (tys : List (ClassId × FieldType)) (w : va_W) (sz e0 ca : Nat) (ad : li_ad) (hD0 : va_D (va_A w sz) w) (q la : Nat) (mc : Int32) (cL : ClassId) (t9 : Nat) (hq : w[q]? = some (la, .inr (5, [.int mc, .ref e0, .int 0]))) (ht9 : tys[t9]? = some (cL, .object "java/lang/Object")) : li_C l yJx4a65c_grow_d5877 cJx4a65c_grow_d5877 1 (some (.array (.object "java/lang/Object"))) 4 1 10 1 [.ref la] D tys w sz e0 ca ad (fun res w1 => ∃ r9 : Nat, res = some (.ref r9) ∧ w1.length = w.length + 1 ∧ w1[q]? = some (la, .inr (5, [.int mc, .ref r9, .int 0])) ∧ w1[w.length]? = some (r9, .inl (cL, 10, .inr (.inr (.inr (.inr (fun _ => none)))))) ∧ li_R w w1 [q]) := by
  refine Met.ofW (cc := cJx4a65c_grow_d5877) (maxL := 1) (ret := (some (.array (.object "java/lang/Object")))) (by decide +kernel) rfl ?_
  intro p e s m args below meth c s₁ B9 hml hv
  obtain ⟨rfl, ⟨hsz, hP, hK, hT⟩, hL⟩ := hv
  subst hsz
  have hx := B9.exec
  have hb := B9.bytes
  have hr := B9.returns
  have hlocks := B9.notSynchronized
  have hts0 := atoms_spec (ws := Cond.code yJx4a65c_grow_d5877 cJx4a65c_grow_d5877 1 (some (.array (.object "java/lang/Object"))) :: en_cw) B9.pre
  have hts : ∀ z ∈ en_cw, z.before _ s = true := fun z hz => hts0 z (List.mem_cons_of_mem _ hz)
  have hown : s.vm.findClass RJx4a65c = some m.cls := findClass_of_methodNamed B9.named
  have hA : ∀ q : Nat, s.heap.size ≤ q → va_A w s.heap.size q := fun q h => Or.inr h
  have hS : va_S (va_A w s.heap.size) s.heap s.heap [] := va_S.rf
  have hD : va_D (va_A w s.heap.size) w := ⟨hD0.1, fun j z hz => Or.inl ⟨j, z.2, hz⟩⟩
  have hR9 : li_R w w [q] := li_R.rf
  have hl := lv_entry ([.ref la]) (n := 1) (Nat.le_of_ble_eq_true rfl)
  rw [lg_entry_eq]
  generalize (lg_sl ([.ref la]) ++ List.replicate (1 - (lg_sl ([.ref la])).length) Slot.unset).toArray = ls at hl ⊢
  have hl : lv_has ls 1 [(0, .ref la)] := hl
  refine lv_aload_n hx hb dj_Jx4a65c_grow_d5877_0 rfl (lv_at hl 0 rfl) ?_
  refine lv_aload_n hx hb dj_Jx4a65c_grow_d5877_1 rfl (lv_at hl 0 rfl) ?_
  refine va_get (D := D) (ci := 5) (v := .int 0) (C := RJx4a65c) (T := TJx4a65c) (N := 3) hx hb hts uwj_Jx4a65c hown hK hP q hq rfl 2 (by decide) (hts _ cwj1422) (fun _ h9 => h9) rfl dj_Jx4a65c_grow_d5877_2 ?_
  refine lv_iconst (v := 1) hx hb dj_Jx4a65c_grow_d5877_5 (by decide) ?_
  refine lv_iadd hx hb dj_Jx4a65c_grow_d5877_6 ?_
  refine lv_topi (fun y1 ey1 => ?_)
  obtain rfl : y1 = 1 := ey1.trans (by decide)
  refine li_cV (As := [.int 1]) (rest := []) (li_grow1_0 l D tys w _ e0 ca ad (⟨hD.1, fun j z hz => Or.inl ⟨j, z.2, hz⟩⟩ : va_D (va_A w s.heap.size) w) q la mc cL t9 hq ht9) gj_Jx4a65c_69 (va_recv hK hP (ci := 5) (q0 := q) rfl hq) rfl ⟨Nat.le_of_ble_eq_true rfl, Nat.le_of_ble_eq_true rfl⟩ ⟨Nat.le_of_ble_eq_true rfl, Nat.le_of_ble_eq_true rfl⟩ (Nat.le_of_ble_eq_true rfl) hx hb (hml.trans hl.1.symm) hts hown hK hT hL hP hD hS hA dj_Jx4a65c_grow_d5877_7 (fun res w9 H locs hrv hqq hP hD hS => ?_)
  obtain ⟨r9, er, hlen, g8, g9, hR8⟩ := hqq
  subst er
  exact W.aret (v := .ref r9) hx hb hr (Or.inr ⟨_, rfl⟩) (Or.inr ⟨_, rfl⟩) (fun t ht hW9 => ⟨⟨w9, _, rfl, trivial, ⟨_, rfl, hlen, g8, g9, hR8⟩, by rw [ht]; exact hP, hD⟩, hS.F ht⟩) hS.2.2 dj_Jx4a65c_grow_d5877_10
set_option maxHeartbeats 4000000 in
theorem li_add3_r (l : Launch) (D : va_G) (tys : List (ClassId × FieldType)) (w : va_W) (sz e0 ca : Nat) (ad : li_ad) (hD0 : va_D (va_A w sz) w) (q qa la ra n N : Nat) (mc : Int32) (f : Nat → Option Nat) (cL : ClassId) (t9 : Nat) (y : Nat) (hq : w[q]? = some (la, .inr (5, [.int mc, .ref ra, .int (nI n)]))) (ha : w[qa]? = some (ra, .inl (cL, N, .inr (.inr (.inr (.inr f)))))) (ht9 : tys[t9]? = some (cL, .object "java/lang/Object")) (hn : n < N) (hN : N < 1000) (hy : li_x w ad y) : li_C l yJx4a65c_add_72be8 cJx4a65c_add_72be8 4 none 5 0 0 2 [.ref la, .ref y, .ref ra, .int (nI n)] D tys w sz e0 ca ad (fun res w1 => w1[q]? = some (la, .inr (5, [.int mc, .ref ra, .int (nI (n + 1))])) ∧ w1[qa]? = some (ra, .inl (cL, N, .inr (.inr (.inr (.inr (va_up f n (some y))))))) ∧ w1.length = w.length ∧ li_R w w1 [q, qa]) := by
  refine Met.ofW (cc := cJx4a65c_add_72be8) (maxL := 4) (ret := none) (by decide +kernel) rfl ?_
  intro p e s m args below meth c s₁ B9 hml hv
  obtain ⟨rfl, ⟨hsz, hP, hK, hT⟩, hL⟩ := hv
  subst hsz
  have hx := B9.exec
  have hb := B9.bytes
  have hr := B9.returns
  have hlocks := B9.notSynchronized
  have hts0 := atoms_spec (ws := Cond.code yJx4a65c_add_72be8 cJx4a65c_add_72be8 4 none :: en_cw) B9.pre
  have hts : ∀ z ∈ en_cw, z.before _ s = true := fun z hz => hts0 z (List.mem_cons_of_mem _ hz)
  have hown : s.vm.findClass RJx4a65c = some m.cls := findClass_of_methodNamed B9.named
  have hA : ∀ q : Nat, s.heap.size ≤ q → va_A w s.heap.size q := fun q h => Or.inr h
  have hS : va_S (va_A w s.heap.size) s.heap s.heap [] := va_S.rf
  have hD : va_D (va_A w s.heap.size) w := ⟨hD0.1, fun j z hz => Or.inl ⟨j, z.2, hz⟩⟩
  have hR9 : li_R w w [q, qa] := li_R.rf
  have hl := lv_entry ([.ref la, .ref y, .ref ra, .int (nI n)]) (n := 4) (Nat.le_of_ble_eq_true rfl)
  rw [lg_entry_eq]
  generalize (lg_sl ([.ref la, .ref y, .ref ra, .int (nI n)]) ++ List.replicate (4 - (lg_sl ([.ref la, .ref y, .ref ra, .int (nI n)])).length) Slot.unset).toArray = ls at hl ⊢
  have hl : lv_has ls 4 [(0, .ref la), (1, .ref y), (2, .ref ra), (3, .int (nI n))] := hl
  have hne : q ≠ qa := fun e9 => by rw [e9] at hq; rw [hq] at ha; cases ha
  have hnb : ∀ z ∈ [q, qa], li_nb w z := fun z hz => by rcases List.mem_cons.mp hz with rfl | hz; exact li_nbo hq; rw [List.mem_singleton.mp hz]; exact li_nba ha
  refine lv_iload_n hx hb dj_Jx4a65c_add_72be8_0 rfl (lv_at hl 3 rfl) ?_
  refine lv_aload_n hx hb dj_Jx4a65c_add_72be8_1 rfl (lv_at hl 2 rfl) ?_
  refine va_alen hx hb hK hP qa t9 ha ht9 (v := (nI N)) rfl dj_Jx4a65c_add_72be8_2 ?_
  refine lv_icmp_ne (tgt := 11) hx hb dj_Jx4a65c_add_72be8_3 (by decide) (fun _ => ?_) (fun c9 => absurd c9 (fun e9 => absurd ((nI_eq (show n < 2 ^ 31 by omega) (show N < 2 ^ 31 by omega)).mp e9) (by omega)))
  refine lv_aload_n hx hb dj_Jx4a65c_add_72be8_11 rfl (lv_at hl 2 rfl) ?_
  refine lv_iload_n hx hb dj_Jx4a65c_add_72be8_12 rfl (lv_at hl 3 rfl) ?_
  refine lv_aload_n hx hb dj_Jx4a65c_add_72be8_13 rfl (lv_at hl 1 rfl) ?_
  refine vb_astq (E := "java/lang/Object") (C := "java/lang/Integer") hx hb hK hP hD hS qa t9 ha ht9 (li_xr (hy.st hR9 hnb) hK hL hP hS) (vb_asgC hL.2.2.2.2.2.2.2.1) (vp_in_nI (show n < N by omega) (by omega)) dj_Jx4a65c_add_72be8_14 (fun H locs hP hD hS => ?_)
  rw [nI_clamp (show n < 2 ^ 31 by omega)] at hP hD
  obtain ⟨w1, ew1, g1, gl1, gn1⟩ := li_set ha (.inl (cL, N, .inr (.inr (.inr (.inr (va_up f n (some y)))))))
  have hP : va_P D vwCl w1 H := by rw [ew1]; exact hP
  have hD : va_D (va_A w s.heap.size) w1 := by rw [ew1]; exact hD
  have hR9 : li_R w w1 [q, qa] := hR9.tr (li_R.st ha (by simp) g1 gl1 gn1 ⟨rfl, rfl⟩)
  have g1L := (gn1 q hne).trans hq
  refine lv_aload_n hx hb dj_Jx4a65c_add_72be8_15 rfl (lv_at hl 0 rfl) ?_
  refine lv_iload_n hx hb dj_Jx4a65c_add_72be8_16 rfl (lv_at hl 3 rfl) ?_
  refine lv_iconst (v := 1) hx hb dj_Jx4a65c_add_72be8_17 (by decide) ?_
  refine lv_iadd hx hb dj_Jx4a65c_add_72be8_18 ?_
  rw [← nI_succ]
  refine va_put (D := D) (ci := 5) (v := .int (nI (n + 1))) (ty := .int) (C := RJx4a65c) (T := TJx4a65c) (N := 3) hx hb hts uwj_Jx4a65c tyJx4a65c tyJx4a65c_ok nmJx4a65c hown hK hP hD hS q g1L rfl 2 (by decide) (hts _ cwj1422) (fun _ h9 => h9) rfl (by decide +kernel) rfl rfl (Nat.le_of_ble_eq_true rfl) dj_Jx4a65c_add_72be8_19 (fun H locs hP hD hS => ?_)
  obtain ⟨w2, ew2, g2, gl2, gn2⟩ := li_set g1L (.inr (5, [.int mc, .ref ra, .int (nI (n + 1))]))
  have hP : va_P D vwCl w2 H := by rw [ew2]; exact hP
  have hD : va_D (va_A w s.heap.size) w2 := by rw [ew2]; exact hD
  have hR9 : li_R w w2 [q, qa] := hR9.tr (li_R.st g1L (by simp) g2 gl2 gn2 ⟨rfl, rfl⟩)
  have g2A := (gn2 qa (Ne.symm hne)).trans g1
  exact W.vret hx hb hr (fun t ht hW9 => ⟨⟨w2, rfl, ⟨g2, g2A, by omega, hR9⟩, ⟨by rw [ht]; exact hP, hD⟩⟩, hS.F ht⟩) hS.2.2 dj_Jx4a65c_add_72be8_22
set_option maxHeartbeats 4000000 in
theorem li_add3_10 (l : Launch) (D : va_G) (tys : List (ClassId × FieldType)) (w : va_W) (sz e0 ca : Nat) (ad : li_ad) (hD0 : va_D (va_A w sz) w) (q la : Nat) (mc : Int32) (qa ra : Nat) (f : Nat → Option Nat) (cL : ClassId) (t9 : Nat) (y : Nat) (hq : w[q]? = some (la, .inr (5, [.int mc, .ref ra, .int 10]))) (ha : w[qa]? = some (ra, .inl (cL, 10, .inr (.inr (.inr (.inr f)))))) (ht9 : tys[t9]? = some (cL, .object "java/lang/Object")) (hE : li_E w ad 10 f) (hy : li_x w ad y) : li_C l yJx4a65c_add_72be8 cJx4a65c_add_72be8 4 none 5 1 15 2 [.ref la, .ref y, .ref ra, .int 10] D tys w sz e0 ca ad (fun res w1 => ∃ r9 : Nat, w1[q]? = some (la, .inr (5, [.int mc, .ref r9, .int 11])) ∧ w1[w.length]? = some (r9, .inl (cL, 15, .inr (.inr (.inr (.inr (va_up (va_cpy f (fun _ => none) 0 0 10) 10 (some y))))))) ∧ w1.length = w.length + 1 ∧ li_R w w1 [q]) := by
  refine Met.ofW (cc := cJx4a65c_add_72be8) (maxL := 4) (ret := none) (by decide +kernel) rfl ?_
  intro p e s m args below meth c s₁ B9 hml hv
  obtain ⟨rfl, ⟨hsz, hP, hK, hT⟩, hL⟩ := hv
  subst hsz
  have hx := B9.exec
  have hb := B9.bytes
  have hr := B9.returns
  have hlocks := B9.notSynchronized
  have hts0 := atoms_spec (ws := Cond.code yJx4a65c_add_72be8 cJx4a65c_add_72be8 4 none :: en_cw) B9.pre
  have hts : ∀ z ∈ en_cw, z.before _ s = true := fun z hz => hts0 z (List.mem_cons_of_mem _ hz)
  have hown : s.vm.findClass RJx4a65c = some m.cls := findClass_of_methodNamed B9.named
  have hA : ∀ q : Nat, s.heap.size ≤ q → va_A w s.heap.size q := fun q h => Or.inr h
  have hS : va_S (va_A w s.heap.size) s.heap s.heap [] := va_S.rf
  have hD : va_D (va_A w s.heap.size) w := ⟨hD0.1, fun j z hz => Or.inl ⟨j, z.2, hz⟩⟩
  have hR9 : li_R w w [q] := li_R.rf
  have hl := lv_entry ([.ref la, .ref y, .ref ra, .int 10]) (n := 4) (Nat.le_of_ble_eq_true rfl)
  rw [lg_entry_eq]
  generalize (lg_sl ([.ref la, .ref y, .ref ra, .int 10]) ++ List.replicate (4 - (lg_sl ([.ref la, .ref y, .ref ra, .int 10])).length) Slot.unset).toArray = ls at hl ⊢
  have hl : lv_has ls 4 [(0, .ref la), (1, .ref y), (2, .ref ra), (3, .int 10)] := hl
  have hne : q ≠ qa := fun e9 => by rw [e9] at hq; rw [hq] at ha; cases ha
  have hnb : ∀ z ∈ [q], li_nb w z := fun z hz => by rw [List.mem_singleton.mp hz]; exact li_nbo hq
  refine lv_iload_n hx hb dj_Jx4a65c_add_72be8_0 rfl (lv_at hl 3 rfl) ?_
  refine lv_aload_n hx hb dj_Jx4a65c_add_72be8_1 rfl (lv_at hl 2 rfl) ?_
  refine va_alen hx hb hK hP qa t9 ha ht9 (v := 10) rfl dj_Jx4a65c_add_72be8_2 ?_
  refine lv_icmp_ne (tgt := 11) hx hb dj_Jx4a65c_add_72be8_3 (by decide) (fun c9 => absurd rfl c9) (fun _ => ?_)
  refine lv_aload_n hx hb dj_Jx4a65c_add_72be8_6 rfl (lv_at hl 0 rfl) ?_
  refine li_cV (As := []) (rest := []) (li_grow0_10 l D tys w _ e0 ca ad (⟨hD.1, fun j z hz => Or.inl ⟨j, z.2, hz⟩⟩ : va_D (va_A w s.heap.size) w) q la mc qa ra f cL t9 hq ha ht9 hE) gj_Jx4a65c_129 (va_recv hK hP (ci := 5) (q0 := q) rfl hq) rfl ⟨Nat.le_of_ble_eq_true rfl, Nat.le_of_ble_eq_true rfl⟩ ⟨Nat.le_of_ble_eq_true rfl, Nat.le_of_ble_eq_true rfl⟩ (Nat.le_of_ble_eq_true rfl) hx hb (hml.trans hl.1.symm) hts hown hK hT hL hP hD hS hA dj_Jx4a65c_add_72be8_7 (fun res w9 H locs hrv hqq hP hD hS => ?_)
  obtain ⟨r9, er, hlen, g8, g9, hR8⟩ := hqq
  subst er
  have hR9 : li_R w w9 [q] := hR8
  have hneB : w.length ≠ q := by have h9 := (List.getElem?_eq_some_iff.mp hq).1; omega
  refine lv_astore_n (lv' := [(2, .ref r9), (0, .ref la), (1, .ref y), (3, .int 10)]) hx hb dj_Jx4a65c_add_72be8_10 rfl hl (by decide) rfl (fun ls hl => ?_)
  refine lv_aload_n hx hb dj_Jx4a65c_add_72be8_11 rfl (lv_at hl 0 rfl) ?_
  refine lv_iload_n hx hb dj_Jx4a65c_add_72be8_12 rfl (lv_at hl 3 rfl) ?_
  refine lv_aload_n hx hb dj_Jx4a65c_add_72be8_13 rfl (lv_at hl 2 rfl) ?_
  refine vb_astq (E := "java/lang/Object") (C := "java/lang/Integer") hx hb hK hP hD hS w.length t9 g9 ht9 (li_xr (hy.st hR9 hnb) hK hL hP hS) (vb_asgC hL.2.2.2.2.2.2.2.1) (vp_in_nI (n := 10) (by decide) (by decide)) dj_Jx4a65c_add_72be8_14 (fun H locs hP hD hS => ?_)
  obtain ⟨w1, ew1, g1, gl1, gn1⟩ := li_set g9 (.inl (cL, 15, .inr (.inr (.inr (.inr (va_up (va_cpy f (fun _ => none) 0 0 10) 10 (some y)))))))
  have hP : va_P D vwCl w1 H := by rw [ew1]; exact hP
  have hD : va_D (va_A w s.heap.size) w1 := by rw [ew1]; exact hD
  have hR9 : li_R w w1 [q] := hR9.sn g9 (by omega) g1 gl1 gn1
  have g1L := (gn1 q (Ne.symm hneB)).trans g8
  refine lv_aload_n hx hb dj_Jx4a65c_add_72be8_15 rfl (lv_at hl 1 rfl) ?_
  refine lv_iload_n hx hb dj_Jx4a65c_add_72be8_16 rfl (lv_at hl 3 rfl) ?_
  refine lv_iconst (v := 1) hx hb dj_Jx4a65c_add_72be8_17 (by decide) ?_
  refine lv_iadd hx hb dj_Jx4a65c_add_72be8_18 ?_
  refine lv_topi (fun y2 ey2 => ?_)
  obtain rfl : y2 = 11 := ey2.trans (by decide)
  refine va_put (D := D) (ci := 5) (v := .int 11) (ty := .int) (C := RJx4a65c) (T := TJx4a65c) (N := 3) hx hb hts uwj_Jx4a65c tyJx4a65c tyJx4a65c_ok nmJx4a65c hown hK hP hD hS q g1L rfl 2 (by decide) (hts _ cwj1422) (fun _ h9 => h9) rfl (by decide +kernel) rfl rfl (Nat.le_of_ble_eq_true rfl) dj_Jx4a65c_add_72be8_19 (fun H locs hP hD hS => ?_)
  obtain ⟨w3, ew3, g3, gl3, gn3⟩ := li_set g1L (.inr (5, [.int mc, .ref r9, .int 11]))
  have hP : va_P D vwCl w3 H := by rw [ew3]; exact hP
  have hD : va_D (va_A w s.heap.size) w3 := by rw [ew3]; exact hD
  have hR9 : li_R w w3 [q] := hR9.tr (li_R.st g1L (by simp) g3 gl3 gn3 ⟨rfl, rfl⟩)
  have g3B := (gn3 w.length hneB).trans g1
  exact W.vret hx hb hr (fun t ht hW9 => ⟨⟨w3, rfl, ⟨_, g3, g3B, by omega, hR9⟩, ⟨by rw [ht]; exact hP, hD⟩⟩, hS.F ht⟩) hS.2.2 dj_Jx4a65c_add_72be8_22
set_option maxHeartbeats 4000000 in
theorem li_add3_15 (l : Launch) (D : va_G) (tys : List (ClassId × FieldType)) (w : va_W) (sz e0 ca : Nat) (ad : li_ad) (hD0 : va_D (va_A w sz) w) (q la : Nat) (mc : Int32) (qa ra : Nat) (f : Nat → Option Nat) (cL : ClassId) (t9 : Nat) (y : Nat) (hq : w[q]? = some (la, .inr (5, [.int mc, .ref ra, .int 15]))) (ha : w[qa]? = some (ra, .inl (cL, 15, .inr (.inr (.inr (.inr f)))))) (ht9 : tys[t9]? = some (cL, .object "java/lang/Object")) (hE : li_E w ad 15 f) (hy : li_x w ad y) : li_C l yJx4a65c_add_72be8 cJx4a65c_add_72be8 4 none 5 1 22 2 [.ref la, .ref y, .ref ra, .int 15] D tys w sz e0 ca ad (fun res w1 => ∃ r9 : Nat, w1[q]? = some (la, .inr (5, [.int mc, .ref r9, .int 16])) ∧ w1[w.length]? = some (r9, .inl (cL, 22, .inr (.inr (.inr (.inr (va_up (va_cpy f (fun _ => none) 0 0 15) 15 (some y))))))) ∧ w1.length = w.length + 1 ∧ li_R w w1 [q]) := by
  refine Met.ofW (cc := cJx4a65c_add_72be8) (maxL := 4) (ret := none) (by decide +kernel) rfl ?_
  intro p e s m args below meth c s₁ B9 hml hv
  obtain ⟨rfl, ⟨hsz, hP, hK, hT⟩, hL⟩ := hv
  subst hsz
  have hx := B9.exec
  have hb := B9.bytes
  have hr := B9.returns
  have hlocks := B9.notSynchronized
  have hts0 := atoms_spec (ws := Cond.code yJx4a65c_add_72be8 cJx4a65c_add_72be8 4 none :: en_cw) B9.pre
  have hts : ∀ z ∈ en_cw, z.before _ s = true := fun z hz => hts0 z (List.mem_cons_of_mem _ hz)
  have hown : s.vm.findClass RJx4a65c = some m.cls := findClass_of_methodNamed B9.named
  have hA : ∀ q : Nat, s.heap.size ≤ q → va_A w s.heap.size q := fun q h => Or.inr h
  have hS : va_S (va_A w s.heap.size) s.heap s.heap [] := va_S.rf
  have hD : va_D (va_A w s.heap.size) w := ⟨hD0.1, fun j z hz => Or.inl ⟨j, z.2, hz⟩⟩
  have hR9 : li_R w w [q] := li_R.rf
  have hl := lv_entry ([.ref la, .ref y, .ref ra, .int 15]) (n := 4) (Nat.le_of_ble_eq_true rfl)
  rw [lg_entry_eq]
  generalize (lg_sl ([.ref la, .ref y, .ref ra, .int 15]) ++ List.replicate (4 - (lg_sl ([.ref la, .ref y, .ref ra, .int 15])).length) Slot.unset).toArray = ls at hl ⊢
  have hl : lv_has ls 4 [(0, .ref la), (1, .ref y), (2, .ref ra), (3, .int 15)] := hl
  have hne : q ≠ qa := fun e9 => by rw [e9] at hq; rw [hq] at ha; cases ha
  have hnb : ∀ z ∈ [q], li_nb w z := fun z hz => by rw [List.mem_singleton.mp hz]; exact li_nbo hq
  refine lv_iload_n hx hb dj_Jx4a65c_add_72be8_0 rfl (lv_at hl 3 rfl) ?_
  refine lv_aload_n hx hb dj_Jx4a65c_add_72be8_1 rfl (lv_at hl 2 rfl) ?_
  refine va_alen hx hb hK hP qa t9 ha ht9 (v := 15) rfl dj_Jx4a65c_add_72be8_2 ?_
  refine lv_icmp_ne (tgt := 11) hx hb dj_Jx4a65c_add_72be8_3 (by decide) (fun c9 => absurd rfl c9) (fun _ => ?_)
  refine lv_aload_n hx hb dj_Jx4a65c_add_72be8_6 rfl (lv_at hl 0 rfl) ?_
  refine li_cV (As := []) (rest := []) (li_grow0_15 l D tys w _ e0 ca ad (⟨hD.1, fun j z hz => Or.inl ⟨j, z.2, hz⟩⟩ : va_D (va_A w s.heap.size) w) q la mc qa ra f cL t9 hq ha ht9 hE) gj_Jx4a65c_129 (va_recv hK hP (ci := 5) (q0 := q) rfl hq) rfl ⟨Nat.le_of_ble_eq_true rfl, Nat.le_of_ble_eq_true rfl⟩ ⟨Nat.le_of_ble_eq_true rfl, Nat.le_of_ble_eq_true rfl⟩ (Nat.le_of_ble_eq_true rfl) hx hb (hml.trans hl.1.symm) hts hown hK hT hL hP hD hS hA dj_Jx4a65c_add_72be8_7 (fun res w9 H locs hrv hqq hP hD hS => ?_)
  obtain ⟨r9, er, hlen, g8, g9, hR8⟩ := hqq
  subst er
  have hR9 : li_R w w9 [q] := hR8
  have hneB : w.length ≠ q := by have h9 := (List.getElem?_eq_some_iff.mp hq).1; omega
  refine lv_astore_n (lv' := [(2, .ref r9), (0, .ref la), (1, .ref y), (3, .int 15)]) hx hb dj_Jx4a65c_add_72be8_10 rfl hl (by decide) rfl (fun ls hl => ?_)
  refine lv_aload_n hx hb dj_Jx4a65c_add_72be8_11 rfl (lv_at hl 0 rfl) ?_
  refine lv_iload_n hx hb dj_Jx4a65c_add_72be8_12 rfl (lv_at hl 3 rfl) ?_
  refine lv_aload_n hx hb dj_Jx4a65c_add_72be8_13 rfl (lv_at hl 2 rfl) ?_
  refine vb_astq (E := "java/lang/Object") (C := "java/lang/Integer") hx hb hK hP hD hS w.length t9 g9 ht9 (li_xr (hy.st hR9 hnb) hK hL hP hS) (vb_asgC hL.2.2.2.2.2.2.2.1) (vp_in_nI (n := 15) (by decide) (by decide)) dj_Jx4a65c_add_72be8_14 (fun H locs hP hD hS => ?_)
  obtain ⟨w1, ew1, g1, gl1, gn1⟩ := li_set g9 (.inl (cL, 22, .inr (.inr (.inr (.inr (va_up (va_cpy f (fun _ => none) 0 0 15) 15 (some y)))))))
  have hP : va_P D vwCl w1 H := by rw [ew1]; exact hP
  have hD : va_D (va_A w s.heap.size) w1 := by rw [ew1]; exact hD
  have hR9 : li_R w w1 [q] := hR9.sn g9 (by omega) g1 gl1 gn1
  have g1L := (gn1 q (Ne.symm hneB)).trans g8
  refine lv_aload_n hx hb dj_Jx4a65c_add_72be8_15 rfl (lv_at hl 1 rfl) ?_
  refine lv_iload_n hx hb dj_Jx4a65c_add_72be8_16 rfl (lv_at hl 3 rfl) ?_
  refine lv_iconst (v := 1) hx hb dj_Jx4a65c_add_72be8_17 (by decide) ?_
  refine lv_iadd hx hb dj_Jx4a65c_add_72be8_18 ?_
  refine lv_topi (fun y2 ey2 => ?_)
  obtain rfl : y2 = 16 := ey2.trans (by decide)
  refine va_put (D := D) (ci := 5) (v := .int 16) (ty := .int) (C := RJx4a65c) (T := TJx4a65c) (N := 3) hx hb hts uwj_Jx4a65c tyJx4a65c tyJx4a65c_ok nmJx4a65c hown hK hP hD hS q g1L rfl 2 (by decide) (hts _ cwj1422) (fun _ h9 => h9) rfl (by decide +kernel) rfl rfl (Nat.le_of_ble_eq_true rfl) dj_Jx4a65c_add_72be8_19 (fun H locs hP hD hS => ?_)
  obtain ⟨w3, ew3, g3, gl3, gn3⟩ := li_set g1L (.inr (5, [.int mc, .ref r9, .int 16]))
  have hP : va_P D vwCl w3 H := by rw [ew3]; exact hP
  have hD : va_D (va_A w s.heap.size) w3 := by rw [ew3]; exact hD
  have hR9 : li_R w w3 [q] := hR9.tr (li_R.st g1L (by simp) g3 gl3 gn3 ⟨rfl, rfl⟩)
  have g3B := (gn3 w.length hneB).trans g1
  exact W.vret hx hb hr (fun t ht hW9 => ⟨⟨w3, rfl, ⟨_, g3, g3B, by omega, hR9⟩, ⟨by rw [ht]; exact hP, hD⟩⟩, hS.F ht⟩) hS.2.2 dj_Jx4a65c_add_72be8_22
set_option maxHeartbeats 4000000 in
theorem li_add3_0 (l : Launch) (D : va_G) (tys : List (ClassId × FieldType)) (w : va_W) (sz e0 ca : Nat) (ad : li_ad) (hD0 : va_D (va_A w sz) w) (q la : Nat) (mc : Int32) (cL : ClassId) (t9 : Nat) (y : Nat) (hq : w[q]? = some (la, .inr (5, [.int mc, .ref e0, .int 0]))) (ht9 : tys[t9]? = some (cL, .object "java/lang/Object")) (hy : li_x w ad y) : li_C l yJx4a65c_add_72be8 cJx4a65c_add_72be8 4 none 5 1 10 2 [.ref la, .ref y, .ref e0, .int 0] D tys w sz e0 ca ad (fun res w1 => ∃ r9 : Nat, w1[q]? = some (la, .inr (5, [.int mc, .ref r9, .int 1])) ∧ w1[w.length]? = some (r9, .inl (cL, 10, .inr (.inr (.inr (.inr (va_up (fun _ => none) 0 (some y))))))) ∧ w1.length = w.length + 1 ∧ li_R w w1 [q]) := by
  refine Met.ofW (cc := cJx4a65c_add_72be8) (maxL := 4) (ret := none) (by decide +kernel) rfl ?_
  intro p e s m args below meth c s₁ B9 hml hv
  obtain ⟨rfl, ⟨hsz, hP, hK, hT⟩, hL⟩ := hv
  subst hsz
  have hx := B9.exec
  have hb := B9.bytes
  have hr := B9.returns
  have hlocks := B9.notSynchronized
  have hts0 := atoms_spec (ws := Cond.code yJx4a65c_add_72be8 cJx4a65c_add_72be8 4 none :: en_cw) B9.pre
  have hts : ∀ z ∈ en_cw, z.before _ s = true := fun z hz => hts0 z (List.mem_cons_of_mem _ hz)
  have hown : s.vm.findClass RJx4a65c = some m.cls := findClass_of_methodNamed B9.named
  have hA : ∀ q : Nat, s.heap.size ≤ q → va_A w s.heap.size q := fun q h => Or.inr h
  have hS : va_S (va_A w s.heap.size) s.heap s.heap [] := va_S.rf
  have hD : va_D (va_A w s.heap.size) w := ⟨hD0.1, fun j z hz => Or.inl ⟨j, z.2, hz⟩⟩
  have hR9 : li_R w w [q] := li_R.rf
  have hl := lv_entry ([.ref la, .ref y, .ref e0, .int 0]) (n := 4) (Nat.le_of_ble_eq_true rfl)
  rw [lg_entry_eq]
  generalize (lg_sl ([.ref la, .ref y, .ref e0, .int 0]) ++ List.replicate (4 - (lg_sl ([.ref la, .ref y, .ref e0, .int 0])).length) Slot.unset).toArray = ls at hl ⊢
  have hl : lv_has ls 4 [(0, .ref la), (1, .ref y), (2, .ref e0), (3, .int 0)] := hl
  have hnb : ∀ z ∈ [q], li_nb w z := fun z hz => by rw [List.mem_singleton.mp hz]; exact li_nbo hq
  refine lv_iload_n hx hb dj_Jx4a65c_add_72be8_0 rfl (lv_at hl 3 rfl) ?_
  refine lv_aload_n hx hb dj_Jx4a65c_add_72be8_1 rfl (lv_at hl 2 rfl) ?_
  refine va_tlen hx hb hL.2.1 hS (v := 0) (by decide) dj_Jx4a65c_add_72be8_2 ?_
  refine lv_icmp_ne (tgt := 11) hx hb dj_Jx4a65c_add_72be8_3 (by decide) (fun c9 => absurd rfl c9) (fun _ => ?_)
  refine lv_aload_n hx hb dj_Jx4a65c_add_72be8_6 rfl (lv_at hl 0 rfl) ?_
  refine li_cV (As := []) (rest := []) (li_grow0_0 l D tys w _ e0 ca ad (⟨hD.1, fun j z hz => Or.inl ⟨j, z.2, hz⟩⟩ : va_D (va_A w s.heap.size) w) q la mc cL t9 hq ht9) gj_Jx4a65c_129 (va_recv hK hP (ci := 5) (q0 := q) rfl hq) rfl ⟨Nat.le_of_ble_eq_true rfl, Nat.le_of_ble_eq_true rfl⟩ ⟨Nat.le_of_ble_eq_true rfl, Nat.le_of_ble_eq_true rfl⟩ (Nat.le_of_ble_eq_true rfl) hx hb (hml.trans hl.1.symm) hts hown hK hT hL hP hD hS hA dj_Jx4a65c_add_72be8_7 (fun res w9 H locs hrv hqq hP hD hS => ?_)
  obtain ⟨r9, er, hlen, g8, g9, hR8⟩ := hqq
  subst er
  have hR9 : li_R w w9 [q] := hR8
  have hneB : w.length ≠ q := by have h9 := (List.getElem?_eq_some_iff.mp hq).1; omega
  refine lv_astore_n (lv' := [(2, .ref r9), (0, .ref la), (1, .ref y), (3, .int 0)]) hx hb dj_Jx4a65c_add_72be8_10 rfl hl (by decide) rfl (fun ls hl => ?_)
  refine lv_aload_n hx hb dj_Jx4a65c_add_72be8_11 rfl (lv_at hl 0 rfl) ?_
  refine lv_iload_n hx hb dj_Jx4a65c_add_72be8_12 rfl (lv_at hl 3 rfl) ?_
  refine lv_aload_n hx hb dj_Jx4a65c_add_72be8_13 rfl (lv_at hl 2 rfl) ?_
  refine vb_astq (E := "java/lang/Object") (C := "java/lang/Integer") hx hb hK hP hD hS w.length t9 g9 ht9 (li_xr (hy.st hR9 hnb) hK hL hP hS) (vb_asgC hL.2.2.2.2.2.2.2.1) (vp_in_nI (n := 0) (by decide) (by decide)) dj_Jx4a65c_add_72be8_14 (fun H locs hP hD hS => ?_)
  obtain ⟨w1, ew1, g1, gl1, gn1⟩ := li_set g9 (.inl (cL, 10, .inr (.inr (.inr (.inr (va_up (fun _ => none) 0 (some y)))))))
  have hP : va_P D vwCl w1 H := by rw [ew1]; exact hP
  have hD : va_D (va_A w s.heap.size) w1 := by rw [ew1]; exact hD
  have hR9 : li_R w w1 [q] := hR9.sn g9 (by omega) g1 gl1 gn1
  have g1L := (gn1 q (Ne.symm hneB)).trans g8
  refine lv_aload_n hx hb dj_Jx4a65c_add_72be8_15 rfl (lv_at hl 1 rfl) ?_
  refine lv_iload_n hx hb dj_Jx4a65c_add_72be8_16 rfl (lv_at hl 3 rfl) ?_
  refine lv_iconst (v := 1) hx hb dj_Jx4a65c_add_72be8_17 (by decide) ?_
  refine lv_iadd hx hb dj_Jx4a65c_add_72be8_18 ?_
  refine lv_topi (fun y2 ey2 => ?_)
  obtain rfl : y2 = 1 := ey2.trans (by decide)
  refine va_put (D := D) (ci := 5) (v := .int 1) (ty := .int) (C := RJx4a65c) (T := TJx4a65c) (N := 3) hx hb hts uwj_Jx4a65c tyJx4a65c tyJx4a65c_ok nmJx4a65c hown hK hP hD hS q g1L rfl 2 (by decide) (hts _ cwj1422) (fun _ h9 => h9) rfl (by decide +kernel) rfl rfl (Nat.le_of_ble_eq_true rfl) dj_Jx4a65c_add_72be8_19 (fun H locs hP hD hS => ?_)
  obtain ⟨w3, ew3, g3, gl3, gn3⟩ := li_set g1L (.inr (5, [.int mc, .ref r9, .int 1]))
  have hP : va_P D vwCl w3 H := by rw [ew3]; exact hP
  have hD : va_D (va_A w s.heap.size) w3 := by rw [ew3]; exact hD
  have hR9 : li_R w w3 [q] := hR9.tr (li_R.st g1L (by simp) g3 gl3 gn3 ⟨rfl, rfl⟩)
  have g3B := (gn3 w.length hneB).trans g1
  exact W.vret hx hb hr (fun t ht hW9 => ⟨⟨w3, rfl, ⟨_, g3, g3B, by omega, hR9⟩, ⟨by rw [ht]; exact hP, hD⟩⟩, hS.F ht⟩) hS.2.2 dj_Jx4a65c_add_72be8_22
set_option maxHeartbeats 4000000 in
theorem li_add_r (l : Launch) (D : va_G) (tys : List (ClassId × FieldType)) (w : va_W) (sz e0 ca : Nat) (ad : li_ad) (hD0 : va_D (va_A w sz) w) (q qa la ra n N : Nat) (mc : Int32) (f : Nat → Option Nat) (cL : ClassId) (t9 : Nat) (y : Nat) (hq : w[q]? = some (la, .inr (5, [.int mc, .ref ra, .int (nI n)]))) (ha : w[qa]? = some (ra, .inl (cL, N, .inr (.inr (.inr (.inr f)))))) (ht9 : tys[t9]? = some (cL, .object "java/lang/Object")) (hn : n < N) (hN : N < 1000) (hN3 : N = 10 ∨ N = 15 ∨ N = 22) (hy : li_x w ad y) : li_C l yJx4a65c_add_9ea2d cJx4a65c_add_9ea2d 2 (some .boolean) 6 1 22 0 [.ref la, .ref y] D tys w sz e0 ca ad (fun res w1 => ∃ (qb : Nat) (g : Nat → Option Nat), li_S w1 q qb la e0 cL (n + 1) g ∧ (∀ k, k < n → g k = f k) ∧ g n = some y ∧ (qb = qa ∨ w.length ≤ qb) ∧ w1.length ≤ w.length + 1 ∧ li_R w w1 [q, qa]) := by
  refine Met.ofW (cc := cJx4a65c_add_9ea2d) (maxL := 2) (ret := (some .boolean)) (by decide +kernel) rfl ?_
  intro p e s m args below meth c s₁ B9 hml hv
  obtain ⟨rfl, ⟨hsz, hP, hK, hT⟩, hL⟩ := hv
  subst hsz
  have hx := B9.exec
  have hb := B9.bytes
  have hr := B9.returns
  have hlocks := B9.notSynchronized
  have hts0 := atoms_spec (ws := Cond.code yJx4a65c_add_9ea2d cJx4a65c_add_9ea2d 2 (some .boolean) :: en_cw) B9.pre
  have hts : ∀ z ∈ en_cw, z.before _ s = true := fun z hz => hts0 z (List.mem_cons_of_mem _ hz)
  have hown : s.vm.findClass RJx4a65c = some m.cls := findClass_of_methodNamed B9.named
  have hA : ∀ q : Nat, s.heap.size ≤ q → va_A w s.heap.size q := fun q h => Or.inr h
  have hS : va_S (va_A w s.heap.size) s.heap s.heap [] := va_S.rf
  have hD : va_D (va_A w s.heap.size) w := ⟨hD0.1, fun j z hz => Or.inl ⟨j, z.2, hz⟩⟩
  have hR9 : li_R w w [q, qa] := li_R.rf
  have hl := lv_entry ([.ref la, .ref y]) (n := 2) (Nat.le_of_ble_eq_true rfl)
  rw [lg_entry_eq]
  generalize (lg_sl ([.ref la, .ref y]) ++ List.replicate (2 - (lg_sl ([.ref la, .ref y])).length) Slot.unset).toArray = ls at hl ⊢
  have hl : lv_has ls 2 [(0, .ref la), (1, .ref y)] := hl
  have hne : q ≠ qa := fun e9 => by rw [e9] at hq; rw [hq] at ha; cases ha
  have hnb : ∀ z ∈ [q, qa], li_nb w z := fun z hz => by rcases List.mem_cons.mp hz with rfl | hz; exact li_nbo hq; rw [List.mem_singleton.mp hz]; exact li_nba ha
  refine lv_aload_n hx hb dj_Jx4a65c_add_9ea2d_0 rfl (lv_at hl 0 rfl) ?_
  refine lv_dup hx hb dj_Jx4a65c_add_9ea2d_1 rfl ?_
  refine va_get (D := D) (ci := 5) (v := .int mc) (C := RJx4a65c) (T := TJx4a65c) (N := 3) hx hb hts uwj_Jx4a65c hown hK hP q hq rfl 0 (by decide) (hts _ cwj1426) (fun x9 h9 => u_same (hts (.sameField "java/util/ArrayList" "java/util/AbstractList" "modCount" "I") cwj1425) x9 h9) rfl dj_Jx4a65c_add_9ea2d_2 ?_
  refine lv_iconst (v := 1) hx hb dj_Jx4a65c_add_9ea2d_5 (by decide) ?_
  refine lv_iadd hx hb dj_Jx4a65c_add_9ea2d_6 ?_
  refine va_put (D := D) (ci := 5) (v := .int (mc + 1)) (ty := .int) (C := RJx4a65c) (T := TJx4a65c) (N := 3) hx hb hts uwj_Jx4a65c tyJx4a65c tyJx4a65c_ok nmJx4a65c hown hK hP hD hS q hq rfl 0 (by decide) (hts _ cwj1426) (fun x9 h9 => u_same (hts (.sameField "java/util/ArrayList" "java/util/AbstractList" "modCount" "I") cwj1425) x9 h9) rfl (by decide +kernel) rfl rfl (Nat.le_of_ble_eq_true rfl) dj_Jx4a65c_add_9ea2d_7 (fun H locs hP hD hS => ?_)
  obtain ⟨w1, ew1, g1, gl1, gn1⟩ := li_set hq (.inr (5, [.int (mc + 1), .ref ra, .int (nI n)]))
  have hP : va_P D vwCl w1 H := by rw [ew1]; exact hP
  have hD : va_D (va_A w s.heap.size) w1 := by rw [ew1]; exact hD
  have hR9 : li_R w w1 [q, qa] := hR9.tr (li_R.st hq (by simp) g1 gl1 gn1 ⟨rfl, rfl⟩)
  have g1A := (gn1 qa (Ne.symm hne)).trans ha
  refine lv_aload_n hx hb dj_Jx4a65c_add_9ea2d_10 rfl (lv_at hl 0 rfl) ?_
  refine lv_aload_n hx hb dj_Jx4a65c_add_9ea2d_11 rfl (lv_at hl 1 rfl) ?_
  refine lv_aload_n hx hb dj_Jx4a65c_add_9ea2d_12 rfl (lv_at hl 0 rfl) ?_
  refine va_get (D := D) (ci := 5) (v := .ref ra) (C := RJx4a65c) (T := TJx4a65c) (N := 3) hx hb hts uwj_Jx4a65c hown hK hP q g1 rfl 1 (by decide) (hts _ cwj1419) (fun _ h9 => h9) rfl dj_Jx4a65c_add_9ea2d_13 ?_
  refine lv_aload_n hx hb dj_Jx4a65c_add_9ea2d_16 rfl (lv_at hl 0 rfl) ?_
  refine va_get (D := D) (ci := 5) (v := .int (nI n)) (C := RJx4a65c) (T := TJx4a65c) (N := 3) hx hb hts uwj_Jx4a65c hown hK hP q g1 rfl 2 (by decide) (hts _ cwj1422) (fun _ h9 => h9) rfl dj_Jx4a65c_add_9ea2d_17 ?_
  refine li_cV (As := [.ref y, .ref ra, .int (nI n)]) (rest := []) (li_add3_r l D tys w1 _ e0 ca ad (⟨hD.1, fun j z hz => Or.inl ⟨j, z.2, hz⟩⟩ : va_D (va_A w1 H.size) w1) q qa la ra n N (mc + 1) f cL t9 y g1 g1A ht9 hn hN (hy.st hR9 hnb)) gj_Jx4a65c_131 (va_recv hK hP (ci := 5) (q0 := q) rfl g1) rfl ⟨Nat.le_of_ble_eq_true rfl, Nat.le_of_ble_eq_true rfl⟩ ⟨Nat.le_of_ble_eq_true rfl, Nat.le_of_ble_eq_true rfl⟩ (Nat.le_of_ble_eq_true rfl) hx hb (hml.trans hl.1.symm) hts hown hK hT hL hP hD hS hA dj_Jx4a65c_add_9ea2d_20 (fun res w9 H locs hrv hqq hP hD hS => ?_)
  obtain ⟨g8, g9, hlen, hR8⟩ := hqq
  obtain rfl := (show res = none from hrv)
  refine lv_iconst (v := 1) hx hb dj_Jx4a65c_add_9ea2d_23 (by decide) ?_
  refine W.widen (k := 1) (n := 22) (by decide) (by decide) ?_
  exact W.zret (v := 1) (ty := .boolean) hx hb hr (by decide) (fun t ht hW9 => ⟨⟨1, w9, rfl, ⟨_, va_up f n (some y), ⟨_, _, g8, Or.inr ⟨N, g9, by omega, hN3⟩⟩, fun k hk => va_up_ne _ _ (by omega), va_up_self _ _ _, Or.inl rfl, by omega, hR9.tr hR8⟩, ⟨by rw [ht]; exact hP, hD⟩⟩, hS.F ht⟩) hS.2.2 dj_Jx4a65c_add_9ea2d_24
set_option maxHeartbeats 4000000 in
theorem li_add_10 (l : Launch) (D : va_G) (tys : List (ClassId × FieldType)) (w : va_W) (sz e0 ca : Nat) (ad : li_ad) (hD0 : va_D (va_A w sz) w) (q la : Nat) (mc : Int32) (qa ra : Nat) (f : Nat → Option Nat) (cL : ClassId) (t9 : Nat) (y : Nat) (hq : w[q]? = some (la, .inr (5, [.int mc, .ref ra, .int 10]))) (ha : w[qa]? = some (ra, .inl (cL, 10, .inr (.inr (.inr (.inr f)))))) (ht9 : tys[t9]? = some (cL, .object "java/lang/Object")) (hE : li_E w ad 10 f) (hy : li_x w ad y) : li_C l yJx4a65c_add_9ea2d cJx4a65c_add_9ea2d 2 (some .boolean) 6 1 22 0 [.ref la, .ref y] D tys w sz e0 ca ad (fun res w1 => ∃ (qb : Nat) (g : Nat → Option Nat), li_S w1 q qb la e0 cL (10 + 1) g ∧ (∀ k, k < 10 → g k = f k) ∧ g 10 = some y ∧ (qb = qa ∨ w.length ≤ qb) ∧ w1.length ≤ w.length + 1 ∧ li_R w w1 [q, qa]) := by
  refine Met.ofW (cc := cJx4a65c_add_9ea2d) (maxL := 2) (ret := (some .boolean)) (by decide +kernel) rfl ?_
  intro p e s m args below meth c s₁ B9 hml hv
  obtain ⟨rfl, ⟨hsz, hP, hK, hT⟩, hL⟩ := hv
  subst hsz
  have hx := B9.exec
  have hb := B9.bytes
  have hr := B9.returns
  have hlocks := B9.notSynchronized
  have hts0 := atoms_spec (ws := Cond.code yJx4a65c_add_9ea2d cJx4a65c_add_9ea2d 2 (some .boolean) :: en_cw) B9.pre
  have hts : ∀ z ∈ en_cw, z.before _ s = true := fun z hz => hts0 z (List.mem_cons_of_mem _ hz)
  have hown : s.vm.findClass RJx4a65c = some m.cls := findClass_of_methodNamed B9.named
  have hA : ∀ q : Nat, s.heap.size ≤ q → va_A w s.heap.size q := fun q h => Or.inr h
  have hS : va_S (va_A w s.heap.size) s.heap s.heap [] := va_S.rf
  have hD : va_D (va_A w s.heap.size) w := ⟨hD0.1, fun j z hz => Or.inl ⟨j, z.2, hz⟩⟩
  have hR9 : li_R w w [q, qa] := li_R.rf
  have hl := lv_entry ([.ref la, .ref y]) (n := 2) (Nat.le_of_ble_eq_true rfl)
  rw [lg_entry_eq]
  generalize (lg_sl ([.ref la, .ref y]) ++ List.replicate (2 - (lg_sl ([.ref la, .ref y])).length) Slot.unset).toArray = ls at hl ⊢
  have hl : lv_has ls 2 [(0, .ref la), (1, .ref y)] := hl
  have hne : q ≠ qa := fun e9 => by rw [e9] at hq; rw [hq] at ha; cases ha
  have hnb : ∀ z ∈ [q, qa], li_nb w z := fun z hz => by rcases List.mem_cons.mp hz with rfl | hz; exact li_nbo hq; rw [List.mem_singleton.mp hz]; exact li_nba ha
  refine lv_aload_n hx hb dj_Jx4a65c_add_9ea2d_0 rfl (lv_at hl 0 rfl) ?_
  refine lv_dup hx hb dj_Jx4a65c_add_9ea2d_1 rfl ?_
  refine va_get (D := D) (ci := 5) (v := .int mc) (C := RJx4a65c) (T := TJx4a65c) (N := 3) hx hb hts uwj_Jx4a65c hown hK hP q hq rfl 0 (by decide) (hts _ cwj1426) (fun x9 h9 => u_same (hts (.sameField "java/util/ArrayList" "java/util/AbstractList" "modCount" "I") cwj1425) x9 h9) rfl dj_Jx4a65c_add_9ea2d_2 ?_
  refine lv_iconst (v := 1) hx hb dj_Jx4a65c_add_9ea2d_5 (by decide) ?_
  refine lv_iadd hx hb dj_Jx4a65c_add_9ea2d_6 ?_
  refine va_put (D := D) (ci := 5) (v := .int (mc + 1)) (ty := .int) (C := RJx4a65c) (T := TJx4a65c) (N := 3) hx hb hts uwj_Jx4a65c tyJx4a65c tyJx4a65c_ok nmJx4a65c hown hK hP hD hS q hq rfl 0 (by decide) (hts _ cwj1426) (fun x9 h9 => u_same (hts (.sameField "java/util/ArrayList" "java/util/AbstractList" "modCount" "I") cwj1425) x9 h9) rfl (by decide +kernel) rfl rfl (Nat.le_of_ble_eq_true rfl) dj_Jx4a65c_add_9ea2d_7 (fun H locs hP hD hS => ?_)
  obtain ⟨w1, ew1, g1, gl1, gn1⟩ := li_set hq (.inr (5, [.int (mc + 1), .ref ra, .int 10]))
  have hP : va_P D vwCl w1 H := by rw [ew1]; exact hP
  have hD : va_D (va_A w s.heap.size) w1 := by rw [ew1]; exact hD
  have hR9 : li_R w w1 [q, qa] := hR9.tr (li_R.st hq (by simp) g1 gl1 gn1 ⟨rfl, rfl⟩)
  have g1A := (gn1 qa (Ne.symm hne)).trans ha
  refine lv_aload_n hx hb dj_Jx4a65c_add_9ea2d_10 rfl (lv_at hl 0 rfl) ?_
  refine lv_aload_n hx hb dj_Jx4a65c_add_9ea2d_11 rfl (lv_at hl 1 rfl) ?_
  refine lv_aload_n hx hb dj_Jx4a65c_add_9ea2d_12 rfl (lv_at hl 0 rfl) ?_
  refine va_get (D := D) (ci := 5) (v := .ref ra) (C := RJx4a65c) (T := TJx4a65c) (N := 3) hx hb hts uwj_Jx4a65c hown hK hP q g1 rfl 1 (by decide) (hts _ cwj1419) (fun _ h9 => h9) rfl dj_Jx4a65c_add_9ea2d_13 ?_
  refine lv_aload_n hx hb dj_Jx4a65c_add_9ea2d_16 rfl (lv_at hl 0 rfl) ?_
  refine va_get (D := D) (ci := 5) (v := .int 10) (C := RJx4a65c) (T := TJx4a65c) (N := 3) hx hb hts uwj_Jx4a65c hown hK hP q g1 rfl 2 (by decide) (hts _ cwj1422) (fun _ h9 => h9) rfl dj_Jx4a65c_add_9ea2d_17 ?_
  refine li_cV (As := [.ref y, .ref ra, .int 10]) (rest := []) (li_add3_10 l D tys w1 _ e0 ca ad (⟨hD.1, fun j z hz => Or.inl ⟨j, z.2, hz⟩⟩ : va_D (va_A w1 H.size) w1) q la (mc + 1) qa ra f cL t9 y g1 g1A ht9 (hE.st hR9 hnb) (hy.st hR9 hnb)) gj_Jx4a65c_131 (va_recv hK hP (ci := 5) (q0 := q) rfl g1) rfl ⟨Nat.le_of_ble_eq_true rfl, Nat.le_of_ble_eq_true rfl⟩ ⟨Nat.le_of_ble_eq_true rfl, Nat.le_of_ble_eq_true rfl⟩ (Nat.le_of_ble_eq_true rfl) hx hb (hml.trans hl.1.symm) hts hown hK hT hL hP hD hS hA dj_Jx4a65c_add_9ea2d_20 (fun res w9 H locs hrv hqq hP hD hS => ?_)
  obtain ⟨r9, g8, g9, hlen, hR8⟩ := hqq
  obtain rfl := (show res = none from hrv)
  refine lv_iconst (v := 1) hx hb dj_Jx4a65c_add_9ea2d_23 (by decide) ?_
  refine W.widen (k := 1) (n := 22) (by decide) (by decide) ?_
  exact W.zret (v := 1) (ty := .boolean) hx hb hr (by decide) (fun t ht hW9 => ⟨⟨1, w9, rfl, ⟨_, _, ⟨_, _, g8, Or.inr ⟨15, g9, by omega, by decide⟩⟩, fun k hk => li_gr1 hk, li_gr2, Or.inr (by omega), by omega, hR9.tr (hR8.mono (by simp))⟩, ⟨by rw [ht]; exact hP, hD⟩⟩, hS.F ht⟩) hS.2.2 dj_Jx4a65c_add_9ea2d_24
set_option maxHeartbeats 4000000 in
theorem li_add_15 (l : Launch) (D : va_G) (tys : List (ClassId × FieldType)) (w : va_W) (sz e0 ca : Nat) (ad : li_ad) (hD0 : va_D (va_A w sz) w) (q la : Nat) (mc : Int32) (qa ra : Nat) (f : Nat → Option Nat) (cL : ClassId) (t9 : Nat) (y : Nat) (hq : w[q]? = some (la, .inr (5, [.int mc, .ref ra, .int 15]))) (ha : w[qa]? = some (ra, .inl (cL, 15, .inr (.inr (.inr (.inr f)))))) (ht9 : tys[t9]? = some (cL, .object "java/lang/Object")) (hE : li_E w ad 15 f) (hy : li_x w ad y) : li_C l yJx4a65c_add_9ea2d cJx4a65c_add_9ea2d 2 (some .boolean) 6 1 22 0 [.ref la, .ref y] D tys w sz e0 ca ad (fun res w1 => ∃ (qb : Nat) (g : Nat → Option Nat), li_S w1 q qb la e0 cL (15 + 1) g ∧ (∀ k, k < 15 → g k = f k) ∧ g 15 = some y ∧ (qb = qa ∨ w.length ≤ qb) ∧ w1.length ≤ w.length + 1 ∧ li_R w w1 [q, qa]) := by
  refine Met.ofW (cc := cJx4a65c_add_9ea2d) (maxL := 2) (ret := (some .boolean)) (by decide +kernel) rfl ?_
  intro p e s m args below meth c s₁ B9 hml hv
  obtain ⟨rfl, ⟨hsz, hP, hK, hT⟩, hL⟩ := hv
  subst hsz
  have hx := B9.exec
  have hb := B9.bytes
  have hr := B9.returns
  have hlocks := B9.notSynchronized
  have hts0 := atoms_spec (ws := Cond.code yJx4a65c_add_9ea2d cJx4a65c_add_9ea2d 2 (some .boolean) :: en_cw) B9.pre
  have hts : ∀ z ∈ en_cw, z.before _ s = true := fun z hz => hts0 z (List.mem_cons_of_mem _ hz)
  have hown : s.vm.findClass RJx4a65c = some m.cls := findClass_of_methodNamed B9.named
  have hA : ∀ q : Nat, s.heap.size ≤ q → va_A w s.heap.size q := fun q h => Or.inr h
  have hS : va_S (va_A w s.heap.size) s.heap s.heap [] := va_S.rf
  have hD : va_D (va_A w s.heap.size) w := ⟨hD0.1, fun j z hz => Or.inl ⟨j, z.2, hz⟩⟩
  have hR9 : li_R w w [q, qa] := li_R.rf
  have hl := lv_entry ([.ref la, .ref y]) (n := 2) (Nat.le_of_ble_eq_true rfl)
  rw [lg_entry_eq]
  generalize (lg_sl ([.ref la, .ref y]) ++ List.replicate (2 - (lg_sl ([.ref la, .ref y])).length) Slot.unset).toArray = ls at hl ⊢
  have hl : lv_has ls 2 [(0, .ref la), (1, .ref y)] := hl
  have hne : q ≠ qa := fun e9 => by rw [e9] at hq; rw [hq] at ha; cases ha
  have hnb : ∀ z ∈ [q, qa], li_nb w z := fun z hz => by rcases List.mem_cons.mp hz with rfl | hz; exact li_nbo hq; rw [List.mem_singleton.mp hz]; exact li_nba ha
  refine lv_aload_n hx hb dj_Jx4a65c_add_9ea2d_0 rfl (lv_at hl 0 rfl) ?_
  refine lv_dup hx hb dj_Jx4a65c_add_9ea2d_1 rfl ?_
  refine va_get (D := D) (ci := 5) (v := .int mc) (C := RJx4a65c) (T := TJx4a65c) (N := 3) hx hb hts uwj_Jx4a65c hown hK hP q hq rfl 0 (by decide) (hts _ cwj1426) (fun x9 h9 => u_same (hts (.sameField "java/util/ArrayList" "java/util/AbstractList" "modCount" "I") cwj1425) x9 h9) rfl dj_Jx4a65c_add_9ea2d_2 ?_
  refine lv_iconst (v := 1) hx hb dj_Jx4a65c_add_9ea2d_5 (by decide) ?_
  refine lv_iadd hx hb dj_Jx4a65c_add_9ea2d_6 ?_
  refine va_put (D := D) (ci := 5) (v := .int (mc + 1)) (ty := .int) (C := RJx4a65c) (T := TJx4a65c) (N := 3) hx hb hts uwj_Jx4a65c tyJx4a65c tyJx4a65c_ok nmJx4a65c hown hK hP hD hS q hq rfl 0 (by decide) (hts _ cwj1426) (fun x9 h9 => u_same (hts (.sameField "java/util/ArrayList" "java/util/AbstractList" "modCount" "I") cwj1425) x9 h9) rfl (by decide +kernel) rfl rfl (Nat.le_of_ble_eq_true rfl) dj_Jx4a65c_add_9ea2d_7 (fun H locs hP hD hS => ?_)
  obtain ⟨w1, ew1, g1, gl1, gn1⟩ := li_set hq (.inr (5, [.int (mc + 1), .ref ra, .int 15]))
  have hP : va_P D vwCl w1 H := by rw [ew1]; exact hP
  have hD : va_D (va_A w s.heap.size) w1 := by rw [ew1]; exact hD
  have hR9 : li_R w w1 [q, qa] := hR9.tr (li_R.st hq (by simp) g1 gl1 gn1 ⟨rfl, rfl⟩)
  have g1A := (gn1 qa (Ne.symm hne)).trans ha
  refine lv_aload_n hx hb dj_Jx4a65c_add_9ea2d_10 rfl (lv_at hl 0 rfl) ?_
  refine lv_aload_n hx hb dj_Jx4a65c_add_9ea2d_11 rfl (lv_at hl 1 rfl) ?_
  refine lv_aload_n hx hb dj_Jx4a65c_add_9ea2d_12 rfl (lv_at hl 0 rfl) ?_
  refine va_get (D := D) (ci := 5) (v := .ref ra) (C := RJx4a65c) (T := TJx4a65c) (N := 3) hx hb hts uwj_Jx4a65c hown hK hP q g1 rfl 1 (by decide) (hts _ cwj1419) (fun _ h9 => h9) rfl dj_Jx4a65c_add_9ea2d_13 ?_
  refine lv_aload_n hx hb dj_Jx4a65c_add_9ea2d_16 rfl (lv_at hl 0 rfl) ?_
  refine va_get (D := D) (ci := 5) (v := .int 15) (C := RJx4a65c) (T := TJx4a65c) (N := 3) hx hb hts uwj_Jx4a65c hown hK hP q g1 rfl 2 (by decide) (hts _ cwj1422) (fun _ h9 => h9) rfl dj_Jx4a65c_add_9ea2d_17 ?_
  refine li_cV (As := [.ref y, .ref ra, .int 15]) (rest := []) (li_add3_15 l D tys w1 _ e0 ca ad (⟨hD.1, fun j z hz => Or.inl ⟨j, z.2, hz⟩⟩ : va_D (va_A w1 H.size) w1) q la (mc + 1) qa ra f cL t9 y g1 g1A ht9 (hE.st hR9 hnb) (hy.st hR9 hnb)) gj_Jx4a65c_131 (va_recv hK hP (ci := 5) (q0 := q) rfl g1) rfl ⟨Nat.le_of_ble_eq_true rfl, Nat.le_of_ble_eq_true rfl⟩ ⟨Nat.le_of_ble_eq_true rfl, Nat.le_of_ble_eq_true rfl⟩ (Nat.le_of_ble_eq_true rfl) hx hb (hml.trans hl.1.symm) hts hown hK hT hL hP hD hS hA dj_Jx4a65c_add_9ea2d_20 (fun res w9 H locs hrv hqq hP hD hS => ?_)
  obtain ⟨r9, g8, g9, hlen, hR8⟩ := hqq
  obtain rfl := (show res = none from hrv)
  refine lv_iconst (v := 1) hx hb dj_Jx4a65c_add_9ea2d_23 (by decide) ?_
  exact W.zret (v := 1) (ty := .boolean) hx hb hr (by decide) (fun t ht hW9 => ⟨⟨1, w9, rfl, ⟨_, _, ⟨_, _, g8, Or.inr ⟨22, g9, by omega, by decide⟩⟩, fun k hk => li_gr1 hk, li_gr2, Or.inr (by omega), by omega, hR9.tr (hR8.mono (by simp))⟩, ⟨by rw [ht]; exact hP, hD⟩⟩, hS.F ht⟩) hS.2.2 dj_Jx4a65c_add_9ea2d_24
set_option maxHeartbeats 4000000 in
theorem li_add_0 (l : Launch) (D : va_G) (tys : List (ClassId × FieldType)) (w : va_W) (sz e0 ca : Nat) (ad : li_ad) (hD0 : va_D (va_A w sz) w) (q qa la : Nat) (mc : Int32) (f : Nat → Option Nat) (cL : ClassId) (t9 : Nat) (y : Nat) (hq : w[q]? = some (la, .inr (5, [.int mc, .ref e0, .int 0]))) (ht9 : tys[t9]? = some (cL, .object "java/lang/Object")) (hy : li_x w ad y) : li_C l yJx4a65c_add_9ea2d cJx4a65c_add_9ea2d 2 (some .boolean) 6 1 22 0 [.ref la, .ref y] D tys w sz e0 ca ad (fun res w1 => ∃ (qb : Nat) (g : Nat → Option Nat), li_S w1 q qb la e0 cL (0 + 1) g ∧ (∀ k, k < 0 → g k = f k) ∧ g 0 = some y ∧ (qb = qa ∨ w.length ≤ qb) ∧ w1.length ≤ w.length + 1 ∧ li_R w w1 [q, qa]) := by
  refine Met.ofW (cc := cJx4a65c_add_9ea2d) (maxL := 2) (ret := (some .boolean)) (by decide +kernel) rfl ?_
  intro p e s m args below meth c s₁ B9 hml hv
  obtain ⟨rfl, ⟨hsz, hP, hK, hT⟩, hL⟩ := hv
  subst hsz
  have hx := B9.exec
  have hb := B9.bytes
  have hr := B9.returns
  have hlocks := B9.notSynchronized
  have hts0 := atoms_spec (ws := Cond.code yJx4a65c_add_9ea2d cJx4a65c_add_9ea2d 2 (some .boolean) :: en_cw) B9.pre
  have hts : ∀ z ∈ en_cw, z.before _ s = true := fun z hz => hts0 z (List.mem_cons_of_mem _ hz)
  have hown : s.vm.findClass RJx4a65c = some m.cls := findClass_of_methodNamed B9.named
  have hA : ∀ q : Nat, s.heap.size ≤ q → va_A w s.heap.size q := fun q h => Or.inr h
  have hS : va_S (va_A w s.heap.size) s.heap s.heap [] := va_S.rf
  have hD : va_D (va_A w s.heap.size) w := ⟨hD0.1, fun j z hz => Or.inl ⟨j, z.2, hz⟩⟩
  have hR9 : li_R w w [q] := li_R.rf
  have hl := lv_entry ([.ref la, .ref y]) (n := 2) (Nat.le_of_ble_eq_true rfl)
  rw [lg_entry_eq]
  generalize (lg_sl ([.ref la, .ref y]) ++ List.replicate (2 - (lg_sl ([.ref la, .ref y])).length) Slot.unset).toArray = ls at hl ⊢
  have hl : lv_has ls 2 [(0, .ref la), (1, .ref y)] := hl
  have hnb : ∀ z ∈ [q], li_nb w z := fun z hz => by rw [List.mem_singleton.mp hz]; exact li_nbo hq
  refine lv_aload_n hx hb dj_Jx4a65c_add_9ea2d_0 rfl (lv_at hl 0 rfl) ?_
  refine lv_dup hx hb dj_Jx4a65c_add_9ea2d_1 rfl ?_
  refine va_get (D := D) (ci := 5) (v := .int mc) (C := RJx4a65c) (T := TJx4a65c) (N := 3) hx hb hts uwj_Jx4a65c hown hK hP q hq rfl 0 (by decide) (hts _ cwj1426) (fun x9 h9 => u_same (hts (.sameField "java/util/ArrayList" "java/util/AbstractList" "modCount" "I") cwj1425) x9 h9) rfl dj_Jx4a65c_add_9ea2d_2 ?_
  refine lv_iconst (v := 1) hx hb dj_Jx4a65c_add_9ea2d_5 (by decide) ?_
  refine lv_iadd hx hb dj_Jx4a65c_add_9ea2d_6 ?_
  refine va_put (D := D) (ci := 5) (v := .int (mc + 1)) (ty := .int) (C := RJx4a65c) (T := TJx4a65c) (N := 3) hx hb hts uwj_Jx4a65c tyJx4a65c tyJx4a65c_ok nmJx4a65c hown hK hP hD hS q hq rfl 0 (by decide) (hts _ cwj1426) (fun x9 h9 => u_same (hts (.sameField "java/util/ArrayList" "java/util/AbstractList" "modCount" "I") cwj1425) x9 h9) rfl (by decide +kernel) rfl rfl (Nat.le_of_ble_eq_true rfl) dj_Jx4a65c_add_9ea2d_7 (fun H locs hP hD hS => ?_)
  obtain ⟨w1, ew1, g1, gl1, gn1⟩ := li_set hq (.inr (5, [.int (mc + 1), .ref e0, .int 0]))
  have hP : va_P D vwCl w1 H := by rw [ew1]; exact hP
  have hD : va_D (va_A w s.heap.size) w1 := by rw [ew1]; exact hD
  have hR9 : li_R w w1 [q] := hR9.tr (li_R.st hq (by simp) g1 gl1 gn1 ⟨rfl, rfl⟩)
  refine lv_aload_n hx hb dj_Jx4a65c_add_9ea2d_10 rfl (lv_at hl 0 rfl) ?_
  refine lv_aload_n hx hb dj_Jx4a65c_add_9ea2d_11 rfl (lv_at hl 1 rfl) ?_
  refine lv_aload_n hx hb dj_Jx4a65c_add_9ea2d_12 rfl (lv_at hl 0 rfl) ?_
  refine va_get (D := D) (ci := 5) (v := .ref e0) (C := RJx4a65c) (T := TJx4a65c) (N := 3) hx hb hts uwj_Jx4a65c hown hK hP q g1 rfl 1 (by decide) (hts _ cwj1419) (fun _ h9 => h9) rfl dj_Jx4a65c_add_9ea2d_13 ?_
  refine lv_aload_n hx hb dj_Jx4a65c_add_9ea2d_16 rfl (lv_at hl 0 rfl) ?_
  refine va_get (D := D) (ci := 5) (v := .int 0) (C := RJx4a65c) (T := TJx4a65c) (N := 3) hx hb hts uwj_Jx4a65c hown hK hP q g1 rfl 2 (by decide) (hts _ cwj1422) (fun _ h9 => h9) rfl dj_Jx4a65c_add_9ea2d_17 ?_
  refine li_cV (As := [.ref y, .ref e0, .int 0]) (rest := []) (li_add3_0 l D tys w1 _ e0 ca ad (⟨hD.1, fun j z hz => Or.inl ⟨j, z.2, hz⟩⟩ : va_D (va_A w1 H.size) w1) q la (mc + 1) cL t9 y g1 ht9 (hy.st hR9 hnb)) gj_Jx4a65c_131 (va_recv hK hP (ci := 5) (q0 := q) rfl g1) rfl ⟨Nat.le_of_ble_eq_true rfl, Nat.le_of_ble_eq_true rfl⟩ ⟨Nat.le_of_ble_eq_true rfl, Nat.le_of_ble_eq_true rfl⟩ (Nat.le_of_ble_eq_true rfl) hx hb (hml.trans hl.1.symm) hts hown hK hT hL hP hD hS hA dj_Jx4a65c_add_9ea2d_20 (fun res w9 H locs hrv hqq hP hD hS => ?_)
  obtain ⟨r9, g8, g9, hlen, hR8⟩ := hqq
  obtain rfl := (show res = none from hrv)
  refine lv_iconst (v := 1) hx hb dj_Jx4a65c_add_9ea2d_23 (by decide) ?_
  refine W.widen (k := 1) (n := 22) (by decide) (by decide) ?_
  exact W.zret (v := 1) (ty := .boolean) hx hb hr (by decide) (fun t ht hW9 => ⟨⟨1, w9, rfl, ⟨_, _, ⟨_, _, g8, Or.inr ⟨10, g9, by omega, by decide⟩⟩, fun k hk => absurd hk (Nat.not_lt_zero k), va_up_self _ _ _, Or.inr (by omega), by omega, (hR9.tr hR8).mono (by simp)⟩, ⟨by rw [ht]; exact hP, hD⟩⟩, hS.F ht⟩) hS.2.2 dj_Jx4a65c_add_9ea2d_24
set_option maxHeartbeats 4000000 in
theorem li_Jx4a65c_set_bcc79 (l : Launch) (D : va_G) (tys : List (ClassId × FieldType)) (w : va_W) (sz e0 ca : Nat) (ad : li_ad) (hD0 : va_D (va_A w sz) w) (q qa la ra n N : Nat) (mc : Int32) (f : Nat → Option Nat) (cL : ClassId) (t9 : Nat) (i y : Nat) (y2 : Nat) (hq : w[q]? = some (la, .inr (5, [.int mc, .ref ra, .int (nI n)]))) (ha : w[qa]? = some (ra, .inl (cL, N, .inr (.inr (.inr (.inr f)))))) (ht9 : tys[t9]? = some (cL, .object "java/lang/Object")) (hn : n ≤ N) (hN : N < 1000) (hi : i < n) (hf : f i = some y) (hy : li_x w ad y2) : li_C l yJx4a65c_set_bcc79 cJx4a65c_set_bcc79 4 (some (.object "java/lang/Object")) 2 0 0 1 [.ref la, .int (nI i), .ref y2] D tys w sz e0 ca ad (fun res w1 => res = some (.ref y) ∧ w1[qa]? = some (ra, .inl (cL, N, .inr (.inr (.inr (.inr (va_up f i (some y2))))))) ∧ w1.length = w.length ∧ li_R w w1 [qa]) := by
  refine Met.ofW (cc := cJx4a65c_set_bcc79) (maxL := 4) (ret := (some (.object "java/lang/Object"))) (by decide +kernel) rfl ?_
  intro p e s m args below meth c s₁ B9 hml hv
  obtain ⟨rfl, ⟨hsz, hP, hK, hT⟩, hL⟩ := hv
  subst hsz
  have hx := B9.exec
  have hb := B9.bytes
  have hr := B9.returns
  have hlocks := B9.notSynchronized
  have hts0 := atoms_spec (ws := Cond.code yJx4a65c_set_bcc79 cJx4a65c_set_bcc79 4 (some (.object "java/lang/Object")) :: en_cw) B9.pre
  have hts : ∀ z ∈ en_cw, z.before _ s = true := fun z hz => hts0 z (List.mem_cons_of_mem _ hz)
  have hown : s.vm.findClass RJx4a65c = some m.cls := findClass_of_methodNamed B9.named
  have hA : ∀ q : Nat, s.heap.size ≤ q → va_A w s.heap.size q := fun q h => Or.inr h
  have hS : va_S (va_A w s.heap.size) s.heap s.heap [] := va_S.rf
  have hD : va_D (va_A w s.heap.size) w := ⟨hD0.1, fun j z hz => Or.inl ⟨j, z.2, hz⟩⟩
  have hR9 : li_R w w [qa] := li_R.rf
  have hl := lv_entry ([.ref la, .int (nI i), .ref y2]) (n := 4) (Nat.le_of_ble_eq_true rfl)
  rw [lg_entry_eq]
  generalize (lg_sl ([.ref la, .int (nI i), .ref y2]) ++ List.replicate (4 - (lg_sl ([.ref la, .int (nI i), .ref y2])).length) Slot.unset).toArray = ls at hl ⊢
  have hl : lv_has ls 4 [(0, .ref la), (1, .int (nI i)), (2, .ref y2)] := hl
  have hne : q ≠ qa := fun e9 => by rw [e9] at hq; rw [hq] at ha; cases ha
  have hnb : ∀ z ∈ [qa], li_nb w z := fun z hz => by rw [List.mem_singleton.mp hz]; exact li_nba ha
  refine lv_iload_n hx hb dj_Jx4a65c_set_bcc79_0 rfl (lv_at hl 1 rfl) ?_
  refine lv_aload_n hx hb dj_Jx4a65c_set_bcc79_1 rfl (lv_at hl 0 rfl) ?_
  refine va_get (D := D) (ci := 5) (v := .int (nI n)) (C := RJx4a65c) (T := TJx4a65c) (N := 3) hx hb hts uwj_Jx4a65c hown hK hP q hq rfl 2 (by decide) (hts _ cwj1422) (fun _ h9 => h9) rfl dj_Jx4a65c_set_bcc79_2 ?_
  refine li_cS (As := [.int (nI i), .int (nI n)]) (rest := []) (li_J15_checkIndex_7cf53 l D tys w _ e0 ca ad (⟨hD.1, fun j z hz => Or.inl ⟨j, z.2, hz⟩⟩ : va_D (va_A w s.heap.size) w) i n hi (by omega)) gj_Jx4a65c_118 rfl ⟨Nat.le_of_ble_eq_true rfl, Nat.le_of_ble_eq_true rfl⟩ ⟨Nat.le_of_ble_eq_true rfl, Nat.le_of_ble_eq_true rfl⟩ (Nat.le_of_ble_eq_true rfl) hx hb (hml.trans hl.1.symm) hts hown hK hT hL hP hD hS hA dj_Jx4a65c_set_bcc79_5 (fun res w9 H locs hrv hqq hP hD hS => ?_)
  have hq9 : w = w9 := Eq.symm hqq
  subst hq9
  obtain ⟨r9, rfl⟩ := hrv
  refine lv_pop hx hb dj_Jx4a65c_set_bcc79_8 rfl ?_
  refine lv_aload_n hx hb dj_Jx4a65c_set_bcc79_9 rfl (lv_at hl 0 rfl) ?_
  refine lv_iload_n hx hb dj_Jx4a65c_set_bcc79_10 rfl (lv_at hl 1 rfl) ?_
  refine li_cV (As := [.int (nI i)]) (rest := []) (li_Jx4a65c_elementData_915e3 l D tys w _ e0 ca ad (⟨hD.1, fun j z hz => Or.inl ⟨j, z.2, hz⟩⟩ : va_D (va_A w H.size) w) q qa la ra n N mc f cL t9 i y hq ha ht9 hn hN hi hf) gj_Jx4a65c_123 (va_recv hK hP (ci := 5) (q0 := q) rfl hq) rfl ⟨Nat.le_of_ble_eq_true rfl, Nat.le_of_ble_eq_true rfl⟩ ⟨Nat.le_of_ble_eq_true rfl, Nat.le_of_ble_eq_true rfl⟩ (Nat.le_of_ble_eq_true rfl) hx hb (hml.trans hl.1.symm) hts hown hK hT hL hP hD hS hA dj_Jx4a65c_set_bcc79_11 (fun res w9 H locs hrv hqq hP hD hS => ?_)
  obtain ⟨er, ew⟩ := hqq
  have ew := Eq.symm ew
  subst er
  subst ew
  refine lv_astore_n (lv' := [(3, .ref y), (0, .ref la), (1, .int (nI i)), (2, .ref y2)]) hx hb dj_Jx4a65c_set_bcc79_14 rfl hl (by decide) rfl (fun ls hl => ?_)
  refine lv_aload_n hx hb dj_Jx4a65c_set_bcc79_15 rfl (lv_at hl 1 rfl) ?_
  refine va_get (D := D) (ci := 5) (v := .ref ra) (C := RJx4a65c) (T := TJx4a65c) (N := 3) hx hb hts uwj_Jx4a65c hown hK hP q hq rfl 1 (by decide) (hts _ cwj1419) (fun _ h9 => h9) rfl dj_Jx4a65c_set_bcc79_16 ?_
  refine lv_iload_n hx hb dj_Jx4a65c_set_bcc79_19 rfl (lv_at hl 2 rfl) ?_
  refine lv_aload_n hx hb dj_Jx4a65c_set_bcc79_20 rfl (lv_at hl 3 rfl) ?_
  refine vb_astq (E := "java/lang/Object") (C := "java/lang/Integer") hx hb hK hP hD hS qa t9 ha ht9 (li_xr (hy.st hR9 hnb) hK hL hP hS) (vb_asgC hL.2.2.2.2.2.2.2.1) (vp_in_nI (show i < N by omega) (by omega)) dj_Jx4a65c_set_bcc79_21 (fun H locs hP hD hS => ?_)
  rw [nI_clamp (show i < 2 ^ 31 by omega)] at hP hD
  obtain ⟨w1, ew1, g1, gl1, gn1⟩ := li_set ha (.inl (cL, N, .inr (.inr (.inr (.inr (va_up f i (some y2)))))))
  have hP : va_P D vwCl w1 H := by rw [ew1]; exact hP
  have hD : va_D (va_A w s.heap.size) w1 := by rw [ew1]; exact hD
  have hR9 : li_R w w1 [qa] := hR9.tr (li_R.st ha (by simp) g1 gl1 gn1 ⟨rfl, rfl⟩)
  have g1L := (gn1 q hne).trans hq
  refine lv_aload_n hx hb dj_Jx4a65c_set_bcc79_22 rfl (lv_at hl 0 rfl) ?_
  exact W.aret (v := .ref y) hx hb hr (Or.inl ⟨_, rfl⟩) (Or.inr ⟨_, rfl⟩) (fun t ht hW9 => ⟨⟨w1, _, rfl, trivial, ⟨rfl, g1, by omega, hR9⟩, by rw [ht]; exact hP, hD⟩, hS.F ht⟩) hS.2.2 dj_Jx4a65c_set_bcc79_23
set_option maxHeartbeats 4000000 in
theorem li_Jx4a65c_fastRemove_b59b0 (l : Launch) (D : va_G) (tys : List (ClassId × FieldType)) (w : va_W) (sz e0 ca : Nat) (ad : li_ad) (hD0 : va_D (va_A w sz) w) (q qa la ra : Nat) (mc : Int32) (f : Nat → Option Nat) (cL : ClassId) (t9 : Nat) (hq : w[q]? = some (la, .inr (5, [.int mc, .ref ra, .int 21]))) (ha : w[qa]? = some (ra, .inl (cL, 22, .inr (.inr (.inr (.inr f)))))) (ht9 : tys[t9]? = some (cL, .object "java/lang/Object")) (hE : li_E w ad 21 f) : li_C l yJx4a65c_fastRemove_b59b0 cJx4a65c_fastRemove_b59b0 4 none 0 0 0 2 [.ref la, .ref ra, .int 0] D tys w sz e0 ca ad (fun res w1 => w1[q]? = some (la, .inr (5, [.int (mc + 1), .ref ra, .int 20])) ∧ w1[qa]? = some (ra, .inl (cL, 22, .inr (.inr (.inr (.inr (va_up (va_cpy f f 1 0 20) 20 none)))))) ∧ w1.length = w.length ∧ li_R w w1 [q, qa]) := by
  refine Met.ofW (cc := cJx4a65c_fastRemove_b59b0) (maxL := 4) (ret := none) (by decide +kernel) rfl ?_
  intro p e s m args below meth c s₁ B9 hml hv
  obtain ⟨rfl, ⟨hsz, hP, hK, hT⟩, hL⟩ := hv
  subst hsz
  have hx := B9.exec
  have hb := B9.bytes
  have hr := B9.returns
  have hlocks := B9.notSynchronized
  have hts0 := atoms_spec (ws := Cond.code yJx4a65c_fastRemove_b59b0 cJx4a65c_fastRemove_b59b0 4 none :: en_cw) B9.pre
  have hts : ∀ z ∈ en_cw, z.before _ s = true := fun z hz => hts0 z (List.mem_cons_of_mem _ hz)
  have hown : s.vm.findClass RJx4a65c = some m.cls := findClass_of_methodNamed B9.named
  have hA : ∀ q : Nat, s.heap.size ≤ q → va_A w s.heap.size q := fun q h => Or.inr h
  have hS : va_S (va_A w s.heap.size) s.heap s.heap [] := va_S.rf
  have hD : va_D (va_A w s.heap.size) w := ⟨hD0.1, fun j z hz => Or.inl ⟨j, z.2, hz⟩⟩
  have hR9 : li_R w w [q, qa] := li_R.rf
  have hl := lv_entry ([.ref la, .ref ra, .int 0]) (n := 4) (Nat.le_of_ble_eq_true rfl)
  rw [lg_entry_eq]
  generalize (lg_sl ([.ref la, .ref ra, .int 0]) ++ List.replicate (4 - (lg_sl ([.ref la, .ref ra, .int 0])).length) Slot.unset).toArray = ls at hl ⊢
  have hl : lv_has ls 4 [(0, .ref la), (1, .ref ra), (2, .int 0)] := hl
  have hne : q ≠ qa := fun e9 => by rw [e9] at hq; rw [hq] at ha; cases ha
  have hnb : ∀ z ∈ [q, qa], li_nb w z := fun z hz => by rcases List.mem_cons.mp hz with rfl | hz; exact li_nbo hq; rw [List.mem_singleton.mp hz]; exact li_nba ha
  refine lv_aload_n hx hb dj_Jx4a65c_fastRemove_b59b0_0 rfl (lv_at hl 0 rfl) ?_
  refine lv_dup hx hb dj_Jx4a65c_fastRemove_b59b0_1 rfl ?_
  refine va_get (D := D) (ci := 5) (v := .int mc) (C := RJx4a65c) (T := TJx4a65c) (N := 3) hx hb hts uwj_Jx4a65c hown hK hP q hq rfl 0 (by decide) (hts _ cwj1426) (fun x9 h9 => u_same (hts (.sameField "java/util/ArrayList" "java/util/AbstractList" "modCount" "I") cwj1425) x9 h9) rfl dj_Jx4a65c_fastRemove_b59b0_2 ?_
  refine lv_iconst (v := 1) hx hb dj_Jx4a65c_fastRemove_b59b0_5 (by decide) ?_
  refine lv_iadd hx hb dj_Jx4a65c_fastRemove_b59b0_6 ?_
  refine va_put (D := D) (ci := 5) (v := .int (mc + 1)) (ty := .int) (C := RJx4a65c) (T := TJx4a65c) (N := 3) hx hb hts uwj_Jx4a65c tyJx4a65c tyJx4a65c_ok nmJx4a65c hown hK hP hD hS q hq rfl 0 (by decide) (hts _ cwj1426) (fun x9 h9 => u_same (hts (.sameField "java/util/ArrayList" "java/util/AbstractList" "modCount" "I") cwj1425) x9 h9) rfl (by decide +kernel) rfl rfl (Nat.le_of_ble_eq_true rfl) dj_Jx4a65c_fastRemove_b59b0_7 (fun H locs hP hD hS => ?_)
  obtain ⟨w1, ew1, g1, gl1, gn1⟩ := li_set hq (.inr (5, [.int (mc + 1), .ref ra, .int 21]))
  have hP : va_P D vwCl w1 H := by rw [ew1]; exact hP
  have hD : va_D (va_A w s.heap.size) w1 := by rw [ew1]; exact hD
  have hR9 : li_R w w1 [q, qa] := hR9.tr (li_R.st hq (by simp) g1 gl1 gn1 ⟨rfl, rfl⟩)
  have g1A := (gn1 qa (Ne.symm hne)).trans ha
  refine lv_aload_n hx hb dj_Jx4a65c_fastRemove_b59b0_10 rfl (lv_at hl 0 rfl) ?_
  refine va_get (D := D) (ci := 5) (v := .int 21) (C := RJx4a65c) (T := TJx4a65c) (N := 3) hx hb hts uwj_Jx4a65c hown hK hP q g1 rfl 2 (by decide) (hts _ cwj1422) (fun _ h9 => h9) rfl dj_Jx4a65c_fastRemove_b59b0_11 ?_
  refine lv_iconst (v := 1) hx hb dj_Jx4a65c_fastRemove_b59b0_14 (by decide) ?_
  refine lv_isub hx hb dj_Jx4a65c_fastRemove_b59b0_15 ?_
  refine lv_topi (fun y2 ey2 => ?_)
  obtain rfl : y2 = 20 := ey2.trans (by decide)
  refine lv_dup hx hb dj_Jx4a65c_fastRemove_b59b0_16 rfl ?_
  refine lv_istore_n (lv' := [(3, .int 20), (0, .ref la), (1, .ref ra), (2, .int 0)]) hx hb dj_Jx4a65c_fastRemove_b59b0_17 rfl hl (by decide) rfl (fun ls hl => ?_)
  refine lv_iload_n hx hb dj_Jx4a65c_fastRemove_b59b0_18 rfl (lv_at hl 3 rfl) ?_
  refine lv_icmp_le (tgt := 34) hx hb dj_Jx4a65c_fastRemove_b59b0_19 (by decide) (fun c9 => absurd c9 (by decide)) (fun _ => ?_)
  refine lv_aload_n hx hb dj_Jx4a65c_fastRemove_b59b0_22 rfl (lv_at hl 2 rfl) ?_
  refine lv_iload_n hx hb dj_Jx4a65c_fastRemove_b59b0_23 rfl (lv_at hl 3 rfl) ?_
  refine lv_iconst (v := 1) hx hb dj_Jx4a65c_fastRemove_b59b0_24 (by decide) ?_
  refine lv_iadd hx hb dj_Jx4a65c_fastRemove_b59b0_25 ?_
  refine lv_topi (fun y3 ey3 => ?_)
  obtain rfl : y3 = 1 := ey3.trans (by decide)
  refine lv_aload_n hx hb dj_Jx4a65c_fastRemove_b59b0_26 rfl (lv_at hl 2 rfl) ?_
  refine lv_iload_n hx hb dj_Jx4a65c_fastRemove_b59b0_27 rfl (lv_at hl 3 rfl) ?_
  refine lv_iload_n hx hb dj_Jx4a65c_fastRemove_b59b0_28 rfl (lv_at hl 0 rfl) ?_
  refine lv_iload_n hx hb dj_Jx4a65c_fastRemove_b59b0_29 rfl (lv_at hl 3 rfl) ?_
  refine lv_isub hx hb dj_Jx4a65c_fastRemove_b59b0_30 ?_
  refine lv_topi (fun y4 ey4 => ?_)
  obtain rfl : y4 = 20 := ey4.trans (by decide)
  refine va_copyq (C := "java/lang/Integer") hx hb (by rw [hml]; exact hl.1.symm) hown (hts _ cwj2002) (hts _ cwj1495) (hts _ cwj1494) (hts _ cwj89) hK hP hD hS qa qa t9 t9 g1A g1A ht9 ht9 (by decide) (by decide) (by decide) (by decide) (by decide) (fun i9 h9 y9 e9 => li_hel hE hR9 hnb hK hL hP hS e9 (by have h7 : i9 < 20 := h9; show 1 + i9 < 21; omega)) (vb_asgC hL.2.2.2.2.2.2.2.1) (Nat.le_of_ble_eq_true rfl) (Nat.le_of_ble_eq_true rfl) dj_Jx4a65c_fastRemove_b59b0_31 (fun H locs hP hD hS => ?_)
  obtain ⟨w5, ew5, g5, gl5, gn5⟩ := li_set g1A (.inl (cL, 22, .inr (.inr (.inr (.inr (va_cpy f f 1 0 20))))))
  have hP : va_P D vwCl w5 H := by rw [ew5]; exact hP
  have hD : va_D (va_A w s.heap.size) w5 := by rw [ew5]; exact hD
  have hR9 : li_R w w5 [q, qa] := hR9.tr (li_R.st g1A (by simp) g5 gl5 gn5 ⟨rfl, rfl⟩)
  have g5L := (gn5 q hne).trans g1
  refine lv_aload_n hx hb dj_Jx4a65c_fastRemove_b59b0_34 rfl (lv_at hl 2 rfl) ?_
  refine lv_aload_n hx hb dj_Jx4a65c_fastRemove_b59b0_35 rfl (lv_at hl 1 rfl) ?_
  refine lv_iload_n hx hb dj_Jx4a65c_fastRemove_b59b0_36 rfl (lv_at hl 0 rfl) ?_
  refine lv_dup_x1 hx hb dj_Jx4a65c_fastRemove_b59b0_37 rfl rfl ?_
  refine va_put (D := D) (ci := 5) (v := .int 20) (ty := .int) (C := RJx4a65c) (T := TJx4a65c) (N := 3) hx hb hts uwj_Jx4a65c tyJx4a65c tyJx4a65c_ok nmJx4a65c hown hK hP hD hS q g5L rfl 2 (by decide) (hts _ cwj1422) (fun _ h9 => h9) rfl (by decide +kernel) rfl rfl (Nat.le_of_ble_eq_true rfl) dj_Jx4a65c_fastRemove_b59b0_38 (fun H locs hP hD hS => ?_)
  obtain ⟨w6, ew6, g6, gl6, gn6⟩ := li_set g5L (.inr (5, [.int (mc + 1), .ref ra, .int 20]))
  have hP : va_P D vwCl w6 H := by rw [ew6]; exact hP
  have hD : va_D (va_A w s.heap.size) w6 := by rw [ew6]; exact hD
  have hR9 : li_R w w6 [q, qa] := hR9.tr (li_R.st g5L (by simp) g6 gl6 gn6 ⟨rfl, rfl⟩)
  have g6A := (gn6 qa (Ne.symm hne)).trans g5
  refine lv_null hx hb dj_Jx4a65c_fastRemove_b59b0_41 ?_
  refine va_astqN hx hb hK hP hD hS qa t9 g6A ht9 (vp_in_nI (n := 20) (by decide) (by decide)) dj_Jx4a65c_fastRemove_b59b0_42 (fun H locs hP hD hS => ?_)
  obtain ⟨w7, ew7, g7, gl7, gn7⟩ := li_set g6A (.inl (cL, 22, .inr (.inr (.inr (.inr (va_up (va_cpy f f 1 0 20) 20 none))))))
  have hP : va_P D vwCl w7 H := by rw [ew7]; exact hP
  have hD : va_D (va_A w s.heap.size) w7 := by rw [ew7]; exact hD
  have hR9 : li_R w w7 [q, qa] := hR9.tr (li_R.st g6A (by simp) g7 gl7 gn7 ⟨rfl, rfl⟩)
  have g7L := (gn7 q hne).trans g6
  exact W.vret hx hb hr (fun t ht hW9 => ⟨⟨w7, rfl, ⟨g7L, g7, by omega, hR9⟩, ⟨by rw [ht]; exact hP, hD⟩⟩, hS.F ht⟩) hS.2.2 dj_Jx4a65c_fastRemove_b59b0_43
set_option maxHeartbeats 4000000 in
theorem li_Jx4a65c_remove_915e3 (l : Launch) (D : va_G) (tys : List (ClassId × FieldType)) (w : va_W) (sz e0 ca : Nat) (ad : li_ad) (hD0 : va_D (va_A w sz) w) (q qa la ra : Nat) (mc : Int32) (f : Nat → Option Nat) (cL : ClassId) (t9 : Nat) (y : Nat) (hq : w[q]? = some (la, .inr (5, [.int mc, .ref ra, .int 21]))) (ha : w[qa]? = some (ra, .inl (cL, 22, .inr (.inr (.inr (.inr f)))))) (ht9 : tys[t9]? = some (cL, .object "java/lang/Object")) (hE : li_E w ad 21 f) (hf : f 0 = some y) : li_C l yJx4a65c_remove_915e3 cJx4a65c_remove_915e3 4 (some (.object "java/lang/Object")) 2 0 0 1 [.ref la, .int 0] D tys w sz e0 ca ad (fun res w1 => res = some (.ref y) ∧ w1[q]? = some (la, .inr (5, [.int (mc + 1), .ref ra, .int 20])) ∧ w1[qa]? = some (ra, .inl (cL, 22, .inr (.inr (.inr (.inr (va_up (va_cpy f f 1 0 20) 20 none)))))) ∧ w1.length = w.length ∧ li_R w w1 [q, qa]) := by
  refine Met.ofW (cc := cJx4a65c_remove_915e3) (maxL := 4) (ret := (some (.object "java/lang/Object"))) (by decide +kernel) rfl ?_
  intro p e s m args below meth c s₁ B9 hml hv
  obtain ⟨rfl, ⟨hsz, hP, hK, hT⟩, hL⟩ := hv
  subst hsz
  have hx := B9.exec
  have hb := B9.bytes
  have hr := B9.returns
  have hlocks := B9.notSynchronized
  have hts0 := atoms_spec (ws := Cond.code yJx4a65c_remove_915e3 cJx4a65c_remove_915e3 4 (some (.object "java/lang/Object")) :: en_cw) B9.pre
  have hts : ∀ z ∈ en_cw, z.before _ s = true := fun z hz => hts0 z (List.mem_cons_of_mem _ hz)
  have hown : s.vm.findClass RJx4a65c = some m.cls := findClass_of_methodNamed B9.named
  have hA : ∀ q : Nat, s.heap.size ≤ q → va_A w s.heap.size q := fun q h => Or.inr h
  have hS : va_S (va_A w s.heap.size) s.heap s.heap [] := va_S.rf
  have hD : va_D (va_A w s.heap.size) w := ⟨hD0.1, fun j z hz => Or.inl ⟨j, z.2, hz⟩⟩
  have hR9 : li_R w w [q, qa] := li_R.rf
  have hl := lv_entry ([.ref la, .int 0]) (n := 4) (Nat.le_of_ble_eq_true rfl)
  rw [lg_entry_eq]
  generalize (lg_sl ([.ref la, .int 0]) ++ List.replicate (4 - (lg_sl ([.ref la, .int 0])).length) Slot.unset).toArray = ls at hl ⊢
  have hl : lv_has ls 4 [(0, .ref la), (1, .int 0)] := hl
  have hne : q ≠ qa := fun e9 => by rw [e9] at hq; rw [hq] at ha; cases ha
  refine lv_iload_n hx hb dj_Jx4a65c_remove_915e3_0 rfl (lv_at hl 1 rfl) ?_
  refine lv_aload_n hx hb dj_Jx4a65c_remove_915e3_1 rfl (lv_at hl 0 rfl) ?_
  refine va_get (D := D) (ci := 5) (v := .int 21) (C := RJx4a65c) (T := TJx4a65c) (N := 3) hx hb hts uwj_Jx4a65c hown hK hP q hq rfl 2 (by decide) (hts _ cwj1422) (fun _ h9 => h9) rfl dj_Jx4a65c_remove_915e3_2 ?_
  refine li_cS (As := [.int 0, .int 21]) (rest := []) (li_J15_checkIndex_7cf53 l D tys w _ e0 ca ad (⟨hD.1, fun j z hz => Or.inl ⟨j, z.2, hz⟩⟩ : va_D (va_A w s.heap.size) w) 0 21 (by decide) (by decide)) gj_Jx4a65c_118 rfl ⟨Nat.le_of_ble_eq_true rfl, Nat.le_of_ble_eq_true rfl⟩ ⟨Nat.le_of_ble_eq_true rfl, Nat.le_of_ble_eq_true rfl⟩ (Nat.le_of_ble_eq_true rfl) hx hb (hml.trans hl.1.symm) hts hown hK hT hL hP hD hS hA dj_Jx4a65c_remove_915e3_5 (fun res w9 H locs hrv hqq hP hD hS => ?_)
  have hq9 : w = w9 := Eq.symm hqq
  subst hq9
  obtain ⟨r9, rfl⟩ := hrv
  refine lv_pop hx hb dj_Jx4a65c_remove_915e3_8 rfl ?_
  refine lv_aload_n hx hb dj_Jx4a65c_remove_915e3_9 rfl (lv_at hl 0 rfl) ?_
  refine va_get (D := D) (ci := 5) (v := .ref ra) (C := RJx4a65c) (T := TJx4a65c) (N := 3) hx hb hts uwj_Jx4a65c hown hK hP q hq rfl 1 (by decide) (hts _ cwj1419) (fun _ h9 => h9) rfl dj_Jx4a65c_remove_915e3_10 ?_
  refine lv_astore_n (lv' := [(2, .ref ra), (0, .ref la), (1, .int 0)]) hx hb dj_Jx4a65c_remove_915e3_13 rfl hl (by decide) rfl (fun ls hl => ?_)
  refine lv_aload_n hx hb dj_Jx4a65c_remove_915e3_14 rfl (lv_at hl 0 rfl) ?_
  refine lv_iload_n hx hb dj_Jx4a65c_remove_915e3_15 rfl (lv_at hl 2 rfl) ?_
  refine va_aldq hx hb hK hP qa t9 ha ht9 (vp_in_nI (n := 0) (by decide) (by decide)) dj_Jx4a65c_remove_915e3_16 ?_
  rw [show f (0 : Int32).toNatClampNeg = some y from hf]
  refine lv_astore_n (lv' := [(3, .ref y), (2, .ref ra), (0, .ref la), (1, .int 0)]) hx hb dj_Jx4a65c_remove_915e3_17 rfl hl (by decide) rfl (fun ls hl => ?_)
  refine lv_aload_n hx hb dj_Jx4a65c_remove_915e3_18 rfl (lv_at hl 2 rfl) ?_
  refine lv_aload_n hx hb dj_Jx4a65c_remove_915e3_19 rfl (lv_at hl 1 rfl) ?_
  refine lv_iload_n hx hb dj_Jx4a65c_remove_915e3_20 rfl (lv_at hl 3 rfl) ?_
  refine li_cV (As := [.ref ra, .int 0]) (rest := []) (li_Jx4a65c_fastRemove_b59b0 l D tys w _ e0 ca ad (⟨hD.1, fun j z hz => Or.inl ⟨j, z.2, hz⟩⟩ : va_D (va_A w H.size) w) q qa la ra mc f cL t9 hq ha ht9 hE) gj_Jx4a65c_144 (va_recv hK hP (ci := 5) (q0 := q) rfl hq) rfl ⟨Nat.le_of_ble_eq_true rfl, Nat.le_of_ble_eq_true rfl⟩ ⟨Nat.le_of_ble_eq_true rfl, Nat.le_of_ble_eq_true rfl⟩ (Nat.le_of_ble_eq_true rfl) hx hb (hml.trans hl.1.symm) hts hown hK hT hL hP hD hS hA dj_Jx4a65c_remove_915e3_21 (fun res w9 H locs hrv hqq hP hD hS => ?_)
  obtain ⟨g8, g9, hlen, hR8⟩ := hqq
  obtain rfl := (show res = none from hrv)
  refine lv_aload_n hx hb dj_Jx4a65c_remove_915e3_24 rfl (lv_at hl 0 rfl) ?_
  exact W.aret (v := .ref y) hx hb hr (Or.inl ⟨_, rfl⟩) (Or.inr ⟨_, rfl⟩) (fun t ht hW9 => ⟨⟨w9, _, rfl, trivial, ⟨rfl, g8, g9, hlen, hR8⟩, by rw [ht]; exact hP, hD⟩, hS.F ht⟩) hS.2.2 dj_Jx4a65c_remove_915e3_25
set_option maxHeartbeats 4000000 in
theorem li_Jx4a65c_rangeCheckForAdd_d00df (l : Launch) (D : va_G) (tys : List (ClassId × FieldType)) (w : va_W) (sz e0 ca : Nat) (ad : li_ad) (hD0 : va_D (va_A w sz) w) (q la ra n i : Nat) (mc : Int32) (hq : w[q]? = some (la, .inr (5, [.int mc, .ref ra, .int (nI n)]))) (hi : i ≤ n) (hN : n < 1000) : li_C l yJx4a65c_rangeCheckForAdd_d00df cJx4a65c_rangeCheckForAdd_d00df 2 none 0 0 0 2 [.ref la, .int (nI i)] D tys w sz e0 ca ad (fun res w1 => w1 = w) := by
  refine Met.ofW (cc := cJx4a65c_rangeCheckForAdd_d00df) (maxL := 2) (ret := none) (by decide +kernel) rfl ?_
  intro p e s m args below meth c s₁ B9 hml hv
  obtain ⟨rfl, ⟨hsz, hP, hK, hT⟩, hL⟩ := hv
  subst hsz
  have hx := B9.exec
  have hb := B9.bytes
  have hr := B9.returns
  have hlocks := B9.notSynchronized
  have hts0 := atoms_spec (ws := Cond.code yJx4a65c_rangeCheckForAdd_d00df cJx4a65c_rangeCheckForAdd_d00df 2 none :: en_cw) B9.pre
  have hts : ∀ z ∈ en_cw, z.before _ s = true := fun z hz => hts0 z (List.mem_cons_of_mem _ hz)
  have hown : s.vm.findClass RJx4a65c = some m.cls := findClass_of_methodNamed B9.named
  have hA : ∀ q : Nat, s.heap.size ≤ q → va_A w s.heap.size q := fun q h => Or.inr h
  have hS : va_S (va_A w s.heap.size) s.heap s.heap [] := va_S.rf
  have hD : va_D (va_A w s.heap.size) w := ⟨hD0.1, fun j z hz => Or.inl ⟨j, z.2, hz⟩⟩
  have hR9 : li_R w w [] := li_R.rf
  have hl := lv_entry ([.ref la, .int (nI i)]) (n := 2) (Nat.le_of_ble_eq_true rfl)
  rw [lg_entry_eq]
  generalize (lg_sl ([.ref la, .int (nI i)]) ++ List.replicate (2 - (lg_sl ([.ref la, .int (nI i)])).length) Slot.unset).toArray = ls at hl ⊢
  have hl : lv_has ls 2 [(0, .ref la), (1, .int (nI i))] := hl
  refine lv_iload_n hx hb dj_Jx4a65c_rangeCheckForAdd_d00df_0 rfl (lv_at hl 1 rfl) ?_
  refine lv_aload_n hx hb dj_Jx4a65c_rangeCheckForAdd_d00df_1 rfl (lv_at hl 0 rfl) ?_
  refine va_get (D := D) (ci := 5) (v := .int (nI n)) (C := RJx4a65c) (T := TJx4a65c) (N := 3) hx hb hts uwj_Jx4a65c hown hK hP q hq rfl 2 (by decide) (hts _ cwj1422) (fun _ h9 => h9) rfl dj_Jx4a65c_rangeCheckForAdd_d00df_2 ?_
  refine lv_icmp_gt (tgt := 12) hx hb dj_Jx4a65c_rangeCheckForAdd_d00df_5 (by decide) (fun c9 => absurd c9 (nI_nlt hi (by omega))) (fun _ => ?_)
  refine lv_iload_n hx hb dj_Jx4a65c_rangeCheckForAdd_d00df_8 rfl (lv_at hl 1 rfl) ?_
  refine lv_if_ge (tgt := 25) hx hb dj_Jx4a65c_rangeCheckForAdd_d00df_9 (by decide) (fun _ => ?_) (fun c9 => absurd (show (0 : Int32) ≤ nI i from nI_le (a := 0) (Nat.zero_le i) (by omega)) c9)
  exact W.vret hx hb hr (fun t ht hW9 => ⟨⟨w, rfl, rfl, ⟨by rw [ht]; exact hP, hD⟩⟩, hS.F ht⟩) hS.2.2 dj_Jx4a65c_rangeCheckForAdd_d00df_25
set_option maxHeartbeats 4000000 in
theorem li_ins_r (l : Launch) (D : va_G) (tys : List (ClassId × FieldType)) (w : va_W) (sz e0 ca : Nat) (ad : li_ad) (hD0 : va_D (va_A w sz) w) (q qa la ra n N : Nat) (mc : Int32) (f : Nat → Option Nat) (cL : ClassId) (t9 : Nat) (i y : Nat) (hq : w[q]? = some (la, .inr (5, [.int mc, .ref ra, .int (nI n)]))) (ha : w[qa]? = some (ra, .inl (cL, N, .inr (.inr (.inr (.inr f)))))) (ht9 : tys[t9]? = some (cL, .object "java/lang/Object")) (hn : n < N) (hN : N < 1000) (hN3 : N = 10 ∨ N = 15 ∨ N = 22) (hi : i ≤ n) (hE : li_E w ad n f) (hy : li_x w ad y) : li_C l yJx4a65c_add_7a177 cJx4a65c_add_7a177 5 none 5 1 22 2 [.ref la, .int (nI i), .ref y] D tys w sz e0 ca ad (fun res w1 => ∃ (qb : Nat) (g : Nat → Option Nat), li_S w1 q qb la e0 cL (n + 1) g ∧ (∀ k, k < n + 1 → (∃ j, j < n ∧ g k = f j) ∨ g k = some y) ∧ (qb = qa ∨ w.length ≤ qb) ∧ w1.length ≤ w.length + 1 ∧ li_R w w1 [q, qa]) := by
  refine Met.ofW (cc := cJx4a65c_add_7a177) (maxL := 5) (ret := none) (by decide +kernel) rfl ?_
  intro p e s m args below meth c s₁ B9 hml hv
  obtain ⟨rfl, ⟨hsz, hP, hK, hT⟩, hL⟩ := hv
  subst hsz
  have hx := B9.exec
  have hb := B9.bytes
  have hr := B9.returns
  have hlocks := B9.notSynchronized
  have hts0 := atoms_spec (ws := Cond.code yJx4a65c_add_7a177 cJx4a65c_add_7a177 5 none :: en_cw) B9.pre
  have hts : ∀ z ∈ en_cw, z.before _ s = true := fun z hz => hts0 z (List.mem_cons_of_mem _ hz)
  have hown : s.vm.findClass RJx4a65c = some m.cls := findClass_of_methodNamed B9.named
  have hA : ∀ q : Nat, s.heap.size ≤ q → va_A w s.heap.size q := fun q h => Or.inr h
  have hS : va_S (va_A w s.heap.size) s.heap s.heap [] := va_S.rf
  have hD : va_D (va_A w s.heap.size) w := ⟨hD0.1, fun j z hz => Or.inl ⟨j, z.2, hz⟩⟩
  have hR9 : li_R w w [q, qa] := li_R.rf
  have hl := lv_entry ([.ref la, .int (nI i), .ref y]) (n := 5) (Nat.le_of_ble_eq_true rfl)
  rw [lg_entry_eq]
  generalize (lg_sl ([.ref la, .int (nI i), .ref y]) ++ List.replicate (5 - (lg_sl ([.ref la, .int (nI i), .ref y])).length) Slot.unset).toArray = ls at hl ⊢
  have hl : lv_has ls 5 [(0, .ref la), (1, .int (nI i)), (2, .ref y)] := hl
  have hne : q ≠ qa := fun e9 => by rw [e9] at hq; rw [hq] at ha; cases ha
  have hnb : ∀ z ∈ [q, qa], li_nb w z := fun z hz => by rcases List.mem_cons.mp hz with rfl | hz; exact li_nbo hq; rw [List.mem_singleton.mp hz]; exact li_nba ha
  refine lv_aload_n hx hb dj_Jx4a65c_add_7a177_0 rfl (lv_at hl 0 rfl) ?_
  refine lv_iload_n hx hb dj_Jx4a65c_add_7a177_1 rfl (lv_at hl 1 rfl) ?_
  refine li_cV (As := [.int (nI i)]) (rest := []) (li_Jx4a65c_rangeCheckForAdd_d00df l D tys w _ e0 ca ad (⟨hD.1, fun j z hz => Or.inl ⟨j, z.2, hz⟩⟩ : va_D (va_A w s.heap.size) w) q la ra n i mc hq hi (by omega)) gj_Jx4a65c_135 (va_recv hK hP (ci := 5) (q0 := q) rfl hq) rfl ⟨Nat.le_of_ble_eq_true rfl, Nat.le_of_ble_eq_true rfl⟩ ⟨Nat.le_of_ble_eq_true rfl, Nat.le_of_ble_eq_true rfl⟩ (Nat.le_of_ble_eq_true rfl) hx hb (hml.trans hl.1.symm) hts hown hK hT hL hP hD hS hA dj_Jx4a65c_add_7a177_2 (fun res w9 H locs hrv hqq hP hD hS => ?_)
  have hq9 : w = w9 := Eq.symm hqq
  subst hq9
  obtain rfl := (show res = none from hrv)
  refine lv_aload_n hx hb dj_Jx4a65c_add_7a177_5 rfl (lv_at hl 0 rfl) ?_
  refine lv_dup hx hb dj_Jx4a65c_add_7a177_6 rfl ?_
  refine va_get (D := D) (ci := 5) (v := .int mc) (C := RJx4a65c) (T := TJx4a65c) (N := 3) hx hb hts uwj_Jx4a65c hown hK hP q hq rfl 0 (by decide) (hts _ cwj1426) (fun x9 h9 => u_same (hts (.sameField "java/util/ArrayList" "java/util/AbstractList" "modCount" "I") cwj1425) x9 h9) rfl dj_Jx4a65c_add_7a177_7 ?_
  refine lv_iconst (v := 1) hx hb dj_Jx4a65c_add_7a177_10 (by decide) ?_
  refine lv_iadd hx hb dj_Jx4a65c_add_7a177_11 ?_
  refine va_put (D := D) (ci := 5) (v := .int (mc + 1)) (ty := .int) (C := RJx4a65c) (T := TJx4a65c) (N := 3) hx hb hts uwj_Jx4a65c tyJx4a65c tyJx4a65c_ok nmJx4a65c hown hK hP hD hS q hq rfl 0 (by decide) (hts _ cwj1426) (fun x9 h9 => u_same (hts (.sameField "java/util/ArrayList" "java/util/AbstractList" "modCount" "I") cwj1425) x9 h9) rfl (by decide +kernel) rfl rfl (Nat.le_of_ble_eq_true rfl) dj_Jx4a65c_add_7a177_12 (fun H locs hP hD hS => ?_)
  obtain ⟨w1, ew1, g1, gl1, gn1⟩ := li_set hq (.inr (5, [.int (mc + 1), .ref ra, .int (nI n)]))
  have hP : va_P D vwCl w1 H := by rw [ew1]; exact hP
  have hD : va_D (va_A w s.heap.size) w1 := by rw [ew1]; exact hD
  have hR9 : li_R w w1 [q, qa] := hR9.tr (li_R.st hq (by simp) g1 gl1 gn1 ⟨rfl, rfl⟩)
  have g1A := (gn1 qa (Ne.symm hne)).trans ha
  refine lv_aload_n hx hb dj_Jx4a65c_add_7a177_15 rfl (lv_at hl 0 rfl) ?_
  refine va_get (D := D) (ci := 5) (v := .int (nI n)) (C := RJx4a65c) (T := TJx4a65c) (N := 3) hx hb hts uwj_Jx4a65c hown hK hP q g1 rfl 2 (by decide) (hts _ cwj1422) (fun _ h9 => h9) rfl dj_Jx4a65c_add_7a177_16 ?_
  refine lv_dup hx hb dj_Jx4a65c_add_7a177_19 rfl ?_
  refine lv_istore_n (lv' := [(3, .int (nI n)), (0, .ref la), (1, .int (nI i)), (2, .ref y)]) hx hb dj_Jx4a65c_add_7a177_20 rfl hl (by decide) rfl (fun ls hl => ?_)
  refine lv_aload_n hx hb dj_Jx4a65c_add_7a177_21 rfl (lv_at hl 1 rfl) ?_
  refine va_get (D := D) (ci := 5) (v := .ref ra) (C := RJx4a65c) (T := TJx4a65c) (N := 3) hx hb hts uwj_Jx4a65c hown hK hP q g1 rfl 1 (by decide) (hts _ cwj1419) (fun _ h9 => h9) rfl dj_Jx4a65c_add_7a177_22 ?_
  refine lv_dup hx hb dj_Jx4a65c_add_7a177_25 rfl ?_
  refine lv_astore (lv' := [(4, .ref ra), (3, .int (nI n)), (0, .ref la), (1, .int (nI i)), (2, .ref y)]) hx hb dj_Jx4a65c_add_7a177_26 hl (by decide) rfl (fun ls hl => ?_)
  refine va_alen hx hb hK hP qa t9 g1A ht9 (v := (nI N)) rfl dj_Jx4a65c_add_7a177_28 ?_
  refine lv_icmp_ne (tgt := 38) hx hb dj_Jx4a65c_add_7a177_29 (by decide) (fun _ => ?_) (fun c9 => absurd c9 (fun e9 => absurd ((nI_eq (show n < 2 ^ 31 by omega) (show N < 2 ^ 31 by omega)).mp e9) (by omega)))
  refine lv_aload hx hb dj_Jx4a65c_add_7a177_38 (lv_at hl 0 rfl) ?_
  refine lv_iload_n hx hb dj_Jx4a65c_add_7a177_40 rfl (lv_at hl 3 rfl) ?_
  refine lv_aload hx hb dj_Jx4a65c_add_7a177_41 (lv_at hl 0 rfl) ?_
  refine lv_iload_n hx hb dj_Jx4a65c_add_7a177_43 rfl (lv_at hl 3 rfl) ?_
  refine lv_iconst (v := 1) hx hb dj_Jx4a65c_add_7a177_44 (by decide) ?_
  refine lv_iadd hx hb dj_Jx4a65c_add_7a177_45 ?_
  rw [← nI_succ]
  refine lv_iload_n hx hb dj_Jx4a65c_add_7a177_46 rfl (lv_at hl 1 rfl) ?_
  refine lv_iload_n hx hb dj_Jx4a65c_add_7a177_47 rfl (lv_at hl 3 rfl) ?_
  refine lv_isub hx hb dj_Jx4a65c_add_7a177_48 ?_
  rw [show nI n - nI i = nI (n - i) from li_nsub (n := n) hi (by omega)]
  refine va_copyq (C := "java/lang/Integer") hx hb (by rw [hml]; exact hl.1.symm) hown (hts _ cwj2002) (hts _ cwj1495) (hts _ cwj1494) (hts _ cwj89) hK hP hD hS qa qa t9 t9 g1A g1A ht9 ht9 (nI_nlt (b := 0) (Nat.zero_le _) (by omega)) (nI_nlt (b := 0) (Nat.zero_le _) (by omega)) (nI_nlt (b := 0) (Nat.zero_le _) (by omega)) (by rw [nI_clamp (show i < 2 ^ 31 by omega), nI_clamp (show n - i < 2 ^ 31 by omega)]; omega) (by rw [nI_clamp (show i + 1 < 2 ^ 31 by omega), nI_clamp (show n - i < 2 ^ 31 by omega)]; omega) (fun i9 h9 y9 e9 => li_hel hE hR9 hnb hK hL hP hS (k := i + i9) (by rw [nI_clamp (show i < 2 ^ 31 by omega)] at e9; exact e9) (by rw [nI_clamp (show n - i < 2 ^ 31 by omega)] at h9; omega)) (vb_asgC hL.2.2.2.2.2.2.2.1) (Nat.le_of_ble_eq_true rfl) (Nat.le_of_ble_eq_true rfl) dj_Jx4a65c_add_7a177_49 (fun H locs hP hD hS => ?_)
  obtain ⟨w2, ew2, g2, gl2, gn2⟩ := li_set g1A (.inl (cL, N, .inr (.inr (.inr (.inr (va_cpy f f (nI i).toNatClampNeg (nI (i + 1)).toNatClampNeg (nI (n - i)).toNatClampNeg))))))
  have hP : va_P D vwCl w2 H := by rw [ew2]; exact hP
  have hD : va_D (va_A w s.heap.size) w2 := by rw [ew2]; exact hD
  have hR9 : li_R w w2 [q, qa] := hR9.tr (li_R.st g1A (by simp) g2 gl2 gn2 ⟨rfl, rfl⟩)
  have g2L := (gn2 q hne).trans g1
  rw [nI_clamp (show i < 2 ^ 31 by omega), nI_clamp (show i + 1 < 2 ^ 31 by omega), nI_clamp (show n - i < 2 ^ 31 by omega)] at g2
  refine lv_aload hx hb dj_Jx4a65c_add_7a177_52 (lv_at hl 0 rfl) ?_
  refine lv_iload_n hx hb dj_Jx4a65c_add_7a177_54 rfl (lv_at hl 3 rfl) ?_
  refine lv_aload_n hx hb dj_Jx4a65c_add_7a177_55 rfl (lv_at hl 4 rfl) ?_
  refine vb_astq (E := "java/lang/Object") (C := "java/lang/Integer") hx hb hK hP hD hS qa t9 g2 ht9 (li_xr (hy.st hR9 hnb) hK hL hP hS) (vb_asgC hL.2.2.2.2.2.2.2.1) (vp_in_nI (show i < N by omega) (by omega)) dj_Jx4a65c_add_7a177_56 (fun H locs hP hD hS => ?_)
  rw [nI_clamp (show i < 2 ^ 31 by omega)] at hP hD
  obtain ⟨w3, ew3, g3, gl3, gn3⟩ := li_set g2 (.inl (cL, N, .inr (.inr (.inr (.inr (va_up (va_cpy f f i (i + 1) (n - i)) i (some y)))))))
  have hP : va_P D vwCl w3 H := by rw [ew3]; exact hP
  have hD : va_D (va_A w s.heap.size) w3 := by rw [ew3]; exact hD
  have hR9 : li_R w w3 [q, qa] := hR9.tr (li_R.st g2 (by simp) g3 gl3 gn3 ⟨rfl, rfl⟩)
  have g3L := (gn3 q hne).trans g2L
  refine lv_aload_n hx hb dj_Jx4a65c_add_7a177_57 rfl (lv_at hl 2 rfl) ?_
  refine lv_iload_n hx hb dj_Jx4a65c_add_7a177_58 rfl (lv_at hl 1 rfl) ?_
  refine lv_iconst (v := 1) hx hb dj_Jx4a65c_add_7a177_59 (by decide) ?_
  refine lv_iadd hx hb dj_Jx4a65c_add_7a177_60 ?_
  rw [← nI_succ]
  refine va_put (D := D) (ci := 5) (v := .int (nI (n + 1))) (ty := .int) (C := RJx4a65c) (T := TJx4a65c) (N := 3) hx hb hts uwj_Jx4a65c tyJx4a65c tyJx4a65c_ok nmJx4a65c hown hK hP hD hS q g3L rfl 2 (by decide) (hts _ cwj1422) (fun _ h9 => h9) rfl (by decide +kernel) rfl rfl (Nat.le_of_ble_eq_true rfl) dj_Jx4a65c_add_7a177_61 (fun H locs hP hD hS => ?_)
  obtain ⟨w4, ew4, g4, gl4, gn4⟩ := li_set g3L (.inr (5, [.int (mc + 1), .ref ra, .int (nI (n + 1))]))
  have hP : va_P D vwCl w4 H := by rw [ew4]; exact hP
  have hD : va_D (va_A w s.heap.size) w4 := by rw [ew4]; exact hD
  have hR9 : li_R w w4 [q, qa] := hR9.tr (li_R.st g3L (by simp) g4 gl4 gn4 ⟨rfl, rfl⟩)
  have g4A := (gn4 qa (Ne.symm hne)).trans g3
  refine W.widen (k := 1) (n := 22) (by decide) (by decide) ?_
  exact W.vret hx hb hr (fun t ht hW9 => ⟨⟨w4, rfl, ⟨_, _, ⟨_, _, g4, Or.inr ⟨N, g4A, by omega, hN3⟩⟩, li_ins (by omega) (fun k hk => rfl), Or.inl rfl, by omega, hR9⟩, ⟨by rw [ht]; exact hP, hD⟩⟩, hS.F ht⟩) hS.2.2 dj_Jx4a65c_add_7a177_64
set_option maxHeartbeats 4000000 in
theorem li_ins_10 (l : Launch) (D : va_G) (tys : List (ClassId × FieldType)) (w : va_W) (sz e0 ca : Nat) (ad : li_ad) (hD0 : va_D (va_A w sz) w) (q la : Nat) (mc : Int32) (qa ra : Nat) (f : Nat → Option Nat) (cL : ClassId) (t9 : Nat) (i y : Nat) (hq : w[q]? = some (la, .inr (5, [.int mc, .ref ra, .int 10]))) (ha : w[qa]? = some (ra, .inl (cL, 10, .inr (.inr (.inr (.inr f)))))) (ht9 : tys[t9]? = some (cL, .object "java/lang/Object")) (hE : li_E w ad 10 f) (hi : i ≤ 10) (hy : li_x w ad y) : li_C l yJx4a65c_add_7a177 cJx4a65c_add_7a177 5 none 5 1 22 2 [.ref la, .int (nI i), .ref y] D tys w sz e0 ca ad (fun res w1 => ∃ (qb : Nat) (g : Nat → Option Nat), li_S w1 q qb la e0 cL (10 + 1) g ∧ (∀ k, k < 10 + 1 → (∃ j, j < 10 ∧ g k = f j) ∨ g k = some y) ∧ (qb = qa ∨ w.length ≤ qb) ∧ w1.length ≤ w.length + 1 ∧ li_R w w1 [q, qa]) := by
  refine Met.ofW (cc := cJx4a65c_add_7a177) (maxL := 5) (ret := none) (by decide +kernel) rfl ?_
  intro p e s m args below meth c s₁ B9 hml hv
  obtain ⟨rfl, ⟨hsz, hP, hK, hT⟩, hL⟩ := hv
  subst hsz
  have hx := B9.exec
  have hb := B9.bytes
  have hr := B9.returns
  have hlocks := B9.notSynchronized
  have hts0 := atoms_spec (ws := Cond.code yJx4a65c_add_7a177 cJx4a65c_add_7a177 5 none :: en_cw) B9.pre
  have hts : ∀ z ∈ en_cw, z.before _ s = true := fun z hz => hts0 z (List.mem_cons_of_mem _ hz)
  have hown : s.vm.findClass RJx4a65c = some m.cls := findClass_of_methodNamed B9.named
  have hA : ∀ q : Nat, s.heap.size ≤ q → va_A w s.heap.size q := fun q h => Or.inr h
  have hS : va_S (va_A w s.heap.size) s.heap s.heap [] := va_S.rf
  have hD : va_D (va_A w s.heap.size) w := ⟨hD0.1, fun j z hz => Or.inl ⟨j, z.2, hz⟩⟩
  have hR9 : li_R w w [q, qa] := li_R.rf
  have hl := lv_entry ([.ref la, .int (nI i), .ref y]) (n := 5) (Nat.le_of_ble_eq_true rfl)
  rw [lg_entry_eq]
  generalize (lg_sl ([.ref la, .int (nI i), .ref y]) ++ List.replicate (5 - (lg_sl ([.ref la, .int (nI i), .ref y])).length) Slot.unset).toArray = ls at hl ⊢
  have hl : lv_has ls 5 [(0, .ref la), (1, .int (nI i)), (2, .ref y)] := hl
  have hne : q ≠ qa := fun e9 => by rw [e9] at hq; rw [hq] at ha; cases ha
  have hnb : ∀ z ∈ [q, qa], li_nb w z := fun z hz => by rcases List.mem_cons.mp hz with rfl | hz; exact li_nbo hq; rw [List.mem_singleton.mp hz]; exact li_nba ha
  refine lv_aload_n hx hb dj_Jx4a65c_add_7a177_0 rfl (lv_at hl 0 rfl) ?_
  refine lv_iload_n hx hb dj_Jx4a65c_add_7a177_1 rfl (lv_at hl 1 rfl) ?_
  refine li_cV (As := [.int (nI i)]) (rest := []) (li_Jx4a65c_rangeCheckForAdd_d00df l D tys w _ e0 ca ad (⟨hD.1, fun j z hz => Or.inl ⟨j, z.2, hz⟩⟩ : va_D (va_A w s.heap.size) w) q la ra 10 i mc hq hi (by omega)) gj_Jx4a65c_135 (va_recv hK hP (ci := 5) (q0 := q) rfl hq) rfl ⟨Nat.le_of_ble_eq_true rfl, Nat.le_of_ble_eq_true rfl⟩ ⟨Nat.le_of_ble_eq_true rfl, Nat.le_of_ble_eq_true rfl⟩ (Nat.le_of_ble_eq_true rfl) hx hb (hml.trans hl.1.symm) hts hown hK hT hL hP hD hS hA dj_Jx4a65c_add_7a177_2 (fun res w9 H locs hrv hqq hP hD hS => ?_)
  have hq9 : w = w9 := Eq.symm hqq
  subst hq9
  obtain rfl := (show res = none from hrv)
  refine lv_aload_n hx hb dj_Jx4a65c_add_7a177_5 rfl (lv_at hl 0 rfl) ?_
  refine lv_dup hx hb dj_Jx4a65c_add_7a177_6 rfl ?_
  refine va_get (D := D) (ci := 5) (v := .int mc) (C := RJx4a65c) (T := TJx4a65c) (N := 3) hx hb hts uwj_Jx4a65c hown hK hP q hq rfl 0 (by decide) (hts _ cwj1426) (fun x9 h9 => u_same (hts (.sameField "java/util/ArrayList" "java/util/AbstractList" "modCount" "I") cwj1425) x9 h9) rfl dj_Jx4a65c_add_7a177_7 ?_
  refine lv_iconst (v := 1) hx hb dj_Jx4a65c_add_7a177_10 (by decide) ?_
  refine lv_iadd hx hb dj_Jx4a65c_add_7a177_11 ?_
  refine va_put (D := D) (ci := 5) (v := .int (mc + 1)) (ty := .int) (C := RJx4a65c) (T := TJx4a65c) (N := 3) hx hb hts uwj_Jx4a65c tyJx4a65c tyJx4a65c_ok nmJx4a65c hown hK hP hD hS q hq rfl 0 (by decide) (hts _ cwj1426) (fun x9 h9 => u_same (hts (.sameField "java/util/ArrayList" "java/util/AbstractList" "modCount" "I") cwj1425) x9 h9) rfl (by decide +kernel) rfl rfl (Nat.le_of_ble_eq_true rfl) dj_Jx4a65c_add_7a177_12 (fun H locs hP hD hS => ?_)
  obtain ⟨w1, ew1, g1, gl1, gn1⟩ := li_set hq (.inr (5, [.int (mc + 1), .ref ra, .int 10]))
  have hP : va_P D vwCl w1 H := by rw [ew1]; exact hP
  have hD : va_D (va_A w s.heap.size) w1 := by rw [ew1]; exact hD
  have hR9 : li_R w w1 [q, qa] := hR9.tr (li_R.st hq (by simp) g1 gl1 gn1 ⟨rfl, rfl⟩)
  have g1A := (gn1 qa (Ne.symm hne)).trans ha
  refine lv_aload_n hx hb dj_Jx4a65c_add_7a177_15 rfl (lv_at hl 0 rfl) ?_
  refine va_get (D := D) (ci := 5) (v := .int 10) (C := RJx4a65c) (T := TJx4a65c) (N := 3) hx hb hts uwj_Jx4a65c hown hK hP q g1 rfl 2 (by decide) (hts _ cwj1422) (fun _ h9 => h9) rfl dj_Jx4a65c_add_7a177_16 ?_
  refine lv_dup hx hb dj_Jx4a65c_add_7a177_19 rfl ?_
  refine lv_istore_n (lv' := [(3, .int 10), (0, .ref la), (1, .int (nI i)), (2, .ref y)]) hx hb dj_Jx4a65c_add_7a177_20 rfl hl (by decide) rfl (fun ls hl => ?_)
  refine lv_aload_n hx hb dj_Jx4a65c_add_7a177_21 rfl (lv_at hl 1 rfl) ?_
  refine va_get (D := D) (ci := 5) (v := .ref ra) (C := RJx4a65c) (T := TJx4a65c) (N := 3) hx hb hts uwj_Jx4a65c hown hK hP q g1 rfl 1 (by decide) (hts _ cwj1419) (fun _ h9 => h9) rfl dj_Jx4a65c_add_7a177_22 ?_
  refine lv_dup hx hb dj_Jx4a65c_add_7a177_25 rfl ?_
  refine lv_astore (lv' := [(4, .ref ra), (3, .int 10), (0, .ref la), (1, .int (nI i)), (2, .ref y)]) hx hb dj_Jx4a65c_add_7a177_26 hl (by decide) rfl (fun ls hl => ?_)
  refine va_alen hx hb hK hP qa t9 g1A ht9 (v := 10) rfl dj_Jx4a65c_add_7a177_28 ?_
  refine lv_icmp_ne (tgt := 38) hx hb dj_Jx4a65c_add_7a177_29 (by decide) (fun c9 => absurd rfl c9) (fun _ => ?_)
  refine lv_aload_n hx hb dj_Jx4a65c_add_7a177_32 rfl (lv_at hl 2 rfl) ?_
  refine li_cV (As := []) (rest := []) (li_grow0_10 l D tys w1 _ e0 ca ad (⟨hD.1, fun j z hz => Or.inl ⟨j, z.2, hz⟩⟩ : va_D (va_A w1 H.size) w1) q la (mc + 1) qa ra f cL t9 g1 g1A ht9 (hE.st hR9 hnb)) gj_Jx4a65c_129 (va_recv hK hP (ci := 5) (q0 := q) rfl g1) rfl ⟨Nat.le_of_ble_eq_true rfl, Nat.le_of_ble_eq_true rfl⟩ ⟨Nat.le_of_ble_eq_true rfl, Nat.le_of_ble_eq_true rfl⟩ (Nat.le_of_ble_eq_true rfl) hx hb (hml.trans hl.1.symm) hts hown hK hT hL hP hD hS hA dj_Jx4a65c_add_7a177_33 (fun res w9 H locs hrv hqq hP hD hS => ?_)
  obtain ⟨r9, er, hlen, g8, g9, hR8⟩ := hqq
  subst er
  have hlw := hR9.1
  have hR9 : li_R w w9 [q, qa] := hR9.tr (hR8.mono (by simp))
  have hneB : w1.length ≠ q := by have h9 := (List.getElem?_eq_some_iff.mp g1).1; omega
  refine lv_astore (lv' := [(4, .ref r9), (3, .int 10), (0, .ref la), (1, .int (nI i)), (2, .ref y)]) hx hb dj_Jx4a65c_add_7a177_36 hl (by decide) rfl (fun ls hl => ?_)
  refine lv_aload hx hb dj_Jx4a65c_add_7a177_38 (lv_at hl 0 rfl) ?_
  refine lv_iload_n hx hb dj_Jx4a65c_add_7a177_40 rfl (lv_at hl 3 rfl) ?_
  refine lv_aload hx hb dj_Jx4a65c_add_7a177_41 (lv_at hl 0 rfl) ?_
  refine lv_iload_n hx hb dj_Jx4a65c_add_7a177_43 rfl (lv_at hl 3 rfl) ?_
  refine lv_iconst (v := 1) hx hb dj_Jx4a65c_add_7a177_44 (by decide) ?_
  refine lv_iadd hx hb dj_Jx4a65c_add_7a177_45 ?_
  rw [← nI_succ]
  refine lv_iload_n hx hb dj_Jx4a65c_add_7a177_46 rfl (lv_at hl 1 rfl) ?_
  refine lv_iload_n hx hb dj_Jx4a65c_add_7a177_47 rfl (lv_at hl 3 rfl) ?_
  refine lv_isub hx hb dj_Jx4a65c_add_7a177_48 ?_
  rw [show (10 : Int32) - nI i = nI (10 - i) from li_nsub (n := 10) hi (by decide)]
  refine va_copyq (C := "java/lang/Integer") hx hb (by rw [hml]; exact hl.1.symm) hown (hts _ cwj2002) (hts _ cwj1495) (hts _ cwj1494) (hts _ cwj89) hK hP hD hS w1.length w1.length t9 t9 g9 g9 ht9 ht9 (nI_nlt (b := 0) (Nat.zero_le _) (by omega)) (nI_nlt (b := 0) (Nat.zero_le _) (by omega)) (nI_nlt (b := 0) (Nat.zero_le _) (by omega)) (by rw [nI_clamp (show i < 2 ^ 31 by omega), nI_clamp (show 10 - i < 2 ^ 31 by omega)]; omega) (by rw [nI_clamp (show i + 1 < 2 ^ 31 by omega), nI_clamp (show 10 - i < 2 ^ 31 by omega)]; omega) (fun i9 h9 y9 e9 => li_hel hE hR9 hnb hK hL hP hS (k := i + i9) (by rw [nI_clamp (show i < 2 ^ 31 by omega)] at e9; rw [nI_clamp (show 10 - i < 2 ^ 31 by omega)] at h9; rw [← li_gr0 (f := f) (show i + i9 < 10 by omega)]; exact e9) (by rw [nI_clamp (show 10 - i < 2 ^ 31 by omega)] at h9; omega)) (vb_asgC hL.2.2.2.2.2.2.2.1) (Nat.le_of_ble_eq_true rfl) (Nat.le_of_ble_eq_true rfl) dj_Jx4a65c_add_7a177_49 (fun H locs hP hD hS => ?_)
  obtain ⟨w2, ew2, g2, gl2, gn2⟩ := li_set g9 (.inl (cL, 15, .inr (.inr (.inr (.inr (va_cpy (va_cpy f (fun _ => none) 0 0 10) (va_cpy f (fun _ => none) 0 0 10) (nI i).toNatClampNeg (nI (i + 1)).toNatClampNeg (nI (10 - i)).toNatClampNeg))))))
  have hP : va_P D vwCl w2 H := by rw [ew2]; exact hP
  have hD : va_D (va_A w s.heap.size) w2 := by rw [ew2]; exact hD
  have hR9 : li_R w w2 [q, qa] := hR9.sn g9 (by omega) g2 gl2 gn2
  have g2L := (gn2 q (Ne.symm hneB)).trans g8
  rw [nI_clamp (show i < 2 ^ 31 by omega), nI_clamp (show i + 1 < 2 ^ 31 by omega), nI_clamp (show 10 - i < 2 ^ 31 by omega)] at g2
  refine lv_aload hx hb dj_Jx4a65c_add_7a177_52 (lv_at hl 0 rfl) ?_
  refine lv_iload_n hx hb dj_Jx4a65c_add_7a177_54 rfl (lv_at hl 3 rfl) ?_
  refine lv_aload_n hx hb dj_Jx4a65c_add_7a177_55 rfl (lv_at hl 4 rfl) ?_
  refine vb_astq (E := "java/lang/Object") (C := "java/lang/Integer") hx hb hK hP hD hS w1.length t9 g2 ht9 (li_xr (hy.st hR9 hnb) hK hL hP hS) (vb_asgC hL.2.2.2.2.2.2.2.1) (vp_in_nI (show i < 15 by omega) (by omega)) dj_Jx4a65c_add_7a177_56 (fun H locs hP hD hS => ?_)
  rw [nI_clamp (show i < 2 ^ 31 by omega)] at hP hD
  obtain ⟨w3, ew3, g3, gl3, gn3⟩ := li_set g2 (.inl (cL, 15, .inr (.inr (.inr (.inr (va_up (va_cpy (va_cpy f (fun _ => none) 0 0 10) (va_cpy f (fun _ => none) 0 0 10) i (i + 1) (10 - i)) i (some y)))))))
  have hP : va_P D vwCl w3 H := by rw [ew3]; exact hP
  have hD : va_D (va_A w s.heap.size) w3 := by rw [ew3]; exact hD
  have hR9 : li_R w w3 [q, qa] := hR9.sn g2 (by omega) g3 gl3 gn3
  have g3L := (gn3 q (Ne.symm hneB)).trans g2L
  refine lv_aload_n hx hb dj_Jx4a65c_add_7a177_57 rfl (lv_at hl 2 rfl) ?_
  refine lv_iload_n hx hb dj_Jx4a65c_add_7a177_58 rfl (lv_at hl 1 rfl) ?_
  refine lv_iconst (v := 1) hx hb dj_Jx4a65c_add_7a177_59 (by decide) ?_
  refine lv_iadd hx hb dj_Jx4a65c_add_7a177_60 ?_
  refine lv_topi (fun y4 ey4 => ?_)
  obtain rfl : y4 = 11 := ey4.trans (by decide)
  refine va_put (D := D) (ci := 5) (v := .int 11) (ty := .int) (C := RJx4a65c) (T := TJx4a65c) (N := 3) hx hb hts uwj_Jx4a65c tyJx4a65c tyJx4a65c_ok nmJx4a65c hown hK hP hD hS q g3L rfl 2 (by decide) (hts _ cwj1422) (fun _ h9 => h9) rfl (by decide +kernel) rfl rfl (Nat.le_of_ble_eq_true rfl) dj_Jx4a65c_add_7a177_61 (fun H locs hP hD hS => ?_)
  obtain ⟨w5, ew5, g5, gl5, gn5⟩ := li_set g3L (.inr (5, [.int (mc + 1), .ref r9, .int 11]))
  have hP : va_P D vwCl w5 H := by rw [ew5]; exact hP
  have hD : va_D (va_A w s.heap.size) w5 := by rw [ew5]; exact hD
  have hR9 : li_R w w5 [q, qa] := hR9.tr (li_R.st g3L (by simp) g5 gl5 gn5 ⟨rfl, rfl⟩)
  have g5B := (gn5 w1.length hneB).trans g3
  refine W.widen (k := 1) (n := 22) (by decide) (by decide) ?_
  exact W.vret hx hb hr (fun t ht hW9 => ⟨⟨w5, rfl, ⟨_, _, ⟨_, _, g5, Or.inr ⟨15, g5B, by omega, by decide⟩⟩, li_ins (by omega) (fun k hk => li_gr0 hk), Or.inr (by omega), by omega, hR9⟩, ⟨by rw [ht]; exact hP, hD⟩⟩, hS.F ht⟩) hS.2.2 dj_Jx4a65c_add_7a177_64
set_option maxHeartbeats 4000000 in
theorem li_ins_15 (l : Launch) (D : va_G) (tys : List (ClassId × FieldType)) (w : va_W) (sz e0 ca : Nat) (ad : li_ad) (hD0 : va_D (va_A w sz) w) (q la : Nat) (mc : Int32) (qa ra : Nat) (f : Nat → Option Nat) (cL : ClassId) (t9 : Nat) (i y : Nat) (hq : w[q]? = some (la, .inr (5, [.int mc, .ref ra, .int 15]))) (ha : w[qa]? = some (ra, .inl (cL, 15, .inr (.inr (.inr (.inr f)))))) (ht9 : tys[t9]? = some (cL, .object "java/lang/Object")) (hE : li_E w ad 15 f) (hi : i ≤ 15) (hy : li_x w ad y) : li_C l yJx4a65c_add_7a177 cJx4a65c_add_7a177 5 none 5 1 22 2 [.ref la, .int (nI i), .ref y] D tys w sz e0 ca ad (fun res w1 => ∃ (qb : Nat) (g : Nat → Option Nat), li_S w1 q qb la e0 cL (15 + 1) g ∧ (∀ k, k < 15 + 1 → (∃ j, j < 15 ∧ g k = f j) ∨ g k = some y) ∧ (qb = qa ∨ w.length ≤ qb) ∧ w1.length ≤ w.length + 1 ∧ li_R w w1 [q, qa]) := by
  refine Met.ofW (cc := cJx4a65c_add_7a177) (maxL := 5) (ret := none) (by decide +kernel) rfl ?_
  intro p e s m args below meth c s₁ B9 hml hv
  obtain ⟨rfl, ⟨hsz, hP, hK, hT⟩, hL⟩ := hv
  subst hsz
  have hx := B9.exec
  have hb := B9.bytes
  have hr := B9.returns
  have hlocks := B9.notSynchronized
  have hts0 := atoms_spec (ws := Cond.code yJx4a65c_add_7a177 cJx4a65c_add_7a177 5 none :: en_cw) B9.pre
  have hts : ∀ z ∈ en_cw, z.before _ s = true := fun z hz => hts0 z (List.mem_cons_of_mem _ hz)
  have hown : s.vm.findClass RJx4a65c = some m.cls := findClass_of_methodNamed B9.named
  have hA : ∀ q : Nat, s.heap.size ≤ q → va_A w s.heap.size q := fun q h => Or.inr h
  have hS : va_S (va_A w s.heap.size) s.heap s.heap [] := va_S.rf
  have hD : va_D (va_A w s.heap.size) w := ⟨hD0.1, fun j z hz => Or.inl ⟨j, z.2, hz⟩⟩
  have hR9 : li_R w w [q, qa] := li_R.rf
  have hl := lv_entry ([.ref la, .int (nI i), .ref y]) (n := 5) (Nat.le_of_ble_eq_true rfl)
  rw [lg_entry_eq]
  generalize (lg_sl ([.ref la, .int (nI i), .ref y]) ++ List.replicate (5 - (lg_sl ([.ref la, .int (nI i), .ref y])).length) Slot.unset).toArray = ls at hl ⊢
  have hl : lv_has ls 5 [(0, .ref la), (1, .int (nI i)), (2, .ref y)] := hl
  have hne : q ≠ qa := fun e9 => by rw [e9] at hq; rw [hq] at ha; cases ha
  have hnb : ∀ z ∈ [q, qa], li_nb w z := fun z hz => by rcases List.mem_cons.mp hz with rfl | hz; exact li_nbo hq; rw [List.mem_singleton.mp hz]; exact li_nba ha
  refine lv_aload_n hx hb dj_Jx4a65c_add_7a177_0 rfl (lv_at hl 0 rfl) ?_
  refine lv_iload_n hx hb dj_Jx4a65c_add_7a177_1 rfl (lv_at hl 1 rfl) ?_
  refine li_cV (As := [.int (nI i)]) (rest := []) (li_Jx4a65c_rangeCheckForAdd_d00df l D tys w _ e0 ca ad (⟨hD.1, fun j z hz => Or.inl ⟨j, z.2, hz⟩⟩ : va_D (va_A w s.heap.size) w) q la ra 15 i mc hq hi (by omega)) gj_Jx4a65c_135 (va_recv hK hP (ci := 5) (q0 := q) rfl hq) rfl ⟨Nat.le_of_ble_eq_true rfl, Nat.le_of_ble_eq_true rfl⟩ ⟨Nat.le_of_ble_eq_true rfl, Nat.le_of_ble_eq_true rfl⟩ (Nat.le_of_ble_eq_true rfl) hx hb (hml.trans hl.1.symm) hts hown hK hT hL hP hD hS hA dj_Jx4a65c_add_7a177_2 (fun res w9 H locs hrv hqq hP hD hS => ?_)
  have hq9 : w = w9 := Eq.symm hqq
  subst hq9
  obtain rfl := (show res = none from hrv)
  refine lv_aload_n hx hb dj_Jx4a65c_add_7a177_5 rfl (lv_at hl 0 rfl) ?_
  refine lv_dup hx hb dj_Jx4a65c_add_7a177_6 rfl ?_
  refine va_get (D := D) (ci := 5) (v := .int mc) (C := RJx4a65c) (T := TJx4a65c) (N := 3) hx hb hts uwj_Jx4a65c hown hK hP q hq rfl 0 (by decide) (hts _ cwj1426) (fun x9 h9 => u_same (hts (.sameField "java/util/ArrayList" "java/util/AbstractList" "modCount" "I") cwj1425) x9 h9) rfl dj_Jx4a65c_add_7a177_7 ?_
  refine lv_iconst (v := 1) hx hb dj_Jx4a65c_add_7a177_10 (by decide) ?_
  refine lv_iadd hx hb dj_Jx4a65c_add_7a177_11 ?_
  refine va_put (D := D) (ci := 5) (v := .int (mc + 1)) (ty := .int) (C := RJx4a65c) (T := TJx4a65c) (N := 3) hx hb hts uwj_Jx4a65c tyJx4a65c tyJx4a65c_ok nmJx4a65c hown hK hP hD hS q hq rfl 0 (by decide) (hts _ cwj1426) (fun x9 h9 => u_same (hts (.sameField "java/util/ArrayList" "java/util/AbstractList" "modCount" "I") cwj1425) x9 h9) rfl (by decide +kernel) rfl rfl (Nat.le_of_ble_eq_true rfl) dj_Jx4a65c_add_7a177_12 (fun H locs hP hD hS => ?_)
  obtain ⟨w1, ew1, g1, gl1, gn1⟩ := li_set hq (.inr (5, [.int (mc + 1), .ref ra, .int 15]))
  have hP : va_P D vwCl w1 H := by rw [ew1]; exact hP
  have hD : va_D (va_A w s.heap.size) w1 := by rw [ew1]; exact hD
  have hR9 : li_R w w1 [q, qa] := hR9.tr (li_R.st hq (by simp) g1 gl1 gn1 ⟨rfl, rfl⟩)
  have g1A := (gn1 qa (Ne.symm hne)).trans ha
  refine lv_aload_n hx hb dj_Jx4a65c_add_7a177_15 rfl (lv_at hl 0 rfl) ?_
  refine va_get (D := D) (ci := 5) (v := .int 15) (C := RJx4a65c) (T := TJx4a65c) (N := 3) hx hb hts uwj_Jx4a65c hown hK hP q g1 rfl 2 (by decide) (hts _ cwj1422) (fun _ h9 => h9) rfl dj_Jx4a65c_add_7a177_16 ?_
  refine lv_dup hx hb dj_Jx4a65c_add_7a177_19 rfl ?_
  refine lv_istore_n (lv' := [(3, .int 15), (0, .ref la), (1, .int (nI i)), (2, .ref y)]) hx hb dj_Jx4a65c_add_7a177_20 rfl hl (by decide) rfl (fun ls hl => ?_)
  refine lv_aload_n hx hb dj_Jx4a65c_add_7a177_21 rfl (lv_at hl 1 rfl) ?_
  refine va_get (D := D) (ci := 5) (v := .ref ra) (C := RJx4a65c) (T := TJx4a65c) (N := 3) hx hb hts uwj_Jx4a65c hown hK hP q g1 rfl 1 (by decide) (hts _ cwj1419) (fun _ h9 => h9) rfl dj_Jx4a65c_add_7a177_22 ?_
  refine lv_dup hx hb dj_Jx4a65c_add_7a177_25 rfl ?_
  refine lv_astore (lv' := [(4, .ref ra), (3, .int 15), (0, .ref la), (1, .int (nI i)), (2, .ref y)]) hx hb dj_Jx4a65c_add_7a177_26 hl (by decide) rfl (fun ls hl => ?_)
  refine va_alen hx hb hK hP qa t9 g1A ht9 (v := 15) rfl dj_Jx4a65c_add_7a177_28 ?_
  refine lv_icmp_ne (tgt := 38) hx hb dj_Jx4a65c_add_7a177_29 (by decide) (fun c9 => absurd rfl c9) (fun _ => ?_)
  refine lv_aload_n hx hb dj_Jx4a65c_add_7a177_32 rfl (lv_at hl 2 rfl) ?_
  refine li_cV (As := []) (rest := []) (li_grow0_15 l D tys w1 _ e0 ca ad (⟨hD.1, fun j z hz => Or.inl ⟨j, z.2, hz⟩⟩ : va_D (va_A w1 H.size) w1) q la (mc + 1) qa ra f cL t9 g1 g1A ht9 (hE.st hR9 hnb)) gj_Jx4a65c_129 (va_recv hK hP (ci := 5) (q0 := q) rfl g1) rfl ⟨Nat.le_of_ble_eq_true rfl, Nat.le_of_ble_eq_true rfl⟩ ⟨Nat.le_of_ble_eq_true rfl, Nat.le_of_ble_eq_true rfl⟩ (Nat.le_of_ble_eq_true rfl) hx hb (hml.trans hl.1.symm) hts hown hK hT hL hP hD hS hA dj_Jx4a65c_add_7a177_33 (fun res w9 H locs hrv hqq hP hD hS => ?_)
  obtain ⟨r9, er, hlen, g8, g9, hR8⟩ := hqq
  subst er
  have hlw := hR9.1
  have hR9 : li_R w w9 [q, qa] := hR9.tr (hR8.mono (by simp))
  have hneB : w1.length ≠ q := by have h9 := (List.getElem?_eq_some_iff.mp g1).1; omega
  refine lv_astore (lv' := [(4, .ref r9), (3, .int 15), (0, .ref la), (1, .int (nI i)), (2, .ref y)]) hx hb dj_Jx4a65c_add_7a177_36 hl (by decide) rfl (fun ls hl => ?_)
  refine lv_aload hx hb dj_Jx4a65c_add_7a177_38 (lv_at hl 0 rfl) ?_
  refine lv_iload_n hx hb dj_Jx4a65c_add_7a177_40 rfl (lv_at hl 3 rfl) ?_
  refine lv_aload hx hb dj_Jx4a65c_add_7a177_41 (lv_at hl 0 rfl) ?_
  refine lv_iload_n hx hb dj_Jx4a65c_add_7a177_43 rfl (lv_at hl 3 rfl) ?_
  refine lv_iconst (v := 1) hx hb dj_Jx4a65c_add_7a177_44 (by decide) ?_
  refine lv_iadd hx hb dj_Jx4a65c_add_7a177_45 ?_
  rw [← nI_succ]
  refine lv_iload_n hx hb dj_Jx4a65c_add_7a177_46 rfl (lv_at hl 1 rfl) ?_
  refine lv_iload_n hx hb dj_Jx4a65c_add_7a177_47 rfl (lv_at hl 3 rfl) ?_
  refine lv_isub hx hb dj_Jx4a65c_add_7a177_48 ?_
  rw [show (15 : Int32) - nI i = nI (15 - i) from li_nsub (n := 15) hi (by decide)]
  refine va_copyq (C := "java/lang/Integer") hx hb (by rw [hml]; exact hl.1.symm) hown (hts _ cwj2002) (hts _ cwj1495) (hts _ cwj1494) (hts _ cwj89) hK hP hD hS w1.length w1.length t9 t9 g9 g9 ht9 ht9 (nI_nlt (b := 0) (Nat.zero_le _) (by omega)) (nI_nlt (b := 0) (Nat.zero_le _) (by omega)) (nI_nlt (b := 0) (Nat.zero_le _) (by omega)) (by rw [nI_clamp (show i < 2 ^ 31 by omega), nI_clamp (show 15 - i < 2 ^ 31 by omega)]; omega) (by rw [nI_clamp (show i + 1 < 2 ^ 31 by omega), nI_clamp (show 15 - i < 2 ^ 31 by omega)]; omega) (fun i9 h9 y9 e9 => li_hel hE hR9 hnb hK hL hP hS (k := i + i9) (by rw [nI_clamp (show i < 2 ^ 31 by omega)] at e9; rw [nI_clamp (show 15 - i < 2 ^ 31 by omega)] at h9; rw [← li_gr0 (f := f) (show i + i9 < 15 by omega)]; exact e9) (by rw [nI_clamp (show 15 - i < 2 ^ 31 by omega)] at h9; omega)) (vb_asgC hL.2.2.2.2.2.2.2.1) (Nat.le_of_ble_eq_true rfl) (Nat.le_of_ble_eq_true rfl) dj_Jx4a65c_add_7a177_49 (fun H locs hP hD hS => ?_)
  obtain ⟨w2, ew2, g2, gl2, gn2⟩ := li_set g9 (.inl (cL, 22, .inr (.inr (.inr (.inr (va_cpy (va_cpy f (fun _ => none) 0 0 15) (va_cpy f (fun _ => none) 0 0 15) (nI i).toNatClampNeg (nI (i + 1)).toNatClampNeg (nI (15 - i)).toNatClampNeg))))))
  have hP : va_P D vwCl w2 H := by rw [ew2]; exact hP
  have hD : va_D (va_A w s.heap.size) w2 := by rw [ew2]; exact hD
  have hR9 : li_R w w2 [q, qa] := hR9.sn g9 (by omega) g2 gl2 gn2
  have g2L := (gn2 q (Ne.symm hneB)).trans g8
  rw [nI_clamp (show i < 2 ^ 31 by omega), nI_clamp (show i + 1 < 2 ^ 31 by omega), nI_clamp (show 15 - i < 2 ^ 31 by omega)] at g2
  refine lv_aload hx hb dj_Jx4a65c_add_7a177_52 (lv_at hl 0 rfl) ?_
  refine lv_iload_n hx hb dj_Jx4a65c_add_7a177_54 rfl (lv_at hl 3 rfl) ?_
  refine lv_aload_n hx hb dj_Jx4a65c_add_7a177_55 rfl (lv_at hl 4 rfl) ?_
  refine vb_astq (E := "java/lang/Object") (C := "java/lang/Integer") hx hb hK hP hD hS w1.length t9 g2 ht9 (li_xr (hy.st hR9 hnb) hK hL hP hS) (vb_asgC hL.2.2.2.2.2.2.2.1) (vp_in_nI (show i < 22 by omega) (by omega)) dj_Jx4a65c_add_7a177_56 (fun H locs hP hD hS => ?_)
  rw [nI_clamp (show i < 2 ^ 31 by omega)] at hP hD
  obtain ⟨w3, ew3, g3, gl3, gn3⟩ := li_set g2 (.inl (cL, 22, .inr (.inr (.inr (.inr (va_up (va_cpy (va_cpy f (fun _ => none) 0 0 15) (va_cpy f (fun _ => none) 0 0 15) i (i + 1) (15 - i)) i (some y)))))))
  have hP : va_P D vwCl w3 H := by rw [ew3]; exact hP
  have hD : va_D (va_A w s.heap.size) w3 := by rw [ew3]; exact hD
  have hR9 : li_R w w3 [q, qa] := hR9.sn g2 (by omega) g3 gl3 gn3
  have g3L := (gn3 q (Ne.symm hneB)).trans g2L
  refine lv_aload_n hx hb dj_Jx4a65c_add_7a177_57 rfl (lv_at hl 2 rfl) ?_
  refine lv_iload_n hx hb dj_Jx4a65c_add_7a177_58 rfl (lv_at hl 1 rfl) ?_
  refine lv_iconst (v := 1) hx hb dj_Jx4a65c_add_7a177_59 (by decide) ?_
  refine lv_iadd hx hb dj_Jx4a65c_add_7a177_60 ?_
  refine lv_topi (fun y4 ey4 => ?_)
  obtain rfl : y4 = 16 := ey4.trans (by decide)
  refine va_put (D := D) (ci := 5) (v := .int 16) (ty := .int) (C := RJx4a65c) (T := TJx4a65c) (N := 3) hx hb hts uwj_Jx4a65c tyJx4a65c tyJx4a65c_ok nmJx4a65c hown hK hP hD hS q g3L rfl 2 (by decide) (hts _ cwj1422) (fun _ h9 => h9) rfl (by decide +kernel) rfl rfl (Nat.le_of_ble_eq_true rfl) dj_Jx4a65c_add_7a177_61 (fun H locs hP hD hS => ?_)
  obtain ⟨w5, ew5, g5, gl5, gn5⟩ := li_set g3L (.inr (5, [.int (mc + 1), .ref r9, .int 16]))
  have hP : va_P D vwCl w5 H := by rw [ew5]; exact hP
  have hD : va_D (va_A w s.heap.size) w5 := by rw [ew5]; exact hD
  have hR9 : li_R w w5 [q, qa] := hR9.tr (li_R.st g3L (by simp) g5 gl5 gn5 ⟨rfl, rfl⟩)
  have g5B := (gn5 w1.length hneB).trans g3
  exact W.vret hx hb hr (fun t ht hW9 => ⟨⟨w5, rfl, ⟨_, _, ⟨_, _, g5, Or.inr ⟨22, g5B, by omega, by decide⟩⟩, li_ins (by omega) (fun k hk => li_gr0 hk), Or.inr (by omega), by omega, hR9⟩, ⟨by rw [ht]; exact hP, hD⟩⟩, hS.F ht⟩) hS.2.2 dj_Jx4a65c_add_7a177_64
set_option maxHeartbeats 4000000 in
theorem li_ins_0 (l : Launch) (D : va_G) (tys : List (ClassId × FieldType)) (w : va_W) (sz e0 ca : Nat) (ad : li_ad) (hD0 : va_D (va_A w sz) w) (q qa la : Nat) (mc : Int32) (f : Nat → Option Nat) (cL : ClassId) (t9 : Nat) (i y : Nat) (hq : w[q]? = some (la, .inr (5, [.int mc, .ref e0, .int 0]))) (ht9 : tys[t9]? = some (cL, .object "java/lang/Object")) (hi : i ≤ 0) (hy : li_x w ad y) : li_C l yJx4a65c_add_7a177 cJx4a65c_add_7a177 5 none 5 1 22 2 [.ref la, .int (nI i), .ref y] D tys w sz e0 ca ad (fun res w1 => ∃ (qb : Nat) (g : Nat → Option Nat), li_S w1 q qb la e0 cL (0 + 1) g ∧ (∀ k, k < 0 + 1 → (∃ j, j < 0 ∧ g k = f j) ∨ g k = some y) ∧ (qb = qa ∨ w.length ≤ qb) ∧ w1.length ≤ w.length + 1 ∧ li_R w w1 [q, qa]) := by
  refine Met.ofW (cc := cJx4a65c_add_7a177) (maxL := 5) (ret := none) (by decide +kernel) rfl ?_
  intro p e s m args below meth c s₁ B9 hml hv
  obtain ⟨rfl, ⟨hsz, hP, hK, hT⟩, hL⟩ := hv
  subst hsz
  have hx := B9.exec
  have hb := B9.bytes
  have hr := B9.returns
  have hlocks := B9.notSynchronized
  have hts0 := atoms_spec (ws := Cond.code yJx4a65c_add_7a177 cJx4a65c_add_7a177 5 none :: en_cw) B9.pre
  have hts : ∀ z ∈ en_cw, z.before _ s = true := fun z hz => hts0 z (List.mem_cons_of_mem _ hz)
  have hown : s.vm.findClass RJx4a65c = some m.cls := findClass_of_methodNamed B9.named
  have hA : ∀ q : Nat, s.heap.size ≤ q → va_A w s.heap.size q := fun q h => Or.inr h
  have hS : va_S (va_A w s.heap.size) s.heap s.heap [] := va_S.rf
  have hD : va_D (va_A w s.heap.size) w := ⟨hD0.1, fun j z hz => Or.inl ⟨j, z.2, hz⟩⟩
  have hR9 : li_R w w [q] := li_R.rf
  have hl := lv_entry ([.ref la, .int (nI i), .ref y]) (n := 5) (Nat.le_of_ble_eq_true rfl)
  rw [lg_entry_eq]
  generalize (lg_sl ([.ref la, .int (nI i), .ref y]) ++ List.replicate (5 - (lg_sl ([.ref la, .int (nI i), .ref y])).length) Slot.unset).toArray = ls at hl ⊢
  have hl : lv_has ls 5 [(0, .ref la), (1, .int (nI i)), (2, .ref y)] := hl
  have hnb : ∀ z ∈ [q], li_nb w z := fun z hz => by rw [List.mem_singleton.mp hz]; exact li_nbo hq
  refine lv_aload_n hx hb dj_Jx4a65c_add_7a177_0 rfl (lv_at hl 0 rfl) ?_
  refine lv_iload_n hx hb dj_Jx4a65c_add_7a177_1 rfl (lv_at hl 1 rfl) ?_
  refine li_cV (As := [.int (nI i)]) (rest := []) (li_Jx4a65c_rangeCheckForAdd_d00df l D tys w _ e0 ca ad (⟨hD.1, fun j z hz => Or.inl ⟨j, z.2, hz⟩⟩ : va_D (va_A w s.heap.size) w) q la e0 0 i mc hq hi (by omega)) gj_Jx4a65c_135 (va_recv hK hP (ci := 5) (q0 := q) rfl hq) rfl ⟨Nat.le_of_ble_eq_true rfl, Nat.le_of_ble_eq_true rfl⟩ ⟨Nat.le_of_ble_eq_true rfl, Nat.le_of_ble_eq_true rfl⟩ (Nat.le_of_ble_eq_true rfl) hx hb (hml.trans hl.1.symm) hts hown hK hT hL hP hD hS hA dj_Jx4a65c_add_7a177_2 (fun res w9 H locs hrv hqq hP hD hS => ?_)
  have hq9 : w = w9 := Eq.symm hqq
  subst hq9
  obtain rfl := (show res = none from hrv)
  refine lv_aload_n hx hb dj_Jx4a65c_add_7a177_5 rfl (lv_at hl 0 rfl) ?_
  refine lv_dup hx hb dj_Jx4a65c_add_7a177_6 rfl ?_
  refine va_get (D := D) (ci := 5) (v := .int mc) (C := RJx4a65c) (T := TJx4a65c) (N := 3) hx hb hts uwj_Jx4a65c hown hK hP q hq rfl 0 (by decide) (hts _ cwj1426) (fun x9 h9 => u_same (hts (.sameField "java/util/ArrayList" "java/util/AbstractList" "modCount" "I") cwj1425) x9 h9) rfl dj_Jx4a65c_add_7a177_7 ?_
  refine lv_iconst (v := 1) hx hb dj_Jx4a65c_add_7a177_10 (by decide) ?_
  refine lv_iadd hx hb dj_Jx4a65c_add_7a177_11 ?_
  refine va_put (D := D) (ci := 5) (v := .int (mc + 1)) (ty := .int) (C := RJx4a65c) (T := TJx4a65c) (N := 3) hx hb hts uwj_Jx4a65c tyJx4a65c tyJx4a65c_ok nmJx4a65c hown hK hP hD hS q hq rfl 0 (by decide) (hts _ cwj1426) (fun x9 h9 => u_same (hts (.sameField "java/util/ArrayList" "java/util/AbstractList" "modCount" "I") cwj1425) x9 h9) rfl (by decide +kernel) rfl rfl (Nat.le_of_ble_eq_true rfl) dj_Jx4a65c_add_7a177_12 (fun H locs hP hD hS => ?_)
  obtain ⟨w1, ew1, g1, gl1, gn1⟩ := li_set hq (.inr (5, [.int (mc + 1), .ref e0, .int 0]))
  have hP : va_P D vwCl w1 H := by rw [ew1]; exact hP
  have hD : va_D (va_A w s.heap.size) w1 := by rw [ew1]; exact hD
  have hR9 : li_R w w1 [q] := hR9.tr (li_R.st hq (by simp) g1 gl1 gn1 ⟨rfl, rfl⟩)
  refine lv_aload_n hx hb dj_Jx4a65c_add_7a177_15 rfl (lv_at hl 0 rfl) ?_
  refine va_get (D := D) (ci := 5) (v := .int 0) (C := RJx4a65c) (T := TJx4a65c) (N := 3) hx hb hts uwj_Jx4a65c hown hK hP q g1 rfl 2 (by decide) (hts _ cwj1422) (fun _ h9 => h9) rfl dj_Jx4a65c_add_7a177_16 ?_
  refine lv_dup hx hb dj_Jx4a65c_add_7a177_19 rfl ?_
  refine lv_istore_n (lv' := [(3, .int 0), (0, .ref la), (1, .int (nI i)), (2, .ref y)]) hx hb dj_Jx4a65c_add_7a177_20 rfl hl (by decide) rfl (fun ls hl => ?_)
  refine lv_aload_n hx hb dj_Jx4a65c_add_7a177_21 rfl (lv_at hl 1 rfl) ?_
  refine va_get (D := D) (ci := 5) (v := .ref e0) (C := RJx4a65c) (T := TJx4a65c) (N := 3) hx hb hts uwj_Jx4a65c hown hK hP q g1 rfl 1 (by decide) (hts _ cwj1419) (fun _ h9 => h9) rfl dj_Jx4a65c_add_7a177_22 ?_
  refine lv_dup hx hb dj_Jx4a65c_add_7a177_25 rfl ?_
  refine lv_astore (lv' := [(4, .ref e0), (3, .int 0), (0, .ref la), (1, .int (nI i)), (2, .ref y)]) hx hb dj_Jx4a65c_add_7a177_26 hl (by decide) rfl (fun ls hl => ?_)
  refine va_tlen hx hb hL.2.1 hS (v := 0) (by decide) dj_Jx4a65c_add_7a177_28 ?_
  refine lv_icmp_ne (tgt := 38) hx hb dj_Jx4a65c_add_7a177_29 (by decide) (fun c9 => absurd rfl c9) (fun _ => ?_)
  refine lv_aload_n hx hb dj_Jx4a65c_add_7a177_32 rfl (lv_at hl 2 rfl) ?_
  refine li_cV (As := []) (rest := []) (li_grow0_0 l D tys w1 _ e0 ca ad (⟨hD.1, fun j z hz => Or.inl ⟨j, z.2, hz⟩⟩ : va_D (va_A w1 H.size) w1) q la (mc + 1) cL t9 g1 ht9) gj_Jx4a65c_129 (va_recv hK hP (ci := 5) (q0 := q) rfl g1) rfl ⟨Nat.le_of_ble_eq_true rfl, Nat.le_of_ble_eq_true rfl⟩ ⟨Nat.le_of_ble_eq_true rfl, Nat.le_of_ble_eq_true rfl⟩ (Nat.le_of_ble_eq_true rfl) hx hb (hml.trans hl.1.symm) hts hown hK hT hL hP hD hS hA dj_Jx4a65c_add_7a177_33 (fun res w9 H locs hrv hqq hP hD hS => ?_)
  obtain ⟨r9, er, hlen, g8, g9, hR8⟩ := hqq
  subst er
  have hlw := hR9.1
  have hR9 : li_R w w9 [q] := hR9.tr (hR8.mono (by simp))
  have hneB : w1.length ≠ q := by have h9 := (List.getElem?_eq_some_iff.mp g1).1; omega
  refine lv_astore (lv' := [(4, .ref r9), (3, .int 0), (0, .ref la), (1, .int (nI i)), (2, .ref y)]) hx hb dj_Jx4a65c_add_7a177_36 hl (by decide) rfl (fun ls hl => ?_)
  refine lv_aload hx hb dj_Jx4a65c_add_7a177_38 (lv_at hl 0 rfl) ?_
  refine lv_iload_n hx hb dj_Jx4a65c_add_7a177_40 rfl (lv_at hl 3 rfl) ?_
  refine lv_aload hx hb dj_Jx4a65c_add_7a177_41 (lv_at hl 0 rfl) ?_
  refine lv_iload_n hx hb dj_Jx4a65c_add_7a177_43 rfl (lv_at hl 3 rfl) ?_
  refine lv_iconst (v := 1) hx hb dj_Jx4a65c_add_7a177_44 (by decide) ?_
  refine lv_iadd hx hb dj_Jx4a65c_add_7a177_45 ?_
  rw [← nI_succ]
  refine lv_iload_n hx hb dj_Jx4a65c_add_7a177_46 rfl (lv_at hl 1 rfl) ?_
  refine lv_iload_n hx hb dj_Jx4a65c_add_7a177_47 rfl (lv_at hl 3 rfl) ?_
  refine lv_isub hx hb dj_Jx4a65c_add_7a177_48 ?_
  rw [show (0 : Int32) - nI i = nI (0 - i) from li_nsub (n := 0) hi (by decide)]
  refine va_copyq (C := "java/lang/Integer") hx hb (by rw [hml]; exact hl.1.symm) hown (hts _ cwj2002) (hts _ cwj1495) (hts _ cwj1494) (hts _ cwj89) hK hP hD hS w1.length w1.length t9 t9 g9 g9 ht9 ht9 (nI_nlt (b := 0) (Nat.zero_le _) (by omega)) (nI_nlt (b := 0) (Nat.zero_le _) (by omega)) (nI_nlt (b := 0) (Nat.zero_le _) (by omega)) (by rw [nI_clamp (show i < 2 ^ 31 by omega), nI_clamp (show 0 - i < 2 ^ 31 by omega)]; omega) (by rw [nI_clamp (show i + 1 < 2 ^ 31 by omega), nI_clamp (show 0 - i < 2 ^ 31 by omega)]; omega) (fun i9 h9 y9 e9 => absurd h9 (by rw [nI_clamp (show 0 - i < 2 ^ 31 by omega)]; omega)) (vb_asgC hL.2.2.2.2.2.2.2.1) (Nat.le_of_ble_eq_true rfl) (Nat.le_of_ble_eq_true rfl) dj_Jx4a65c_add_7a177_49 (fun H locs hP hD hS => ?_)
  obtain ⟨w2, ew2, g2, gl2, gn2⟩ := li_set g9 (.inl (cL, 10, .inr (.inr (.inr (.inr (va_cpy (fun _ => none) (fun _ => none) (nI i).toNatClampNeg (nI (i + 1)).toNatClampNeg (nI (0 - i)).toNatClampNeg))))))
  have hP : va_P D vwCl w2 H := by rw [ew2]; exact hP
  have hD : va_D (va_A w s.heap.size) w2 := by rw [ew2]; exact hD
  have hR9 : li_R w w2 [q] := hR9.sn g9 (by omega) g2 gl2 gn2
  have g2L := (gn2 q (Ne.symm hneB)).trans g8
  rw [nI_clamp (show i < 2 ^ 31 by omega), nI_clamp (show i + 1 < 2 ^ 31 by omega), nI_clamp (show 0 - i < 2 ^ 31 by omega)] at g2
  refine lv_aload hx hb dj_Jx4a65c_add_7a177_52 (lv_at hl 0 rfl) ?_
  refine lv_iload_n hx hb dj_Jx4a65c_add_7a177_54 rfl (lv_at hl 3 rfl) ?_
  refine lv_aload_n hx hb dj_Jx4a65c_add_7a177_55 rfl (lv_at hl 4 rfl) ?_
  refine vb_astq (E := "java/lang/Object") (C := "java/lang/Integer") hx hb hK hP hD hS w1.length t9 g2 ht9 (li_xr (hy.st hR9 hnb) hK hL hP hS) (vb_asgC hL.2.2.2.2.2.2.2.1) (vp_in_nI (show i < 10 by omega) (by omega)) dj_Jx4a65c_add_7a177_56 (fun H locs hP hD hS => ?_)
  rw [nI_clamp (show i < 2 ^ 31 by omega)] at hP hD
  obtain ⟨w3, ew3, g3, gl3, gn3⟩ := li_set g2 (.inl (cL, 10, .inr (.inr (.inr (.inr (va_up (va_cpy (fun _ => none) (fun _ => none) i (i + 1) (0 - i)) i (some y)))))))
  have hP : va_P D vwCl w3 H := by rw [ew3]; exact hP
  have hD : va_D (va_A w s.heap.size) w3 := by rw [ew3]; exact hD
  have hR9 : li_R w w3 [q] := hR9.sn g2 (by omega) g3 gl3 gn3
  have g3L := (gn3 q (Ne.symm hneB)).trans g2L
  refine lv_aload_n hx hb dj_Jx4a65c_add_7a177_57 rfl (lv_at hl 2 rfl) ?_
  refine lv_iload_n hx hb dj_Jx4a65c_add_7a177_58 rfl (lv_at hl 1 rfl) ?_
  refine lv_iconst (v := 1) hx hb dj_Jx4a65c_add_7a177_59 (by decide) ?_
  refine lv_iadd hx hb dj_Jx4a65c_add_7a177_60 ?_
  refine lv_topi (fun y4 ey4 => ?_)
  obtain rfl : y4 = 1 := ey4.trans (by decide)
  refine va_put (D := D) (ci := 5) (v := .int 1) (ty := .int) (C := RJx4a65c) (T := TJx4a65c) (N := 3) hx hb hts uwj_Jx4a65c tyJx4a65c tyJx4a65c_ok nmJx4a65c hown hK hP hD hS q g3L rfl 2 (by decide) (hts _ cwj1422) (fun _ h9 => h9) rfl (by decide +kernel) rfl rfl (Nat.le_of_ble_eq_true rfl) dj_Jx4a65c_add_7a177_61 (fun H locs hP hD hS => ?_)
  obtain ⟨w5, ew5, g5, gl5, gn5⟩ := li_set g3L (.inr (5, [.int (mc + 1), .ref r9, .int 1]))
  have hP : va_P D vwCl w5 H := by rw [ew5]; exact hP
  have hD : va_D (va_A w s.heap.size) w5 := by rw [ew5]; exact hD
  have hR9 : li_R w w5 [q] := hR9.tr (li_R.st g3L (by simp) g5 gl5 gn5 ⟨rfl, rfl⟩)
  have g5B := (gn5 w1.length hneB).trans g3
  refine W.widen (k := 1) (n := 22) (by decide) (by decide) ?_
  exact W.vret hx hb hr (fun t ht hW9 => ⟨⟨w5, rfl, ⟨_, _, ⟨_, _, g5, Or.inr ⟨10, g5B, by omega, by decide⟩⟩, li_ins (by omega) (fun k hk => absurd hk (Nat.not_lt_zero k)), Or.inr (by omega), by omega, hR9.mono (by simp)⟩, ⟨by rw [ht]; exact hP, hD⟩⟩, hS.F ht⟩) hS.2.2 dj_Jx4a65c_add_7a177_64
