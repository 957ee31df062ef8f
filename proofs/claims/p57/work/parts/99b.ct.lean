set_option maxHeartbeats 4000000 in
theorem li_add3L_r (l : Launch) (D : va_G) (tys : List (ClassId × FieldType)) (w : va_W) (sz e0 ca : Nat) (ad : li_ad) (hD0 : va_D (va_A w sz) w) (q qa la ra n N : Nat) (mc : Int32) (f : Nat → Option Nat) (cL : ClassId) (t9 : Nat) (y : Nat) (hq : w[q]? = some (la, .inr (5, [.int mc, .ref ra, .int (nI n)]))) (ha : w[qa]? = some (ra, .inl (cL, N, .inr (.inr (.inr (.inr f)))))) (ht9 : tys[t9]? = some (cL, .object "java/lang/Object")) (hn : n < N) (hN : N < 1000) (hy : li_y w y) : li_C l yJx4a65c_add_72be8 cJx4a65c_add_72be8 4 none 5 0 0 2 [.ref la, .ref y, .ref ra, .int (nI n)] D tys w sz e0 ca ad (fun res w1 => w1[q]? = some (la, .inr (5, [.int mc, .ref ra, .int (nI (n + 1))])) ∧ w1[qa]? = some (ra, .inl (cL, N, .inr (.inr (.inr (.inr (va_up f n (some y))))))) ∧ w1.length = w.length ∧ li_R w w1 [q, qa]) := by
  refine Met.ofW (cc := cJx4a65c_add_72be8) (maxL := 4) (ret := none) (by decide +kernel) rfl ?_
  intro p e s m args below meth c s₁ B9 hml hv
  obtain ⟨rfl, ⟨hsz, hP, hK, hT⟩, hL⟩ := hv
  subst hsz
  have hx := B9.exec
  have hb := B9.bytes
  have hr := B9.returns
  have hlocks := B9.notSynchronized
  have hts0 := atoms_spec (ws := Cond.code yJx4a65c_add_72be8 cJx4a65c_add_72be8 4 none :: en_cw) B9.pre
  have hts : ∀ z ∈ en_cw, z.before _ s = true := fun z hz => hts0 z (List.mem_cons_of_mem _ hz)
  have hown : s.vm.findClass RJx4a65c = some m.cls := findClass_of_methodNamed B9.named
  have hA : ∀ q : Nat, s.heap.size ≤ q → va_A w s.heap.size q := fun q h => Or.inr h
  have hS : va_S (va_A w s.heap.size) s.heap s.heap [] := va_S.rf
  have hD : va_D (va_A w s.heap.size) w := ⟨hD0.1, fun j z hz => Or.inl ⟨j, z.2, hz⟩⟩
  have hR9 : li_R w w [q, qa] := li_R.rf
  have hl := lv_entry ([.ref la, .ref y, .ref ra, .int (nI n)]) (n := 4) (Nat.le_of_ble_eq_true rfl)
  rw [lg_entry_eq]
  generalize (lg_sl ([.ref la, .ref y, .ref ra, .int (nI n)]) ++ List.replicate (4 - (lg_sl ([.ref la, .ref y, .ref ra, .int (nI n)])).length) Slot.unset).toArray = ls at hl ⊢
  have hl : lv_has ls 4 [(0, .ref la), (1, .ref y), (2, .ref ra), (3, .int (nI n))] := hl
  have hne : q ≠ qa := fun e9 => by rw [e9] at hq; rw [hq] at ha; cases ha
  have hnb : ∀ z ∈ [q, qa], li_nb w z := fun z hz => by rcases List.mem_cons.mp hz with rfl | hz; exact li_nbo hq; rw [List.mem_singleton.mp hz]; exact li_nba ha
  refine lv_iload_n hx hb dj_Jx4a65c_add_72be8_0 rfl (lv_at hl 3 rfl) ?_
  refine lv_aload_n hx hb dj_Jx4a65c_add_72be8_1 rfl (lv_at hl 2 rfl) ?_
  refine va_alen hx hb hK hP qa t9 ha ht9 (v := (nI N)) rfl dj_Jx4a65c_add_72be8_2 ?_
  refine lv_icmp_ne (tgt := 11) hx hb dj_Jx4a65c_add_72be8_3 (by decide) (fun _ => ?_) (fun c9 => absurd c9 (fun e9 => absurd ((nI_eq (show n < 2 ^ 31 by omega) (show N < 2 ^ 31 by omega)).mp e9) (by omega)))
  refine lv_aload_n hx hb dj_Jx4a65c_add_72be8_11 rfl (lv_at hl 2 rfl) ?_
  refine lv_iload_n hx hb dj_Jx4a65c_add_72be8_12 rfl (lv_at hl 3 rfl) ?_
  refine lv_aload_n hx hb dj_Jx4a65c_add_72be8_13 rfl (lv_at hl 1 rfl) ?_
  refine vb_astq (E := "java/lang/Object") (C := "java/util/ArrayList") hx hb hK hP hD hS qa t9 ha ht9 (li_yr (hy.st hR9 hnb) hK hP) (vb_asgC hL.2.2.2.2.2.2.2.2.2.2.2.2.2.2.2.2.1) (vp_in_nI (show n < N by omega) (by omega)) dj_Jx4a65c_add_72be8_14 (fun H locs hP hD hS => ?_)
  rw [nI_clamp (show n < 2 ^ 31 by omega)] at hP hD
  obtain ⟨w1, ew1, g1, gl1, gn1⟩ := li_set ha (.inl (cL, N, .inr (.inr (.inr (.inr (va_up f n (some y)))))))
  have hP : va_P D vwCl w1 H := by rw [ew1]; exact hP
  have hD : va_D (va_A w s.heap.size) w1 := by rw [ew1]; exact hD
  have hR9 : li_R w w1 [q, qa] := hR9.tr (li_R.st ha (by simp) g1 gl1 gn1 ⟨rfl, rfl⟩)
  have g1L := (gn1 q hne).trans hq
  refine lv_aload_n hx hb dj_Jx4a65c_add_72be8_15 rfl (lv_at hl 0 rfl) ?_
  refine lv_iload_n hx hb dj_Jx4a65c_add_72be8_16 rfl (lv_at hl 3 rfl) ?_
  refine lv_iconst (v := 1) hx hb dj_Jx4a65c_add_72be8_17 (by decide) ?_
  refine lv_iadd hx hb dj_Jx4a65c_add_72be8_18 ?_
  rw [← nI_succ]
  refine va_put (D := D) (ci := 5) (v := .int (nI (n + 1))) (ty := .int) (C := RJx4a65c) (T := TJx4a65c) (N := 3) hx hb hts uwj_Jx4a65c tyJx4a65c tyJx4a65c_ok nmJx4a65c hown hK hP hD hS q g1L rfl 2 (by decide) (hts _ cwj1422) (fun _ h9 => h9) rfl (by decide +kernel) rfl rfl (Nat.le_of_ble_eq_true rfl) dj_Jx4a65c_add_72be8_19 (fun H locs hP hD hS => ?_)
  obtain ⟨w2, ew2, g2, gl2, gn2⟩ := li_set g1L (.inr (5, [.int mc, .ref ra, .int (nI (n + 1))]))
  have hP : va_P D vwCl w2 H := by rw [ew2]; exact hP
  have hD : va_D (va_A w s.heap.size) w2 := by rw [ew2]; exact hD
  have hR9 : li_R w w2 [q, qa] := hR9.tr (li_R.st g1L (by simp) g2 gl2 gn2 ⟨rfl, rfl⟩)
  have g2A := (gn2 qa (Ne.symm hne)).trans g1
  exact W.vret hx hb hr (fun t ht hW9 => ⟨⟨w2, rfl, ⟨g2, g2A, by omega, hR9⟩, ⟨by rw [ht]; exact hP, hD⟩⟩, hS.F ht⟩) hS.2.2 dj_Jx4a65c_add_72be8_22
set_option maxHeartbeats 4000000 in
theorem li_add3L_0 (l : Launch) (D : va_G) (tys : List (ClassId × FieldType)) (w : va_W) (sz e0 ca : Nat) (ad : li_ad) (hD0 : va_D (va_A w sz) w) (q la : Nat) (mc : Int32) (cL : ClassId) (t9 : Nat) (y : Nat) (hq : w[q]? = some (la, .inr (5, [.int mc, .ref e0, .int 0]))) (ht9 : tys[t9]? = some (cL, .object "java/lang/Object")) (hy : li_y w y) : li_C l yJx4a65c_add_72be8 cJx4a65c_add_72be8 4 none 5 1 10 2 [.ref la, .ref y, .ref e0, .int 0] D tys w sz e0 ca ad (fun res w1 => ∃ r9 : Nat, w1[q]? = some (la, .inr (5, [.int mc, .ref r9, .int 1])) ∧ w1[w.length]? = some (r9, .inl (cL, 10, .inr (.inr (.inr (.inr (va_up (fun _ => none) 0 (some y))))))) ∧ w1.length = w.length + 1 ∧ li_R w w1 [q]) := by
  refine Met.ofW (cc := cJx4a65c_add_72be8) (maxL := 4) (ret := none) (by decide +kernel) rfl ?_
  intro p e s m args below meth c s₁ B9 hml hv
  obtain ⟨rfl, ⟨hsz, hP, hK, hT⟩, hL⟩ := hv
  subst hsz
  have hx := B9.exec
  have hb := B9.bytes
  have hr := B9.returns
  have hlocks := B9.notSynchronized
  have hts0 := atoms_spec (ws := Cond.code yJx4a65c_add_72be8 cJx4a65c_add_72be8 4 none :: en_cw) B9.pre
  have hts : ∀ z ∈ en_cw, z.before _ s = true := fun z hz => hts0 z (List.mem_cons_of_mem _ hz)
  have hown : s.vm.findClass RJx4a65c = some m.cls := findClass_of_methodNamed B9.named
  have hA : ∀ q : Nat, s.heap.size ≤ q → va_A w s.heap.size q := fun q h => Or.inr h
  have hS : va_S (va_A w s.heap.size) s.heap s.heap [] := va_S.rf
  have hD : va_D (va_A w s.heap.size) w := ⟨hD0.1, fun j z hz => Or.inl ⟨j, z.2, hz⟩⟩
  have hR9 : li_R w w [q] := li_R.rf
  have hl := lv_entry ([.ref la, .ref y, .ref e0, .int 0]) (n := 4) (Nat.le_of_ble_eq_true rfl)
  rw [lg_entry_eq]
  generalize (lg_sl ([.ref la, .ref y, .ref e0, .int 0]) ++ List.replicate (4 - (lg_sl ([.ref la, .ref y, .ref e0, .int 0])).length) Slot.unset).toArray = ls at hl ⊢
  have hl : lv_has ls 4 [(0, .ref la), (1, .ref y), (2, .ref e0), (3, .int 0)] := hl
  have hnb : ∀ z ∈ [q], li_nb w z := fun z hz => by rw [List.mem_singleton.mp hz]; exact li_nbo hq
  refine lv_iload_n hx hb dj_Jx4a65c_add_72be8_0 rfl (lv_at hl 3 rfl) ?_
  refine lv_aload_n hx hb dj_Jx4a65c_add_72be8_1 rfl (lv_at hl 2 rfl) ?_
  refine va_tlen hx hb hL.2.1 hS (v := 0) (by decide) dj_Jx4a65c_add_72be8_2 ?_
  refine lv_icmp_ne (tgt := 11) hx hb dj_Jx4a65c_add_72be8_3 (by decide) (fun c9 => absurd rfl c9) (fun _ => ?_)
  refine lv_aload_n hx hb dj_Jx4a65c_add_72be8_6 rfl (lv_at hl 0 rfl) ?_
  refine li_cV (As := []) (rest := []) (li_grow0_0 l D tys w _ e0 ca ad (⟨hD.1, fun j z hz => Or.inl ⟨j, z.2, hz⟩⟩ : va_D (va_A w s.heap.size) w) q la mc cL t9 hq ht9) gj_Jx4a65c_129 (va_recv hK hP (ci := 5) (q0 := q) rfl hq) rfl ⟨Nat.le_of_ble_eq_true rfl, Nat.le_of_ble_eq_true rfl⟩ ⟨Nat.le_of_ble_eq_true rfl, Nat.le_of_ble_eq_true rfl⟩ (Nat.le_of_ble_eq_true rfl) hx hb (hml.trans hl.1.symm) hts hown hK hT hL hP hD hS hA dj_Jx4a65c_add_72be8_7 (fun res w9 H locs hrv hqq hP hD hS => ?_)
  obtain ⟨r9, er, hlen, g8, g9, hR8⟩ := hqq
  subst er
  have hR9 : li_R w w9 [q] := hR8
  have hneB : w.length ≠ q := by have h9 := (List.getElem?_eq_some_iff.mp hq).1; omega
  refine lv_astore_n (lv' := [(2, .ref r9), (0, .ref la), (1, .ref y), (3, .int 0)]) hx hb dj_Jx4a65c_add_72be8_10 rfl hl (by decide) rfl (fun ls hl => ?_)
  refine lv_aload_n hx hb dj_Jx4a65c_add_72be8_11 rfl (lv_at hl 0 rfl) ?_
  refine lv_iload_n hx hb dj_Jx4a65c_add_72be8_12 rfl (lv_at hl 3 rfl) ?_
  refine lv_aload_n hx hb dj_Jx4a65c_add_72be8_13 rfl (lv_at hl 2 rfl) ?_
  refine vb_astq (E := "java/lang/Object") (C := "java/util/ArrayList") hx hb hK hP hD hS w.length t9 g9 ht9 (li_yr (hy.st hR9 hnb) hK hP) (vb_asgC hL.2.2.2.2.2.2.2.2.2.2.2.2.2.2.2.2.1) (vp_in_nI (n := 0) (by decide) (by decide)) dj_Jx4a65c_add_72be8_14 (fun H locs hP hD hS => ?_)
  obtain ⟨w1, ew1, g1, gl1, gn1⟩ := li_set g9 (.inl (cL, 10, .inr (.inr (.inr (.inr (va_up (fun _ => none) 0 (some y)))))))
  have hP : va_P D vwCl w1 H := by rw [ew1]; exact hP
  have hD : va_D (va_A w s.heap.size) w1 := by rw [ew1]; exact hD
  have hR9 : li_R w w1 [q] := hR9.sn g9 (by omega) g1 gl1 gn1
  have g1L := (gn1 q (Ne.symm hneB)).trans g8
  refine lv_aload_n hx hb dj_Jx4a65c_add_72be8_15 rfl (lv_at hl 1 rfl) ?_
  refine lv_iload_n hx hb dj_Jx4a65c_add_72be8_16 rfl (lv_at hl 3 rfl) ?_
  refine lv_iconst (v := 1) hx hb dj_Jx4a65c_add_72be8_17 (by decide) ?_
  refine lv_iadd hx hb dj_Jx4a65c_add_72be8_18 ?_
  refine lv_topi (fun y2 ey2 => ?_)
  obtain rfl : y2 = 1 := ey2.trans (by decide)
  refine va_put (D := D) (ci := 5) (v := .int 1) (ty := .int) (C := RJx4a65c) (T := TJx4a65c) (N := 3) hx hb hts uwj_Jx4a65c tyJx4a65c tyJx4a65c_ok nmJx4a65c hown hK hP hD hS q g1L rfl 2 (by decide) (hts _ cwj1422) (fun _ h9 => h9) rfl (by decide +kernel) rfl rfl (Nat.le_of_ble_eq_true rfl) dj_Jx4a65c_add_72be8_19 (fun H locs hP hD hS => ?_)
  obtain ⟨w3, ew3, g3, gl3, gn3⟩ := li_set g1L (.inr (5, [.int mc, .ref r9, .int 1]))
  have hP : va_P D vwCl w3 H := by rw [ew3]; exact hP
  have hD : va_D (va_A w s.heap.size) w3 := by rw [ew3]; exact hD
  have hR9 : li_R w w3 [q] := hR9.tr (li_R.st g1L (by simp) g3 gl3 gn3 ⟨rfl, rfl⟩)
  have g3B := (gn3 w.length hneB).trans g1
  exact W.vret hx hb hr (fun t ht hW9 => ⟨⟨w3, rfl, ⟨_, g3, g3B, by omega, hR9⟩, ⟨by rw [ht]; exact hP, hD⟩⟩, hS.F ht⟩) hS.2.2 dj_Jx4a65c_add_72be8_22
set_option maxHeartbeats 4000000 in
theorem li_addL_r (l : Launch) (D : va_G) (tys : List (ClassId × FieldType)) (w : va_W) (sz e0 ca : Nat) (ad : li_ad) (hD0 : va_D (va_A w sz) w) (q qa la ra n N : Nat) (mc : Int32) (f : Nat → Option Nat) (cL : ClassId) (t9 : Nat) (y : Nat) (hq : w[q]? = some (la, .inr (5, [.int mc, .ref ra, .int (nI n)]))) (ha : w[qa]? = some (ra, .inl (cL, N, .inr (.inr (.inr (.inr f)))))) (ht9 : tys[t9]? = some (cL, .object "java/lang/Object")) (hn : n < N) (hN : N < 1000) (hN3 : N = 10 ∨ N = 15 ∨ N = 22) (hy : li_y w y) : li_C l yJx4a65c_add_9ea2d cJx4a65c_add_9ea2d 2 (some .boolean) 6 1 22 0 [.ref la, .ref y] D tys w sz e0 ca ad (fun res w1 => w1[q]? = some (la, .inr (5, [.int (mc + 1), .ref ra, .int (nI (n + 1))])) ∧ w1[qa]? = some (ra, .inl (cL, N, .inr (.inr (.inr (.inr (va_up f n (some y))))))) ∧ w1.length = w.length ∧ li_R w w1 [q, qa]) := by
  refine Met.ofW (cc := cJx4a65c_add_9ea2d) (maxL := 2) (ret := (some .boolean)) (by decide +kernel) rfl ?_
  intro p e s m args below meth c s₁ B9 hml hv
  obtain ⟨rfl, ⟨hsz, hP, hK, hT⟩, hL⟩ := hv
  subst hsz
  have hx := B9.exec
  have hb := B9.bytes
  have hr := B9.returns
  have hlocks := B9.notSynchronized
  have hts0 := atoms_spec (ws := Cond.code yJx4a65c_add_9ea2d cJx4a65c_add_9ea2d 2 (some .boolean) :: en_cw) B9.pre
  have hts : ∀ z ∈ en_cw, z.before _ s = true := fun z hz => hts0 z (List.mem_cons_of_mem _ hz)
  have hown : s.vm.findClass RJx4a65c = some m.cls := findClass_of_methodNamed B9.named
  have hA : ∀ q : Nat, s.heap.size ≤ q → va_A w s.heap.size q := fun q h => Or.inr h
  have hS : va_S (va_A w s.heap.size) s.heap s.heap [] := va_S.rf
  have hD : va_D (va_A w s.heap.size) w := ⟨hD0.1, fun j z hz => Or.inl ⟨j, z.2, hz⟩⟩
  have hR9 : li_R w w [q, qa] := li_R.rf
  have hl := lv_entry ([.ref la, .ref y]) (n := 2) (Nat.le_of_ble_eq_true rfl)
  rw [lg_entry_eq]
  generalize (lg_sl ([.ref la, .ref y]) ++ List.replicate (2 - (lg_sl ([.ref la, .ref y])).length) Slot.unset).toArray = ls at hl ⊢
  have hl : lv_has ls 2 [(0, .ref la), (1, .ref y)] := hl
  have hne : q ≠ qa := fun e9 => by rw [e9] at hq; rw [hq] at ha; cases ha
  have hnb : ∀ z ∈ [q, qa], li_nb w z := fun z hz => by rcases List.mem_cons.mp hz with rfl | hz; exact li_nbo hq; rw [List.mem_singleton.mp hz]; exact li_nba ha
  refine lv_aload_n hx hb dj_Jx4a65c_add_9ea2d_0 rfl (lv_at hl 0 rfl) ?_
  refine lv_dup hx hb dj_Jx4a65c_add_9ea2d_1 rfl ?_
  refine va_get (D := D) (ci := 5) (v := .int mc) (C := RJx4a65c) (T := TJx4a65c) (N := 3) hx hb hts uwj_Jx4a65c hown hK hP q hq rfl 0 (by decide) (hts _ cwj1426) (fun x9 h9 => u_same (hts (.sameField "java/util/ArrayList" "java/util/AbstractList" "modCount" "I") cwj1425) x9 h9) rfl dj_Jx4a65c_add_9ea2d_2 ?_
  refine lv_iconst (v := 1) hx hb dj_Jx4a65c_add_9ea2d_5 (by decide) ?_
  refine lv_iadd hx hb dj_Jx4a65c_add_9ea2d_6 ?_
  refine va_put (D := D) (ci := 5) (v := .int (mc + 1)) (ty := .int) (C := RJx4a65c) (T := TJx4a65c) (N := 3) hx hb hts uwj_Jx4a65c tyJx4a65c tyJx4a65c_ok nmJx4a65c hown hK hP hD hS q hq rfl 0 (by decide) (hts _ cwj1426) (fun x9 h9 => u_same (hts (.sameField "java/util/ArrayList" "java/util/AbstractList" "modCount" "I") cwj1425) x9 h9) rfl (by decide +kernel) rfl rfl (Nat.le_of_ble_eq_true rfl) dj_Jx4a65c_add_9ea2d_7 (fun H locs hP hD hS => ?_)
  obtain ⟨w1, ew1, g1, gl1, gn1⟩ := li_set hq (.inr (5, [.int (mc + 1), .ref ra, .int (nI n)]))
  have hP : va_P D vwCl w1 H := by rw [ew1]; exact hP
  have hD : va_D (va_A w s.heap.size) w1 := by rw [ew1]; exact hD
  have hR9 : li_R w w1 [q, qa] := hR9.tr (li_R.st hq (by simp) g1 gl1 gn1 ⟨rfl, rfl⟩)
  have g1A := (gn1 qa (Ne.symm hne)).trans ha
  refine lv_aload_n hx hb dj_Jx4a65c_add_9ea2d_10 rfl (lv_at hl 0 rfl) ?_
  refine lv_aload_n hx hb dj_Jx4a65c_add_9ea2d_11 rfl (lv_at hl 1 rfl) ?_
  refine lv_aload_n hx hb dj_Jx4a65c_add_9ea2d_12 rfl (lv_at hl 0 rfl) ?_
  refine va_get (D := D) (ci := 5) (v := .ref ra) (C := RJx4a65c) (T := TJx4a65c) (N := 3) hx hb hts uwj_Jx4a65c hown hK hP q g1 rfl 1 (by decide) (hts _ cwj1419) (fun _ h9 => h9) rfl dj_Jx4a65c_add_9ea2d_13 ?_
  refine lv_aload_n hx hb dj_Jx4a65c_add_9ea2d_16 rfl (lv_at hl 0 rfl) ?_
  refine va_get (D := D) (ci := 5) (v := .int (nI n)) (C := RJx4a65c) (T := TJx4a65c) (N := 3) hx hb hts uwj_Jx4a65c hown hK hP q g1 rfl 2 (by decide) (hts _ cwj1422) (fun _ h9 => h9) rfl dj_Jx4a65c_add_9ea2d_17 ?_
  refine li_cV (As := [.ref y, .ref ra, .int (nI n)]) (rest := []) (li_add3L_r l D tys w1 _ e0 ca ad (⟨hD.1, fun j z hz => Or.inl ⟨j, z.2, hz⟩⟩ : va_D (va_A w1 H.size) w1) q qa la ra n N (mc + 1) f cL t9 y g1 g1A ht9 hn hN (hy.st hR9 hnb)) gj_Jx4a65c_131 (va_recv hK hP (ci := 5) (q0 := q) rfl g1) rfl ⟨Nat.le_of_ble_eq_true rfl, Nat.le_of_ble_eq_true rfl⟩ ⟨Nat.le_of_ble_eq_true rfl, Nat.le_of_ble_eq_true rfl⟩ (Nat.le_of_ble_eq_true rfl) hx hb (hml.trans hl.1.symm) hts hown hK hT hL hP hD hS hA dj_Jx4a65c_add_9ea2d_20 (fun res w9 H locs hrv hqq hP hD hS => ?_)
  obtain ⟨g8, g9, hlen, hR8⟩ := hqq
  obtain rfl := (show res = none from hrv)
  refine lv_iconst (v := 1) hx hb dj_Jx4a65c_add_9ea2d_23 (by decide) ?_
  refine W.widen (k := 1) (n := 22) (by decide) (by decide) ?_
  exact W.zret (v := 1) (ty := .boolean) hx hb hr (by decide) (fun t ht hW9 => ⟨⟨1, w9, rfl, ⟨g8, g9, by omega, hR9.tr hR8⟩, ⟨by rw [ht]; exact hP, hD⟩⟩, hS.F ht⟩) hS.2.2 dj_Jx4a65c_add_9ea2d_24
set_option maxHeartbeats 4000000 in
theorem li_addL_0 (l : Launch) (D : va_G) (tys : List (ClassId × FieldType)) (w : va_W) (sz e0 ca : Nat) (ad : li_ad) (hD0 : va_D (va_A w sz) w) (q qa la : Nat) (mc : Int32) (f : Nat → Option Nat) (cL : ClassId) (t9 : Nat) (y : Nat) (hq : w[q]? = some (la, .inr (5, [.int mc, .ref e0, .int 0]))) (ht9 : tys[t9]? = some (cL, .object "java/lang/Object")) (hy : li_y w y) : li_C l yJx4a65c_add_9ea2d cJx4a65c_add_9ea2d 2 (some .boolean) 6 1 22 0 [.ref la, .ref y] D tys w sz e0 ca ad (fun res w1 => ∃ r9 : Nat, w1[q]? = some (la, .inr (5, [.int (mc + 1), .ref r9, .int (nI 1)])) ∧ w1[w.length]? = some (r9, .inl (cL, 10, .inr (.inr (.inr (.inr (va_up (fun _ => none) 0 (some y))))))) ∧ w1.length = w.length + 1 ∧ li_R w w1 [q]) := by
  refine Met.ofW (cc := cJx4a65c_add_9ea2d) (maxL := 2) (ret := (some .boolean)) (by decide +kernel) rfl ?_
  intro p e s m args below meth c s₁ B9 hml hv
  obtain ⟨rfl, ⟨hsz, hP, hK, hT⟩, hL⟩ := hv
  subst hsz
  have hx := B9.exec
  have hb := B9.bytes
  have hr := B9.returns
  have hlocks := B9.notSynchronized
  have hts0 := atoms_spec (ws := Cond.code yJx4a65c_add_9ea2d cJx4a65c_add_9ea2d 2 (some .boolean) :: en_cw) B9.pre
  have hts : ∀ z ∈ en_cw, z.before _ s = true := fun z hz => hts0 z (List.mem_cons_of_mem _ hz)
  have hown : s.vm.findClass RJx4a65c = some m.cls := findClass_of_methodNamed B9.named
  have hA : ∀ q : Nat, s.heap.size ≤ q → va_A w s.heap.size q := fun q h => Or.inr h
  have hS : va_S (va_A w s.heap.size) s.heap s.heap [] := va_S.rf
  have hD : va_D (va_A w s.heap.size) w := ⟨hD0.1, fun j z hz => Or.inl ⟨j, z.2, hz⟩⟩
  have hR9 : li_R w w [q] := li_R.rf
  have hl := lv_entry ([.ref la, .ref y]) (n := 2) (Nat.le_of_ble_eq_true rfl)
  rw [lg_entry_eq]
  generalize (lg_sl ([.ref la, .ref y]) ++ List.replicate (2 - (lg_sl ([.ref la, .ref y])).length) Slot.unset).toArray = ls at hl ⊢
  have hl : lv_has ls 2 [(0, .ref la), (1, .ref y)] := hl
  have hnb : ∀ z ∈ [q], li_nb w z := fun z hz => by rw [List.mem_singleton.mp hz]; exact li_nbo hq
  refine lv_aload_n hx hb dj_Jx4a65c_add_9ea2d_0 rfl (lv_at hl 0 rfl) ?_
  refine lv_dup hx hb dj_Jx4a65c_add_9ea2d_1 rfl ?_
  refine va_get (D := D) (ci := 5) (v := .int mc) (C := RJx4a65c) (T := TJx4a65c) (N := 3) hx hb hts uwj_Jx4a65c hown hK hP q hq rfl 0 (by decide) (hts _ cwj1426) (fun x9 h9 => u_same (hts (.sameField "java/util/ArrayList" "java/util/AbstractList" "modCount" "I") cwj1425) x9 h9) rfl dj_Jx4a65c_add_9ea2d_2 ?_
  refine lv_iconst (v := 1) hx hb dj_Jx4a65c_add_9ea2d_5 (by decide) ?_
  refine lv_iadd hx hb dj_Jx4a65c_add_9ea2d_6 ?_
  refine va_put (D := D) (ci := 5) (v := .int (mc + 1)) (ty := .int) (C := RJx4a65c) (T := TJx4a65c) (N := 3) hx hb hts uwj_Jx4a65c tyJx4a65c tyJx4a65c_ok nmJx4a65c hown hK hP hD hS q hq rfl 0 (by decide) (hts _ cwj1426) (fun x9 h9 => u_same (hts (.sameField "java/util/ArrayList" "java/util/AbstractList" "modCount" "I") cwj1425) x9 h9) rfl (by decide +kernel) rfl rfl (Nat.le_of_ble_eq_true rfl) dj_Jx4a65c_add_9ea2d_7 (fun H locs hP hD hS => ?_)
  obtain ⟨w1, ew1, g1, gl1, gn1⟩ := li_set hq (.inr (5, [.int (mc + 1), .ref e0, .int 0]))
  have hP : va_P D vwCl w1 H := by rw [ew1]; exact hP
  have hD : va_D (va_A w s.heap.size) w1 := by rw [ew1]; exact hD
  have hR9 : li_R w w1 [q] := hR9.tr (li_R.st hq (by simp) g1 gl1 gn1 ⟨rfl, rfl⟩)
  refine lv_aload_n hx hb dj_Jx4a65c_add_9ea2d_10 rfl (lv_at hl 0 rfl) ?_
  refine lv_aload_n hx hb dj_Jx4a65c_add_9ea2d_11 rfl (lv_at hl 1 rfl) ?_
  refine lv_aload_n hx hb dj_Jx4a65c_add_9ea2d_12 rfl (lv_at hl 0 rfl) ?_
  refine va_get (D := D) (ci := 5) (v := .ref e0) (C := RJx4a65c) (T := TJx4a65c) (N := 3) hx hb hts uwj_Jx4a65c hown hK hP q g1 rfl 1 (by decide) (hts _ cwj1419) (fun _ h9 => h9) rfl dj_Jx4a65c_add_9ea2d_13 ?_
  refine lv_aload_n hx hb dj_Jx4a65c_add_9ea2d_16 rfl (lv_at hl 0 rfl) ?_
  refine va_get (D := D) (ci := 5) (v := .int 0) (C := RJx4a65c) (T := TJx4a65c) (N := 3) hx hb hts uwj_Jx4a65c hown hK hP q g1 rfl 2 (by decide) (hts _ cwj1422) (fun _ h9 => h9) rfl dj_Jx4a65c_add_9ea2d_17 ?_
  refine li_cV (As := [.ref y, .ref e0, .int 0]) (rest := []) (li_add3L_0 l D tys w1 _ e0 ca ad (⟨hD.1, fun j z hz => Or.inl ⟨j, z.2, hz⟩⟩ : va_D (va_A w1 H.size) w1) q la (mc + 1) cL t9 y g1 ht9 (hy.st hR9 hnb)) gj_Jx4a65c_131 (va_recv hK hP (ci := 5) (q0 := q) rfl g1) rfl ⟨Nat.le_of_ble_eq_true rfl, Nat.le_of_ble_eq_true rfl⟩ ⟨Nat.le_of_ble_eq_true rfl, Nat.le_of_ble_eq_true rfl⟩ (Nat.le_of_ble_eq_true rfl) hx hb (hml.trans hl.1.symm) hts hown hK hT hL hP hD hS hA dj_Jx4a65c_add_9ea2d_20 (fun res w9 H locs hrv hqq hP hD hS => ?_)
  obtain ⟨r9, g8, g9, hlen, hR8⟩ := hqq
  obtain rfl := (show res = none from hrv)
  refine lv_iconst (v := 1) hx hb dj_Jx4a65c_add_9ea2d_23 (by decide) ?_
  refine W.widen (k := 1) (n := 22) (by decide) (by decide) ?_
  exact W.zret (v := 1) (ty := .boolean) hx hb hr (by decide) (fun t ht hW9 => ⟨⟨1, w9, rfl, ⟨_, g8, by have e9 := g9; rw [show w1.length = w.length by omega] at e9; exact e9, by omega, hR9.tr hR8⟩, ⟨by rw [ht]; exact hP, hD⟩⟩, hS.F ht⟩) hS.2.2 dj_Jx4a65c_add_9ea2d_24
