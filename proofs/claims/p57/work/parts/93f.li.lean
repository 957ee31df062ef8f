set_option maxHeartbeats 4000000 in
theorem li_X7_meanOf (l : Launch) (D : va_G) (tys : List (ClassId × FieldType)) (w : va_W) (sz e0 ca : Nat) (ad : li_ad) (hD0 : va_D (va_A w sz) w) (q0 qa0 la0 n : Nat) (cL : ClassId) (t9 : Nat) (hw0 : li_L w q0 qa0 la0 e0 cL ad n) (ht9 : tys[t9]? = some (cL, .object "java/lang/Object")) (hn1 : 1 ≤ n) (hn2 : n ≤ 20) (hkd : ∀ q, w.length ≤ q → ad.2 q) : li_C l yX7_meanOf cX7_meanOf 5 (some .int) 8 50 500 0 [.ref la0] D tys w sz e0 ca ad (fun res w1 => li_R w w1 []) := by
  refine Met.ofW (cc := cX7_meanOf) (maxL := 5) (ret := (some .int)) (by decide +kernel) rfl ?_
  intro p e s m args below meth c s₁ B9 hml hv
  obtain ⟨rfl, ⟨hsz, hP, hK, hT⟩, hL⟩ := hv
  subst hsz
  have hx := B9.exec
  have hb := B9.bytes
  have hr := B9.returns
  have hlocks := B9.notSynchronized
  have hts0 := atoms_spec (ws := Cond.code yX7_meanOf cX7_meanOf 5 (some .int) :: en_cw) B9.pre
  have hts : ∀ z ∈ en_cw, z.before _ s = true := fun z hz => hts0 z (List.mem_cons_of_mem _ hz)
  have hown : s.vm.findClass RX7 = some m.cls := findClass_of_methodNamed B9.named
  have hA : ∀ q : Nat, s.heap.size ≤ q → va_A w s.heap.size q := fun q h => Or.inr h
  have hS : va_S (va_A w s.heap.size) s.heap s.heap [] := va_S.rf
  have hD : va_D (va_A w s.heap.size) w := ⟨hD0.1, fun j z hz => Or.inl ⟨j, z.2, hz⟩⟩
  have hR9 : li_R w w [] := li_R.rf
  have hl := lv_entry ([.ref la0]) (n := 5) (Nat.le_of_ble_eq_true rfl)
  rw [lg_entry_eq]
  generalize (lg_sl ([.ref la0]) ++ List.replicate (5 - (lg_sl ([.ref la0])).length) Slot.unset).toArray = ls at hl ⊢
  have hl : lv_has ls 5 [(0, .ref la0)] := hl
  obtain ⟨R9, hRe⟩ : ∃ R9 : Room, R9 = (headSpec (Cond.code yX7_meanOf cX7_meanOf 5 (some .int) :: en_cw) (en_rm 8 (50, 500))).room := ⟨_, rfl⟩
  rw [← hRe]
  have hRm : 48 ≤ R9.frames ∧ 880 ≤ R9.locals := by rw [hRe]; exact ⟨Nat.le_of_ble_eq_true rfl, Nat.le_of_ble_eq_true rfl⟩
  have hcc : R9.cells = 50 := by rw [hRe]; rfl
  have hcl : R9.slots = 500 := by rw [hRe]; rfl
  have F9 : mo_F p R9 s m _ c cX7_meanOf 5 D tys (va_A w s.heap.size) e0 ca ad := ⟨hx, hb, hml, hts, hown, hK, hT, hL, hA, hRm⟩
  obtain ⟨f0, ⟨mc0, ra0, hq0, ha9⟩, hE0⟩ := id hw0
  rcases ha9 with ⟨h9, -⟩ | ⟨N0, ha0, hn0, h3⟩
  · omega
  refine va_new (ci := 5) (fs := [.int 0, .null, .int 0]) (C := RJx4a65c) (T := TJx4a65c) (N := 3) hx hb hts uwj_Jx4a65c tyJx4a65c tyJx4a65c_ok hown (hts _ cwj1405) (hts _ cwj1406) (hts _ cwj85) hK hP hD hS hA rfl (fun j hj => match j, hj with | 0, _ => rfl | 1, _ => rfl | 2, _ => rfl | n + 3, h => absurd h (by omega)) (by omega) (by omega) dj_X7_meanOf_0 (fun la1 H hP hD hS => ?_)
  obtain ⟨w41, ew41, g41, gl41, gn41⟩ := li_app w (la1, .inr (5, [.int 0, .null, .int 0]))
  have hP : va_P D vwCl w41 H := by rw [ew41]; exact hP
  have hD : va_D (va_A w s.heap.size) w41 := by rw [ew41]; exact hD
  have hR1 : li_R w w41 [] := li_R.ap gl41 gn41
  refine lv_dup hx hb dj_X7_meanOf_3 rfl ?_
  refine li_cI (As := []) (rest := [.ref la1]) (li_Jx4a65c_init_da8c8 l D tys w41 _ e0 ca ad (⟨hD.1, fun j z hz => Or.inl ⟨j, z.2, hz⟩⟩ : va_D (va_A w41 H.size) w41) w.length la1 g41) gj_X7_53 rfl ⟨by have := hRm.1; omega, by have := hRm.2; omega⟩ ⟨by omega, by omega⟩ (Nat.le_of_ble_eq_true rfl) hx hb (hml.trans hl.1.symm) hts hown hK hT hL hP hD hS hA dj_X7_meanOf_4 (fun res w3 H locs hrv hqq hP hD hS => ?_)
  obtain ⟨g8, hlen, hR8⟩ := hqq
  obtain rfl := (show res = none from hrv)
  have hR3 : li_R w w3 [] := li_R.sm hR1 hR8
  refine lv_astore_n (lv' := [(1, .ref la1), (0, .ref la0)]) hx hb dj_X7_meanOf_7 rfl hl (by decide) rfl (fun ls hl => ?_)
  refine lv_aload_n hx hb dj_X7_meanOf_8 rfl (lv_at hl 1 rfl) ?_
  refine li_cV (As := []) (rest := []) (li_Jx4a65c_iterator_32c93 l D tys w3 _ e0 ca ad (⟨hD.1, fun j z hz => Or.inl ⟨j, z.2, hz⟩⟩ : va_D (va_A w3 H.size) w3) q0 la0 ra0 n mc0 (hR3.at hq0 (by simp))) gj_X7_281 (va_recv hK hP (ci := 5) rfl (hR3.at hq0 (by simp))) rfl ⟨by have := hRm.1; omega, by have := hRm.2; omega⟩ ⟨by omega, by omega⟩ (Nat.le_of_ble_eq_true rfl) hx hb (hml.trans hl.1.symm) hts hown hK hT hL hP hD hS hA dj_X7_meanOf_9 (fun res w4 H locs hrv hqq hP hD hS => ?_)
  obtain ⟨ia, er, gi, hlen4, hR4⟩ := hqq
  subst er
  refine lv_astore_n (lv' := [(2, .ref ia), (1, .ref la1), (0, .ref la0)]) hx hb dj_X7_meanOf_12 rfl hl (by decide) rfl (fun ls hl => ?_)
  refine W.widen (k := 2 + 2 * 0) (n := 7 + 23 * 0) (by omega) (by omega) ?_
  have hl1 := hR1.1
  have hlw := gl41
  refine mo_out (cells := 2) (slots := 7) F9 ht9 hq0 ha0 hE0 hn0 (by omega) hn2 hkd (Nat.le_refl w.length) (show w.length ≤ w3.length by omega) (show w.length ≠ w3.length by omega) ⟨by omega, by omega⟩ (fun w5 H locs ls qb hR5 hw5 hP hD hS hl => ?_) n 0 (by omega) w4 H locs ls w.length (-1) (li_R.tr hR3 hR4) ⟨fun _ => none, ⟨0, e0, hR4.at g8 (by simp), Or.inl ⟨rfl, rfl⟩⟩, fun k hk => absurd hk (Nat.not_lt_zero k)⟩ (li_nbo (hR4.at g8 (by simp))) (by have := hR4.1; omega) (Nat.le_refl _) (by omega) gi hP hD hS (lv_sub hl [2, 1, 0] rfl)
  have hw05 := hw0.st hR5 (by simp) (by simp) (by simp)
  refine lv_aload_n hx hb dj_X7_meanOf_82 rfl (lv_at hl 0 rfl) ?_
  refine li_cV (As := []) (rest := []) (lk_size (⟨hD.1, fun j z hz => Or.inl ⟨j, z.2, hz⟩⟩ : va_D (va_A w5 H.size) w5) hw05) gj_X7_297 (lk_rv hw05 hK hP) rfl ⟨by have := hRm.1; omega, by have := hRm.2; omega⟩ ⟨by omega, by omega⟩ (Nat.le_of_ble_eq_true rfl) hx hb (hml.trans hl.1.symm) hts hown hK hT hL hP hD hS hA dj_X7_meanOf_83 (fun res w9 H locs hrv hqq hP hD hS => ?_)
  obtain ⟨er, ew⟩ := hqq
  have ew := Eq.symm ew
  subst er
  subst ew
  refine li_cS (As := [.int (nI n)]) (rest := []) (li_X7_counted l D tys w5 _ e0 ca ad (⟨hD.1, fun j z hz => Or.inl ⟨j, z.2, hz⟩⟩ : va_D (va_A w5 H.size) w5) n hn1 hn2) gj_X7_311 rfl ⟨by have := hRm.1; omega, by have := hRm.2; omega⟩ ⟨by omega, by omega⟩ (Nat.le_of_ble_eq_true rfl) hx hb (hml.trans hl.1.symm) hts hown hK hT hL hP hD hS hA dj_X7_meanOf_86 (fun res w6 H locs hrv hqq hP hD hS => ?_)
  obtain ⟨k, er, hk1, hk2, hR6⟩ := hqq
  subst er
  have hw6 := hw5.st hR6 (by simp) (by simp) (by simp)
  refine lv_istore_n (lv' := [(2, .int (nI k)), (0, .ref la0), (1, .ref la1)]) hx hb dj_X7_meanOf_89 rfl hl (by decide) rfl (fun ls hl => ?_)
  refine lv_iconst (v := 0) hx hb dj_X7_meanOf_90 (by decide) ?_
  refine lv_istore_n (lv' := [(3, .int 0), (2, .int (nI k)), (0, .ref la0), (1, .ref la1)]) hx hb dj_X7_meanOf_91 rfl hl (by decide) rfl (fun ls hl => ?_)
  refine lv_iconst (v := 0) hx hb dj_X7_meanOf_92 (by decide) ?_
  refine lv_istore (lv' := [(4, .int 0), (3, .int 0), (2, .int (nI k)), (0, .ref la0), (1, .ref la1)]) hx hb dj_X7_meanOf_93 hl (by decide) rfl (fun ls hl => ?_)
  refine mo_sum F9 ht9 hw6 hk2 hn2 hD ⟨by omega, by omega⟩ (fun H locs ls x hP hS hl => ?_) k 0 (by omega) H locs ls 0 hP hS (lv_sub hl [0, 1, 4, 2] rfl)
  refine lv_iload_n hx hb dj_X7_meanOf_122 rfl (lv_at hl 0 rfl) ?_
  refine lv_iload_n hx hb dj_X7_meanOf_123 rfl (lv_at hl 1 rfl) ?_
  have hk0 : ¬ nI k = 0 := fun e9 => by have := (nI_eq (show k < 2 ^ 31 by omega) (show 0 < 2 ^ 31 by decide)).mp (show nI k = nI 0 from e9); omega
  refine li_cS (As := [.int x, .int (nI k)]) (rest := []) (li_J9_floorDiv_7cf53 l D tys w6 _ e0 ca ad (⟨hD.1, fun j z hz => Or.inl ⟨j, z.2, hz⟩⟩ : va_D (va_A w6 H.size) w6) x (nI k) hk0) gj_X7_314 rfl ⟨by have := hRm.1; omega, by have := hRm.2; omega⟩ ⟨by omega, by omega⟩ (Nat.le_of_ble_eq_true rfl) hx hb (hml.trans hl.1.symm) hts hown hK hT hL hP hD hS hA dj_X7_meanOf_124 (fun res w9 H locs hrv hqq hP hD hS => ?_)
  have ew := Eq.symm hqq
  subst ew
  obtain ⟨r9, rfl⟩ := hrv
  refine W.widen (k := 50) (n := 500) (by omega) (by omega) ?_
  exact W.iret (v := r9) hx hb hr (fun t ht hW9 => ⟨⟨r9, w6, rfl, hR5.tr hR6, ⟨by rw [ht]; exact hP, hD⟩⟩, hS.F ht⟩) hS.2.2 dj_X7_meanOf_127
