set_option maxHeartbeats 4000000 in
theorem li_X7_isIn (l : Launch) (D : va_G) (tys : List (ClassId × FieldType)) (w : va_W) (sz e0 ca : Nat) (ad : li_ad) (hD0 : va_D (va_A w sz) w) (x lo hi : Int32) : li_C l yX7_isIn cX7_isIn 3 (some .boolean) 0 0 0 0 [.int x, .int lo, .int hi] D tys w sz e0 ca ad (fun res w1 => w1 = w ∧ ((res = some (.int 1) ∧ lo.toInt ≤ x.toInt ∧ x.toInt ≤ hi.toInt) ∨ res = some (.int 0))) := by
  refine Met.ofW (cc := cX7_isIn) (maxL := 3) (ret := (some .boolean)) (by decide +kernel) rfl ?_
  intro p e s m args below meth c s₁ B9 hml hv
  obtain ⟨rfl, ⟨hsz, hP, hK, hT⟩, hL⟩ := hv
  subst hsz
  have hx := B9.exec
  have hb := B9.bytes
  have hr := B9.returns
  have hlocks := B9.notSynchronized
  have hts0 := atoms_spec (ws := Cond.code yX7_isIn cX7_isIn 3 (some .boolean) :: en_cw) B9.pre
  have hts : ∀ z ∈ en_cw, z.before _ s = true := fun z hz => hts0 z (List.mem_cons_of_mem _ hz)
  have hown : s.vm.findClass RX7 = some m.cls := findClass_of_methodNamed B9.named
  have hA : ∀ q : Nat, s.heap.size ≤ q → va_A w s.heap.size q := fun q h => Or.inr h
  have hS : va_S (va_A w s.heap.size) s.heap s.heap [] := va_S.rf
  have hD : va_D (va_A w s.heap.size) w := ⟨hD0.1, fun j z hz => Or.inl ⟨j, z.2, hz⟩⟩
  have hR9 : li_R w w [] := li_R.rf
  have hl := lv_entry ([.int x, .int lo, .int hi]) (n := 3) (Nat.le_of_ble_eq_true rfl)
  rw [lg_entry_eq]
  generalize (lg_sl ([.int x, .int lo, .int hi]) ++ List.replicate (3 - (lg_sl ([.int x, .int lo, .int hi])).length) Slot.unset).toArray = ls at hl ⊢
  have hl : lv_has ls 3 [(0, .int x), (1, .int lo), (2, .int hi)] := hl
  refine lv_iload_n hx hb dj_X7_isIn_0 rfl (lv_at hl 0 rfl) ?_
  refine lv_iload_n hx hb dj_X7_isIn_1 rfl (lv_at hl 1 rfl) ?_
  refine lv_icmp_lt (tgt := 14) hx hb dj_X7_isIn_2 (by decide) (fun c8 => ?_) (fun c8 => ?_)
  · skip
    refine lv_iconst (v := 0) hx hb dj_X7_isIn_14 (by decide) ?_
    exact W.zret (v := 0) (ty := .boolean) hx hb hr (by decide) (fun t ht hW9 => ⟨⟨0, w, rfl, ⟨rfl, Or.inr rfl⟩, ⟨by rw [ht]; exact hP, hD⟩⟩, hS.F ht⟩) hS.2.2 dj_X7_isIn_15
  · skip
    refine lv_iload_n hx hb dj_X7_isIn_5 rfl (lv_at hl 0 rfl) ?_
    refine lv_iload_n hx hb dj_X7_isIn_6 rfl (lv_at hl 2 rfl) ?_
    refine lv_icmp_gt (tgt := 14) hx hb dj_X7_isIn_7 (by decide) (fun c9 => ?_) (fun c9 => ?_)
    · skip
      refine lv_iconst (v := 0) hx hb dj_X7_isIn_14 (by decide) ?_
      exact W.zret (v := 0) (ty := .boolean) hx hb hr (by decide) (fun t ht hW9 => ⟨⟨0, w, rfl, ⟨rfl, Or.inr rfl⟩, ⟨by rw [ht]; exact hP, hD⟩⟩, hS.F ht⟩) hS.2.2 dj_X7_isIn_15
    · skip
      refine lv_iconst (v := 1) hx hb dj_X7_isIn_10 (by decide) ?_
      refine lv_goto (tgt := 15) hx hb dj_X7_isIn_11 (by decide) ?_
      exact W.zret (v := 1) (ty := .boolean) hx hb hr (by decide) (fun t ht hW9 => ⟨⟨1, w, rfl, ⟨rfl, Or.inl ⟨rfl, (by have h := c8; rw [Int32.lt_iff_toInt_lt] at h; omega), (by have h := c9; rw [Int32.lt_iff_toInt_lt] at h; omega)⟩⟩, ⟨by rw [ht]; exact hP, hD⟩⟩, hS.F ht⟩) hS.2.2 dj_X7_isIn_15
set_option maxHeartbeats 4000000 in
theorem li_X7_isThrown (l : Launch) (D : va_G) (tys : List (ClassId × FieldType)) (w : va_W) (sz e0 ca : Nat) (ad : li_ad) (hD0 : va_D (va_A w sz) w) (am : Nat) (fs : List Value) (c9 k9 : Int32) (hm : w[0]? = some (am, .inr (13, fs))) (h30 : 30 < fs.length) (hc9 : c9 = 0 ∨ c9 = 1) : li_C l yX7_isThrown cX7_isThrown 3 (some .boolean) 0 0 0 0 [.ref am, .int c9, .int k9] D tys w sz e0 ca ad (fun res w1 => res = some (.int c9) ∧ (∃ fs1, w1[0]? = some (am, .inr (13, fs1)) ∧ (∀ j, j ≠ 30 → fs1[j]? = fs[j]?) ∧ fs1.length = fs.length ∧ ∃ t, fs1[30]? = some (.int t)) ∧ w1.length = w.length ∧ li_R w w1 [0]) := by
  refine Met.ofW (cc := cX7_isThrown) (maxL := 3) (ret := (some .boolean)) (by decide +kernel) rfl ?_
  intro p e s m args below meth c s₁ B9 hml hv
  obtain ⟨rfl, ⟨hsz, hP, hK, hT⟩, hL⟩ := hv
  subst hsz
  have hx := B9.exec
  have hb := B9.bytes
  have hr := B9.returns
  have hlocks := B9.notSynchronized
  have hts0 := atoms_spec (ws := Cond.code yX7_isThrown cX7_isThrown 3 (some .boolean) :: en_cw) B9.pre
  have hts : ∀ z ∈ en_cw, z.before _ s = true := fun z hz => hts0 z (List.mem_cons_of_mem _ hz)
  have hown : s.vm.findClass RX7 = some m.cls := findClass_of_methodNamed B9.named
  have hA : ∀ q : Nat, s.heap.size ≤ q → va_A w s.heap.size q := fun q h => Or.inr h
  have hS : va_S (va_A w s.heap.size) s.heap s.heap [] := va_S.rf
  have hD : va_D (va_A w s.heap.size) w := ⟨hD0.1, fun j z hz => Or.inl ⟨j, z.2, hz⟩⟩
  have hR9 : li_R w w [0] := li_R.rf
  have hl := lv_entry ([.ref am, .int c9, .int k9]) (n := 3) (Nat.le_of_ble_eq_true rfl)
  rw [lg_entry_eq]
  generalize (lg_sl ([.ref am, .int c9, .int k9]) ++ List.replicate (3 - (lg_sl ([.ref am, .int c9, .int k9])).length) Slot.unset).toArray = ls at hl ⊢
  have hl : lv_has ls 3 [(0, .ref am), (1, .int c9), (2, .int k9)] := hl
  refine lv_aload_n hx hb dj_X7_isThrown_0 rfl (lv_at hl 0 rfl) ?_
  refine lv_iload_n hx hb dj_X7_isThrown_1 rfl (lv_at hl 1 rfl) ?_
  refine lv_if_eq (tgt := 9) hx hb dj_X7_isThrown_2 (by decide) (fun c8 => ?_) (fun c8 => ?_)
  · skip
    refine lv_iconst (v := 0) hx hb dj_X7_isThrown_9 (by decide) ?_
    refine va_put (D := D) (ci := 13) (v := .int 0) (ty := .int) (C := RX7) (T := TX7) (N := 31) hx hb hts uwj_X7 tyX7 tyX7_ok nmX7 hown hK hP hD hS 0 hm rfl 30 (by decide) (hts _ cwj1528) (fun _ h9 => h9) rfl (by decide +kernel) rfl rfl h30 dj_X7_isThrown_10 (fun H locs hP hD hS => ?_)
    obtain ⟨w2, ew2, g2, gl2, gn2⟩ := li_set hm (.inr (13, fs.set 30 (.int 0)))
    have hP : va_P D vwCl w2 H := by rw [ew2]; exact hP
    have hD : va_D (va_A w s.heap.size) w2 := by rw [ew2]; exact hD
    have hR9 : li_R w w2 [0] := li_R.st hm (by simp) g2 gl2 gn2 ⟨rfl, List.length_set⟩
    refine lv_iload_n hx hb dj_X7_isThrown_13 rfl (lv_at hl 1 rfl) ?_
    rcases hc9 with rfl | rfl
    · skip
      exact W.zret (v := 0) (ty := .boolean) hx hb hr (by decide) (fun t ht hW9 => ⟨⟨0, w2, rfl, ⟨rfl, ⟨_, g2, fun j hj => List.getElem?_set_ne (Ne.symm hj), List.length_set, _, by rw [List.getElem?_set_self h30]⟩, gl2, hR9⟩, ⟨by rw [ht]; exact hP, hD⟩⟩, hS.F ht⟩) hS.2.2 dj_X7_isThrown_14
    · skip
      exact W.zret (v := 1) (ty := .boolean) hx hb hr (by decide) (fun t ht hW9 => ⟨⟨1, w2, rfl, ⟨rfl, ⟨_, g2, fun j hj => List.getElem?_set_ne (Ne.symm hj), List.length_set, _, by rw [List.getElem?_set_self h30]⟩, gl2, hR9⟩, ⟨by rw [ht]; exact hP, hD⟩⟩, hS.F ht⟩) hS.2.2 dj_X7_isThrown_14
  · skip
    refine lv_iload_n hx hb dj_X7_isThrown_5 rfl (lv_at hl 2 rfl) ?_
    refine lv_goto (tgt := 10) hx hb dj_X7_isThrown_6 (by decide) ?_
    refine va_put (D := D) (ci := 13) (v := .int k9) (ty := .int) (C := RX7) (T := TX7) (N := 31) hx hb hts uwj_X7 tyX7 tyX7_ok nmX7 hown hK hP hD hS 0 hm rfl 30 (by decide) (hts _ cwj1528) (fun _ h9 => h9) rfl (by decide +kernel) rfl rfl h30 dj_X7_isThrown_10 (fun H locs hP hD hS => ?_)
    obtain ⟨w2, ew2, g2, gl2, gn2⟩ := li_set hm (.inr (13, fs.set 30 (.int k9)))
    have hP : va_P D vwCl w2 H := by rw [ew2]; exact hP
    have hD : va_D (va_A w s.heap.size) w2 := by rw [ew2]; exact hD
    have hR9 : li_R w w2 [0] := li_R.st hm (by simp) g2 gl2 gn2 ⟨rfl, List.length_set⟩
    refine lv_iload_n hx hb dj_X7_isThrown_13 rfl (lv_at hl 1 rfl) ?_
    rcases hc9 with rfl | rfl
    · skip
      exact W.zret (v := 0) (ty := .boolean) hx hb hr (by decide) (fun t ht hW9 => ⟨⟨0, w2, rfl, ⟨rfl, ⟨_, g2, fun j hj => List.getElem?_set_ne (Ne.symm hj), List.length_set, _, by rw [List.getElem?_set_self h30]⟩, gl2, hR9⟩, ⟨by rw [ht]; exact hP, hD⟩⟩, hS.F ht⟩) hS.2.2 dj_X7_isThrown_14
    · skip
      exact W.zret (v := 1) (ty := .boolean) hx hb hr (by decide) (fun t ht hW9 => ⟨⟨1, w2, rfl, ⟨rfl, ⟨_, g2, fun j hj => List.getElem?_set_ne (Ne.symm hj), List.length_set, _, by rw [List.getElem?_set_self h30]⟩, gl2, hR9⟩, ⟨by rw [ht]; exact hP, hD⟩⟩, hS.F ht⟩) hS.2.2 dj_X7_isThrown_14
set_option maxHeartbeats 4000000 in
theorem li_X7_isNoPlayer (l : Launch) (D : va_G) (tys : List (ClassId × FieldType)) (w : va_W) (sz e0 ca : Nat) (ad : li_ad) (hD0 : va_D (va_A w sz) w) (am : Nat) (fs : List Value) (a1 xp : Int32) (hm : w[0]? = some (am, .inr (13, fs))) (f17 : fs[17]? = some (.int xp)) (hp : 0 ≤ xp.toInt ∧ xp.toInt ≤ 6) : li_C l yX7_isNoPlayer cX7_isNoPlayer 2 (some .boolean) 1 0 0 0 [.ref am, .int a1] D tys w sz e0 ca ad (fun res w1 => w1 = w ∧ ((res = some (.int 0) ∧ 0 ≤ a1.toInt ∧ a1.toInt < xp.toInt) ∨ res = some (.int 1))) := by
  refine Met.ofW (cc := cX7_isNoPlayer) (maxL := 2) (ret := (some .boolean)) (by decide +kernel) rfl ?_
  intro p e s m args below meth c s₁ B9 hml hv
  obtain ⟨rfl, ⟨hsz, hP, hK, hT⟩, hL⟩ := hv
  subst hsz
  have hx := B9.exec
  have hb := B9.bytes
  have hr := B9.returns
  have hlocks := B9.notSynchronized
  have hts0 := atoms_spec (ws := Cond.code yX7_isNoPlayer cX7_isNoPlayer 2 (some .boolean) :: en_cw) B9.pre
  have hts : ∀ z ∈ en_cw, z.before _ s = true := fun z hz => hts0 z (List.mem_cons_of_mem _ hz)
  have hown : s.vm.findClass RX7 = some m.cls := findClass_of_methodNamed B9.named
  have hA : ∀ q : Nat, s.heap.size ≤ q → va_A w s.heap.size q := fun q h => Or.inr h
  have hS : va_S (va_A w s.heap.size) s.heap s.heap [] := va_S.rf
  have hD : va_D (va_A w s.heap.size) w := ⟨hD0.1, fun j z hz => Or.inl ⟨j, z.2, hz⟩⟩
  have hR9 : li_R w w [] := li_R.rf
  have hl := lv_entry ([.ref am, .int a1]) (n := 2) (Nat.le_of_ble_eq_true rfl)
  rw [lg_entry_eq]
  generalize (lg_sl ([.ref am, .int a1]) ++ List.replicate (2 - (lg_sl ([.ref am, .int a1])).length) Slot.unset).toArray = ls at hl ⊢
  have hl : lv_has ls 2 [(0, .ref am), (1, .int a1)] := hl
  refine lv_iload_n hx hb dj_X7_isNoPlayer_0 rfl (lv_at hl 1 rfl) ?_
  refine lv_iconst (v := 0) hx hb dj_X7_isNoPlayer_1 (by decide) ?_
  refine lv_aload_n hx hb dj_X7_isNoPlayer_2 rfl (lv_at hl 0 rfl) ?_
  refine va_get (D := D) (ci := 13) (v := .int xp) (C := RX7) (T := TX7) (N := 31) hx hb hts uwj_X7 hown hK hP 0 hm rfl 17 (by decide) (hts _ cwj1515) (fun _ h9 => h9) f17 dj_X7_isNoPlayer_3 ?_
  refine lv_iconst (v := 1) hx hb dj_X7_isNoPlayer_6 (by decide) ?_
  refine lv_isub hx hb dj_X7_isNoPlayer_7 ?_
  refine li_cS (As := [.int a1, .int 0, .int (xp - 1)]) (rest := []) (li_X7_isIn l D tys w _ e0 ca ad (⟨hD.1, fun j z hz => Or.inl ⟨j, z.2, hz⟩⟩ : va_D (va_A w s.heap.size) w) a1 0 (xp - 1)) gj_X7_82 rfl ⟨Nat.le_of_ble_eq_true rfl, Nat.le_of_ble_eq_true rfl⟩ ⟨Nat.le_of_ble_eq_true rfl, Nat.le_of_ble_eq_true rfl⟩ (Nat.le_of_ble_eq_true rfl) hx hb (hml.trans hl.1.symm) hts hown hK hT hL hP hD hS hA dj_X7_isNoPlayer_8 (fun res w9 H locs hrv hqq hP hD hS => ?_)
  obtain ⟨ew, hq⟩ := hqq
  have ew := Eq.symm ew
  subst ew
  have exp : (xp - 1).toInt = xp.toInt - 1 := by rw [Int32.toInt_sub, show (1 : Int32).toInt = 1 from rfl, en_b32 (by omega) (by omega)]
  rcases hq with ⟨er, h1, h2⟩ | er
  · skip
    subst er
    refine lv_if_ne (tgt := 18) hx hb dj_X7_isNoPlayer_11 (by decide) (fun _ => ?_) (fun c9 => absurd c9 (by decide))
    refine lv_iconst (v := 0) hx hb dj_X7_isNoPlayer_18 (by decide) ?_
    exact W.zret (v := 0) (ty := .boolean) hx hb hr (by decide) (fun t ht hW9 => ⟨⟨0, w, rfl, ⟨rfl, Or.inl ⟨rfl, by rw [show (0 : Int32).toInt = 0 from rfl] at h1; exact h1, by omega⟩⟩, ⟨by rw [ht]; exact hP, hD⟩⟩, hS.F ht⟩) hS.2.2 dj_X7_isNoPlayer_19
  · skip
    subst er
    refine lv_if_ne (tgt := 18) hx hb dj_X7_isNoPlayer_11 (by decide) (fun c9 => absurd rfl c9) (fun _ => ?_)
    refine lv_iconst (v := 1) hx hb dj_X7_isNoPlayer_14 (by decide) ?_
    refine lv_goto (tgt := 19) hx hb dj_X7_isNoPlayer_15 (by decide) ?_
    exact W.zret (v := 1) (ty := .boolean) hx hb hr (by decide) (fun t ht hW9 => ⟨⟨1, w, rfl, ⟨rfl, Or.inr rfl⟩, ⟨by rw [ht]; exact hP, hD⟩⟩, hS.F ht⟩) hS.2.2 dj_X7_isNoPlayer_19
set_option maxHeartbeats 4000000 in
theorem li_X7_isRanked (l : Launch) (D : va_G) (tys : List (ClassId × FieldType)) (w : va_W) (sz e0 ca : Nat) (ad : li_ad) (hD0 : va_D (va_A w sz) w) (am : Nat) (fs : List Value) (aS aO pS pO j : Nat) (cZ : ClassId) (gpS gpO : Nat → Int32) (hm : w[0]? = some (am, .inr (13, fs))) (f8 : fs[8]? = some (.ref aS)) (f9 : fs[9]? = some (.ref aO)) (hS9 : w[pS]? = some (aS, .inl (cZ, 6, .inl gpS))) (hO9 : w[pO]? = some (aO, .inl (cZ, 6, .inl gpO))) (ht2 : tys[2]? = some (cZ, .boolean)) (hj : j < 6) : li_C l yX7_isRanked cX7_isRanked 2 (some .boolean) 0 0 0 0 [.ref am, .int (nI j)] D tys w sz e0 ca ad (fun res w1 => w1 = w ∧ ((res = some (.int 1) ∧ ¬ gpS j = 0) ∨ res = some (.int 0))) := by
  refine Met.ofW (cc := cX7_isRanked) (maxL := 2) (ret := (some .boolean)) (by decide +kernel) rfl ?_
  intro p e s m args below meth c s₁ B9 hml hv
  obtain ⟨rfl, ⟨hsz, hP, hK, hT⟩, hL⟩ := hv
  subst hsz
  have hx := B9.exec
  have hb := B9.bytes
  have hr := B9.returns
  have hlocks := B9.notSynchronized
  have hts0 := atoms_spec (ws := Cond.code yX7_isRanked cX7_isRanked 2 (some .boolean) :: en_cw) B9.pre
  have hts : ∀ z ∈ en_cw, z.before _ s = true := fun z hz => hts0 z (List.mem_cons_of_mem _ hz)
  have hown : s.vm.findClass RX7 = some m.cls := findClass_of_methodNamed B9.named
  have hA : ∀ q : Nat, s.heap.size ≤ q → va_A w s.heap.size q := fun q h => Or.inr h
  have hS : va_S (va_A w s.heap.size) s.heap s.heap [] := va_S.rf
  have hD : va_D (va_A w s.heap.size) w := ⟨hD0.1, fun j z hz => Or.inl ⟨j, z.2, hz⟩⟩
  have hR9 : li_R w w [] := li_R.rf
  have hl := lv_entry ([.ref am, .int (nI j)]) (n := 2) (Nat.le_of_ble_eq_true rfl)
  rw [lg_entry_eq]
  generalize (lg_sl ([.ref am, .int (nI j)]) ++ List.replicate (2 - (lg_sl ([.ref am, .int (nI j)])).length) Slot.unset).toArray = ls at hl ⊢
  have hl : lv_has ls 2 [(0, .ref am), (1, .int (nI j))] := hl
  refine lv_aload_n hx hb dj_X7_isRanked_0 rfl (lv_at hl 0 rfl) ?_
  refine va_get (D := D) (ci := 13) (v := .ref aS) (C := RX7) (T := TX7) (N := 31) hx hb hts uwj_X7 hown hK hP 0 hm rfl 8 (by decide) (hts _ cwj1506) (fun _ h9 => h9) f8 dj_X7_isRanked_1 ?_
  refine lv_iload_n hx hb dj_X7_isRanked_4 rfl (lv_at hl 1 rfl) ?_
  refine va_zald hx hb hK hP pS 2 hS9 ht2 (vp_in_nI hj (by decide)) dj_X7_isRanked_5 ?_
  rw [nI_clamp (show j < 2 ^ 31 by omega)]
  refine lv_if_eq (tgt := 22) hx hb dj_X7_isRanked_6 (by decide) (fun c8 => ?_) (fun c8 => ?_)
  · skip
    refine lv_iconst (v := 0) hx hb dj_X7_isRanked_22 (by decide) ?_
    exact W.zret (v := 0) (ty := .boolean) hx hb hr (by decide) (fun t ht hW9 => ⟨⟨0, w, rfl, ⟨rfl, Or.inr rfl⟩, ⟨by rw [ht]; exact hP, hD⟩⟩, hS.F ht⟩) hS.2.2 dj_X7_isRanked_23
  · skip
    refine lv_aload_n hx hb dj_X7_isRanked_9 rfl (lv_at hl 0 rfl) ?_
    refine va_get (D := D) (ci := 13) (v := .ref aO) (C := RX7) (T := TX7) (N := 31) hx hb hts uwj_X7 hown hK hP 0 hm rfl 9 (by decide) (hts _ cwj1507) (fun _ h9 => h9) f9 dj_X7_isRanked_10 ?_
    refine lv_iload_n hx hb dj_X7_isRanked_13 rfl (lv_at hl 1 rfl) ?_
    refine va_zald hx hb hK hP pO 2 hO9 ht2 (vp_in_nI hj (by decide)) dj_X7_isRanked_14 ?_
    rw [nI_clamp (show j < 2 ^ 31 by omega)]
    refine lv_if_ne (tgt := 22) hx hb dj_X7_isRanked_15 (by decide) (fun c9 => ?_) (fun c9 => ?_)
    · skip
      refine lv_iconst (v := 0) hx hb dj_X7_isRanked_22 (by decide) ?_
      exact W.zret (v := 0) (ty := .boolean) hx hb hr (by decide) (fun t ht hW9 => ⟨⟨0, w, rfl, ⟨rfl, Or.inr rfl⟩, ⟨by rw [ht]; exact hP, hD⟩⟩, hS.F ht⟩) hS.2.2 dj_X7_isRanked_23
    · skip
      refine lv_iconst (v := 1) hx hb dj_X7_isRanked_18 (by decide) ?_
      refine lv_goto (tgt := 23) hx hb dj_X7_isRanked_19 (by decide) ?_
      exact W.zret (v := 1) (ty := .boolean) hx hb hr (by decide) (fun t ht hW9 => ⟨⟨1, w, rfl, ⟨rfl, Or.inl ⟨rfl, c8⟩⟩, ⟨by rw [ht]; exact hP, hD⟩⟩, hS.F ht⟩) hS.2.2 dj_X7_isRanked_23
set_option maxHeartbeats 4000000 in
theorem sf_loop {p : Program} {l : Launch} {e : Env} {R : Room} {s : State} {m : MethodId} {args : Array Value} {below : List Frame} {meth : Method} {c : Code} {Q : State → Prop} {D : va_G} {tys : List (ClassId × FieldType)} {A : Nat → Prop} {e0 ca cells slots : Nat} {ad : li_ad} (F : mo_F p R s m args c cX7_strokesFor 5 D tys A e0 ca ad) {w : va_W} {am : Nat} {fs : List Value} {nh aC : Nat} {cR cI : ClassId} {gC : Nat → Option Nat} {h : Nat} {hc : Int32} (hm : w[0]? = some (am, .inr (13, fs))) (f16 : fs[16]? = some (.int (nI nh))) (f0 : fs[0]? = some (.ref aC)) (hC : w[1]? = some (aC, .inl (cR, 9, .inr (.inr (.inr (.inr gC)))))) (hrow : ∀ i, i < 9 → ∃ (rw9 q9 : Nat) (gR : Nat → Int32), gC i = some rw9 ∧ w[q9]? = some (rw9, .inl (cI, 7, .inl gR))) (ht5 : tys[5]? = some (cR, .array .int)) (ht0 : tys[0]? = some (cI, .int)) (hn1 : 1 ≤ nh) (hn9 : nh ≤ 9) (hh : h < 9)
    {H : Heap} {locs : List Loc} (hP : va_P D vwCl w H) (hS : va_S A s.heap H locs)
    (kk : ∀ (ls : Array Slot) (x : Int32), lv_has ls 5 [(0, .ref am), (1, .int hc), (3, .int x)] → W p l e R s m args below meth c H locs cells slots Q (F0 m 48 ls [])) :
    ∀ (d i : Nat), i + d = nh → ∀ (ls : Array Slot) (x : Int32), lv_has ls 5 [(4, .int (nI i)), (0, .ref am), (1, .int hc), (2, .int (nI h)), (3, .int x)] → W p l e R s m args below meth c H locs cells slots Q (F0 m 5 ls []) := by
  obtain ⟨hx, hb, hml, hts, hown, hK, hT, hL, hA, hRm⟩ := F
  intro d
  induction d with
  | zero =>
    intro i hi ls x hl
    refine lv_iload hx hb dj_X7_strokesFor_5 (lv_at hl 0 rfl) ?_
    refine lv_aload_n hx hb dj_X7_strokesFor_7 rfl (lv_at hl 1 rfl) ?_
    refine va_get (D := D) (ci := 13) (v := .int (nI nh)) (C := RX7) (T := TX7) (N := 31) hx hb hts uwj_X7 hown hK hP 0 hm rfl 16 (by decide) (hts _ cwj1514) (fun _ h9 => h9) f16 dj_X7_strokesFor_8 ?_
    refine lv_icmp_ge (tgt := 48) hx hb dj_X7_strokesFor_11 (by decide) (fun _ => ?_) (fun c9 => absurd (nI_le (a := nh) (b := i) (by omega) (by omega)) c9)
    exact kk ls x (lv_sub hl [1, 2, 4] rfl)
  | succ d ih =>
    intro i hi ls x hl
    refine lv_iload hx hb dj_X7_strokesFor_5 (lv_at hl 0 rfl) ?_
    refine lv_aload_n hx hb dj_X7_strokesFor_7 rfl (lv_at hl 1 rfl) ?_
    refine va_get (D := D) (ci := 13) (v := .int (nI nh)) (C := RX7) (T := TX7) (N := 31) hx hb hts uwj_X7 hown hK hP 0 hm rfl 16 (by decide) (hts _ cwj1514) (fun _ h9 => h9) f16 dj_X7_strokesFor_8 ?_
    refine lv_icmp_ge (tgt := 48) hx hb dj_X7_strokesFor_11 (by decide) (fun c9 => absurd c9 (nI_ge (a := i) (b := nh) (by omega) (by omega))) (fun _ => ?_)
    refine lv_iload_n hx hb dj_X7_strokesFor_14 rfl (lv_at hl 4 rfl) ?_
    refine lv_aload_n hx hb dj_X7_strokesFor_15 rfl (lv_at hl 1 rfl) ?_
    refine va_get (D := D) (ci := 13) (v := .ref aC) (C := RX7) (T := TX7) (N := 31) hx hb hts uwj_X7 hown hK hP 0 hm rfl 0 (by decide) (hts _ cwj1498) (fun _ h9 => h9) f0 dj_X7_strokesFor_16 ?_
    refine lv_iload hx hb dj_X7_strokesFor_19 (lv_at hl 0 rfl) ?_
    obtain ⟨rwa, qa, ga, ea, hra⟩ := hrow i (by omega)
    refine va_aldqA hx hb hK hP 1 5 hC ht5 (vp_in_nI (show i < 9 by omega) (by decide)) dj_X7_strokesFor_21 ?_
    rw [nI_clamp (show i < 2 ^ 31 by omega), ea]
    refine lv_iconst (v := 1) hx hb dj_X7_strokesFor_22 (by decide) ?_
    refine va_iald hx hb hK hP qa 0 hra ht0 (vp_in_nI (n := 1) (by decide) (by decide)) dj_X7_strokesFor_23 ?_
    refine lv_topi (fun va eva => ?_)
    refine lv_aload_n hx hb dj_X7_strokesFor_24 rfl (lv_at hl 1 rfl) ?_
    refine va_get (D := D) (ci := 13) (v := .ref aC) (C := RX7) (T := TX7) (N := 31) hx hb hts uwj_X7 hown hK hP 0 hm rfl 0 (by decide) (hts _ cwj1498) (fun _ h9 => h9) f0 dj_X7_strokesFor_25 ?_
    refine lv_iload_n hx hb dj_X7_strokesFor_28 rfl (lv_at hl 3 rfl) ?_
    obtain ⟨rwb, qb, gb, eb, hrb⟩ := hrow h (by omega)
    refine va_aldqA hx hb hK hP 1 5 hC ht5 (vp_in_nI (show h < 9 by omega) (by decide)) dj_X7_strokesFor_29 ?_
    rw [nI_clamp (show h < 2 ^ 31 by omega), eb]
    refine lv_iconst (v := 1) hx hb dj_X7_strokesFor_30 (by decide) ?_
    refine va_iald hx hb hK hP qb 0 hrb ht0 (vp_in_nI (n := 1) (by decide) (by decide)) dj_X7_strokesFor_31 ?_
    refine lv_topi (fun vb evb => ?_)
    refine lv_icmp_ge (tgt := 39) hx hb dj_X7_strokesFor_32 (by decide) (fun c9 => ?_) (fun c9 => ?_)
    · skip
      refine lv_iconst (v := 0) hx hb dj_X7_strokesFor_39 (by decide) ?_
      refine lv_iadd hx hb dj_X7_strokesFor_40 ?_
      refine lv_istore_n (lv' := [(3, .int (x + 0)), (4, .int (nI i)), (0, .ref am), (1, .int hc), (2, .int (nI h))]) hx hb dj_X7_strokesFor_41 rfl hl (by decide) rfl (fun ls hl => ?_)
      refine lv_iinc (v := nI (i + 1)) (lv' := [(4, .int (nI (i + 1))), (3, .int (x + 0)), (0, .ref am), (1, .int hc), (2, .int (nI h))]) hx hb dj_X7_strokesFor_42 hl (k := 1) rfl (nI_1 i) (by decide) rfl (fun ls hl => ?_)
      refine lv_goto (tgt := 5) hx hb dj_X7_strokesFor_45 (by decide) ?_
      exact ih (i + 1) (by omega) ls _ (lv_sub hl [0, 2, 3, 4, 1] rfl)
    · skip
      refine lv_iconst (v := 1) hx hb dj_X7_strokesFor_35 (by decide) ?_
      refine lv_goto (tgt := 40) hx hb dj_X7_strokesFor_36 (by decide) ?_
      refine lv_iadd hx hb dj_X7_strokesFor_40 ?_
      refine lv_istore_n (lv' := [(3, .int (x + 1)), (4, .int (nI i)), (0, .ref am), (1, .int hc), (2, .int (nI h))]) hx hb dj_X7_strokesFor_41 rfl hl (by decide) rfl (fun ls hl => ?_)
      refine lv_iinc (v := nI (i + 1)) (lv' := [(4, .int (nI (i + 1))), (3, .int (x + 1)), (0, .ref am), (1, .int hc), (2, .int (nI h))]) hx hb dj_X7_strokesFor_42 hl (k := 1) rfl (nI_1 i) (by decide) rfl (fun ls hl => ?_)
      refine lv_goto (tgt := 5) hx hb dj_X7_strokesFor_45 (by decide) ?_
      exact ih (i + 1) (by omega) ls _ (lv_sub hl [0, 2, 3, 4, 1] rfl)
set_option maxHeartbeats 4000000 in
theorem li_X7_strokesFor (l : Launch) (D : va_G) (tys : List (ClassId × FieldType)) (w : va_W) (sz e0 ca : Nat) (ad : li_ad) (hD0 : va_D (va_A w sz) w) (am : Nat) (fs : List Value) (nh aC : Nat) (cR cI : ClassId) (gC : Nat → Option Nat) (h : Nat) (hc : Int32) (hm : w[0]? = some (am, .inr (13, fs))) (f16 : fs[16]? = some (.int (nI nh))) (f0 : fs[0]? = some (.ref aC)) (hC : w[1]? = some (aC, .inl (cR, 9, .inr (.inr (.inr (.inr gC)))))) (hrow : ∀ i, i < 9 → ∃ (rw9 q9 : Nat) (gR : Nat → Int32), gC i = some rw9 ∧ w[q9]? = some (rw9, .inl (cI, 7, .inl gR))) (ht5 : tys[5]? = some (cR, .array .int)) (ht0 : tys[0]? = some (cI, .int)) (hn1 : 1 ≤ nh) (hn9 : nh ≤ 9) (hh : h < 9) : li_C l yX7_strokesFor cX7_strokesFor 5 (some .int) 8 0 0 0 [.ref am, .int hc, .int (nI h)] D tys w sz e0 ca ad (fun res w1 => w1 = w) := by
  refine Met.ofW (cc := cX7_strokesFor) (maxL := 5) (ret := (some .int)) (by decide +kernel) rfl ?_
  intro p e s m args below meth c s₁ B9 hml hv
  obtain ⟨rfl, ⟨hsz, hP, hK, hT⟩, hL⟩ := hv
  subst hsz
  have hx := B9.exec
  have hb := B9.bytes
  have hr := B9.returns
  have hlocks := B9.notSynchronized
  have hts0 := atoms_spec (ws := Cond.code yX7_strokesFor cX7_strokesFor 5 (some .int) :: en_cw) B9.pre
  have hts : ∀ z ∈ en_cw, z.before _ s = true := fun z hz => hts0 z (List.mem_cons_of_mem _ hz)
  have hown : s.vm.findClass RX7 = some m.cls := findClass_of_methodNamed B9.named
  have hA : ∀ q : Nat, s.heap.size ≤ q → va_A w s.heap.size q := fun q h => Or.inr h
  have hS : va_S (va_A w s.heap.size) s.heap s.heap [] := va_S.rf
  have hD : va_D (va_A w s.heap.size) w := ⟨hD0.1, fun j z hz => Or.inl ⟨j, z.2, hz⟩⟩
  have hR9 : li_R w w [] := li_R.rf
  have hl := lv_entry ([.ref am, .int hc, .int (nI h)]) (n := 5) (Nat.le_of_ble_eq_true rfl)
  rw [lg_entry_eq]
  generalize (lg_sl ([.ref am, .int hc, .int (nI h)]) ++ List.replicate (5 - (lg_sl ([.ref am, .int hc, .int (nI h)])).length) Slot.unset).toArray = ls at hl ⊢
  have hl : lv_has ls 5 [(0, .ref am), (1, .int hc), (2, .int (nI h))] := hl
  refine lv_iconst (v := 0) hx hb dj_X7_strokesFor_0 (by decide) ?_
  refine lv_istore_n (lv' := [(3, .int 0), (0, .ref am), (1, .int hc), (2, .int (nI h))]) hx hb dj_X7_strokesFor_1 rfl hl (by decide) rfl (fun ls hl => ?_)
  refine lv_iconst (v := 0) hx hb dj_X7_strokesFor_2 (by decide) ?_
  refine lv_istore (lv' := [(4, .int 0), (3, .int 0), (0, .ref am), (1, .int hc), (2, .int (nI h))]) hx hb dj_X7_strokesFor_3 hl (by decide) rfl (fun ls hl => ?_)
  refine sf_loop (R := (headSpec (Cond.code yX7_strokesFor cX7_strokesFor 5 (some .int) :: en_cw) (en_rm 8 (0, 0))).room) ⟨hx, hb, hml, hts, hown, hK, hT, hL, hA, Nat.le_of_ble_eq_true rfl, Nat.le_of_ble_eq_true rfl⟩ hm f16 f0 hC hrow ht5 ht0 hn1 hn9 hh hP hS (fun ls x hl => ?_) nh 0 (by omega) ls 0 (lv_sub hl [0, 2, 3, 4, 1] rfl)
  have hn0 : ¬ nI nh = 0 := fun e9 => by have := (nI_eq (show nh < 2 ^ 31 by omega) (show 0 < 2 ^ 31 by decide)).mp (show nI nh = nI 0 from e9); omega
  refine lv_iload_n hx hb dj_X7_strokesFor_48 rfl (lv_at hl 1 rfl) ?_
  refine lv_aload_n hx hb dj_X7_strokesFor_49 rfl (lv_at hl 0 rfl) ?_
  refine va_get (D := D) (ci := 13) (v := .int (nI nh)) (C := RX7) (T := TX7) (N := 31) hx hb hts uwj_X7 hown hK hP 0 hm rfl 16 (by decide) (hts _ cwj1514) (fun _ h9 => h9) f16 dj_X7_strokesFor_50 ?_
  refine lv_idiv hx hb dj_X7_strokesFor_53 hn0 ?_
  refine lv_topi (fun zidiv ezidiv => ?_)
  refine lv_iload_n hx hb dj_X7_strokesFor_54 rfl (lv_at hl 2 rfl) ?_
  refine lv_iload_n hx hb dj_X7_strokesFor_55 rfl (lv_at hl 1 rfl) ?_
  refine lv_aload_n hx hb dj_X7_strokesFor_56 rfl (lv_at hl 0 rfl) ?_
  refine va_get (D := D) (ci := 13) (v := .int (nI nh)) (C := RX7) (T := TX7) (N := 31) hx hb hts uwj_X7 hown hK hP 0 hm rfl 16 (by decide) (hts _ cwj1514) (fun _ h9 => h9) f16 dj_X7_strokesFor_57 ?_
  refine lv_irem hx hb dj_X7_strokesFor_60 hn0 ?_
  refine lv_topi (fun zirem ezirem => ?_)
  refine lv_icmp_ge (tgt := 68) hx hb dj_X7_strokesFor_61 (by decide) (fun c9 => ?_) (fun c9 => ?_)
  · skip
    refine lv_iconst (v := 0) hx hb dj_X7_strokesFor_68 (by decide) ?_
    refine lv_iadd hx hb dj_X7_strokesFor_69 ?_
    exact W.iret (v := (zidiv + 0)) hx hb hr (fun t ht hW9 => ⟨⟨(zidiv + 0), w, rfl, rfl, ⟨by rw [ht]; exact hP, hD⟩⟩, hS.F ht⟩) hS.2.2 dj_X7_strokesFor_70
  · skip
    refine lv_iconst (v := 1) hx hb dj_X7_strokesFor_64 (by decide) ?_
    refine lv_goto (tgt := 69) hx hb dj_X7_strokesFor_65 (by decide) ?_
    refine lv_iadd hx hb dj_X7_strokesFor_69 ?_
    exact W.iret (v := (zidiv + 1)) hx hb hr (fun t ht hW9 => ⟨⟨(zidiv + 1), w, rfl, rfl, ⟨by rw [ht]; exact hP, hD⟩⟩, hS.F ht⟩) hS.2.2 dj_X7_strokesFor_70
