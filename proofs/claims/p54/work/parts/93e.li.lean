theorem gj_X7_285 : li_CF RX7 RJx35411 285 li_hn yJx35411_hasNext_aae02 cJx35411_hasNext_aae02 1 (some .boolean) 0 := ⟨cw_g (cw_c cwj2039 (cw_c cwj2043 (cw_c cwj2045 (cw_c cwj105 (cw_c cwj2047 fun _ h => h))))), by decide, by decide, by decide +kernel⟩
theorem gj_X7_290 : li_CF RX7 RJx35411 290 li_nx yJx35411_next_0502b cJx35411_next_0502b 3 (some (.object "java/lang/Object")) 0 := ⟨cw_g (cw_c cwj2049 (cw_c cwj2052 (cw_c cwj2054 (cw_c cwj105 (cw_c cwj2056 fun _ h => h))))), by decide, by decide, by decide +kernel⟩
set_option maxHeartbeats 4000000 in
theorem mo_in {p : Program} {l : Launch} {e : Env} {R : Room} {s : State} {m : MethodId} {args : Array Value} {below : List Frame} {meth : Method} {c : Code} {Q : State → Prop} {D : va_G} {tys : List (ClassId × FieldType)} {A : Nat → Prop} {e0 ca t9 cells slots : Nat} {ad : li_ad} {cL : ClassId} (F : mo_F p R s m args c cX7_meanOf 5 D tys A e0 ca ad) (ht9 : tys[t9]? = some (cL, .object "java/lang/Object")) {w : va_W} {q1 qb la1 la0 ia j : Nat} {v : Int32} (hw : li_L w q1 qb la1 e0 cL ad j) (hj : j ≤ 20) (hD : va_D A w) (hcs : cells ≤ R.cells ∧ slots ≤ R.slots)
    (kk : ∀ (i : Nat) (H : Heap) (locs : List Loc) (ls : Array Slot), i ≤ j → va_P D vwCl w H → va_S A s.heap H locs → lv_has ls 5 [(4, .int (nI i)), (0, .ref la0), (1, .ref la1), (2, .ref ia), (3, .int v)] → W p l e R s m args below meth c H locs cells slots Q (F0 m 69 ls [])) :
    ∀ (d i : Nat), i + d = j → ∀ (H : Heap) (locs : List Loc) (ls : Array Slot), va_P D vwCl w H → va_S A s.heap H locs → lv_has ls 5 [(4, .int (nI i)), (0, .ref la0), (1, .ref la1), (2, .ref ia), (3, .int v)] → W p l e R s m args below meth c H locs cells slots Q (F0 m 38 ls []) := by
  obtain ⟨hx, hb, hml, hts, hown, hK, hT, hL, hA, hRm⟩ := F
  intro d
  induction d with
  | zero =>
    intro i hi H locs ls hP hS hl
    refine lv_iload hx hb dj_X7_meanOf_38 (lv_at hl 0 rfl) ?_
    refine lv_aload_n hx hb dj_X7_meanOf_40 rfl (lv_at hl 2 rfl) ?_
    refine li_cV (As := []) (rest := [.int (nI i)]) (lk_size (⟨hD.1, fun j z hz => Or.inl ⟨j, z.2, hz⟩⟩ : va_D (va_A w H.size) w) hw) gj_X7_297 (lk_rv hw hK hP) rfl ⟨by have := hRm.1; omega, by have := hRm.2; omega⟩ ⟨by omega, by omega⟩ (Nat.le_of_ble_eq_true rfl) hx hb (hml.trans hl.1.symm) hts hown hK hT hL hP hD hS hA dj_X7_meanOf_41 (fun res w9 H locs hrv hqq hP hD hS => ?_)
    obtain ⟨er, ew⟩ := hqq
    have ew := Eq.symm ew
    subst er
    subst ew
    refine lv_icmp_ge (tgt := 69) hx hb dj_X7_meanOf_44 (by decide) (fun _ => ?_) (fun c9 => absurd (nI_le (a := j) (b := i) (by omega) (by omega)) c9)
    exact kk i H locs ls (by omega) hP hS hl
  | succ d ih =>
    intro i hi H locs ls hP hS hl
    refine lv_iload hx hb dj_X7_meanOf_38 (lv_at hl 0 rfl) ?_
    refine lv_aload_n hx hb dj_X7_meanOf_40 rfl (lv_at hl 2 rfl) ?_
    refine li_cV (As := []) (rest := [.int (nI i)]) (lk_size (⟨hD.1, fun j z hz => Or.inl ⟨j, z.2, hz⟩⟩ : va_D (va_A w H.size) w) hw) gj_X7_297 (lk_rv hw hK hP) rfl ⟨by have := hRm.1; omega, by have := hRm.2; omega⟩ ⟨by omega, by omega⟩ (Nat.le_of_ble_eq_true rfl) hx hb (hml.trans hl.1.symm) hts hown hK hT hL hP hD hS hA dj_X7_meanOf_41 (fun res w9 H locs hrv hqq hP hD hS => ?_)
    obtain ⟨er, ew⟩ := hqq
    have ew := Eq.symm ew
    subst er
    subst ew
    refine lv_icmp_ge (tgt := 69) hx hb dj_X7_meanOf_44 (by decide) (fun c9 => absurd c9 (nI_ge (a := i) (b := j) (by omega) (by omega))) (fun _ => ?_)
    refine lv_aload_n hx hb dj_X7_meanOf_47 rfl (lv_at hl 2 rfl) ?_
    refine lv_iload hx hb dj_X7_meanOf_48 (lv_at hl 0 rfl) ?_
    refine li_cV (As := [.int (nI i)]) (rest := []) (lk_get (⟨hD.1, fun j z hz => Or.inl ⟨j, z.2, hz⟩⟩ : va_D (va_A w H.size) w) ht9 hw (i := i) (by omega)) gj_X7_300 (lk_rv hw hK hP) rfl ⟨by have := hRm.1; omega, by have := hRm.2; omega⟩ ⟨by omega, by omega⟩ (Nat.le_of_ble_eq_true rfl) hx hb (hml.trans hl.1.symm) hts hown hK hT hL hP hD hS hA dj_X7_meanOf_50 (fun res w9 H locs hrv hqq hP hD hS => ?_)
    obtain ⟨y, er, hy, ew⟩ := hqq
    have ew := Eq.symm ew
    subst er
    subst ew
    refine va_castS hx hb hown (hts _ cwj2003) (hK.1 2 _ rfl).2 (li_xr (hy) hK hL hP hS) dj_X7_meanOf_53 ?_
    refine li_cV (As := []) (rest := []) (lk_intValue (⟨hD.1, fun j z hz => Or.inl ⟨j, z.2, hz⟩⟩ : va_D (va_A w H.size) w) (hy)) gj_X7_294 (li_xr (hy) hK hL hP hS) rfl ⟨by have := hRm.1; omega, by have := hRm.2; omega⟩ ⟨by omega, by omega⟩ (Nat.le_of_ble_eq_true rfl) hx hb (hml.trans hl.1.symm) hts hown hK hT hL hP hD hS hA dj_X7_meanOf_56 (fun res w9 H locs hrv hqq hP hD hS => ?_)
    obtain ⟨r9, rfl⟩ := hrv
    have ew := Eq.symm hqq
    subst ew
    refine lv_iload_n hx hb dj_X7_meanOf_59 rfl (lv_at hl 4 rfl) ?_
    refine lv_icmp_ge (tgt := 69) hx hb dj_X7_meanOf_60 (by decide) (fun _ => ?_) (fun _ => ?_)
    · exact kk i H locs ls (by omega) hP hS hl
    · refine lv_iinc (v := nI (i + 1)) (lv' := [(4, .int (nI (i + 1))), (0, .ref la0), (1, .ref la1), (2, .ref ia), (3, .int v)]) hx hb dj_X7_meanOf_63 hl (k := 0) rfl (nI_1 i) (by decide) rfl (fun ls hl => ?_)
      refine lv_goto (tgt := 38) hx hb dj_X7_meanOf_66 (by decide) ?_
      exact ih (i + 1) (by omega) H locs ls hP hS hl
set_option maxHeartbeats 4000000 in
theorem mo_out {p : Program} {l : Launch} {e : Env} {R : Room} {s : State} {m : MethodId} {args : Array Value} {below : List Frame} {meth : Method} {c : Code} {Q : State → Prop} {D : va_G} {tys : List (ClassId × FieldType)} {A : Nat → Prop} {e0 ca t9 cells slots : Nat} {ad : li_ad} {cL : ClassId} (F : mo_F p R s m args c cX7_meanOf 5 D tys A e0 ca ad) (ht9 : tys[t9]? = some (cL, .object "java/lang/Object")) {w0 : va_W} {q0 qa0 la0 ra0 n0 N0 la1 ia q1 qi : Nat} {mc0 : Int32} {f0 : Nat → Option Nat} (hq0 : w0[q0]? = some (la0, .inr (5, [.int mc0, .ref ra0, .int (nI n0)]))) (ha0 : w0[qa0]? = some (ra0, .inl (cL, N0, .inr (.inr (.inr (.inr f0)))))) (hE0 : li_E w0 ad n0 f0) (hn0 : n0 ≤ N0) (hN0 : N0 < 1000) (hn20 : n0 ≤ 20) (hkd : ∀ q, w0.length ≤ q → ad.2 q) (hl1 : w0.length ≤ q1) (hli : w0.length ≤ qi) (hne : q1 ≠ qi) (hcs : cells + 2 * n0 ≤ R.cells ∧ slots + 23 * n0 ≤ R.slots)
    (kk : ∀ (w : va_W) (H : Heap) (locs : List Loc) (ls : Array Slot) (qb : Nat), li_R w0 w [] → li_L w q1 qb la1 e0 cL ad n0 → va_P D vwCl w H → va_D A w → va_S A s.heap H locs → lv_has ls 5 [(0, .ref la0), (1, .ref la1), (2, .ref ia)] → W p l e R s m args below meth c H locs (cells + 2 * n0) (slots + 23 * n0) Q (F0 m 82 ls [])) :
    ∀ (d j : Nat), j + d = n0 → ∀ (w : va_W) (H : Heap) (locs : List Loc) (ls : Array Slot) (qb : Nat) (lr : Int32), li_R w0 w [] → li_L w q1 qb la1 e0 cL ad j → li_nb w qb → qb < w.length → w0.length ≤ qb → qb ≠ qi → w[qi]? = some (ia, .inr (4, [.int (nI j), .int lr, .int mc0, .ref la0])) → va_P D vwCl w H → va_D A w → va_S A s.heap H locs → lv_has ls 5 [(0, .ref la0), (1, .ref la1), (2, .ref ia)] → W p l e R s m args below meth c H locs (cells + 2 * j) (slots + 23 * j) Q (F0 m 13 ls []) := by
  have F9 := F
  obtain ⟨hx, hb, hml, hts, hown, hK, hT, hL, hA, hRm⟩ := F
  intro d
  induction d with
  | zero =>
    intro j hj w H locs ls qb lr hR0 hw hnq hlb hlq hqi hi hP hD hS hl
    refine lv_aload_n hx hb dj_X7_meanOf_13 rfl (lv_at hl 2 rfl) ?_
    refine li_cF (As := []) (rest := []) (li_Jx35411_hasNext_aae02 l D tys w _ e0 ca ad (⟨hD.1, fun j z hz => Or.inl ⟨j, z.2, hz⟩⟩ : va_D (va_A w H.size) w) qi ia q0 la0 ra0 n0 j mc0 lr hi (hR0.at hq0 (by simp)) (by omega) (by omega)) gj_X7_285 hL.2.2.2.2.2.2.2.2.1 (hK.1 4 _ rfl).2 (va_recv hK hP (ci := 4) (q0 := qi) rfl hi) rfl ⟨by have := hRm.1; omega, by have := hRm.2; omega⟩ ⟨by omega, by omega⟩ (Nat.le_of_ble_eq_true rfl) hx hb (hml.trans hl.1.symm) hts hown hK hT hL hP hD hS hA dj_X7_meanOf_14 (fun res w9 H locs hrv hqq hP hD hS => ?_)
    obtain ⟨er, ew⟩ := hqq
    have ew := Eq.symm ew
    subst er
    subst ew
    have e9 : j = n0 := by omega
    subst e9
    rw [if_pos rfl]
    refine lv_if_eq (tgt := 82) hx hb dj_X7_meanOf_19 (by decide) (fun _ => ?_) (fun c9 => absurd rfl c9)
    exact kk w H locs ls qb hR0 hw hP hD hS hl
  | succ d ih =>
    intro j hj w H locs ls qb lr hR0 hw hnq hlb hlq hqi hi hP hD hS hl
    refine lv_aload_n hx hb dj_X7_meanOf_13 rfl (lv_at hl 2 rfl) ?_
    refine li_cF (As := []) (rest := []) (li_Jx35411_hasNext_aae02 l D tys w _ e0 ca ad (⟨hD.1, fun j z hz => Or.inl ⟨j, z.2, hz⟩⟩ : va_D (va_A w H.size) w) qi ia q0 la0 ra0 n0 j mc0 lr hi (hR0.at hq0 (by simp)) (by omega) (by omega)) gj_X7_285 hL.2.2.2.2.2.2.2.2.1 (hK.1 4 _ rfl).2 (va_recv hK hP (ci := 4) (q0 := qi) rfl hi) rfl ⟨by have := hRm.1; omega, by have := hRm.2; omega⟩ ⟨by omega, by omega⟩ (Nat.le_of_ble_eq_true rfl) hx hb (hml.trans hl.1.symm) hts hown hK hT hL hP hD hS hA dj_X7_meanOf_14 (fun res w9 H locs hrv hqq hP hD hS => ?_)
    obtain ⟨er, ew⟩ := hqq
    have ew := Eq.symm ew
    subst er
    subst ew
    rw [if_neg (show ¬ j = n0 by omega)]
    refine lv_if_eq (tgt := 82) hx hb dj_X7_meanOf_19 (by decide) (fun c9 => absurd c9 (by decide)) (fun _ => ?_)
    obtain ⟨y, hf, hy⟩ := hE0 j (by omega)
    refine lv_aload_n hx hb dj_X7_meanOf_22 rfl (lv_at hl 2 rfl) ?_
    refine li_cF (As := []) (rest := []) (li_Jx35411_next_0502b l D tys w _ e0 ca ad (⟨hD.1, fun j z hz => Or.inl ⟨j, z.2, hz⟩⟩ : va_D (va_A w H.size) w) qi ia q0 qa0 la0 ra0 n0 N0 j y mc0 lr f0 cL t9 hi (hR0.at hq0 (by simp)) (hR0.at ha0 (by simp)) ht9 (by omega) hn0 hN0 hf) gj_X7_290 hL.2.2.2.2.2.2.2.2.2.1 (hK.1 4 _ rfl).2 (va_recv hK hP (ci := 4) (q0 := qi) rfl hi) rfl ⟨by have := hRm.1; omega, by have := hRm.2; omega⟩ ⟨by omega, by omega⟩ (Nat.le_of_ble_eq_true rfl) hx hb (hml.trans hl.1.symm) hts hown hK hT hL hP hD hS hA dj_X7_meanOf_23 (fun res w9 H locs hrv hqq hP hD hS => ?_)
    obtain ⟨er, hi2, hlen2, hR2⟩ := hqq
    subst er
    have hnbi : ∀ z ∈ [qi], li_nb w z := fun z hz => by rw [List.mem_singleton.mp hz]; exact li_nbi hi
    have hw2 := hw.st hR2 hnbi (by simp; exact hne) (by simp; exact hqi)
    have hR3 := hR0.nw hR2 (by simp; exact hli)
    have hnq2 : li_nb w9 qb := li_nbs hnq hR2 hlb (by simp; exact hqi)
    have hlb2 : qb < w9.length := Nat.lt_of_lt_of_le hlb hR2.1
    have hy2 := hy.st hR3 (by simp)
    refine va_castS hx hb hown (hts _ cwj2003) (hK.1 2 _ rfl).2 (li_xr (hy2) hK hL hP hS) dj_X7_meanOf_28 ?_
    refine li_cV (As := []) (rest := []) (lk_intValue (⟨hD.1, fun j z hz => Or.inl ⟨j, z.2, hz⟩⟩ : va_D (va_A w9 H.size) w9) (hy2)) gj_X7_294 (li_xr (hy2) hK hL hP hS) rfl ⟨by have := hRm.1; omega, by have := hRm.2; omega⟩ ⟨by omega, by omega⟩ (Nat.le_of_ble_eq_true rfl) hx hb (hml.trans hl.1.symm) hts hown hK hT hL hP hD hS hA dj_X7_meanOf_31 (fun res w9 H locs hrv hqq hP hD hS => ?_)
    obtain ⟨v9, rfl⟩ := hrv
    have ew := Eq.symm hqq
    subst ew
    refine lv_istore_n (lv' := [(3, .int v9), (0, .ref la0), (1, .ref la1), (2, .ref ia)]) hx hb dj_X7_meanOf_34 rfl hl (by decide) rfl (fun ls hl => ?_)
    refine lv_iconst (v := 0) hx hb dj_X7_meanOf_35 (by decide) ?_
    refine lv_istore (lv' := [(4, .int 0), (3, .int v9), (0, .ref la0), (1, .ref la1), (2, .ref ia)]) hx hb dj_X7_meanOf_36 hl (by decide) rfl (fun ls hl => ?_)
    refine mo_in F9 ht9 hw2 (by omega) hD ⟨by omega, by omega⟩ (fun i H locs ls hij hP hS hl => ?_) j 0 (by omega) H locs ls hP hS (lv_sub hl [0, 2, 3, 4, 1] rfl)
    refine lv_aload_n hx hb dj_X7_meanOf_69 rfl (lv_at hl 2 rfl) ?_
    refine lv_iload hx hb dj_X7_meanOf_70 (lv_at hl 0 rfl) ?_
    refine lv_iload_n hx hb dj_X7_meanOf_72 rfl (lv_at hl 4 rfl) ?_
    refine li_cS (As := [.int v9]) (rest := [.int (nI i), .ref la1]) (li_J6_valueOf_2dffe l D tys w9 _ e0 ca ad (⟨hD.1, fun j z hz => Or.inl ⟨j, z.2, hz⟩⟩ : va_D (va_A w9 H.size) w9) v9 (hkd _ hR3.1)) gj_X7_304 rfl ⟨by have := hRm.1; omega, by have := hRm.2; omega⟩ ⟨by omega, by omega⟩ (Nat.le_of_ble_eq_true rfl) hx hb (hml.trans hl.1.symm) hts hown hK hT hL hP hD hS hA dj_X7_meanOf_73 (fun res w10 H locs hrv hqq hP hD hS => ?_)
    obtain ⟨y2, er, hyy, hlen3, hR4⟩ := hqq
    subst er
    have hw3 := hw2.st hR4 (by simp) (by simp) (by simp)
    have hnq3 : li_nb w10 qb := li_nbs hnq2 hR4 hlb2 (by simp)
    refine li_cV (As := [.int (nI i), .ref y2]) (rest := []) (lk_ins (⟨hD.1, fun j z hz => Or.inl ⟨j, z.2, hz⟩⟩ : va_D (va_A w10 H.size) w10) ht9 hw3 hnq3 (by omega) (i := i) hij hyy) gj_X7_308 (lk_rv hw3 hK hP) rfl ⟨by have := hRm.1; omega, by have := hRm.2; omega⟩ ⟨by omega, by omega⟩ (Nat.le_of_ble_eq_true rfl) hx hb (hml.trans hl.1.symm) hts hown hK hT hL hP hD hS hA dj_X7_meanOf_76 (fun res w11 H locs hrv hqq hP hD hS => ?_)
    obtain ⟨qb2, hw4, hqb2, hlen4, hR5⟩ := hqq
    obtain rfl := (show res = none from hrv)
    refine lv_goto (tgt := 13) hx hb dj_X7_meanOf_79 (by decide) ?_
    refine W.widen (k := cells + 2 * (j + 1)) (n := slots + 23 * (j + 1)) (by omega) (by omega) ?_
    have hqi10 := hR4.at hi2 (by simp)
    have hlt10 := (List.getElem?_eq_some_iff.mp hqi10).1
    have hl0 := hR3.1
    have hl4 := hR4.1
    exact ih (j + 1) (by omega) w11 H locs ls qb2 (nI j) ((hR3.nw hR4 (by simp)).nw hR5 (by simp; exact ⟨hl1, hlq⟩)) hw4 hw4.nba hw4.lta (by rcases hqb2 with e9 | e9 <;> omega) (by rcases hqb2 with e9 | e9 <;> omega) (hR5.at hqi10 (by simp; exact ⟨fun e9 => hne e9.symm, fun e9 => hqi e9.symm⟩)) hP hD hS (lv_sub hl [1, 2, 3] rfl)
set_option maxHeartbeats 4000000 in
theorem mo_sum {p : Program} {l : Launch} {e : Env} {R : Room} {s : State} {m : MethodId} {args : Array Value} {below : List Frame} {meth : Method} {c : Code} {Q : State → Prop} {D : va_G} {tys : List (ClassId × FieldType)} {A : Nat → Prop} {e0 ca t9 cells slots : Nat} {ad : li_ad} {cL : ClassId} (F : mo_F p R s m args c cX7_meanOf 5 D tys A e0 ca ad) (ht9 : tys[t9]? = some (cL, .object "java/lang/Object")) {w : va_W} {q1 qb la1 n k : Nat} (hw : li_L w q1 qb la1 e0 cL ad n) (hk : k ≤ n) (hn : n ≤ 20) (hD : va_D A w) (hcs : cells ≤ R.cells ∧ slots ≤ R.slots)
    (kk : ∀ (H : Heap) (locs : List Loc) (ls : Array Slot) (x : Int32), va_P D vwCl w H → va_S A s.heap H locs → lv_has ls 5 [(3, .int x), (2, .int (nI k))] → W p l e R s m args below meth c H locs cells slots Q (F0 m 122 ls [])) :
    ∀ (d i : Nat), i + d = k → ∀ (H : Heap) (locs : List Loc) (ls : Array Slot) (x : Int32), va_P D vwCl w H → va_S A s.heap H locs → lv_has ls 5 [(4, .int (nI i)), (3, .int x), (1, .ref la1), (2, .int (nI k))] → W p l e R s m args below meth c H locs cells slots Q (F0 m 95 ls []) := by
  obtain ⟨hx, hb, hml, hts, hown, hK, hT, hL, hA, hRm⟩ := F
  intro d
  induction d with
  | zero =>
    intro i hi H locs ls x hP hS hl
    refine lv_iload hx hb dj_X7_meanOf_95 (lv_at hl 0 rfl) ?_
    refine lv_iload_n hx hb dj_X7_meanOf_97 rfl (lv_at hl 3 rfl) ?_
    refine lv_icmp_ge (tgt := 122) hx hb dj_X7_meanOf_98 (by decide) (fun _ => ?_) (fun c9 => absurd (nI_le (a := k) (b := i) (by omega) (by omega)) c9)
    exact kk H locs ls x hP hS (lv_sub hl [1, 3] rfl)
  | succ d ih =>
    intro i hi H locs ls x hP hS hl
    refine lv_iload hx hb dj_X7_meanOf_95 (lv_at hl 0 rfl) ?_
    refine lv_iload_n hx hb dj_X7_meanOf_97 rfl (lv_at hl 3 rfl) ?_
    refine lv_icmp_ge (tgt := 122) hx hb dj_X7_meanOf_98 (by decide) (fun c9 => absurd c9 (nI_ge (a := i) (b := k) (by omega) (by omega))) (fun _ => ?_)
    refine lv_iload_n hx hb dj_X7_meanOf_101 rfl (lv_at hl 1 rfl) ?_
    refine lv_aload_n hx hb dj_X7_meanOf_102 rfl (lv_at hl 2 rfl) ?_
    refine lv_iload hx hb dj_X7_meanOf_103 (lv_at hl 0 rfl) ?_
    refine li_cV (As := [.int (nI i)]) (rest := [.int x]) (lk_get (⟨hD.1, fun j z hz => Or.inl ⟨j, z.2, hz⟩⟩ : va_D (va_A w H.size) w) ht9 hw (i := i) (by omega)) gj_X7_300 (lk_rv hw hK hP) rfl ⟨by have := hRm.1; omega, by have := hRm.2; omega⟩ ⟨by omega, by omega⟩ (Nat.le_of_ble_eq_true rfl) hx hb (hml.trans hl.1.symm) hts hown hK hT hL hP hD hS hA dj_X7_meanOf_105 (fun res w9 H locs hrv hqq hP hD hS => ?_)
    obtain ⟨y, er, hy, ew⟩ := hqq
    have ew := Eq.symm ew
    subst er
    subst ew
    refine va_castS hx hb hown (hts _ cwj2003) (hK.1 2 _ rfl).2 (li_xr (hy) hK hL hP hS) dj_X7_meanOf_108 ?_
    refine li_cV (As := []) (rest := [.int x]) (lk_intValue (⟨hD.1, fun j z hz => Or.inl ⟨j, z.2, hz⟩⟩ : va_D (va_A w H.size) w) (hy)) gj_X7_294 (li_xr (hy) hK hL hP hS) rfl ⟨by have := hRm.1; omega, by have := hRm.2; omega⟩ ⟨by omega, by omega⟩ (Nat.le_of_ble_eq_true rfl) hx hb (hml.trans hl.1.symm) hts hown hK hT hL hP hD hS hA dj_X7_meanOf_111 (fun res w9 H locs hrv hqq hP hD hS => ?_)
    obtain ⟨r9, rfl⟩ := hrv
    have ew := Eq.symm hqq
    subst ew
    refine lv_iadd hx hb dj_X7_meanOf_114 ?_
    refine lv_istore_n (lv' := [(3, .int (x + r9)), (4, .int (nI i)), (1, .ref la1), (2, .int (nI k))]) hx hb dj_X7_meanOf_115 rfl hl (by decide) rfl (fun ls hl => ?_)
    refine lv_iinc (v := nI (i + 1)) (lv' := [(4, .int (nI (i + 1))), (3, .int (x + r9)), (1, .ref la1), (2, .int (nI k))]) hx hb dj_X7_meanOf_116 hl (k := 1) rfl (nI_1 i) (by decide) rfl (fun ls hl => ?_)
    refine lv_goto (tgt := 95) hx hb dj_X7_meanOf_119 (by decide) ?_
    exact ih (i + 1) (by omega) H locs ls _ hP hS (lv_sub hl [0, 1, 2, 3] rfl)
