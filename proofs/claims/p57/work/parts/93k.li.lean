set_option maxHeartbeats 4000000 in
theorem li_X7_post (l : Launch) (D : va_G) (tys : List (ClassId × FieldType)) (w : va_W) (sz e0 ca : Nat) (ad : li_ad) (hD0 : va_D (va_A w sz) w) (am : Nat) (fs : List Value) (a1 a2 a3 : Int32) (B : List Nat) (cL cI cZ cR : ClassId) (nh : Nat) (xp x29 : Int32) (aC aHc aWr aS aO aP aIx aLo aD pHc pWr pS pO pP pIx pLo : Nat) (la qa nn : Nat → Nat) (t9 : Nat) (hm : w[0]? = some (am, .inr (13, fs))) (ht0 : tys[0]? = some (cI, .int)) (ht2 : tys[2]? = some (cZ, .boolean)) (ht5 : tys[5]? = some (cR, .array .int)) (ht9 : tys[t9]? = some (cL, .object "java/lang/Object")) (hf : po_fs fs nh xp x29 aC aHc aWr aS aO aP aIx aLo aD) (hc : po_c w w.length B cL cI cZ cR nh aC aHc aWr aS aO aP aIx aLo aD pHc pWr pS pO pP pIx pLo la) (hxp : 0 ≤ xp.toInt ∧ xp.toInt ≤ 6) (hn9 : nh ≤ 9) (hB : po_B w.length B pHc pWr pS pO) (hBB : ∀ z ∈ [0, pIx, pLo, pP], z ∈ B ∧ z < w.length) (hd1 : pIx ≠ pLo ∧ pIx ≠ pP ∧ pLo ≠ pP ∧ pIx ≠ 0 ∧ pLo ≠ 0 ∧ pP ≠ 0) (hLs : po_L w B e0 cL ad la qa nn) (hneq : ∀ j, j < 6 → ∀ z ∈ [0, pIx, pLo, pP], z ∉ [21 + j, qa j]) (hqw : ∀ j, j < 6 → qa j < w.length) (hkd : ∀ z, w.length ≤ z → ad.2 z) : li_C l yX7_post cX7_post 11 (some .int) 9 80 900 0 [.ref am, .int a1, .int a2, .int a3] D tys w sz e0 ca ad (fun res w1 => po_Q w am fs pIx pLo pP e0 cL ad la qa (fun w1 => po_c w1 w.length B cL cI cZ cR nh aC aHc aWr aS aO aP aIx aLo aD pHc pWr pS pO pP pIx pLo la) w1) := by
  refine Met.ofW (cc := cX7_post) (maxL := 11) (ret := (some .int)) (by decide +kernel) rfl ?_
  intro p e s m args below meth c s₁ B9 hml hv
  obtain ⟨rfl, ⟨hsz, hP, hK, hT⟩, hL⟩ := hv
  subst hsz
  have hx := B9.exec
  have hb := B9.bytes
  have hr := B9.returns
  have hlocks := B9.notSynchronized
  have hts0 := atoms_spec (ws := Cond.code yX7_post cX7_post 11 (some .int) :: en_cw) B9.pre
  have hts : ∀ z ∈ en_cw, z.before _ s = true := fun z hz => hts0 z (List.mem_cons_of_mem _ hz)
  have hown : s.vm.findClass RX7 = some m.cls := findClass_of_methodNamed B9.named
  have hA : ∀ q : Nat, s.heap.size ≤ q → va_A w s.heap.size q := fun q h => Or.inr h
  have hS : va_S (va_A w s.heap.size) s.heap s.heap [] := va_S.rf
  have hD : va_D (va_A w s.heap.size) w := ⟨hD0.1, fun j z hz => Or.inl ⟨j, z.2, hz⟩⟩
  have hR9 : li_R w w [] := li_R.rf
  have hl := lv_entry ([.ref am, .int a1, .int a2, .int a3]) (n := 11) (Nat.le_of_ble_eq_true rfl)
  rw [lg_entry_eq]
  generalize (lg_sl ([.ref am, .int a1, .int a2, .int a3]) ++ List.replicate (11 - (lg_sl ([.ref am, .int a1, .int a2, .int a3])).length) Slot.unset).toArray = ls at hl ⊢
  have hl : lv_has ls 11 [(0, .ref am), (1, .int a1), (2, .int a2), (3, .int a3)] := hl
  have F9 : mo_F p (en_rm 9 (80, 900)) s m _ c cX7_post 11 D tys (va_A w s.heap.size) e0 ca ad := ⟨hx, hb, hml, hts, hown, hK, hT, hL, hA, Nat.le_of_ble_eq_true rfl, Nat.le_of_ble_eq_true rfl⟩
  have h30 : 30 < fs.length := by rw [hf.1]; decide
  have hB0 : ∀ p, po_ok w.length B p → p ∉ [0] := fun p h h0 => h.2 (by rw [List.mem_singleton.mp h0]; exact (hBB 0 (by simp)).1)
  have hI0 : pP ∉ [0] ∧ pIx ∉ [0] ∧ pLo ∉ [0] := by simp; exact ⟨hd1.2.2.2.2.2, hd1.2.2.2.1, hd1.2.2.2.2.1⟩
  refine lv_aload_n hx hb dj_X7_post_0 rfl (lv_at hl 0 rfl) ?_
  refine lv_aload_n hx hb dj_X7_post_1 rfl (lv_at hl 0 rfl) ?_
  refine lv_iload_n hx hb dj_X7_post_2 rfl (lv_at hl 1 rfl) ?_
  refine li_cV (As := [.int a1]) (rest := [.ref am]) (li_X7_isNoPlayer l D tys w _ e0 ca ad (⟨hD.1, fun j z hz => Or.inl ⟨j, z.2, hz⟩⟩ : va_D (va_A w s.heap.size) w) am fs a1 xp hm hf.2.1.2.1 hxp) gj_X7_132 (va_recv hK hP (ci := 13) (q0 := 0) rfl hm) rfl ⟨Nat.le_of_ble_eq_true rfl, Nat.le_of_ble_eq_true rfl⟩ ⟨by show _ ≤ 80; omega, by show _ ≤ 900; omega⟩ (Nat.le_of_ble_eq_true rfl) hx hb (hml.trans hl.1.symm) hts hown hK hT hL hP hD hS hA dj_X7_post_3 (fun res w9 H locs hrv hqq hP hD hS => ?_)
  obtain ⟨ew, hq⟩ := hqq
  have ew := Eq.symm ew
  subst ew
  rcases hq with ⟨er, h1, h2⟩ | er
  · subst er
    refine lv_iconst (v := 1) hx hb dj_X7_post_6 (by decide) ?_
    refine li_cV (As := [.int 0, .int 1]) (rest := []) (li_X7_isThrown l D tys w _ e0 ca ad (⟨hD.1, fun j z hz => Or.inl ⟨j, z.2, hz⟩⟩ : va_D (va_A w H.size) w) am fs 0 1 hm h30 (by simp)) gj_X7_110 (va_recv hK hP (ci := 13) (q0 := 0) rfl hm) rfl ⟨Nat.le_of_ble_eq_true rfl, Nat.le_of_ble_eq_true rfl⟩ ⟨by show _ ≤ 80; omega, by show _ ≤ 900; omega⟩ (Nat.le_of_ble_eq_true rfl) hx hb (hml.trans hl.1.symm) hts hown hK hT hL hP hD hS hA dj_X7_post_7 (fun res w61 H locs hrv hqq hP hD hS => ?_)
    obtain ⟨er, ⟨fs61, hm61, hf61, hfl61, ht61⟩, hlen61, hRt61⟩ := hqq
    subst er
    have hR61 : li_R w w61 [0] := hRt61
    have hF61 : ∀ j, j ≠ 30 → fs61[j]? = fs[j]? := hf61
    have hG61 : fs61.length = fs.length := hfl61
    have hfs61 := hf.st hF61 hG61
    have h3061 : 30 < fs61.length := by rw [hfs61.1]; decide
    refine lv_if_ne (tgt := 80) hx hb dj_X7_post_10 (by decide) (fun c9 => absurd rfl c9) (fun _ => ?_)
    obtain ⟨j, hj, ej⟩ := vp_in_of (vp_in_iff.mpr ⟨h1, by show a1.toInt < ((6 : Nat) : Int); omega⟩ : vp_in a1 6) (by decide)
    subst ej
    refine lv_aload_n hx hb dj_X7_post_13 rfl (lv_at hl 0 rfl) ?_
    refine lv_iload_n hx hb dj_X7_post_14 rfl (lv_at hl 2 rfl) ?_
    refine lv_bipush (v := 100) hx hb dj_X7_post_15 (by decide) ?_
    refine lv_sipush (v := 800) hx hb dj_X7_post_17 (by decide) ?_
    refine li_cS (As := [.int a2, .int 100, .int 800]) (rest := [.ref am]) (li_X7_isIn l D tys w61 _ e0 ca ad (⟨hD.1, fun j z hz => Or.inl ⟨j, z.2, hz⟩⟩ : va_D (va_A w61 H.size) w61) a2 100 800) gj_X7_82 rfl ⟨Nat.le_of_ble_eq_true rfl, Nat.le_of_ble_eq_true rfl⟩ ⟨by show _ ≤ 80; omega, by show _ ≤ 900; omega⟩ (Nat.le_of_ble_eq_true rfl) hx hb (hml.trans hl.1.symm) hts hown hK hT hL hP hD hS hA dj_X7_post_20 (fun res w9 H locs hrv hqq hP hD hS => ?_)
    obtain ⟨ew, hq⟩ := hqq
    have ew := Eq.symm ew
    subst ew
    rcases hq with ⟨er, k1, k2⟩ | er
    · subst er
      refine lv_if_eq (tgt := 38) hx hb dj_X7_post_23 (by decide) (fun c9 => absurd c9 (by decide)) (fun _ => ?_)
      refine lv_iload_n hx hb dj_X7_post_26 rfl (lv_at hl 3 rfl) ?_
      refine lv_bipush (v := 55) hx hb dj_X7_post_27 (by decide) ?_
      refine lv_sipush (v := 155) hx hb dj_X7_post_29 (by decide) ?_
      refine li_cS (As := [.int a3, .int 55, .int 155]) (rest := [.ref am]) (li_X7_isIn l D tys w61 _ e0 ca ad (⟨hD.1, fun j z hz => Or.inl ⟨j, z.2, hz⟩⟩ : va_D (va_A w61 H.size) w61) a3 55 155) gj_X7_82 rfl ⟨Nat.le_of_ble_eq_true rfl, Nat.le_of_ble_eq_true rfl⟩ ⟨by show _ ≤ 80; omega, by show _ ≤ 900; omega⟩ (Nat.le_of_ble_eq_true rfl) hx hb (hml.trans hl.1.symm) hts hown hK hT hL hP hD hS hA dj_X7_post_32 (fun res w9 H locs hrv hqq hP hD hS => ?_)
      obtain ⟨ew, hq⟩ := hqq
      have ew := Eq.symm ew
      subst ew
      rcases hq with ⟨er, m1, m2⟩ | er
      · subst er
        refine lv_if_ne (tgt := 42) hx hb dj_X7_post_35 (by decide) (fun _ => ?_) (fun c9 => absurd c9 (by decide))
        refine lv_iconst (v := 0) hx hb dj_X7_post_42 (by decide) ?_
        refine lv_iconst (v := 2) hx hb dj_X7_post_43 (by decide) ?_
        refine li_cV (As := [.int 0, .int 2]) (rest := []) (li_X7_isThrown l D tys w61 _ e0 ca ad (⟨hD.1, fun j z hz => Or.inl ⟨j, z.2, hz⟩⟩ : va_D (va_A w61 H.size) w61) am fs61 0 2 hm61 h3061 (by simp)) gj_X7_110 (va_recv hK hP (ci := 13) (q0 := 0) rfl hm61) rfl ⟨Nat.le_of_ble_eq_true rfl, Nat.le_of_ble_eq_true rfl⟩ ⟨by show _ ≤ 80; omega, by show _ ≤ 900; omega⟩ (Nat.le_of_ble_eq_true rfl) hx hb (hml.trans hl.1.symm) hts hown hK hT hL hP hD hS hA dj_X7_post_44 (fun res w62 H locs hrv hqq hP hD hS => ?_)
        obtain ⟨er, ⟨fs62, hm62, hf62, hfl62, ht62⟩, hlen62, hRt62⟩ := hqq
        subst er
        have hR62 : li_R w w62 [0] := hR61.tr hRt62
        have hF62 : ∀ j, j ≠ 30 → fs62[j]? = fs[j]? := fun j hj => (hf62 j hj).trans (hF61 j hj)
        have hG62 : fs62.length = fs.length := hfl62.trans hG61
        have hfs62 := hf.st hF62 hG62
        have h3062 : 30 < fs62.length := by rw [hfs62.1]; decide
        refine lv_if_ne (tgt := 80) hx hb dj_X7_post_47 (by decide) (fun c9 => absurd rfl c9) (fun _ => ?_)
        refine lv_aload_n hx hb dj_X7_post_50 rfl (lv_at hl 0 rfl) ?_
        refine lv_aload_n hx hb dj_X7_post_51 rfl (lv_at hl 0 rfl) ?_
        refine lv_iload_n hx hb dj_X7_post_52 rfl (lv_at hl 1 rfl) ?_
        obtain ⟨-, -, -, ⟨gS, hS9, hS8⟩, ⟨gO, hO9, -⟩, ⟨gP, hP9, -⟩, -⟩ := hc.st hB hR62 hB0 hI0
        obtain ⟨-, -, -, -, -, f8, f9, f10, -⟩ := id hfs62
        refine li_cV (As := [.int (nI j)]) (rest := [.ref am]) (li_X7_isRanked l D tys w62 _ e0 ca ad (⟨hD.1, fun j z hz => Or.inl ⟨j, z.2, hz⟩⟩ : va_D (va_A w62 H.size) w62) am fs62 aS aO pS pO j cZ gS gO hm62 f8 f9 hS9 hO9 ht2 hj) gj_X7_272 (va_recv hK hP (ci := 13) (q0 := 0) rfl hm62) rfl ⟨Nat.le_of_ble_eq_true rfl, Nat.le_of_ble_eq_true rfl⟩ ⟨by show _ ≤ 80; omega, by show _ ≤ 900; omega⟩ (Nat.le_of_ble_eq_true rfl) hx hb (hml.trans hl.1.symm) hts hown hK hT hL hP hD hS hA dj_X7_post_53 (fun res w9 H locs hrv hqq hP hD hS => ?_)
        obtain ⟨ew, hq⟩ := hqq
        have ew := Eq.symm ew
        subst ew
        rcases hq with ⟨er, hr9⟩ | er
        · subst er
          refine lv_if_eq (tgt := 68) hx hb dj_X7_post_56 (by decide) (fun c9 => absurd c9 (by decide)) (fun _ => ?_)
          refine lv_aload_n hx hb dj_X7_post_59 rfl (lv_at hl 0 rfl) ?_
          refine va_get (D := D) (ci := 13) (v := .ref aP) (C := RX7) (T := TX7) (N := 31) hx hb hts uwj_X7 hown hK hP 0 hm62 rfl 10 (by decide) (hts _ cwj1508) (fun _ h9 => h9) f10 dj_X7_post_60 ?_
          refine lv_iload_n hx hb dj_X7_post_63 rfl (lv_at hl 1 rfl) ?_
          refine va_zald hx hb hK hP pP 2 hP9 ht2 (vp_in_nI hj (by decide)) dj_X7_post_64 ?_
          refine lv_if_eq (tgt := 72) hx hb dj_X7_post_65 (by decide) (fun c8 => ?_) (fun c8 => ?_)
          · skip
            refine lv_iconst (v := 0) hx hb dj_X7_post_72 (by decide) ?_
            refine lv_iconst (v := 3) hx hb dj_X7_post_73 (by decide) ?_
            refine li_cV (As := [.int 0, .int 3]) (rest := []) (li_X7_isThrown l D tys w62 _ e0 ca ad (⟨hD.1, fun j z hz => Or.inl ⟨j, z.2, hz⟩⟩ : va_D (va_A w62 H.size) w62) am fs62 0 3 hm62 h3062 (by simp)) gj_X7_110 (va_recv hK hP (ci := 13) (q0 := 0) rfl hm62) rfl ⟨Nat.le_of_ble_eq_true rfl, Nat.le_of_ble_eq_true rfl⟩ ⟨by show _ ≤ 80; omega, by show _ ≤ 900; omega⟩ (Nat.le_of_ble_eq_true rfl) hx hb (hml.trans hl.1.symm) hts hown hK hT hL hP hD hS hA dj_X7_post_74 (fun res w63 H locs hrv hqq hP hD hS => ?_)
            obtain ⟨er, ⟨fs63, hm63, hf63, hfl63, ht63⟩, hlen63, hRt63⟩ := hqq
            subst er
            have hR63 : li_R w w63 [0] := hR62.tr hRt63
            have hF63 : ∀ j, j ≠ 30 → fs63[j]? = fs[j]? := fun j hj => (hf63 j hj).trans (hF62 j hj)
            have hG63 : fs63.length = fs.length := hfl63.trans hG62
            have hfs63 := hf.st hF63 hG63
            have h3063 : 30 < fs63.length := by rw [hfs63.1]; decide
            refine lv_if_eq (tgt := 82) hx hb dj_X7_post_77 (by decide) (fun _ => ?_) (fun c9 => absurd rfl c9)
            have hcM := hc.st hB hR63 hB0 hI0
            have hn1 : 1 ≤ nh := hS8 j hj hr9
            have hLj : li_L w63 (21 + j) (qa j) (la j) e0 cL ad (nn j) := (hLs j hj).1.st hR63 (po_nb0 hm) (by simp) (by simp; exact (hLs j hj).2.2.2.2)
            have hnq := li_nbs (hLs j hj).2.2.1 hR63 (hqw j hj) (by simp; exact (hLs j hj).2.2.2.2)
            refine lv_iconst (v := 0) hx hb dj_X7_post_82 (by decide) ?_
            refine lv_istore (lv' := [(4, .int 0), (0, .ref am), (1, .int (nI j)), (2, .int a2), (3, .int a3)]) hx hb dj_X7_post_83 hl (by decide) rfl (fun ls hl => ?_)
            refine lv_iconst (v := 0) hx hb dj_X7_post_85 (by decide) ?_
            refine lv_istore (lv' := [(5, .int 0), (4, .int 0), (0, .ref am), (1, .int (nI j)), (2, .int a2), (3, .int a3)]) hx hb dj_X7_post_86 hl (by decide) rfl (fun ls hl => ?_)
            refine po_sum F9 ht0 ht2 ht5 ht9 hfs63 (x2 := a2) (x3 := a3) hm63 hcM hj hn1 hn9 hD ⟨by omega, by omega⟩ (fun H locs ls x4 hP hS hl => ?_) nh 0 (by omega) H locs ls 0 hP hS (lv_sub hl [1, 0, 2, 3, 4, 5] rfl)
            obtain ⟨hlen, ⟨f16, f17, f29⟩, f0, f2, f7, f8, f9, f10, f13, f14, f12⟩ := id hfs63
            obtain ⟨⟨gC, hC, hrC⟩, ⟨gW, hW, hrW⟩, ⟨gHc, hHc, -⟩, ⟨gS, hS9, hS8⟩, ⟨gO, hO9, -⟩, ⟨gP, hP9, hP8⟩, ⟨gIx, hIx, -⟩, ⟨gLo, hLo, -⟩, mcD, aD2, gD, hD19, hD20, hlaD⟩ := id hcM
            have ha3 : ¬ a3 = 0 := fun e9 => by rw [e9, show (0 : Int32).toInt = 0 from rfl, show (55 : Int32).toInt = 55 from rfl] at m1; omega
            refine lv_bipush (v := 10) hx hb dj_X7_post_144 (by decide) ?_
            refine lv_iload hx hb dj_X7_post_146 (lv_at hl 0 rfl) ?_
            refine lv_imul hx hb dj_X7_post_148 ?_
            refine lv_topi (fun vp1 evp1 => ?_)
            refine lv_iload_n hx hb dj_X7_post_149 rfl (lv_at hl 3 rfl) ?_
            refine lv_isub hx hb dj_X7_post_150 ?_
            refine lv_topi (fun vp2 evp2 => ?_)
            refine lv_bipush (v := 113) hx hb dj_X7_post_151 (by decide) ?_
            refine lv_imul hx hb dj_X7_post_153 ?_
            refine lv_topi (fun vp3 evp3 => ?_)
            refine lv_iload_n hx hb dj_X7_post_154 rfl (lv_at hl 4 rfl) ?_
            refine li_cS (As := [.int vp3, .int a3]) (rest := []) (li_J9_floorDiv_7cf53 l D tys w63 _ e0 ca ad (⟨hD.1, fun j z hz => Or.inl ⟨j, z.2, hz⟩⟩ : va_D (va_A w63 H.size) w63) vp3 a3 ha3) gj_X7_314 rfl ⟨Nat.le_of_ble_eq_true rfl, Nat.le_of_ble_eq_true rfl⟩ ⟨by show _ ≤ 80; omega, by show _ ≤ 900; omega⟩ (Nat.le_of_ble_eq_true rfl) hx hb (hml.trans hl.1.symm) hts hown hK hT hL hP hD hS hA dj_X7_post_155 (fun res w9 H locs hrv hqq hP hD hS => ?_)
            have ew := Eq.symm hqq
            subst ew
            obtain ⟨rd9, rfl⟩ := hrv
            refine lv_bipush (v := 10) hx hb dj_X7_post_158 (by decide) ?_
            refine lv_aload_n hx hb dj_X7_post_160 rfl (lv_at hl 1 rfl) ?_
            refine va_get (D := D) (ci := 13) (v := .int x29) (C := RX7) (T := TX7) (N := 31) hx hb hts uwj_X7 hown hK hP 0 hm63 rfl 29 (by decide) (hts _ cwj1527) (fun _ h9 => h9) f29 dj_X7_post_161 ?_
            refine lv_imul hx hb dj_X7_post_164 ?_
            refine lv_topi (fun vp4 evp4 => ?_)
            refine lv_isub hx hb dj_X7_post_165 ?_
            refine lv_topi (fun vp5 evp5 => ?_)
            refine lv_istore (lv' := [(5, .int vp5), (4, .int x4), (0, .ref am), (1, .int (nI j)), (2, .int a2), (3, .int a3)]) hx hb dj_X7_post_166 hl (by decide) rfl (fun ls hl => ?_)
            refine lv_aload_n hx hb dj_X7_post_168 rfl (lv_at hl 2 rfl) ?_
            refine va_get (D := D) (ci := 13) (v := .ref aD) (C := RX7) (T := TX7) (N := 31) hx hb hts uwj_X7 hown hK hP 0 hm63 rfl 12 (by decide) (hts _ cwj1510) (fun _ h9 => h9) f12 dj_X7_post_169 ?_
            refine lv_iload_n hx hb dj_X7_post_172 rfl (lv_at hl 3 rfl) ?_
            refine li_cV (As := [.int (nI j)]) (rest := []) (li_Jx4a65c_get_915e3 l D tys w63 _ e0 ca ad (⟨hD.1, fun j z hz => Or.inl ⟨j, z.2, hz⟩⟩ : va_D (va_A w63 H.size) w63) 19 20 aD aD2 6 10 mcD gD cL t9 j (la j) hD19 hD20 ht9 (by decide) (by decide) hj (hlaD j hj)) gj_X7_300 (va_recv hK hP (ci := 5) (q0 := 19) rfl hD19) rfl ⟨Nat.le_of_ble_eq_true rfl, Nat.le_of_ble_eq_true rfl⟩ ⟨by show _ ≤ 80; omega, by show _ ≤ 900; omega⟩ (Nat.le_of_ble_eq_true rfl) hx hb (hml.trans hl.1.symm) hts hown hK hT hL hP hD hS hA dj_X7_post_173 (fun res w9 H locs hrv hqq hP hD hS => ?_)
            obtain ⟨er, ew⟩ := hqq
            have ew := Eq.symm ew
            subst er
            subst ew
            refine va_castS hx hb hown (hts _ cwj1405) (hK.1 5 _ rfl).2 (lk_rv hLj hK hP) dj_X7_post_176 ?_
            refine lv_astore (lv' := [(6, .ref (la j)), (5, .int vp5), (4, .int x4), (0, .ref am), (1, .int (nI j)), (2, .int a2), (3, .int a3)]) hx hb dj_X7_post_179 hl (by decide) rfl (fun ls hl => ?_)
            refine lv_aload hx hb dj_X7_post_181 (lv_at hl 0 rfl) ?_
            refine li_cV (As := []) (rest := []) (lk_isEmpty (⟨hD.1, fun j z hz => Or.inl ⟨j, z.2, hz⟩⟩ : va_D (va_A w63 H.size) w63) hLj (by have := (hLs j hj).2.1; omega)) gj_X7_317 (lk_rv hLj hK hP) rfl ⟨Nat.le_of_ble_eq_true rfl, Nat.le_of_ble_eq_true rfl⟩ ⟨by show _ ≤ 80; omega, by show _ ≤ 900; omega⟩ (Nat.le_of_ble_eq_true rfl) hx hb (hml.trans hl.1.symm) hts hown hK hT hL hP hD hS hA dj_X7_post_183 (fun res w9 H locs hrv hqq hP hD hS => ?_)
            obtain ⟨er, ew⟩ := hqq
            have ew := Eq.symm ew
            subst er
            subst ew
            show W _ _ _ _ _ _ _ _ _ _ _ _ _ _ _ (F0 m 186 ls [.int _])
            refine lv_topi (fun x7 ex7 => ?_)
            refine lv_istore (lv' := [(7, .int x7), (6, .ref (la j)), (5, .int vp5), (4, .int x4), (0, .ref am), (1, .int (nI j)), (2, .int a2), (3, .int a3)]) hx hb dj_X7_post_186 hl (by decide) rfl (fun ls hl => ?_)
            refine lv_iload hx hb dj_X7_post_188 (lv_at hl 0 rfl) ?_
            refine lv_if_eq (tgt := 197) hx hb dj_X7_post_190 (by decide) (fun c8 => ?_) (fun c8 => ?_)
            · skip
              refine lv_iload hx hb dj_X7_post_197 (lv_at hl 2 rfl) ?_
              refine lv_aload_n hx hb dj_X7_post_199 rfl (lv_at hl 4 rfl) ?_
              refine va_get (D := D) (ci := 13) (v := .ref aIx) (C := RX7) (T := TX7) (N := 31) hx hb hts uwj_X7 hown hK hP 0 hm63 rfl 13 (by decide) (hts _ cwj1511) (fun _ h9 => h9) f13 dj_X7_post_200 ?_
              refine lv_iload_n hx hb dj_X7_post_203 rfl (lv_at hl 5 rfl) ?_
              refine va_iald hx hb hK hP pIx 0 hIx ht0 (vp_in_nI hj (by decide)) dj_X7_post_204 ?_
              refine lv_topi (fun vi1 evi1 => ?_)
              refine lv_bipush (v := 100) hx hb dj_X7_post_205 (by decide) ?_
              refine lv_isub hx hb dj_X7_post_207 ?_
              refine lv_topi (fun vu1 evu1 => ?_)
              refine lv_icmp_gt (tgt := 216) hx hb dj_X7_post_208 (by decide) (fun c7 => ?_) (fun c7 => ?_)
              · skip
                refine lv_iload hx hb dj_X7_post_216 (lv_at hl 2 rfl) ?_
                refine lv_aload_n hx hb dj_X7_post_218 rfl (lv_at hl 4 rfl) ?_
                refine va_get (D := D) (ci := 13) (v := .ref aIx) (C := RX7) (T := TX7) (N := 31) hx hb hts uwj_X7 hown hK hP 0 hm63 rfl 13 (by decide) (hts _ cwj1511) (fun _ h9 => h9) f13 dj_X7_post_219 ?_
                refine lv_iload_n hx hb dj_X7_post_222 rfl (lv_at hl 5 rfl) ?_
                refine va_iald hx hb hK hP pIx 0 hIx ht0 (vp_in_nI hj (by decide)) dj_X7_post_223 ?_
                refine lv_topi (fun vi2 evi2 => ?_)
                refine lv_bipush (v := 70) hx hb dj_X7_post_224 (by decide) ?_
                refine lv_isub hx hb dj_X7_post_226 ?_
                refine lv_topi (fun vu2 evu2 => ?_)
                refine lv_icmp_gt (tgt := 235) hx hb dj_X7_post_227 (by decide) (fun c6 => ?_) (fun c6 => ?_)
                · skip
                  refine lv_iconst (v := 0) hx hb dj_X7_post_235 (by decide) ?_
                  have hq1 : ∀ p, po_ok w.length B p → p ∉ [21 + j, qa j] := fun p h hm9 => h.2 (by rcases List.mem_cons.mp hm9 with e | e; exact e ▸ (hLs j hj).2.2.2.1.1; rw [List.mem_singleton.mp e]; exact (hLs j hj).2.2.2.1.2)
                  have hlR := hR63.1
                  refine W.widen (k := 0) (n := 0) (by omega) (by omega) ?_
                  refine po_tail F9 ht0 ht2 ht5 ht9 hfs63 hm63 hcM hB (fun z hz => (hBB z hz).1) hd1 hj hq1 (hneq j hj) (Nat.lt_of_lt_of_le (hqw j hj) hlR) hlR (fun z hz => Nat.lt_of_lt_of_le (hBB z hz).2 hlR) hLj hnq (hLs j hj).2.1 (fun z hz => hkd z (Nat.le_trans hlR hz)) hP hD hS (lv_sub hl [4, 5, 2, 1, 0] rfl) (fun w1 H locs ls qb m1 hR7 hm7 hc7 hL7 hm20 hqb7 hP hD hS hls => ?_)
                  exact W.iret hx hb hr (fun t ht hW9 => ⟨⟨_, w1, rfl, ⟨⟨fs63, hm7, hF63, hG63, ht63⟩, hc7, j, qb, m1, hj, hm20, hL7, by rcases hqb7 with e | e; exact Or.inl e; exact Or.inr (by omega), (hR63.mono (by simp)).tr (hR7.mono (by simp))⟩, ⟨by rw [ht]; exact hP, hD⟩⟩, hS.F ht⟩) hS.2.2 dj_X7_post_433
                · skip
                  refine lv_bipush (v := 10) hx hb dj_X7_post_230 (by decide) ?_
                  refine lv_goto (tgt := 236) hx hb dj_X7_post_232 (by decide) ?_
                  have hq1 : ∀ p, po_ok w.length B p → p ∉ [21 + j, qa j] := fun p h hm9 => h.2 (by rcases List.mem_cons.mp hm9 with e | e; exact e ▸ (hLs j hj).2.2.2.1.1; rw [List.mem_singleton.mp e]; exact (hLs j hj).2.2.2.1.2)
                  have hlR := hR63.1
                  refine W.widen (k := 0) (n := 0) (by omega) (by omega) ?_
                  refine po_tail F9 ht0 ht2 ht5 ht9 hfs63 hm63 hcM hB (fun z hz => (hBB z hz).1) hd1 hj hq1 (hneq j hj) (Nat.lt_of_lt_of_le (hqw j hj) hlR) hlR (fun z hz => Nat.lt_of_lt_of_le (hBB z hz).2 hlR) hLj hnq (hLs j hj).2.1 (fun z hz => hkd z (Nat.le_trans hlR hz)) hP hD hS (lv_sub hl [4, 5, 2, 1, 0] rfl) (fun w1 H locs ls qb m1 hR7 hm7 hc7 hL7 hm20 hqb7 hP hD hS hls => ?_)
                  exact W.iret hx hb hr (fun t ht hW9 => ⟨⟨_, w1, rfl, ⟨⟨fs63, hm7, hF63, hG63, ht63⟩, hc7, j, qb, m1, hj, hm20, hL7, by rcases hqb7 with e | e; exact Or.inl e; exact Or.inr (by omega), (hR63.mono (by simp)).tr (hR7.mono (by simp))⟩, ⟨by rw [ht]; exact hP, hD⟩⟩, hS.F ht⟩) hS.2.2 dj_X7_post_433
              · skip
                refine lv_bipush (v := 20) hx hb dj_X7_post_211 (by decide) ?_
                refine lv_goto (tgt := 236) hx hb dj_X7_post_213 (by decide) ?_
                have hq1 : ∀ p, po_ok w.length B p → p ∉ [21 + j, qa j] := fun p h hm9 => h.2 (by rcases List.mem_cons.mp hm9 with e | e; exact e ▸ (hLs j hj).2.2.2.1.1; rw [List.mem_singleton.mp e]; exact (hLs j hj).2.2.2.1.2)
                have hlR := hR63.1
                refine W.widen (k := 0) (n := 0) (by omega) (by omega) ?_
                refine po_tail F9 ht0 ht2 ht5 ht9 hfs63 hm63 hcM hB (fun z hz => (hBB z hz).1) hd1 hj hq1 (hneq j hj) (Nat.lt_of_lt_of_le (hqw j hj) hlR) hlR (fun z hz => Nat.lt_of_lt_of_le (hBB z hz).2 hlR) hLj hnq (hLs j hj).2.1 (fun z hz => hkd z (Nat.le_trans hlR hz)) hP hD hS (lv_sub hl [4, 5, 2, 1, 0] rfl) (fun w1 H locs ls qb m1 hR7 hm7 hc7 hL7 hm20 hqb7 hP hD hS hls => ?_)
                exact W.iret hx hb hr (fun t ht hW9 => ⟨⟨_, w1, rfl, ⟨⟨fs63, hm7, hF63, hG63, ht63⟩, hc7, j, qb, m1, hj, hm20, hL7, by rcases hqb7 with e | e; exact Or.inl e; exact Or.inr (by omega), (hR63.mono (by simp)).tr (hR7.mono (by simp))⟩, ⟨by rw [ht]; exact hP, hD⟩⟩, hS.F ht⟩) hS.2.2 dj_X7_post_433
            · skip
              refine lv_iconst (v := 0) hx hb dj_X7_post_193 (by decide) ?_
              refine lv_goto (tgt := 236) hx hb dj_X7_post_194 (by decide) ?_
              have hq1 : ∀ p, po_ok w.length B p → p ∉ [21 + j, qa j] := fun p h hm9 => h.2 (by rcases List.mem_cons.mp hm9 with e | e; exact e ▸ (hLs j hj).2.2.2.1.1; rw [List.mem_singleton.mp e]; exact (hLs j hj).2.2.2.1.2)
              have hlR := hR63.1
              refine W.widen (k := 0) (n := 0) (by omega) (by omega) ?_
              refine po_tail F9 ht0 ht2 ht5 ht9 hfs63 hm63 hcM hB (fun z hz => (hBB z hz).1) hd1 hj hq1 (hneq j hj) (Nat.lt_of_lt_of_le (hqw j hj) hlR) hlR (fun z hz => Nat.lt_of_lt_of_le (hBB z hz).2 hlR) hLj hnq (hLs j hj).2.1 (fun z hz => hkd z (Nat.le_trans hlR hz)) hP hD hS (lv_sub hl [4, 5, 2, 1, 0] rfl) (fun w1 H locs ls qb m1 hR7 hm7 hc7 hL7 hm20 hqb7 hP hD hS hls => ?_)
              exact W.iret hx hb hr (fun t ht hW9 => ⟨⟨_, w1, rfl, ⟨⟨fs63, hm7, hF63, hG63, ht63⟩, hc7, j, qb, m1, hj, hm20, hL7, by rcases hqb7 with e | e; exact Or.inl e; exact Or.inr (by omega), (hR63.mono (by simp)).tr (hR7.mono (by simp))⟩, ⟨by rw [ht]; exact hP, hD⟩⟩, hS.F ht⟩) hS.2.2 dj_X7_post_433
          · skip
            refine lv_iconst (v := 1) hx hb dj_X7_post_68 (by decide) ?_
            refine lv_goto (tgt := 73) hx hb dj_X7_post_69 (by decide) ?_
            refine lv_iconst (v := 3) hx hb dj_X7_post_73 (by decide) ?_
            refine li_cV (As := [.int 1, .int 3]) (rest := []) (li_X7_isThrown l D tys w62 _ e0 ca ad (⟨hD.1, fun j z hz => Or.inl ⟨j, z.2, hz⟩⟩ : va_D (va_A w62 H.size) w62) am fs62 1 3 hm62 h3062 (by simp)) gj_X7_110 (va_recv hK hP (ci := 13) (q0 := 0) rfl hm62) rfl ⟨Nat.le_of_ble_eq_true rfl, Nat.le_of_ble_eq_true rfl⟩ ⟨by show _ ≤ 80; omega, by show _ ≤ 900; omega⟩ (Nat.le_of_ble_eq_true rfl) hx hb (hml.trans hl.1.symm) hts hown hK hT hL hP hD hS hA dj_X7_post_74 (fun res w64 H locs hrv hqq hP hD hS => ?_)
            obtain ⟨er, ⟨fs64, hm64, hf64, hfl64, ht64⟩, hlen64, hRt64⟩ := hqq
            subst er
            have hR64 : li_R w w64 [0] := hR62.tr hRt64
            have hF64 : ∀ j, j ≠ 30 → fs64[j]? = fs[j]? := fun j hj => (hf64 j hj).trans (hF62 j hj)
            have hG64 : fs64.length = fs.length := hfl64.trans hG62
            have hfs64 := hf.st hF64 hG64
            have h3064 : 30 < fs64.length := by rw [hfs64.1]; decide
            refine lv_if_eq (tgt := 82) hx hb dj_X7_post_77 (by decide) (fun c9 => absurd c9 (by decide)) (fun _ => ?_)
            refine lv_iconst (v := 0) hx hb dj_X7_post_80 (by decide) ?_
            refine W.widen (k := 80) (n := 900) (by decide) (by decide) ?_
            exact W.iret (v := 0) hx hb hr (fun t ht hW9 => ⟨⟨0, w64, rfl, po_ret hm hLs hR64 hm64 hF64 hG64 ht64 (hc.st hB hR64 hB0 hI0), ⟨by rw [ht]; exact hP, hD⟩⟩, hS.F ht⟩) hS.2.2 dj_X7_post_81
        · subst er
          refine lv_if_eq (tgt := 68) hx hb dj_X7_post_56 (by decide) (fun _ => ?_) (fun c9 => absurd rfl c9)
          refine lv_iconst (v := 1) hx hb dj_X7_post_68 (by decide) ?_
          refine lv_goto (tgt := 73) hx hb dj_X7_post_69 (by decide) ?_
          refine lv_iconst (v := 3) hx hb dj_X7_post_73 (by decide) ?_
          refine li_cV (As := [.int 1, .int 3]) (rest := []) (li_X7_isThrown l D tys w62 _ e0 ca ad (⟨hD.1, fun j z hz => Or.inl ⟨j, z.2, hz⟩⟩ : va_D (va_A w62 H.size) w62) am fs62 1 3 hm62 h3062 (by simp)) gj_X7_110 (va_recv hK hP (ci := 13) (q0 := 0) rfl hm62) rfl ⟨Nat.le_of_ble_eq_true rfl, Nat.le_of_ble_eq_true rfl⟩ ⟨by show _ ≤ 80; omega, by show _ ≤ 900; omega⟩ (Nat.le_of_ble_eq_true rfl) hx hb (hml.trans hl.1.symm) hts hown hK hT hL hP hD hS hA dj_X7_post_74 (fun res w65 H locs hrv hqq hP hD hS => ?_)
          obtain ⟨er, ⟨fs65, hm65, hf65, hfl65, ht65⟩, hlen65, hRt65⟩ := hqq
          subst er
          have hR65 : li_R w w65 [0] := hR62.tr hRt65
          have hF65 : ∀ j, j ≠ 30 → fs65[j]? = fs[j]? := fun j hj => (hf65 j hj).trans (hF62 j hj)
          have hG65 : fs65.length = fs.length := hfl65.trans hG62
          have hfs65 := hf.st hF65 hG65
          have h3065 : 30 < fs65.length := by rw [hfs65.1]; decide
          refine lv_if_eq (tgt := 82) hx hb dj_X7_post_77 (by decide) (fun c9 => absurd c9 (by decide)) (fun _ => ?_)
          refine lv_iconst (v := 0) hx hb dj_X7_post_80 (by decide) ?_
          refine W.widen (k := 80) (n := 900) (by decide) (by decide) ?_
          exact W.iret (v := 0) hx hb hr (fun t ht hW9 => ⟨⟨0, w65, rfl, po_ret hm hLs hR65 hm65 hF65 hG65 ht65 (hc.st hB hR65 hB0 hI0), ⟨by rw [ht]; exact hP, hD⟩⟩, hS.F ht⟩) hS.2.2 dj_X7_post_81
      · subst er
        refine lv_if_ne (tgt := 42) hx hb dj_X7_post_35 (by decide) (fun c9 => absurd rfl c9) (fun _ => ?_)
        refine lv_iconst (v := 1) hx hb dj_X7_post_38 (by decide) ?_
        refine lv_goto (tgt := 43) hx hb dj_X7_post_39 (by decide) ?_
        refine lv_iconst (v := 2) hx hb dj_X7_post_43 (by decide) ?_
        refine li_cV (As := [.int 1, .int 2]) (rest := []) (li_X7_isThrown l D tys w61 _ e0 ca ad (⟨hD.1, fun j z hz => Or.inl ⟨j, z.2, hz⟩⟩ : va_D (va_A w61 H.size) w61) am fs61 1 2 hm61 h3061 (by simp)) gj_X7_110 (va_recv hK hP (ci := 13) (q0 := 0) rfl hm61) rfl ⟨Nat.le_of_ble_eq_true rfl, Nat.le_of_ble_eq_true rfl⟩ ⟨by show _ ≤ 80; omega, by show _ ≤ 900; omega⟩ (Nat.le_of_ble_eq_true rfl) hx hb (hml.trans hl.1.symm) hts hown hK hT hL hP hD hS hA dj_X7_post_44 (fun res w66 H locs hrv hqq hP hD hS => ?_)
        obtain ⟨er, ⟨fs66, hm66, hf66, hfl66, ht66⟩, hlen66, hRt66⟩ := hqq
        subst er
        have hR66 : li_R w w66 [0] := hR61.tr hRt66
        have hF66 : ∀ j, j ≠ 30 → fs66[j]? = fs[j]? := fun j hj => (hf66 j hj).trans (hF61 j hj)
        have hG66 : fs66.length = fs.length := hfl66.trans hG61
        have hfs66 := hf.st hF66 hG66
        have h3066 : 30 < fs66.length := by rw [hfs66.1]; decide
        refine lv_if_ne (tgt := 80) hx hb dj_X7_post_47 (by decide) (fun _ => ?_) (fun c9 => absurd c9 (by decide))
        refine lv_iconst (v := 0) hx hb dj_X7_post_80 (by decide) ?_
        refine W.widen (k := 80) (n := 900) (by decide) (by decide) ?_
        exact W.iret (v := 0) hx hb hr (fun t ht hW9 => ⟨⟨0, w66, rfl, po_ret hm hLs hR66 hm66 hF66 hG66 ht66 (hc.st hB hR66 hB0 hI0), ⟨by rw [ht]; exact hP, hD⟩⟩, hS.F ht⟩) hS.2.2 dj_X7_post_81
    · subst er
      refine lv_if_eq (tgt := 38) hx hb dj_X7_post_23 (by decide) (fun _ => ?_) (fun c9 => absurd rfl c9)
      refine lv_iconst (v := 1) hx hb dj_X7_post_38 (by decide) ?_
      refine lv_goto (tgt := 43) hx hb dj_X7_post_39 (by decide) ?_
      refine lv_iconst (v := 2) hx hb dj_X7_post_43 (by decide) ?_
      refine li_cV (As := [.int 1, .int 2]) (rest := []) (li_X7_isThrown l D tys w61 _ e0 ca ad (⟨hD.1, fun j z hz => Or.inl ⟨j, z.2, hz⟩⟩ : va_D (va_A w61 H.size) w61) am fs61 1 2 hm61 h3061 (by simp)) gj_X7_110 (va_recv hK hP (ci := 13) (q0 := 0) rfl hm61) rfl ⟨Nat.le_of_ble_eq_true rfl, Nat.le_of_ble_eq_true rfl⟩ ⟨by show _ ≤ 80; omega, by show _ ≤ 900; omega⟩ (Nat.le_of_ble_eq_true rfl) hx hb (hml.trans hl.1.symm) hts hown hK hT hL hP hD hS hA dj_X7_post_44 (fun res w67 H locs hrv hqq hP hD hS => ?_)
      obtain ⟨er, ⟨fs67, hm67, hf67, hfl67, ht67⟩, hlen67, hRt67⟩ := hqq
      subst er
      have hR67 : li_R w w67 [0] := hR61.tr hRt67
      have hF67 : ∀ j, j ≠ 30 → fs67[j]? = fs[j]? := fun j hj => (hf67 j hj).trans (hF61 j hj)
      have hG67 : fs67.length = fs.length := hfl67.trans hG61
      have hfs67 := hf.st hF67 hG67
      have h3067 : 30 < fs67.length := by rw [hfs67.1]; decide
      refine lv_if_ne (tgt := 80) hx hb dj_X7_post_47 (by decide) (fun _ => ?_) (fun c9 => absurd c9 (by decide))
      refine lv_iconst (v := 0) hx hb dj_X7_post_80 (by decide) ?_
      refine W.widen (k := 80) (n := 900) (by decide) (by decide) ?_
      exact W.iret (v := 0) hx hb hr (fun t ht hW9 => ⟨⟨0, w67, rfl, po_ret hm hLs hR67 hm67 hF67 hG67 ht67 (hc.st hB hR67 hB0 hI0), ⟨by rw [ht]; exact hP, hD⟩⟩, hS.F ht⟩) hS.2.2 dj_X7_post_81
  · subst er
    refine lv_iconst (v := 1) hx hb dj_X7_post_6 (by decide) ?_
    refine li_cV (As := [.int 1, .int 1]) (rest := []) (li_X7_isThrown l D tys w _ e0 ca ad (⟨hD.1, fun j z hz => Or.inl ⟨j, z.2, hz⟩⟩ : va_D (va_A w H.size) w) am fs 1 1 hm h30 (by simp)) gj_X7_110 (va_recv hK hP (ci := 13) (q0 := 0) rfl hm) rfl ⟨Nat.le_of_ble_eq_true rfl, Nat.le_of_ble_eq_true rfl⟩ ⟨by show _ ≤ 80; omega, by show _ ≤ 900; omega⟩ (Nat.le_of_ble_eq_true rfl) hx hb (hml.trans hl.1.symm) hts hown hK hT hL hP hD hS hA dj_X7_post_7 (fun res w68 H locs hrv hqq hP hD hS => ?_)
    obtain ⟨er, ⟨fs68, hm68, hf68, hfl68, ht68⟩, hlen68, hRt68⟩ := hqq
    subst er
    have hR68 : li_R w w68 [0] := hRt68
    have hF68 : ∀ j, j ≠ 30 → fs68[j]? = fs[j]? := hf68
    have hG68 : fs68.length = fs.length := hfl68
    have hfs68 := hf.st hF68 hG68
    have h3068 : 30 < fs68.length := by rw [hfs68.1]; decide
    refine lv_if_ne (tgt := 80) hx hb dj_X7_post_10 (by decide) (fun _ => ?_) (fun c9 => absurd c9 (by decide))
    refine lv_iconst (v := 0) hx hb dj_X7_post_80 (by decide) ?_
    refine W.widen (k := 80) (n := 900) (by decide) (by decide) ?_
    exact W.iret (v := 0) hx hb hr (fun t ht hW9 => ⟨⟨0, w68, rfl, po_ret hm hLs hR68 hm68 hF68 hG68 ht68 (hc.st hB hR68 hB0 hI0), ⟨by rw [ht]; exact hP, hD⟩⟩, hS.F ht⟩) hS.2.2 dj_X7_post_81
