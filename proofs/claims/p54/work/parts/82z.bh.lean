theorem dbh_0 : decode cX7_beginHole 0 = .ok (.aload_n 0, 1) := by decide +kernel
theorem dbh_1 : decode cX7_beginHole 1 = .ok (.iconst (-1), 1) := by decide +kernel
theorem dbh_2 : decode cX7_beginHole 2 = .ok (.putfield 157, 3) := by decide +kernel
theorem dbh_5 : decode cX7_beginHole 5 = .ok (.aload_n 0, 1) := by decide +kernel
theorem dbh_6 : decode cX7_beginHole 6 = .ok (.iconst (-1), 1) := by decide +kernel
theorem dbh_7 : decode cX7_beginHole 7 = .ok (.putfield 160, 3) := by decide +kernel
theorem dbh_10 : decode cX7_beginHole 10 = .ok (.aload_n 0, 1) := by decide +kernel
theorem dbh_11 : decode cX7_beginHole 11 = .ok (.getfield 23, 3) := by decide +kernel
theorem dbh_14 : decode cX7_beginHole 14 = .ok (.astore_n 1, 1) := by decide +kernel
theorem dbh_15 : decode cX7_beginHole 15 = .ok (.aload_n 1, 1) := by decide +kernel
theorem dbh_16 : decode cX7_beginHole 16 = .ok (.arraylength, 1) := by decide +kernel
theorem dbh_17 : decode cX7_beginHole 17 = .ok (.istore_n 2, 1) := by decide +kernel
theorem dbh_18 : decode cX7_beginHole 18 = .ok (.iconst 0, 1) := by decide +kernel
theorem dbh_19 : decode cX7_beginHole 19 = .ok (.istore_n 3, 1) := by decide +kernel
theorem dbh_20 : decode cX7_beginHole 20 = .ok (.iload_n 3, 1) := by decide +kernel
theorem dbh_21 : decode cX7_beginHole 21 = .ok (.iload_n 2, 1) := by decide +kernel
theorem dbh_22 : decode cX7_beginHole 22 = .ok (.if_icmp .ge 77, 3) := by decide +kernel
theorem dbh_25 : decode cX7_beginHole 25 = .ok (.aload_n 1, 1) := by decide +kernel
theorem dbh_26 : decode cX7_beginHole 26 = .ok (.iload_n 3, 1) := by decide +kernel
theorem dbh_27 : decode cX7_beginHole 27 = .ok (.aaload, 1) := by decide +kernel
theorem dbh_28 : decode cX7_beginHole 28 = .ok (.astore 4, 2) := by decide +kernel
theorem dbh_30 : decode cX7_beginHole 30 = .ok (.iconst 0, 1) := by decide +kernel
theorem dbh_31 : decode cX7_beginHole 31 = .ok (.istore 5, 2) := by decide +kernel
theorem dbh_33 : decode cX7_beginHole 33 = .ok (.iload 5, 2) := by decide +kernel
theorem dbh_35 : decode cX7_beginHole 35 = .ok (.bipush 24, 2) := by decide +kernel
theorem dbh_37 : decode cX7_beginHole 37 = .ok (.if_icmp .ge 15, 3) := by decide +kernel
theorem dbh_40 : decode cX7_beginHole 40 = .ok (.aload 4, 2) := by decide +kernel
theorem dbh_42 : decode cX7_beginHole 42 = .ok (.iload 5, 2) := by decide +kernel
theorem dbh_44 : decode cX7_beginHole 44 = .ok (.iconst 0, 1) := by decide +kernel
theorem dbh_45 : decode cX7_beginHole 45 = .ok (.iastore, 1) := by decide +kernel
theorem dbh_46 : decode cX7_beginHole 46 = .ok (.iinc 5 1, 3) := by decide +kernel
theorem dbh_49 : decode cX7_beginHole 49 = .ok (.goto (-16), 3) := by decide +kernel
theorem dbh_52 : decode cX7_beginHole 52 = .ok (.aload 4, 2) := by decide +kernel
theorem dbh_54 : decode cX7_beginHole 54 = .ok (.iconst 0, 1) := by decide +kernel
theorem dbh_55 : decode cX7_beginHole 55 = .ok (.bipush 110, 2) := by decide +kernel
theorem dbh_57 : decode cX7_beginHole 57 = .ok (.iastore, 1) := by decide +kernel
theorem dbh_58 : decode cX7_beginHole 58 = .ok (.aload 4, 2) := by decide +kernel
theorem dbh_60 : decode cX7_beginHole 60 = .ok (.iconst 1, 1) := by decide +kernel
theorem dbh_61 : decode cX7_beginHole 61 = .ok (.aload_n 0, 1) := by decide +kernel
theorem dbh_62 : decode cX7_beginHole 62 = .ok (.getfield 11, 3) := by decide +kernel
theorem dbh_65 : decode cX7_beginHole 65 = .ok (.aload_n 0, 1) := by decide +kernel
theorem dbh_66 : decode cX7_beginHole 66 = .ok (.getfield 92, 3) := by decide +kernel
theorem dbh_69 : decode cX7_beginHole 69 = .ok (.aaload, 1) := by decide +kernel
theorem dbh_70 : decode cX7_beginHole 70 = .ok (.iconst 4, 1) := by decide +kernel
theorem dbh_71 : decode cX7_beginHole 71 = .ok (.iaload, 1) := by decide +kernel
theorem dbh_72 : decode cX7_beginHole 72 = .ok (.iastore, 1) := by decide +kernel
theorem dbh_73 : decode cX7_beginHole 73 = .ok (.aload 4, 2) := by decide +kernel
theorem dbh_75 : decode cX7_beginHole 75 = .ok (.iconst 2, 1) := by decide +kernel
theorem dbh_76 : decode cX7_beginHole 76 = .ok (.aload_n 0, 1) := by decide +kernel
theorem dbh_77 : decode cX7_beginHole 77 = .ok (.getfield 11, 3) := by decide +kernel
theorem dbh_80 : decode cX7_beginHole 80 = .ok (.aload_n 0, 1) := by decide +kernel
theorem dbh_81 : decode cX7_beginHole 81 = .ok (.getfield 92, 3) := by decide +kernel
theorem dbh_84 : decode cX7_beginHole 84 = .ok (.aaload, 1) := by decide +kernel
theorem dbh_85 : decode cX7_beginHole 85 = .ok (.iconst 5, 1) := by decide +kernel
theorem dbh_86 : decode cX7_beginHole 86 = .ok (.iaload, 1) := by decide +kernel
theorem dbh_87 : decode cX7_beginHole 87 = .ok (.iastore, 1) := by decide +kernel
theorem dbh_88 : decode cX7_beginHole 88 = .ok (.aload 4, 2) := by decide +kernel
theorem dbh_90 : decode cX7_beginHole 90 = .ok (.iconst 3, 1) := by decide +kernel
theorem dbh_91 : decode cX7_beginHole 91 = .ok (.iconst 1, 1) := by decide +kernel
theorem dbh_92 : decode cX7_beginHole 92 = .ok (.iastore, 1) := by decide +kernel
theorem dbh_93 : decode cX7_beginHole 93 = .ok (.iinc 3 1, 3) := by decide +kernel
theorem dbh_96 : decode cX7_beginHole 96 = .ok (.goto (-76), 3) := by decide +kernel
theorem dbh_99 : decode cX7_beginHole 99 = .ok (.return_, 1) := by decide +kernel
/-! the model's beginHole, by hand -/
theorem bh_set {ws : va_W} {q : Nat} {z : Nat × va_E} (h : ws[q]? = some z) : ws.set q z = ws := by
  refine List.ext_getElem? fun j => ?_
  by_cases hj : q = j
  · subst hj
    rw [List.getElem?_set_self (List.getElem?_eq_some_iff.mp h).1]
    exact h.symm
  · rw [List.getElem?_set_ne hj]
/-- a ball's row at the tee -/
def bh_T (tx ty : Int32) : Nat → Int32
  | 0 => 110
  | 1 => tx
  | 2 => ty
  | 3 => 1
  | _ => 0
section
variable {p : Program} {l : Launch} {e : Env} {R : Room} {s : State} {m : MethodId} {args : Array Value} {below : List Frame} {meth : Method} {c : Code} {Q : State → Prop} {D : va_G} {tys : List (ClassId × FieldType)} {A : Nat → Prop} {H0 : Heap}
theorem bh_in (hexec : p.tables.exec = Jvm.exec) (hb : c.code = cX7_beginHole) (hK : va_K D vwCl tys s) {cB : ClassId} (ht : tys[0]? = some (cB, .int)) {q r m0 bl : Nat} {i : Int32} :
    ∀ (n k : Nat), k + n = 24 → ∀ (ws : va_W) (f : Nat → Int32) (H : Heap) (locs : List Loc) (ls : Array Slot), va_P D vwCl ws H → va_D A ws → va_S A H0 H locs → lv_has ls 6 [(5, .int (nI k)), (4, .ref r), (3, .int i), (2, .int 6), (1, .ref bl), (0, .ref m0)] → ws[q]? = some (r, .inl (cB, 24, .inl f)) → (∀ j, j < k → f j = 0) →
      (∀ (f' : Nat → Int32) (H : Heap) (locs : List Loc) (ls : Array Slot), (∀ j, j < 24 → f' j = 0) → va_P D vwCl (ws.set q (r, .inl (cB, 24, .inl f'))) H → va_D A (ws.set q (r, .inl (cB, 24, .inl f'))) → va_S A H0 H locs → lv_has ls 6 [(4, .ref r), (3, .int i), (2, .int 6), (1, .ref bl), (0, .ref m0)] → W p l e R s m args below meth c H locs 0 0 Q (F0 m 52 ls [])) →
      W p l e R s m args below meth c H locs 0 0 Q (F0 m 33 ls [])
  | 0, k, hk, ws, f, H, locs, ls, hP, hD, hS, hl, hq, hf, kk => by
    have hk : k = 24 := by omega
    subst hk
    refine lv_iload hexec hb dbh_33 (lv_at hl 0 rfl) ?_
    refine lv_bipush (v := 24) hexec hb dbh_35 (by decide) ?_
    refine lv_icmp_ge (tgt := 52) hexec hb dbh_37 (by decide) (fun _ => ?_) (fun h => absurd (by decide) h)
    have e9 := bh_set hq
    exact kk f H locs ls hf (by rw [e9]; exact hP) (by rw [e9]; exact hD) hS (lv_sub hl [1, 2, 3, 4, 5] rfl)
  | n + 1, k, hk, ws, f, H, locs, ls, hP, hD, hS, hl, hq, hf, kk => by
    have hk24 : k < 24 := by omega
    have hlt : q < ws.length := (List.getElem?_eq_some_iff.mp hq).1
    refine lv_iload hexec hb dbh_33 (lv_at hl 0 rfl) ?_
    refine lv_bipush (v := 24) hexec hb dbh_35 (by decide) ?_
    refine lv_icmp_ge (tgt := 52) hexec hb dbh_37 (by decide) (fun h => ?_) (fun _ => ?_)
    · exact absurd h (nI_ge (b := 24) hk24 (by decide))
    refine lv_aload hexec hb dbh_40 (lv_at hl 1 rfl) ?_
    refine lv_iload hexec hb dbh_42 (lv_at hl 0 rfl) ?_
    refine lv_iconst (v := 0) hexec hb dbh_44 (by decide) ?_
    have hti : (nI k).toInt = (k : Int) := nI_toInt (by omega)
    refine va_iast hexec hb hK hP hD hS q 0 hq ht (en_vpin (by omega) (by omega)) dbh_45 (fun H1 locs1 hP1 hD1 hS1 => ?_)
    rw [nI_clamp (by omega)] at hP1 hD1
    refine lv_iinc (v := nI (k + 1)) hexec hb dbh_46 hl (k := 0) rfl (nI_succ k).symm (by decide) rfl (fun ls' hl' => ?_)
    refine lv_goto (tgt := 33) hexec hb dbh_49 (by decide) ?_
    refine bh_in hexec hb hK ht n (k + 1) (by omega) _ (upd f k 0) H1 locs1 ls' hP1 hD1 hS1 hl' (List.getElem?_set_self hlt) (fun j hj => ?_) (fun f' H2 locs2 ls2 h1 hP2 hD2 hS2 hl2 => ?_)
    · by_cases hjk : j = k
      · subst hjk
        exact pk_us
      · rw [pk_un hjk]
        exact hf j (by omega)
    · rw [List.set_set] at hP2 hD2
      exact kk f' H2 locs2 ls2 h1 hP2 hD2 hS2 hl2
/-- the world in the loop over the balls -/
def bh_I (w1 : va_W) (cB : ClassId) (bj : Nat → Nat) (tx ty : Int32) (i : Nat) (w : va_W) : Prop :=
  w.length = w1.length ∧ (∀ q, (q < 12 ∨ 18 ≤ q) → w[q]? = w1[q]?) ∧ ∀ j, j < 6 → ∃ g : Nat → Int32, w[12 + j]? = some (bj j, .inl (cB, 24, .inl g)) ∧ (j < i → ∀ k, k < 24 → g k = bh_T tx ty k)
theorem bh_out (hexec : p.tables.exec = Jvm.exec) (hb : c.code = cX7_beginHole) (hts : ∀ w ∈ en_cw, w.before args s = true) (hown : s.vm.findClass RX7 = some m.cls) (hK : va_K D vwCl tys s) {cB cC : ClassId} (ht : tys[0]? = some (cB, .int)) (ht5 : tys[5]? = some (cC, .array .int)) {w1 : va_W} {m0 bl ca cr h : Nat} {fs : List Value} {fb fc : Nat → Option Nat} {bj : Nat → Nat} {g : Nat → Int32} (hh : h < 9)
    (h0 : w1[0]? = some (m0, .inr (13, fs))) (h11 : w1[11]? = some (bl, .inl (cC, 6, .inr (.inr (.inr (.inr fb)))))) (hfb : ∀ j, j < 6 → fb j = some (bj j)) (h1 : w1[1]? = some (ca, .inl (cC, 9, .inr (.inr (.inr (.inr fc)))))) (hfc : fc h = some cr) (hr : w1[2 + h]? = some (cr, .inl (cB, 7, .inl g))) (f0 : fs[0]? = some (.ref ca)) (f25 : fs[25]? = some (.int (nI h))) :
    ∀ (n i : Nat), i + n = 6 → ∀ (w : va_W) (H : Heap) (locs : List Loc) (ls : Array Slot), bh_I w1 cB bj (g 4) (g 5) i w → va_P D vwCl w H → va_D A w → va_S A H0 H locs → lv_has ls 6 [(3, .int (nI i)), (2, .int 6), (1, .ref bl), (0, .ref m0)] →
      (∀ (w : va_W) (H : Heap) (locs : List Loc) (ls : Array Slot), bh_I w1 cB bj (g 4) (g 5) 6 w → va_P D vwCl w H → va_D A w → va_S A H0 H locs → W p l e R s m args below meth c H locs 0 0 Q (F0 m 99 ls [])) →
      W p l e R s m args below meth c H locs 0 0 Q (F0 m 20 ls [])
  | 0, i, hi, w, H, locs, ls, hI, hP, hD, hS, hl, kk => by
    have hi : i = 6 := by omega
    subst hi
    refine lv_iload_n hexec hb dbh_20 rfl (lv_at hl 0 rfl) ?_
    refine lv_iload_n hexec hb dbh_21 rfl (lv_at hl 1 rfl) ?_
    refine lv_icmp_ge (tgt := 99) hexec hb dbh_22 (by decide) (fun _ => ?_) (fun h => absurd (by decide) h)
    exact kk w H locs ls hI hP hD hS
  | n + 1, i, hi, w, H, locs, ls, hI, hP, hD, hS, hl, kk => by
    have hi6 : i < 6 := by omega
    obtain ⟨hI0, hI1, hI2⟩ := hI
    obtain ⟨gi, hgi, -⟩ := hI2 i hi6
    have hlt : 12 + i < w.length := (List.getElem?_eq_some_iff.mp hgi).1
    have hti : (nI i).toInt = (i : Int) := nI_toInt (by omega)
    refine lv_iload_n hexec hb dbh_20 rfl (lv_at hl 0 rfl) ?_
    refine lv_iload_n hexec hb dbh_21 rfl (lv_at hl 1 rfl) ?_
    refine lv_icmp_ge (tgt := 99) hexec hb dbh_22 (by decide) (fun h => ?_) (fun _ => ?_)
    · exact absurd h (nI_ge (b := 6) hi6 (by decide))
    refine lv_aload_n hexec hb dbh_25 rfl (lv_at hl 2 rfl) ?_
    refine lv_iload_n hexec hb dbh_26 rfl (lv_at hl 0 rfl) ?_
    refine va_aldqA hexec hb hK hP 11 5 ((hI1 11 (by omega)).trans h11) ht5 (en_vpin (by omega) (by omega)) dbh_27 ?_
    rw [nI_clamp (by omega), hfb i hi6]
    refine lv_astore (i := 4) (x := bj i) hexec hb dbh_28 hl (by decide) rfl (fun ls hl => ?_)
    refine lv_iconst (v := 0) hexec hb dbh_30 (by decide) ?_
    refine lv_istore (i := 5) hexec hb dbh_31 hl (by decide) rfl (fun ls hl => ?_)
    refine bh_in hexec hb hK ht 24 0 rfl w gi H locs ls hP hD hS hl hgi (fun j hj => absurd hj (by omega)) (fun f' H locs ls hz hP hD hS hl => ?_)
    have hq : (w.set (12 + i) (bj i, .inl (cB, 24, .inl f')))[12 + i]? = some (bj i, .inl (cB, 24, .inl f')) := List.getElem?_set_self hlt
    have c0 : (0 : Int32).toNatClampNeg = 0 := by decide
    have c1 : (1 : Int32).toNatClampNeg = 1 := by decide
    have c2 : (2 : Int32).toNatClampNeg = 2 := by decide
    have c3 : (3 : Int32).toNatClampNeg = 3 := by decide
    have c4 : (4 : Int32).toNatClampNeg = 4 := by decide
    have c5 : (5 : Int32).toNatClampNeg = 5 := by decide
    have self : ∀ z : Nat × va_E, (w.set (12 + i) z)[12 + i]? = some z := fun z => List.getElem?_set_self hlt
    have oth : ∀ (z : Nat × va_E) (q : Nat), (q < 12 ∨ 18 ≤ q) → (w.set (12 + i) z)[q]? = w1[q]? := fun z q hq => by
      rw [List.getElem?_set_ne (by omega)]
      exact hI1 q hq
    obtain ⟨Cg, Tg, Ng, u1, u2, u3, u4⟩ := en_FTX7_ok (11, 13, 0) (by decide)
    obtain ⟨Ch, Th, Nh, v1, v2, v3, v4⟩ := en_FTX7_ok (92, 13, 25) (by decide)
    have hth : (nI h).toInt = (h : Int) := nI_toInt (by omega)
    -- the state
    refine lv_aload hexec hb dbh_52 (lv_at hl 0 rfl) ?_
    refine lv_iconst (v := 0) hexec hb dbh_54 (by decide) ?_
    refine lv_bipush (v := 110) hexec hb dbh_55 (by decide) ?_
    refine va_iast hexec hb hK hP hD hS (12 + i) 0 (self _) ht (en_vpin (by decide) (by decide)) dbh_57 (fun H locs hP hD hS => ?_)
    rw [List.set_set, c0] at hP hD
    -- x
    refine lv_aload hexec hb dbh_58 (lv_at hl 0 rfl) ?_
    refine lv_iconst (v := 1) hexec hb dbh_60 (by decide) ?_
    refine lv_aload_n hexec hb dbh_61 rfl (lv_at hl 4 rfl) ?_
    refine va_get hexec hb hts u3 hown hK hP 0 ((oth _ 0 (by omega)).trans h0) u1 0 u2 (hts _ u4) (fun _ z => z) f0 dbh_62 ?_
    refine lv_aload_n hexec hb dbh_65 rfl (lv_at hl 4 rfl) ?_
    refine va_get hexec hb hts v3 hown hK hP 0 ((oth _ 0 (by omega)).trans h0) v1 25 v2 (hts _ v4) (fun _ z => z) f25 dbh_66 ?_
    refine va_aldqA hexec hb hK hP 1 5 ((oth _ 1 (by omega)).trans h1) ht5 (en_vpin (by omega) (by omega)) dbh_69 ?_
    rw [nI_clamp (by omega), hfc]
    refine lv_iconst (v := 4) hexec hb dbh_70 (by decide) ?_
    refine va_iald (f := g) hexec hb hK hP (2 + h) 0 ((oth _ (2 + h) (by omega)).trans hr) ht (en_vpin (by decide) (by decide)) dbh_71 ?_
    rw [c4]
    refine va_iast hexec hb hK hP hD hS (12 + i) 0 (self _) ht (en_vpin (by decide) (by decide)) dbh_72 (fun H locs hP hD hS => ?_)
    rw [List.set_set, c1] at hP hD
    -- y
    refine lv_aload hexec hb dbh_73 (lv_at hl 0 rfl) ?_
    refine lv_iconst (v := 2) hexec hb dbh_75 (by decide) ?_
    refine lv_aload_n hexec hb dbh_76 rfl (lv_at hl 4 rfl) ?_
    refine va_get hexec hb hts u3 hown hK hP 0 ((oth _ 0 (by omega)).trans h0) u1 0 u2 (hts _ u4) (fun _ z => z) f0 dbh_77 ?_
    refine lv_aload_n hexec hb dbh_80 rfl (lv_at hl 4 rfl) ?_
    refine va_get hexec hb hts v3 hown hK hP 0 ((oth _ 0 (by omega)).trans h0) v1 25 v2 (hts _ v4) (fun _ z => z) f25 dbh_81 ?_
    refine va_aldqA hexec hb hK hP 1 5 ((oth _ 1 (by omega)).trans h1) ht5 (en_vpin (by omega) (by omega)) dbh_84 ?_
    rw [nI_clamp (by omega), hfc]
    refine lv_iconst (v := 5) hexec hb dbh_85 (by decide) ?_
    refine va_iald (f := g) hexec hb hK hP (2 + h) 0 ((oth _ (2 + h) (by omega)).trans hr) ht (en_vpin (by decide) (by decide)) dbh_86 ?_
    rw [c5]
    refine va_iast hexec hb hK hP hD hS (12 + i) 0 (self _) ht (en_vpin (by decide) (by decide)) dbh_87 (fun H locs hP hD hS => ?_)
    rw [List.set_set, c2] at hP hD
    -- the tee
    refine lv_aload hexec hb dbh_88 (lv_at hl 0 rfl) ?_
    refine lv_iconst (v := 3) hexec hb dbh_90 (by decide) ?_
    refine lv_iconst (v := 1) hexec hb dbh_91 (by decide) ?_
    refine va_iast hexec hb hK hP hD hS (12 + i) 0 (self _) ht (en_vpin (by decide) (by decide)) dbh_92 (fun H locs hP hD hS => ?_)
    rw [List.set_set, c3] at hP hD
    refine lv_iinc (v := nI (i + 1)) hexec hb dbh_93 hl (k := 1) rfl (nI_succ i).symm (by decide) rfl (fun ls hl => ?_)
    refine lv_goto (tgt := 20) hexec hb dbh_96 (by decide) ?_
    refine bh_out hexec hb hts hown hK ht ht5 hh h0 h11 hfb h1 hfc hr f0 f25 n (i + 1) (by omega) _ H locs ls ⟨by rw [List.length_set]; exact hI0, oth _, fun j hj => ?_⟩ hP hD hS (lv_sub hl [0, 2, 3, 4] rfl) kk
    by_cases hji : j = i
    · subst hji
      refine ⟨_, self _, fun _ k hk => ?_⟩
      match k with
      | 0 => rw [pk_un (by decide), pk_un (by decide), pk_un (by decide), pk_us]; rfl
      | 1 => rw [pk_un (by decide), pk_un (by decide), pk_us]; rfl
      | 2 => rw [pk_un (by decide), pk_us]; rfl
      | 3 => rw [pk_us]; rfl
      | k + 4 =>
        rw [pk_un (by omega), pk_un (by omega), pk_un (by omega), pk_un (by omega), hz _ hk]
        rfl
    · obtain ⟨gj, g1, g2⟩ := hI2 j hj
      refine ⟨gj, ?_, fun hlt9 => g2 (by omega)⟩
      rw [List.getElem?_set_ne (by omega)]
      exact g1
end
def bh_K (a : Nat) : en_K := (1, ([.inr (.inl 20), .inl (0, (a : Int), 0, 0), .inl ((a : Int) + 1, 9, 0, 0)], [(0, 0, 25, 1, 0, 0), (0, 0, 16, 2, 0, 0), (5, 1, 0, 0, 0, 0)]), [([.inr (.inl 20)], [(5, 1, 0, 0, 0, 0), (5, 2, 0, 0, 0, 0)])], [(20, 27), (20, 28), (27, 0)], [20, 21, 22, 26, 27], (0, 0), [])
/-- a ball at the tee fits -/
theorem bh_fit {g gj : Nat → Int32} (h : ∀ k, k < 24 → gj k = bh_T (g 4) (g 5) k) (b4 : 0 ≤ (g 4).toInt ∧ (g 4).toInt ≤ 29) (b5 : 0 ≤ (g 5).toInt ∧ (g 5).toInt ≤ 19) (hne : ¬ (g 2 = g 4 ∧ g 3 = g 5)) : en_Inv (en_Pc (g 2) (g 3)) en_V27 gj := by
  refine ⟨fun j r hr => ?_, fun m hm => ?_⟩
  · have hj : j < 24 := (List.getElem?_eq_some_iff.mp hr).1
    rw [h j hj]
    match j, hj, hr with
    | 0, _, hr =>
      have e := Option.some.inj hr
      rw [← e]
      show (0 : Int) ≤ (110 : Int32).toInt ∧ (110 : Int32).toInt ≤ 65535
      decide
    | 1, _, hr =>
      have e := Option.some.inj hr
      rw [← e]
      exact ⟨en_lo _, en_hi _⟩
    | 2, _, hr =>
      have e := Option.some.inj hr
      rw [← e]
      exact ⟨en_lo _, en_hi _⟩
    | 3, _, hr =>
      have e := Option.some.inj hr
      rw [← e]
      show (0 : Int) ≤ (1 : Int32).toInt ∧ (1 : Int32).toInt ≤ 1
      decide
    | j + 4, _, hr =>
      have h9 : ∀ r ∈ en_V27.1.drop 4, r.1 ≤ (0 : Int32).toInt ∧ (0 : Int32).toInt ≤ r.2 := by decide
      refine h9 r (List.mem_of_getElem? (i := j) ?_)
      rw [List.getElem?_drop, Nat.add_comm]
      exact hr
  · have hm : m = (0, 108, 110, 1, 2) ∨ m = (9, 1, 1, 4, 5) ∨ m = (0, 108, 108, 4, 5) ∨ m = (0, 115, 115, 4, 5) ∨ m = (16, 1, 1, 19, 20) ∨ m = (13, 1, 1, 14, 15) ∨ m = (16, 1, 1, 17, 18) ∨ m = (10, 108, 110, 11, 12) ∨ m = (0, 115, 115, 101, 2) ∨ m = (13, 1, 1, 4, 5) := by simpa only [en_V27, List.mem_cons, List.not_mem_nil, or_false] using hm
    rcases hm with rfl | rfl | rfl | rfl | rfl | rfl | rfl | rfl | rfl | rfl
    · intro _ _ _
      show en_Pc (g 2) (g 3) (gj 1) (gj 2)
      rw [h 1 (by decide), h 2 (by decide)]
      exact ⟨⟨b4.1, b4.2, b5.1, b5.2⟩, fun hc => hne ⟨hc.1.symm, hc.2.symm⟩⟩
    · intro a1 a2
      have a1 : (1 : Int) ≤ (gj 9).toInt := a1
      have a2 : (gj 9).toInt ≤ (1 : Int) := a2
      rw [h 9 (by decide)] at a1 a2
      exact absurd a1 (by show ¬ (1 : Int) ≤ (0 : Int32).toInt; decide)
    · intro a1 a2
      have a1 : (108 : Int) ≤ (gj 0).toInt := a1
      have a2 : (gj 0).toInt ≤ (108 : Int) := a2
      rw [h 0 (by decide)] at a1 a2
      exact absurd a2 (by show ¬ (110 : Int32).toInt ≤ (108 : Int); decide)
    · intro a1 a2
      have a1 : (115 : Int) ≤ (gj 0).toInt := a1
      have a2 : (gj 0).toInt ≤ (115 : Int) := a2
      rw [h 0 (by decide)] at a1 a2
      exact absurd a1 (by show ¬ (115 : Int) ≤ (110 : Int32).toInt; decide)
    · intro a1 a2
      have a1 : (1 : Int) ≤ (gj 16).toInt := a1
      have a2 : (gj 16).toInt ≤ (1 : Int) := a2
      rw [h 16 (by decide)] at a1 a2
      exact absurd a1 (by show ¬ (1 : Int) ≤ (0 : Int32).toInt; decide)
    · intro a1 a2
      have a1 : (1 : Int) ≤ (gj 13).toInt := a1
      have a2 : (gj 13).toInt ≤ (1 : Int) := a2
      rw [h 13 (by decide)] at a1 a2
      exact absurd a1 (by show ¬ (1 : Int) ≤ (0 : Int32).toInt; decide)
    · intro a1 a2
      have a1 : (1 : Int) ≤ (gj 16).toInt := a1
      have a2 : (gj 16).toInt ≤ (1 : Int) := a2
      rw [h 16 (by decide)] at a1 a2
      exact absurd a1 (by show ¬ (1 : Int) ≤ (0 : Int32).toInt; decide)
    · intro a1 a2
      have a1 : (108 : Int) ≤ (gj 10).toInt := a1
      have a2 : (gj 10).toInt ≤ (110 : Int) := a2
      rw [h 10 (by decide)] at a1 a2
      exact absurd a1 (by show ¬ (108 : Int) ≤ (0 : Int32).toInt; decide)
    · intro a1 a2
      have a1 : (115 : Int) ≤ (gj 0).toInt := a1
      have a2 : (gj 0).toInt ≤ (115 : Int) := a2
      rw [h 0 (by decide)] at a1 a2
      exact absurd a1 (by show ¬ (115 : Int) ≤ (110 : Int32).toInt; decide)
    · intro a1 a2
      have a1 : (1 : Int) ≤ (gj 13).toInt := a1
      have a2 : (gj 13).toInt ≤ (1 : Int) := a2
      rw [h 13 (by decide)] at a1 a2
      exact absurd a1 (by show ¬ (1 : Int) ≤ (0 : Int32).toInt; decide)
set_option maxHeartbeats 4000000 in
set_option maxRecDepth 4000 in
theorem en_bh {l : Launch} {cx cy : Int32} {a : Nat} (ha : a ≤ 8) : en_Ctr l vwCl en_TY0 (en_Pc cx cy) en_om0 (en_Of cx cy) en_KTp yX7_beginHole (Cond.code yX7_beginHole cX7_beginHole 6 none :: en_cw) (en_rm 0 (0, 0)) 4 (bh_K a) := by
  intro D tys sh ws sz ρ hTY hW hD hΩ hPa
  refine en_ofW (cc := cX7_beginHole) (maxL := 6) (ret := none) (by decide +kernel) rfl ?_
  intro p e s m args below meth c s₁ B hml hne hv
  obtain ⟨hargs, hsz, hP, hK, hT⟩ := hv
  subst hsz
  obtain ⟨p1, p2, p3⟩ := hPa
  obtain ⟨v0, hv0, q0, hq0, rfl⟩ := p2 0 _ rfl
  have e0 := hΩ.2.2 q0 hq0
  subst e0
  have ht1 : ρ.take 1 = [Value.ref (sh.2 0)] := by
    rcases ρ with _ | ⟨v, t⟩
    · simp at hv0
    · have e := Option.some.inj hv0
      subst e
      rfl
  have hargs : args = #[Value.ref (sh.2 0)] := by
    rw [hargs]
    show (ρ.take 1).toArray = _
    rw [ht1]
  subst hargs
  have hexec := B.exec
  have hb := B.bytes
  have hret := B.returns
  have hlocks := B.notSynchronized
  have hown : s.vm.findClass RX7 = some m.cls := findClass_of_methodNamed B.named
  have hts : ∀ w ∈ en_cw, w.before #[Value.ref (sh.2 0)] s = true := fun w hw => atoms_spec (ws := Cond.code yX7_beginHole cX7_beginHole 6 none :: en_cw) B.pre w (List.mem_cons_of_mem _ hw)
  have hS : va_S (va_A ws s.heap.size) s.heap s.heap [] := va_S.rf
  have inj : ∀ {q q' r : Nat} {e e' : va_E}, ws[q]? = some (r, e) → ws[q']? = some (r, e') → q = q' ∧ e = e' := fun {q q' r e e'} k1 k2 => by
    have hqq := hD.1 q q' _ _ k1 k2 rfl
    subst hqq
    exact ⟨rfl, (Prod.mk.inj (Option.some.inj (k1.symm.trans k2))).2⟩
  -- the model
  obtain ⟨ts, hk20, t0, t3, t27, t28, tl⟩ : ∃ ts, en_KTp[20]? = some (.inl (13, ts)) ∧ ts[0]? = some (.inr (.inl 21)) ∧ ts[3]? = some (.inr (.inl 26)) ∧ ts[27]? = some (.inl (-2147483648, 2147483647, 0, 0)) ∧ ts[28]? = some (.inl (-2147483648, 2147483647, 0, 0)) ∧ ts.length = 31 := ⟨_, rfl, rfl, rfl, rfl, rfl, rfl⟩
  obtain ⟨e1, kd, w0, w2, w3⟩ := hW.at hq0 (show 20 ∈ [20, 21, 22, 26, 27] from by decide) (fun z => z)
  have ekd := Option.some.inj (w2.symm.trans hk20)
  subst ekd
  rcases e1 with x9 | ⟨co, fs⟩
  · exact w3.elim
  obtain ⟨k1, k2, k3⟩ := w3
  have k1 : co = 13 := k1
  subst k1
  have k2 : fs.length = 31 := k2.trans tl
  obtain ⟨had, m0, cM, fs', hn, o1, o2, o3, o4⟩ := p3 (5, 1, 0, 0, 0, 0) (show _ ∈ [(0, 0, 25, 1, 0, 0), (0, 0, 16, 2, 0, 0), (5, 1, 0, 0, 0, 0)] from by decide)
  have eo := Option.some.inj (w0.symm.trans o1)
  simp only [Prod.mk.injEq, Sum.inr.injEq] at eo
  obtain ⟨rfl, rfl, rfl⟩ := eo
  obtain ⟨q, r, ci, fs1, v1, a1, a2, a3, a4⟩ := p3 (0, 0, 25, 1, 0, 0) (show _ ∈ [(0, 0, 25, 1, 0, 0), (0, 0, 16, 2, 0, 0), (5, 1, 0, 0, 0, 0)] from by decide)
  have er : r = sh.2 0 := Value.ref.inj (Option.some.inj (a1.symm.trans hv0))
  subst er
  obtain ⟨-, ee⟩ := inj a2 o1
  simp only [Sum.inr.injEq, Prod.mk.injEq] at ee
  obtain ⟨-, e8⟩ := ee
  rw [e8] at a3
  obtain ⟨q, r, ci, fs1, v2, a5, a6, a7, a8⟩ := p3 (0, 0, 16, 2, 0, 0) (show _ ∈ [(0, 0, 25, 1, 0, 0), (0, 0, 16, 2, 0, 0), (5, 1, 0, 0, 0, 0)] from by decide)
  have er : r = sh.2 0 := Value.ref.inj (Option.some.inj (a5.symm.trans hv0))
  subst er
  obtain ⟨-, ee⟩ := inj a6 o1
  simp only [Sum.inr.injEq, Prod.mk.injEq] at ee
  obtain ⟨-, e8⟩ := ee
  rw [e8] at a7
  obtain ⟨v1', b1, x, rfl, b2, b3⟩ := p2 1 _ rfl
  have ev : v1 = .int x := Option.some.inj (a4.symm.trans b1)
  subst ev
  obtain ⟨v2', b4, y, rfl, b5, b6⟩ := p2 2 _ rfl
  have ev : v2 = .int y := Option.some.inj (a8.symm.trans b4)
  subst ev
  have ey : y = hn := Value.int.inj (Option.some.inj (a7.symm.trans o2))
  subst ey
  have b2 : (0 : Int) ≤ x.toInt := b2
  have b3 : x.toInt ≤ (a : Int) := b3
  have b5 : (a : Int) + 1 ≤ y.toInt := b5
  obtain ⟨h, hx, hh, -⟩ := en_nI b2
  subst hx
  have hh9 : h < 9 := by omega
  have hhn : h < y.toNatClampNeg := by have := en_cN (x := y) (by omega); omega
  obtain ⟨g, ⟨ca, cA, n, fc, cr, cB, n2, r1, r2, r3, r4⟩, hne2⟩ := o3 h hhn hh9
  -- the course, and its row
  obtain ⟨q1, z1, z2⟩ := k3 0 _ _ t0 r1
  have z2 : ca = sh.2 q1 := Value.ref.inj z2
  obtain ⟨e2, kd, y0, y2, y3⟩ := hW.at z1 (show 21 ∈ [20, 21, 22, 26, 27] from by decide) (fun z => z)
  rw [← z2] at y0
  obtain ⟨eq1, ee⟩ := inj y0 r2
  subst eq1
  subst ee
  have ekd := Option.some.inj (y2.symm.trans (show en_KTp[21]? = some (.inr (5, 9, .inl (.inr (.inl 22)))) from rfl))
  subst ekd
  obtain ⟨y4, y5, y6⟩ := y3
  have y5 : n = 9 := y5
  subst y5
  obtain ⟨q2, x1, x2⟩ := y6 h hh9
  have x2 : cr = sh.2 q2 := Option.some.inj (r3.symm.trans x2)
  obtain ⟨e3, kd, x3, x4, x5⟩ := hW.at x1 (show 22 ∈ [20, 21, 22, 26, 27] from by decide) (fun z => z)
  rw [← x2] at x3
  obtain ⟨eq2, ee⟩ := inj x3 r4
  subst eq2
  subst ee
  have ekd := Option.some.inj (x4.symm.trans (show en_KTp[22]? = some (.inr (0, 7, .inr ([(-2147483648, 2147483647), (-2147483648, 2147483647), (0, 29), (0, 19), (0, 29), (0, 19), (-2147483648, 2147483647)], []))) from rfl))
  subst ekd
  obtain ⟨x6, x7, -, x8, -⟩ := x5
  have x7 : n2 = 7 := x7
  subst x7
  have t4 := x8 4 _ rfl
  have t5 := x8 5 _ rfl
  have ht0 := en_tyat hTY x6 (show en_TY0[0]? = some .int from rfl)
  have ht5 := en_tyat hTY y4 (show en_TY0[5]? = some (.array .int) from rfl)
  -- the balls
  obtain ⟨b0, ba, cA2, n3, fb, xb, s1, s2, -, -⟩ := o4 0 (by decide)
  obtain ⟨q3, u1, u2⟩ := k3 3 _ _ t3 s1
  have u2 : ba = sh.2 q3 := Value.ref.inj u2
  obtain ⟨e4, kd, u3, u4, u5⟩ := hW.at u1 (show 26 ∈ [20, 21, 22, 26, 27] from by decide) (fun z => z)
  rw [← u2] at u3
  obtain ⟨eq3, ee⟩ := inj u3 s2
  subst eq3
  subst ee
  have ekd := Option.some.inj (u4.symm.trans (show en_KTp[26]? = some (.inr (5, 6, .inl (.inr (.inl 27)))) from rfl))
  subst ekd
  obtain ⟨u6, u7, u8⟩ := u5
  have u7 : n3 = 6 := u7
  subst u7
  have ec : cA2 = cA := by
    rw [u6] at y4
    exact Option.some.inj y4
  subst ec
  have hball : ∀ j, j < 6 → sh.1[12 + j]? = some 27 ∧ fb j = some (sh.2 (12 + j)) ∧ ∃ gj : Nat → Int32, ws[12 + j]? = some (sh.2 (12 + j), .inl (cB, 24, .inl gj)) := fun j hj => by
    obtain ⟨q4, g1, g2⟩ := u8 j hj
    obtain ⟨bb, ba', cA', n', fb', xb', d1, d2, d3, d4⟩ := o4 j hj
    have eba : ba' = ba := Value.ref.inj (Option.some.inj (d1.symm.trans s1))
    subst eba
    obtain ⟨-, ee⟩ := inj d2 s2
    simp only [Sum.inl.injEq, Prod.mk.injEq, Sum.inr.injEq] at ee
    obtain ⟨-, -, rfl⟩ := ee
    have ebb : bb = sh.2 q4 := Option.some.inj (d3.symm.trans g2)
    obtain ⟨e5, kd, g3, g4, g5⟩ := hW.at g1 (show 27 ∈ [20, 21, 22, 26, 27] from by decide) (fun z => z)
    rw [← ebb] at g3
    obtain ⟨eq4, ee⟩ := inj g3 d4
    subst eq4
    subst ee
    have ekd := Option.some.inj (g4.symm.trans (show en_KTp[27]? = some (.inr (0, 24, .inl (.inl (-2147483648, 2147483647, 0, 0)))) from rfl))
    subst ekd
    obtain ⟨cX, n9, gx | gx | gx | gx | gx⟩ := xb'
    · obtain ⟨g6, g7, -⟩ := g5
      have g7 : n9 = 24 := g7
      subst g7
      have ec : cX = cB := by
        rw [x6] at g6
        exact (Option.some.inj g6).symm
      subst ec
      exact ⟨g1, g2, gx, by rw [← ebb]; exact d4⟩
    · exact g5.elim
    · exact g5.elim
    · exact g5.elim
    · exact g5.elim
  -- the run
  have hl := lv_entry [Value.ref (sh.2 0)] (n := 6) (Nat.le_of_ble_eq_true rfl)
  rw [lg_entry_eq]
  obtain ⟨Cg, Tg, Ng, tg, c1, c2, c3, c4, c5, c6, c7, c8⟩ := en_PTX7_ok (157, 13, 27, 0) (by decide)
  obtain ⟨Ch, Th, Nh, th, d1, d2, d3, d4, d5, d6, d7, d8⟩ := en_PTX7_ok (160, 13, 28, 0) (by decide)
  obtain ⟨Ci, Ti, Ni, i1, i2, i3, i4⟩ := en_FTX7_ok (23, 13, 3) (by decide)
  refine lv_aload_n hexec hb dbh_0 rfl (lv_at hl 0 rfl) ?_
  refine lv_iconst (v := -1) hexec hb dbh_1 (by decide) ?_
  refine va_put hexec hb hts c3 tg c5 c6 hown hK hP hD hS 0 w0 c1 27 c2 (hts _ c4) (fun _ z => z) c7 c8 rfl rfl (by omega) dbh_2 (fun H1 locs1 hP1 hD1 hS1 => ?_)
  have hlt : 0 < ws.length := (List.getElem?_eq_some_iff.mp w0).1
  refine lv_aload_n hexec hb dbh_5 rfl (lv_at hl 0 rfl) ?_
  refine lv_iconst (v := -1) hexec hb dbh_6 (by decide) ?_
  refine va_put hexec hb hts d3 th d5 d6 hown hK hP1 hD1 hS1 0 (List.getElem?_set_self hlt) d1 28 d2 (hts _ d4) (fun _ z => z) d7 d8 rfl rfl (by rw [List.length_set]; omega) dbh_7 (fun H2 locs2 hP2 hD2 hS2 => ?_)
  rw [List.set_set] at hP2 hD2
  have hfs : ∀ j, j ≠ 27 → j ≠ 28 → ((fs.set 27 (.int (-1))).set 28 (.int (-1)))[j]? = fs[j]? := fun j h1 h2 => by rw [List.getElem?_set_ne (Ne.symm h2), List.getElem?_set_ne (Ne.symm h1)]
  have hw0 : (ws.set 0 (sh.2 0, .inr (13, (fs.set 27 (.int (-1))).set 28 (.int (-1)))))[0]? = some (sh.2 0, .inr (13, (fs.set 27 (.int (-1))).set 28 (.int (-1)))) := List.getElem?_set_self hlt
  have hwq : ∀ q, q ≠ 0 → (ws.set 0 (sh.2 0, .inr (13, (fs.set 27 (.int (-1))).set 28 (.int (-1)))))[q]? = ws[q]? := fun q hq => List.getElem?_set_ne (Ne.symm hq)
  refine lv_aload_n hexec hb dbh_10 rfl (lv_at hl 0 rfl) ?_
  refine va_get hexec hb hts i3 hown hK hP2 0 hw0 i1 3 i2 (hts _ i4) (fun _ z => z) ((hfs 3 (by decide) (by decide)).trans s1) dbh_11 ?_
  refine lv_astore_n hexec hb dbh_14 rfl hl (by decide) rfl (fun ls hl => ?_)
  refine lv_aload_n hexec hb dbh_15 rfl (lv_at hl 0 rfl) ?_
  refine va_alen (v := 6) hexec hb hK hP2 11 5 ((hwq 11 (by decide)).trans s2) ht5 (show Int32.ofNat 6 = 6 from by decide) dbh_16 ?_
  refine lv_istore_n hexec hb dbh_17 rfl hl (by decide) rfl (fun ls hl => ?_)
  refine lv_iconst (v := nI 0) hexec hb dbh_18 (by decide) ?_
  refine lv_istore_n hexec hb dbh_19 rfl hl (by decide) rfl (fun ls hl => ?_)
  refine bh_out (bj := fun j => sh.2 (12 + j)) hexec hb hts hown hK ht0 ht5 hh9 hw0 ((hwq 11 (by decide)).trans s2) (fun j hj => (hball j hj).2.1) ((hwq 1 (by decide)).trans r2) r3 ((hwq (2 + h) (by omega)).trans r4) ((hfs 0 (by decide) (by decide)).trans r1) ((hfs 25 (by decide) (by decide)).trans a3) 6 0 rfl _ H2 locs2 ls ⟨rfl, fun _ _ => rfl, fun j hj => ?_⟩ hP2 hD2 hS2 hl (fun w H locs ls hI hP hD9 hS => ?_)
  · obtain ⟨-, -, gj, j1⟩ := hball j hj
    exact ⟨gj, (hwq (12 + j) (by omega)).trans j1, fun hz => absurd hz (Nat.not_lt_zero _)⟩
  obtain ⟨hI0, hI1, hI2⟩ := hI
  have hwo : ∀ q, q ≠ 0 → (q < 12 ∨ 18 ≤ q) → w[q]? = ws[q]? := fun q h1 h2 => (hI1 q h2).trans (hwq q h1)
  have hm0 := (hI1 0 (by decide)).trans hw0
  have hcr : ∀ (h : Nat) (g : Nat → Int32), h < 9 → en_cr ws fs h g → en_cr w ((fs.set 27 (.int (-1))).set 28 (.int (-1))) h g := fun h g h9 hc => by
    obtain ⟨a', cA', n', f', b', cB', n2', e1, e2, e3, e4⟩ := hc
    exact ⟨a', cA', n', f', b', cB', n2', (hfs 0 (by decide) (by decide)).trans e1, (hwo 1 (by decide) (by omega)).trans e2, e3, (hwo (2 + h) (by omega) (by omega)).trans e4⟩
  have hbr : ∀ j, j < 6 → en_br w ((fs.set 27 (.int (-1))).set 28 (.int (-1))) j (sh.2 (12 + j)) := fun j hj => by
    obtain ⟨gj, g1, -⟩ := hI2 j hj
    exact ⟨ba, cA2, 6, fb, _, (hfs 3 (by decide) (by decide)).trans s1, (hwo 11 (by decide) (by omega)).trans s2, (hball j hj).2.1, g1⟩
  have hlen : w.length = sh.1.length := by
    rw [hI0, List.length_set]
    exact hW.1
  have hP0 : en_Po tys (en_Pc cx cy) (en_Of cx cy) en_KTp (bh_K a) sh ws ρ none (sh, w) := by
    refine ⟨⟨en_Gr.rf, ⟨hlen, fun q k hq => ?_⟩, fun q k e9 hq h9 => ?_⟩, _, List.mem_singleton.mpr rfl, [Value.ref (sh.2 0)], ⟨rfl, fun i a9 hi => ?_, fun f hf => ?_⟩, fun i hi => ?_, fun v hv => by cases hv⟩
    · by_cases hq0' : q = 0
      · subst hq0'
        have ek : 20 = k := Option.some.inj (hq0.symm.trans hq)
        subst ek
        refine ⟨_, hm0, fun _ _ => ⟨_, hk20, rfl, ?_, fun j t v hj hv => ?_⟩⟩
        · show ((fs.set 27 (.int (-1))).set 28 (.int (-1))).length = ts.length
          rw [List.length_set, List.length_set, k2, tl]
        · have hv : ((fs.set 27 (.int (-1))).set 28 (.int (-1)))[j]? = some v := hv
          have hm1 : en_V sh (.inl (-2147483648, 2147483647, 0, 0)) (.int (-1)) := ⟨-1, rfl, en_lo _, en_hi _⟩
          by_cases h28 : j = 28
          · subst h28
            rw [List.getElem?_set_self (by rw [List.length_set]; omega)] at hv
            have e := Option.some.inj hv
            subst e
            have e := Option.some.inj (t28.symm.trans hj)
            subst e
            exact hm1
          · by_cases h27 : j = 27
            · subst h27
              rw [List.getElem?_set_ne (by decide), List.getElem?_set_self (by omega)] at hv
              have e := Option.some.inj hv
              subst e
              have e := Option.some.inj (t27.symm.trans hj)
              subst e
              exact hm1
            · rw [hfs j h27 h28] at hv
              exact k3 j t v hj hv
      · by_cases hr : q < 12 ∨ 18 ≤ q
        · obtain ⟨e9, g1, g2⟩ := hW.2 q k hq
          exact ⟨e9, (hwo q hq0' hr).trans g1, g2⟩
        · obtain ⟨j, rfl⟩ : ∃ j, q = 12 + j := ⟨q - 12, by omega⟩
          have hj : j < 6 := by omega
          obtain ⟨g1, -, -⟩ := hball j hj
          have ek : 27 = k := Option.some.inj (g1.symm.trans hq)
          subst ek
          obtain ⟨gj, g3, -⟩ := hI2 j hj
          exact ⟨_, g3, fun _ _ => ⟨_, rfl, x6, rfl, fun i _ => ⟨en_lo _, en_hi _⟩⟩⟩
    · by_cases hq0' : q = 0
      · subst hq0'
        have ek : 20 = k := Option.some.inj (hq0.symm.trans hq)
        subst ek
        have ee := (Prod.mk.inj (Option.some.inj (h9.symm.trans w0))).2
        subst ee
        refine ⟨_, hm0, rfl, by rw [List.length_set, List.length_set], fun j hj => hfs j (fun h => hj ?_) (fun h => hj ?_)⟩
        · subst h
          exact (show (20, 27) ∈ [(20, 27), (20, 28), (27, 0)] from by decide)
        · subst h
          exact (show (20, 28) ∈ [(20, 27), (20, 28), (27, 0)] from by decide)
      · by_cases hr : q < 12 ∨ 18 ≤ q
        · exact ⟨e9, (hwo q hq0' hr).trans h9, en_Fc.rf e9⟩
        · obtain ⟨j, rfl⟩ : ∃ j, q = 12 + j := ⟨q - 12, by omega⟩
          have hj : j < 6 := by omega
          obtain ⟨g1, -, gj0, g2⟩ := hball j hj
          have ek : 27 = k := Option.some.inj (g1.symm.trans hq)
          subst ek
          have ee := (Prod.mk.inj (Option.some.inj (h9.symm.trans g2))).2
          subst ee
          obtain ⟨gj, g3, -⟩ := hI2 j hj
          exact ⟨_, g3, rfl, rfl, fun z => absurd (show (27, 0) ∈ [(20, 27), (20, 28), (27, 0)] from by decide) z⟩
    · match i with
      | 0 =>
        have e := Option.some.inj hi
        subst e
        exact ⟨_, rfl, 0, hq0, rfl⟩
      | n + 1 => cases hi
    · have had9 : en_ad sh w := fun q hq => by
        by_cases h0 : q = 0
        · subst h0
          exact ⟨_, hm0⟩
        · by_cases hr : q < 12 ∨ 18 ≤ q
          · obtain ⟨e, h⟩ := had q hq
            exact ⟨e, (hwo q h0 hr).trans h⟩
          · obtain ⟨j, rfl⟩ : ∃ j, q = 12 + j := ⟨q - 12, by omega⟩
            obtain ⟨gj, g3, -⟩ := hI2 j (by omega)
            exact ⟨_, g3⟩
      have hf : f = (5, 1, 0, 0, 0, 0) ∨ f = (5, 2, 0, 0, 0, 0) := by
        rcases List.mem_cons.mp hf with h1 | h1
        · exact Or.inl h1
        · exact Or.inr (List.mem_singleton.mp h1)
      rcases hf with rfl | rfl
      · refine ⟨had9, sh.2 0, 13, _, y, hm0, (hfs 16 (by decide) (by decide)).trans o2, fun h h1 h2 => ?_, fun j hj => ⟨_, hbr j hj⟩⟩
        obtain ⟨g9, g1, g2⟩ := o3 h h1 h2
        exact ⟨g9, hcr h g9 h2 g1, g2⟩
      · refine ⟨had9, g 2, g 3, ⟨sh.2 0, 13, _, nI h, g, hm0, (hfs 25 (by decide) (by decide)).trans a3, ?_, rfl, rfl, by rw [nI_clamp (by omega)]; exact hh9⟩, sh.2 0, 13, _, hm0, fun j hj => ?_, Or.inl ?_⟩
        · rw [nI_clamp (by omega)]
          exact hcr h g hh9 ⟨ca, cA2, 9, fc, cr, cB, 7, r1, r2, r3, r4⟩
        · obtain ⟨gj, g1, g2⟩ := hI2 j hj
          exact ⟨_, cB, 24, gj, hbr j hj, g1, bh_fit (g2 hj) t4 t5 hne2⟩
        · rw [List.getElem?_set_self (by rw [List.length_set]; omega)]
    · have h1 : i < 1 := hi
      have h2 : i = 0 := by omega
      subst h2
      exact hv0.symm
  exact vx_ret (W.widen (Nat.le_refl _) (Nat.le_refl _) (W.vret hexec hb hret (fun t ht _ => ⟨⟨(sh, w), rfl, hP0, by rw [ht]; exact hP, hD9⟩, hS.F ht⟩) hS.2.2 dbh_99 hlocks))
