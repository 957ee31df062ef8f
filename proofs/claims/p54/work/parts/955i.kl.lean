section
variable {p : Program} {l : Launch} {e : Env} {R : Room} {s : State} {m : MethodId} {args : Array Value} {below : List Frame} {meth : Method} {c : Code} {Q : State → Prop}
variable {D : va_G} {tys : List (ClassId × FieldType)} {cO cD : ClassId} {A : Nat → Prop} {sh : en_H} {w : va_W} {H : Heap} {locs : List Loc} {ls : Array Slot} {cells slots : Nat} {E : Int32 → Int32 → Prop} {LP : en_H → va_W → Prop} {st : Nat} {cx cy : Int32} {fs fx : List Value}
variable {hc pc hm pm : Nat} {bg bm : Int32} {ix ar : Nat → Int32} {ck rr mk : Nat → Nat → Int32}
set_option maxHeartbeats 4000000 in
theorem km_begin (hl9 : l.stackTraces = false) (a1 : Int32) (hb1 : 0 ≤ a1.toInt ∧ a1.toInt ≤ 65535) (hLP : lw_stw [] LP) (F : lw_Fm p R s m args c D tys cO cD A) (L : lw_H D A s w H locs) (I : lw_I E LP tys cO cD 66 138 139 sh w st cx cy fs) (hs : kx_sh sh) (hX : kx_X tys sh w fx hc pc bg ix ar ck) (hM : kx_M tys sh w fs hm pm bm rr mk) (hls : ls.size = 9) (hcs : cells + 8 ≤ R.cells ∧ slots + 64 ≤ R.slots)
    (kk : ∀ (u : en_H × va_W) (res : Option Value) (H1 : Heap) (locs1 : List Loc) (st2 : Nat) (cx2 cy2 : Int32) (fs2 fx2 : List Value) (b2 : Int32), en_rv 0 res → lw_I E LP tys cO cD 66 138 139 u.1 u.2 st2 cx2 cy2 fs2 → lw_H D A s u.2 H1 locs1 → kx_sh u.1 → kx_X tys u.1 u.2 fx2 hc pc bg ix ar ck → fx2[11]? = fx[11]? → kx_M tys u.1 u.2 fs2 hm pm b2 rr mk → kx_om_begin hm pm bm a1 b2 → W p l e R s m args below meth c H1 locs1 (cells + 8) (slots + 64) Q (F0 m 694 ls (res.toList ++ []))) :
    W p l e R s m args below meth c H locs cells slots Q (F0 m 691 ls (([.int a1] : List Value).reverse ++ [.ref (sh.2 0)])) := by
  have fM := hM.1
  have hc9 : hm ≤ 9 := fM.2.2.2.2.2.2.2.1
  have pc9 : pm ≤ 6 := fM.2.2.2.2.2.2.2.2.1
  have n16 : (nI hm).toInt = (hm : Int) := kx_nI (by omega)
  have n17 : (nI pm).toInt = (pm : Int) := kx_nI (by omega)
  have k9 : ∀ {PP : Int32 → Int32 → Prop} {KT : List en_D} {tk : List Nat} {md : List (Nat × Nat)} {u : en_H × va_W} {res : Option Value} {H1 : Heap} {locs1 : List Loc} {st' : Nat} {cx' cy' : Int32} {fs' : List Value}, en_Px tys PP KT tk md sh w u → (∀ z ∈ (0, 10) :: (0, 11) :: kx_wX, z ∉ md) → (∀ z ∈ kx_wM, z ∉ md) → kx_om_begin hm pm bm a1 (if st' = 0 then 0 else 1) → en_rv 0 res → lw_I E LP tys cO cD 66 138 139 u.1 u.2 st' cx' cy' fs' → lw_H D A s u.2 H1 locs1 → W p l e R s m args below meth c H1 locs1 (cells + 8) (slots + 64) Q (F0 m 694 ls (res.toList ++ [])) := fun h h1 h2 h3 hrv I2 L2 => by
    obtain ⟨fx2, x1, x2⟩ := kx_bX h hs hX h1
    exact kk _ _ _ _ _ _ _ _ fx2 _ hrv I2 L2 (hs.gr h.1) x1 x2 (kx_bM h hs hM h2 I2) h3
  have hbm := kx_st1 I hM
  obtain rfl | rfl | rfl | rfl | rfl := lw_stc I.hst
  · skip
    obtain hb2 | hb2 | hb2 | hb2 | hb2 := lw_chr hb1
    · have hb1 := hb2
      have f16 := fM.2.2.2.2.1
      have f17 := fM.2.2.2.2.2.1
      obtain ⟨x16, ex16⟩ : ∃ x : Int32, x = nI hm := ⟨_, rfl⟩
      obtain ⟨x17, ex17⟩ : ∃ x : Int32, x = nI pm := ⟨_, rfl⟩
      have v16 : x16.toInt = (hm : Int) := by rw [ex16]; exact n16
      have v17 : x17.toInt = (pm : Int) := by rw [ex17]; exact n17
      rw [← ex16] at f16
      rw [← ex17] at f17
      by_cases hz4 : hm = 0
      · skip
        have l16 : (0 : Int) ≤ x16.toInt := by omega
        have u16 : x16.toInt ≤ (0 : Int) := by omega
        obtain ⟨x20, f20, l20, u20⟩ := I.hs.2.2.1 (20, 0, 0) (by decide)
        have l20 : (0 : Int) ≤ x20.toInt := l20
        have u20 : x20.toInt ≤ (0 : Int) := u20
        obtain ⟨x21, f21, l21, u21⟩ := I.hs.2.2.1 (21, 0, 0) (by decide)
        have l21 : (0 : Int) ≤ x21.toInt := l21
        have u21 : x21.toInt ≤ (0 : Int) := u21
        obtain ⟨x22, f22, l22, u22⟩ := I.hs.2.2.1 (22, 0, 0) (by decide)
        have l22 : (0 : Int) ≤ x22.toInt := l22
        have u22 : x22.toInt ≤ (0 : Int) := u22
        refine lw_mc (lv' := 1) (ρp := [.ref (sh.2 0), .int a1, .int x16, .int x20, .int x21, .int x22]) (As := [.int a1]) F L (ct_X7_begin_10 hl9 (cx := cx) (cy := cy)) gm_X7_begin I.hs.2.1 rfl rfl (Nat.le_of_ble_eq_true rfl) (by decide) ⟨Nat.le_trans (Nat.add_le_add_left (Nat.le_of_ble_eq_true rfl) _) hcs.1, Nat.le_trans (Nat.add_le_add_left (Nat.le_of_ble_eq_true rfl) _) hcs.2⟩ hls rfl (lw_pre I.hs.1 (by decide) (Or.inr (by decide))) (I.hO cx cy) (lw_pa (env := k_X7_begin_10.2.1.1) (fa := k_X7_begin_10.2.1.2) ⟨⟨0, I.h20, rfl⟩, ⟨a1, rfl, hb1.1, hb1.2⟩, ⟨x16, rfl, l16, u16⟩, ⟨x20, rfl, l20, u20⟩, ⟨x21, rfl, l21, u21⟩, ⟨x22, rfl, l22, u22⟩, trivial⟩ (en_ac (lw_f0 I.hs.2.1 rfl f16 rfl) (en_ac (lw_f0 I.hs.2.1 rfl f20 rfl) (en_ac (lw_f0 I.hs.2.1 rfl f21 rfl) (en_ac (lw_f0 I.hs.2.1 rfl f22 rfl) (en_ac (⟨I.had, I.hs.2.2.2.1⟩) (en_an))))))) dlw_691 (fun u res H1 locs1 hrv hpo L1 => ?_)
        refine W.widen (k := cells + 8) (n := slots + 64) (Nat.add_le_add_left (Nat.le_of_ble_eq_true rfl) _) (Nat.add_le_add_left (Nat.le_of_ble_eq_true rfl) _) ?_
        obtain ⟨fs', I1⟩ := lw_Iqq hLP I hpo.1 (by decide +kernel) (by decide +kernel) (by decide +kernel) (by decide +kernel) (lw_Io I hpo.1 (by decide +kernel)) (lw_Id I hpo.1 (by decide +kernel))
        exact k9 hpo.1 (by decide +kernel) (by decide +kernel) (Or.inr ⟨hbm, Or.inr ⟨rfl, fun h9 => by rcases h9 with ⟨z1, z2, z3⟩ | ⟨z1, z2, z3⟩ <;> omega⟩⟩) hrv I1 L1
      by_cases hz5 : pm = 0
      · skip
        have l17 : (0 : Int) ≤ x17.toInt := by omega
        have u17 : x17.toInt ≤ (0 : Int) := by omega
        obtain ⟨x20, f20, l20, u20⟩ := I.hs.2.2.1 (20, 0, 0) (by decide)
        have l20 : (0 : Int) ≤ x20.toInt := l20
        have u20 : x20.toInt ≤ (0 : Int) := u20
        obtain ⟨x21, f21, l21, u21⟩ := I.hs.2.2.1 (21, 0, 0) (by decide)
        have l21 : (0 : Int) ≤ x21.toInt := l21
        have u21 : x21.toInt ≤ (0 : Int) := u21
        obtain ⟨x22, f22, l22, u22⟩ := I.hs.2.2.1 (22, 0, 0) (by decide)
        have l22 : (0 : Int) ≤ x22.toInt := l22
        have u22 : x22.toInt ≤ (0 : Int) := u22
        refine lw_mc (lv' := 1) (ρp := [.ref (sh.2 0), .int a1, .int x17, .int x20, .int x21, .int x22]) (As := [.int a1]) F L (ct_X7_begin_11 hl9 (cx := cx) (cy := cy)) gm_X7_begin I.hs.2.1 rfl rfl (Nat.le_of_ble_eq_true rfl) (by decide) ⟨Nat.le_trans (Nat.add_le_add_left (Nat.le_of_ble_eq_true rfl) _) hcs.1, Nat.le_trans (Nat.add_le_add_left (Nat.le_of_ble_eq_true rfl) _) hcs.2⟩ hls rfl (lw_pre I.hs.1 (by decide) (Or.inr (by decide))) (I.hO cx cy) (lw_pa (env := k_X7_begin_11.2.1.1) (fa := k_X7_begin_11.2.1.2) ⟨⟨0, I.h20, rfl⟩, ⟨a1, rfl, hb1.1, hb1.2⟩, ⟨x17, rfl, l17, u17⟩, ⟨x20, rfl, l20, u20⟩, ⟨x21, rfl, l21, u21⟩, ⟨x22, rfl, l22, u22⟩, trivial⟩ (en_ac (lw_f0 I.hs.2.1 rfl f17 rfl) (en_ac (lw_f0 I.hs.2.1 rfl f20 rfl) (en_ac (lw_f0 I.hs.2.1 rfl f21 rfl) (en_ac (lw_f0 I.hs.2.1 rfl f22 rfl) (en_ac (⟨I.had, I.hs.2.2.2.1⟩) (en_an))))))) dlw_691 (fun u res H1 locs1 hrv hpo L1 => ?_)
        refine W.widen (k := cells + 8) (n := slots + 64) (Nat.add_le_add_left (Nat.le_of_ble_eq_true rfl) _) (Nat.add_le_add_left (Nat.le_of_ble_eq_true rfl) _) ?_
        obtain ⟨fs', I1⟩ := lw_Iqq hLP I hpo.1 (by decide +kernel) (by decide +kernel) (by decide +kernel) (by decide +kernel) (lw_Io I hpo.1 (by decide +kernel)) (lw_Id I hpo.1 (by decide +kernel))
        exact k9 hpo.1 (by decide +kernel) (by decide +kernel) (Or.inr ⟨hbm, Or.inr ⟨rfl, fun h9 => by rcases h9 with ⟨z1, z2, z3⟩ | ⟨z1, z2, z3⟩ <;> omega⟩⟩) hrv I1 L1
      by_cases hz6 : pm = 1
      · skip
        have l17 : (1 : Int) ≤ x17.toInt := by omega
        have u17 : x17.toInt ≤ (1 : Int) := by omega
        obtain ⟨x20, f20, l20, u20⟩ := I.hs.2.2.1 (20, 0, 0) (by decide)
        have l20 : (0 : Int) ≤ x20.toInt := l20
        have u20 : x20.toInt ≤ (0 : Int) := u20
        obtain ⟨x21, f21, l21, u21⟩ := I.hs.2.2.1 (21, 0, 0) (by decide)
        have l21 : (0 : Int) ≤ x21.toInt := l21
        have u21 : x21.toInt ≤ (0 : Int) := u21
        obtain ⟨x22, f22, l22, u22⟩ := I.hs.2.2.1 (22, 0, 0) (by decide)
        have l22 : (0 : Int) ≤ x22.toInt := l22
        have u22 : x22.toInt ≤ (0 : Int) := u22
        refine lw_mc (lv' := 1) (ρp := [.ref (sh.2 0), .int a1, .int x17, .int x20, .int x21, .int x22]) (As := [.int a1]) F L (ct_X7_begin_14 hl9 (cx := cx) (cy := cy)) gm_X7_begin I.hs.2.1 rfl rfl (Nat.le_of_ble_eq_true rfl) (by decide) ⟨Nat.le_trans (Nat.add_le_add_left (Nat.le_of_ble_eq_true rfl) _) hcs.1, Nat.le_trans (Nat.add_le_add_left (Nat.le_of_ble_eq_true rfl) _) hcs.2⟩ hls rfl (lw_pre I.hs.1 (by decide) (Or.inr (by decide))) (I.hO cx cy) (lw_pa (env := k_X7_begin_14.2.1.1) (fa := k_X7_begin_14.2.1.2) ⟨⟨0, I.h20, rfl⟩, ⟨a1, rfl, hb1.1, hb1.2⟩, ⟨x17, rfl, l17, u17⟩, ⟨x20, rfl, l20, u20⟩, ⟨x21, rfl, l21, u21⟩, ⟨x22, rfl, l22, u22⟩, trivial⟩ (en_ac (lw_f0 I.hs.2.1 rfl f17 rfl) (en_ac (lw_f0 I.hs.2.1 rfl f20 rfl) (en_ac (lw_f0 I.hs.2.1 rfl f21 rfl) (en_ac (lw_f0 I.hs.2.1 rfl f22 rfl) (en_ac (⟨I.had, I.hs.2.2.2.1⟩) (en_an))))))) dlw_691 (fun u res H1 locs1 hrv hpo L1 => ?_)
        refine W.widen (k := cells + 8) (n := slots + 64) (Nat.add_le_add_left (Nat.le_of_ble_eq_true rfl) _) (Nat.add_le_add_left (Nat.le_of_ble_eq_true rfl) _) ?_
        obtain ⟨fs', I1⟩ := lw_Iqq hLP I hpo.1 (by decide +kernel) (by decide +kernel) (by decide +kernel) (by decide +kernel) (lw_Io I hpo.1 (by decide +kernel)) (lw_Id I hpo.1 (by decide +kernel))
        exact k9 hpo.1 (by decide +kernel) (by decide +kernel) (Or.inr ⟨hbm, Or.inr ⟨rfl, fun h9 => by rcases h9 with ⟨z1, z2, z3⟩ | ⟨z1, z2, z3⟩ <;> omega⟩⟩) hrv I1 L1
      by_cases hz7 : 3 ≤ pm
      · skip
        have l17 : (3 : Int) ≤ x17.toInt := by omega
        have u17 : x17.toInt ≤ (6 : Int) := by omega
        obtain ⟨x20, f20, l20, u20⟩ := I.hs.2.2.1 (20, 0, 0) (by decide)
        have l20 : (0 : Int) ≤ x20.toInt := l20
        have u20 : x20.toInt ≤ (0 : Int) := u20
        obtain ⟨x21, f21, l21, u21⟩ := I.hs.2.2.1 (21, 0, 0) (by decide)
        have l21 : (0 : Int) ≤ x21.toInt := l21
        have u21 : x21.toInt ≤ (0 : Int) := u21
        obtain ⟨x22, f22, l22, u22⟩ := I.hs.2.2.1 (22, 0, 0) (by decide)
        have l22 : (0 : Int) ≤ x22.toInt := l22
        have u22 : x22.toInt ≤ (0 : Int) := u22
        refine lw_mc (lv' := 1) (ρp := [.ref (sh.2 0), .int a1, .int x17, .int x20, .int x21, .int x22]) (As := [.int a1]) F L (ct_X7_begin_15 hl9 (cx := cx) (cy := cy)) gm_X7_begin I.hs.2.1 rfl rfl (Nat.le_of_ble_eq_true rfl) (by decide) ⟨Nat.le_trans (Nat.add_le_add_left (Nat.le_of_ble_eq_true rfl) _) hcs.1, Nat.le_trans (Nat.add_le_add_left (Nat.le_of_ble_eq_true rfl) _) hcs.2⟩ hls rfl (lw_pre I.hs.1 (by decide) (Or.inr (by decide))) (I.hO cx cy) (lw_pa (env := k_X7_begin_15.2.1.1) (fa := k_X7_begin_15.2.1.2) ⟨⟨0, I.h20, rfl⟩, ⟨a1, rfl, hb1.1, hb1.2⟩, ⟨x17, rfl, l17, u17⟩, ⟨x20, rfl, l20, u20⟩, ⟨x21, rfl, l21, u21⟩, ⟨x22, rfl, l22, u22⟩, trivial⟩ (en_ac (lw_f0 I.hs.2.1 rfl f17 rfl) (en_ac (lw_f0 I.hs.2.1 rfl f20 rfl) (en_ac (lw_f0 I.hs.2.1 rfl f21 rfl) (en_ac (lw_f0 I.hs.2.1 rfl f22 rfl) (en_ac (⟨I.had, I.hs.2.2.2.1⟩) (en_an))))))) dlw_691 (fun u res H1 locs1 hrv hpo L1 => ?_)
        refine W.widen (k := cells + 8) (n := slots + 64) (Nat.add_le_add_left (Nat.le_of_ble_eq_true rfl) _) (Nat.add_le_add_left (Nat.le_of_ble_eq_true rfl) _) ?_
        obtain ⟨fs', I1⟩ := lw_Iqq hLP I hpo.1 (by decide +kernel) (by decide +kernel) (by decide +kernel) (by decide +kernel) (lw_Io I hpo.1 (by decide +kernel)) (lw_Id I hpo.1 (by decide +kernel))
        exact k9 hpo.1 (by decide +kernel) (by decide +kernel) (Or.inr ⟨hbm, Or.inr ⟨rfl, fun h9 => by rcases h9 with ⟨z1, z2, z3⟩ | ⟨z1, z2, z3⟩ <;> omega⟩⟩) hrv I1 L1
      have l16 : (1 : Int) ≤ x16.toInt := by omega
      have u16 : x16.toInt ≤ (9 : Int) := by omega
      have l17 : (2 : Int) ≤ x17.toInt := by omega
      have u17 : x17.toInt ≤ (2 : Int) := by omega
      obtain ⟨x20, f20, l20, u20⟩ := I.hs.2.2.1 (20, 0, 0) (by decide)
      have l20 : (0 : Int) ≤ x20.toInt := l20
      have u20 : x20.toInt ≤ (0 : Int) := u20
      obtain ⟨x21, f21, l21, u21⟩ := I.hs.2.2.1 (21, 0, 0) (by decide)
      have l21 : (0 : Int) ≤ x21.toInt := l21
      have u21 : x21.toInt ≤ (0 : Int) := u21
      obtain ⟨x22, f22, l22, u22⟩ := I.hs.2.2.1 (22, 0, 0) (by decide)
      have l22 : (0 : Int) ≤ x22.toInt := l22
      have u22 : x22.toInt ≤ (0 : Int) := u22
      have b22 := I.hs.2.2.1 (22, 0, 0) (by decide)
      have b21 := I.hs.2.2.1 (21, 0, 0) (by decide)
      have b20 := I.hs.2.2.1 (20, 0, 0) (by decide)
      have b16 := I.hs.2.2.1 (16, 0, 9) (by decide)
      have b17 : lw_b fs (17, 2, 2) := ⟨x17, f17, l17, u17⟩
      refine lw_mc (lv' := 1) (ρp := [.ref (sh.2 0), .int a1, .int x16, .int x17, .int x20, .int x21, .int x22]) (As := [.int a1]) F L (ct_X7_begin_0pz hl9 (cx := cx) (cy := cy)) gm_X7_begin I.hs.2.1 rfl rfl (Nat.le_of_ble_eq_true rfl) (by decide) ⟨Nat.le_trans (Nat.add_le_add_left (Nat.le_of_ble_eq_true rfl) _) hcs.1, Nat.le_trans (Nat.add_le_add_left (Nat.le_of_ble_eq_true rfl) _) hcs.2⟩ hls rfl (lw_tk (I.hs.1) (by decide)) (I.hO cx cy) (lw_pa (env := k_X7_begin_0pz.2.1.1) (fa := k_X7_begin_0pz.2.1.2) ⟨⟨0, I.h20, rfl⟩, ⟨a1, rfl, hb1.1, hb1.2⟩, ⟨x16, rfl, l16, u16⟩, ⟨x17, rfl, l17, u17⟩, ⟨x20, rfl, l20, u20⟩, ⟨x21, rfl, l21, u21⟩, ⟨x22, rfl, l22, u22⟩, trivial⟩ (en_ac (lw_f0 I.hs.2.1 rfl f16 rfl) (en_ac (lw_f0 I.hs.2.1 rfl f17 rfl) (en_ac (lw_f0 I.hs.2.1 rfl f20 rfl) (en_ac (lw_f0 I.hs.2.1 rfl f21 rfl) (en_ac (lw_f0 I.hs.2.1 rfl f22 rfl) (en_ac (⟨I.had, I.hs.2.2.2.1⟩) (en_an)))))))) dlw_691 (fun u res H1 locs1 hrv hpo L1 => ?_)
      refine W.widen (k := cells + 8) (n := slots + 64) (Nat.add_le_add_left (Nat.le_of_ble_eq_true rfl) _) (Nat.add_le_add_left (Nat.le_of_ble_eq_true rfl) _) ?_
      obtain ⟨hpx, o9, ho9, ρ9, hPa9, hi9, -⟩ := hpo
      obtain ⟨fs', g1, g2⟩ := lw_fs I.h20 I.hs.2.1 hpx
      have h09 : ρ9[0]? = some (.ref (u.1.2 0)) := by rw [hi9 0 (show 0 < 2 by decide), (hpx.1.at I.h20).2]; rfl
      have hWu := lw_wd (I.hs.1) hpx (fun z hz => Or.inl ((by decide +kernel : ∀ z ∈ k_X7_begin_0pz.2.2.2.1, z.1 ∈ k_X7_begin_0pz.2.2.2.2.1) z hz)) (fun _ => Or.inl rfl)
      have ho9 := List.mem_singleton.mp ho9
      subst ho9
      have hB9 : ∀ b ∈ lw_B 4, lw_b fs' b := en_ac (lw_hb_ok (b := (22, 1, 1)) (by decide +kernel) L1.hD g1 h09 hPa9) (en_ac (lw_hb_ok (b := (21, 1, 1)) (by decide +kernel) L1.hD g1 h09 hPa9) (en_ac (lw_hb_ok (b := (20, 109, 109)) (by decide +kernel) L1.hD g1 h09 hPa9) (en_ac (lw_hb_ok (b := (16, 1, 9)) (by decide +kernel) L1.hD g1 h09 hPa9) (en_ac (lw_bk b17 (g2 17 (by decide +kernel)) (by decide) (by decide)) (en_ac (lw_hb_ok (b := (25, 0, 8)) (by decide +kernel) L1.hD g1 h09 hPa9) en_an)))))
      have hO1 : en_O1 u.2 := (hPa9.2.2 (5, 1, 0, 0, 0, 0) (by decide +kernel)).2
      have hO2 : en_O2 u.2 := (hPa9.2.2 (5, 2, 0, 0, 0, 0) (by decide +kernel)).2
      have hhn := lw_hh (fs := fs') (lo := 0) (hi := 0) (lo' := 1) (hi' := 9) (lw_hb_ok (by decide +kernel) L1.hD g1 h09 hPa9) (lw_hb_ok (b := (16, 1, 9)) (by decide +kernel) L1.hD g1 h09 hPa9) (by decide)
      obtain ⟨cx9, cy9, hS9⟩ := lw_on2 (st := 4) (fun q hq => I.h27 q (lw_new hpx.1 (by decide) hq)) g1 (lw_pzp hWu) hO1 hO2 (by decide) hB9 hhn
      exact k9 hpx (by decide +kernel) (by decide +kernel) (Or.inr ⟨hbm, Or.inl ⟨rfl, Or.inr ⟨by omega, by omega, by omega⟩⟩⟩) hrv (lw_Iq hLP I hpx (by decide +kernel) g1 (by decide) (lw_Io I hpx (by decide +kernel)) (lw_Id I hpx (by decide +kernel)) hS9) L1
    · have hb1 := hb2
      have f16 := fM.2.2.2.2.1
      have f17 := fM.2.2.2.2.2.1
      obtain ⟨x16, ex16⟩ : ∃ x : Int32, x = nI hm := ⟨_, rfl⟩
      obtain ⟨x17, ex17⟩ : ∃ x : Int32, x = nI pm := ⟨_, rfl⟩
      have v16 : x16.toInt = (hm : Int) := by rw [ex16]; exact n16
      have v17 : x17.toInt = (pm : Int) := by rw [ex17]; exact n17
      rw [← ex16] at f16
      rw [← ex17] at f17
      by_cases hz4 : hm = 0
      · skip
        have l16 : (0 : Int) ≤ x16.toInt := by omega
        have u16 : x16.toInt ≤ (0 : Int) := by omega
        obtain ⟨x20, f20, l20, u20⟩ := I.hs.2.2.1 (20, 0, 0) (by decide)
        have l20 : (0 : Int) ≤ x20.toInt := l20
        have u20 : x20.toInt ≤ (0 : Int) := u20
        obtain ⟨x21, f21, l21, u21⟩ := I.hs.2.2.1 (21, 0, 0) (by decide)
        have l21 : (0 : Int) ≤ x21.toInt := l21
        have u21 : x21.toInt ≤ (0 : Int) := u21
        obtain ⟨x22, f22, l22, u22⟩ := I.hs.2.2.1 (22, 0, 0) (by decide)
        have l22 : (0 : Int) ≤ x22.toInt := l22
        have u22 : x22.toInt ≤ (0 : Int) := u22
        refine lw_mc (lv' := 1) (ρp := [.ref (sh.2 0), .int a1, .int x16, .int x20, .int x21, .int x22]) (As := [.int a1]) F L (ct_X7_begin_12 hl9 (cx := cx) (cy := cy)) gm_X7_begin I.hs.2.1 rfl rfl (Nat.le_of_ble_eq_true rfl) (by decide) ⟨Nat.le_trans (Nat.add_le_add_left (Nat.le_of_ble_eq_true rfl) _) hcs.1, Nat.le_trans (Nat.add_le_add_left (Nat.le_of_ble_eq_true rfl) _) hcs.2⟩ hls rfl (lw_pre I.hs.1 (by decide) (Or.inr (by decide))) (I.hO cx cy) (lw_pa (env := k_X7_begin_12.2.1.1) (fa := k_X7_begin_12.2.1.2) ⟨⟨0, I.h20, rfl⟩, ⟨a1, rfl, hb1.1, hb1.2⟩, ⟨x16, rfl, l16, u16⟩, ⟨x20, rfl, l20, u20⟩, ⟨x21, rfl, l21, u21⟩, ⟨x22, rfl, l22, u22⟩, trivial⟩ (en_ac (lw_f0 I.hs.2.1 rfl f16 rfl) (en_ac (lw_f0 I.hs.2.1 rfl f20 rfl) (en_ac (lw_f0 I.hs.2.1 rfl f21 rfl) (en_ac (lw_f0 I.hs.2.1 rfl f22 rfl) (en_ac (⟨I.had, I.hs.2.2.2.1⟩) (en_an))))))) dlw_691 (fun u res H1 locs1 hrv hpo L1 => ?_)
        refine W.widen (k := cells + 8) (n := slots + 64) (Nat.add_le_add_left (Nat.le_of_ble_eq_true rfl) _) (Nat.add_le_add_left (Nat.le_of_ble_eq_true rfl) _) ?_
        obtain ⟨fs', I1⟩ := lw_Iqq hLP I hpo.1 (by decide +kernel) (by decide +kernel) (by decide +kernel) (by decide +kernel) (lw_Io I hpo.1 (by decide +kernel)) (lw_Id I hpo.1 (by decide +kernel))
        exact k9 hpo.1 (by decide +kernel) (by decide +kernel) (Or.inr ⟨hbm, Or.inr ⟨rfl, fun h9 => by rcases h9 with ⟨z1, z2, z3⟩ | ⟨z1, z2, z3⟩ <;> omega⟩⟩) hrv I1 L1
      by_cases hz5 : pm = 0
      · skip
        have l17 : (0 : Int) ≤ x17.toInt := by omega
        have u17 : x17.toInt ≤ (0 : Int) := by omega
        obtain ⟨x20, f20, l20, u20⟩ := I.hs.2.2.1 (20, 0, 0) (by decide)
        have l20 : (0 : Int) ≤ x20.toInt := l20
        have u20 : x20.toInt ≤ (0 : Int) := u20
        obtain ⟨x21, f21, l21, u21⟩ := I.hs.2.2.1 (21, 0, 0) (by decide)
        have l21 : (0 : Int) ≤ x21.toInt := l21
        have u21 : x21.toInt ≤ (0 : Int) := u21
        obtain ⟨x22, f22, l22, u22⟩ := I.hs.2.2.1 (22, 0, 0) (by decide)
        have l22 : (0 : Int) ≤ x22.toInt := l22
        have u22 : x22.toInt ≤ (0 : Int) := u22
        refine lw_mc (lv' := 1) (ρp := [.ref (sh.2 0), .int a1, .int x17, .int x20, .int x21, .int x22]) (As := [.int a1]) F L (ct_X7_begin_13 hl9 (cx := cx) (cy := cy)) gm_X7_begin I.hs.2.1 rfl rfl (Nat.le_of_ble_eq_true rfl) (by decide) ⟨Nat.le_trans (Nat.add_le_add_left (Nat.le_of_ble_eq_true rfl) _) hcs.1, Nat.le_trans (Nat.add_le_add_left (Nat.le_of_ble_eq_true rfl) _) hcs.2⟩ hls rfl (lw_pre I.hs.1 (by decide) (Or.inr (by decide))) (I.hO cx cy) (lw_pa (env := k_X7_begin_13.2.1.1) (fa := k_X7_begin_13.2.1.2) ⟨⟨0, I.h20, rfl⟩, ⟨a1, rfl, hb1.1, hb1.2⟩, ⟨x17, rfl, l17, u17⟩, ⟨x20, rfl, l20, u20⟩, ⟨x21, rfl, l21, u21⟩, ⟨x22, rfl, l22, u22⟩, trivial⟩ (en_ac (lw_f0 I.hs.2.1 rfl f17 rfl) (en_ac (lw_f0 I.hs.2.1 rfl f20 rfl) (en_ac (lw_f0 I.hs.2.1 rfl f21 rfl) (en_ac (lw_f0 I.hs.2.1 rfl f22 rfl) (en_ac (⟨I.had, I.hs.2.2.2.1⟩) (en_an))))))) dlw_691 (fun u res H1 locs1 hrv hpo L1 => ?_)
        refine W.widen (k := cells + 8) (n := slots + 64) (Nat.add_le_add_left (Nat.le_of_ble_eq_true rfl) _) (Nat.add_le_add_left (Nat.le_of_ble_eq_true rfl) _) ?_
        obtain ⟨fs', I1⟩ := lw_Iqq hLP I hpo.1 (by decide +kernel) (by decide +kernel) (by decide +kernel) (by decide +kernel) (lw_Io I hpo.1 (by decide +kernel)) (lw_Id I hpo.1 (by decide +kernel))
        exact k9 hpo.1 (by decide +kernel) (by decide +kernel) (Or.inr ⟨hbm, Or.inr ⟨rfl, fun h9 => by rcases h9 with ⟨z1, z2, z3⟩ | ⟨z1, z2, z3⟩ <;> omega⟩⟩) hrv I1 L1
      have l16 : (1 : Int) ≤ x16.toInt := by omega
      have u16 : x16.toInt ≤ (9 : Int) := by omega
      have l17 : (1 : Int) ≤ x17.toInt := by omega
      have u17 : x17.toInt ≤ (6 : Int) := by omega
      obtain ⟨x20, f20, l20, u20⟩ := I.hs.2.2.1 (20, 0, 0) (by decide)
      have l20 : (0 : Int) ≤ x20.toInt := l20
      have u20 : x20.toInt ≤ (0 : Int) := u20
      obtain ⟨x21, f21, l21, u21⟩ := I.hs.2.2.1 (21, 0, 0) (by decide)
      have l21 : (0 : Int) ≤ x21.toInt := l21
      have u21 : x21.toInt ≤ (0 : Int) := u21
      obtain ⟨x22, f22, l22, u22⟩ := I.hs.2.2.1 (22, 0, 0) (by decide)
      have l22 : (0 : Int) ≤ x22.toInt := l22
      have u22 : x22.toInt ≤ (0 : Int) := u22
      have b22 := I.hs.2.2.1 (22, 0, 0) (by decide)
      have b21 := I.hs.2.2.1 (21, 0, 0) (by decide)
      have b20 := I.hs.2.2.1 (20, 0, 0) (by decide)
      have b16 := I.hs.2.2.1 (16, 0, 9) (by decide)
      have b17 : lw_b fs (17, 1, 6) := ⟨x17, f17, l17, u17⟩
      refine lw_mc (lv' := 1) (ρp := [.ref (sh.2 0), .int a1, .int x16, .int x17, .int x20, .int x21, .int x22]) (As := [.int a1]) F L (ct_X7_begin_1pz hl9 (cx := cx) (cy := cy)) gm_X7_begin I.hs.2.1 rfl rfl (Nat.le_of_ble_eq_true rfl) (by decide) ⟨Nat.le_trans (Nat.add_le_add_left (Nat.le_of_ble_eq_true rfl) _) hcs.1, Nat.le_trans (Nat.add_le_add_left (Nat.le_of_ble_eq_true rfl) _) hcs.2⟩ hls rfl (lw_tk (I.hs.1) (by decide)) (I.hO cx cy) (lw_pa (env := k_X7_begin_1pz.2.1.1) (fa := k_X7_begin_1pz.2.1.2) ⟨⟨0, I.h20, rfl⟩, ⟨a1, rfl, hb1.1, hb1.2⟩, ⟨x16, rfl, l16, u16⟩, ⟨x17, rfl, l17, u17⟩, ⟨x20, rfl, l20, u20⟩, ⟨x21, rfl, l21, u21⟩, ⟨x22, rfl, l22, u22⟩, trivial⟩ (en_ac (lw_f0 I.hs.2.1 rfl f16 rfl) (en_ac (lw_f0 I.hs.2.1 rfl f17 rfl) (en_ac (lw_f0 I.hs.2.1 rfl f20 rfl) (en_ac (lw_f0 I.hs.2.1 rfl f21 rfl) (en_ac (lw_f0 I.hs.2.1 rfl f22 rfl) (en_ac (⟨I.had, I.hs.2.2.2.1⟩) (en_an)))))))) dlw_691 (fun u res H1 locs1 hrv hpo L1 => ?_)
      refine W.widen (k := cells + 8) (n := slots + 64) (Nat.add_le_add_left (Nat.le_of_ble_eq_true rfl) _) (Nat.add_le_add_left (Nat.le_of_ble_eq_true rfl) _) ?_
      obtain ⟨hpx, o9, ho9, ρ9, hPa9, hi9, -⟩ := hpo
      obtain ⟨fs', g1, g2⟩ := lw_fs I.h20 I.hs.2.1 hpx
      have h09 : ρ9[0]? = some (.ref (u.1.2 0)) := by rw [hi9 0 (show 0 < 2 by decide), (hpx.1.at I.h20).2]; rfl
      have hWu := lw_wd (I.hs.1) hpx (fun z hz => Or.inl ((by decide +kernel : ∀ z ∈ k_X7_begin_1pz.2.2.2.1, z.1 ∈ k_X7_begin_1pz.2.2.2.2.1) z hz)) (fun _ => Or.inl rfl)
      have ho9 := List.mem_singleton.mp ho9
      subst ho9
      have hB9 : ∀ b ∈ lw_B 3, lw_b fs' b := en_ac (lw_hb_ok (b := (22, 1, 1)) (by decide +kernel) L1.hD g1 h09 hPa9) (en_ac (lw_hb_ok (b := (21, 1, 1)) (by decide +kernel) L1.hD g1 h09 hPa9) (en_ac (lw_hb_ok (b := (20, 115, 115)) (by decide +kernel) L1.hD g1 h09 hPa9) (en_ac (lw_hb_ok (b := (16, 1, 9)) (by decide +kernel) L1.hD g1 h09 hPa9) (en_ac (lw_hb_ok (b := (25, 0, 8)) (by decide +kernel) L1.hD g1 h09 hPa9) en_an))))
      have hO1 : en_O1 u.2 := (hPa9.2.2 (5, 1, 0, 0, 0, 0) (by decide +kernel)).2
      have hO2 : en_O2 u.2 := (hPa9.2.2 (5, 2, 0, 0, 0, 0) (by decide +kernel)).2
      have hhn := lw_hh (fs := fs') (lo := 0) (hi := 0) (lo' := 1) (hi' := 9) (lw_hb_ok (by decide +kernel) L1.hD g1 h09 hPa9) (lw_hb_ok (b := (16, 1, 9)) (by decide +kernel) L1.hD g1 h09 hPa9) (by decide)
      obtain ⟨cx9, cy9, hS9⟩ := lw_on2 (st := 3) (fun q hq => I.h27 q (lw_new hpx.1 (by decide) hq)) g1 (lw_pzp hWu) hO1 hO2 (by decide) hB9 hhn
      exact k9 hpx (by decide +kernel) (by decide +kernel) (Or.inr ⟨hbm, Or.inl ⟨rfl, Or.inl ⟨by omega, by omega, by omega⟩⟩⟩) hrv (lw_Iq hLP I hpx (by decide +kernel) g1 (by decide) (lw_Io I hpx (by decide +kernel)) (lw_Id I hpx (by decide +kernel)) hS9) L1
    · have hb1 := hb2
      have f16 := fM.2.2.2.2.1
      have f17 := fM.2.2.2.2.2.1
      obtain ⟨x16, ex16⟩ : ∃ x : Int32, x = nI hm := ⟨_, rfl⟩
      obtain ⟨x17, ex17⟩ : ∃ x : Int32, x = nI pm := ⟨_, rfl⟩
      have v16 : x16.toInt = (hm : Int) := by rw [ex16]; exact n16
      have v17 : x17.toInt = (pm : Int) := by rw [ex17]; exact n17
      rw [← ex16] at f16
      rw [← ex17] at f17
      obtain ⟨x20, f20, l20, u20⟩ := I.hs.2.2.1 (20, 0, 0) (by decide)
      have l20 : (0 : Int) ≤ x20.toInt := l20
      have u20 : x20.toInt ≤ (0 : Int) := u20
      obtain ⟨x21, f21, l21, u21⟩ := I.hs.2.2.1 (21, 0, 0) (by decide)
      have l21 : (0 : Int) ≤ x21.toInt := l21
      have u21 : x21.toInt ≤ (0 : Int) := u21
      obtain ⟨x22, f22, l22, u22⟩ := I.hs.2.2.1 (22, 0, 0) (by decide)
      have l22 : (0 : Int) ≤ x22.toInt := l22
      have u22 : x22.toInt ≤ (0 : Int) := u22
      refine lw_mc (lv' := 1) (ρp := [.ref (sh.2 0), .int a1, .int x20, .int x21, .int x22]) (As := [.int a1]) F L (ct_X7_begin_1 hl9 (cx := cx) (cy := cy)) gm_X7_begin I.hs.2.1 rfl rfl (Nat.le_of_ble_eq_true rfl) (by decide) ⟨Nat.le_trans (Nat.add_le_add_left (Nat.le_of_ble_eq_true rfl) _) hcs.1, Nat.le_trans (Nat.add_le_add_left (Nat.le_of_ble_eq_true rfl) _) hcs.2⟩ hls rfl (lw_pre I.hs.1 (by decide) (Or.inr (by decide))) (I.hO cx cy) (lw_pa (env := k_X7_begin_1.2.1.1) (fa := k_X7_begin_1.2.1.2) ⟨⟨0, I.h20, rfl⟩, ⟨a1, rfl, hb1.1, hb1.2⟩, ⟨x20, rfl, l20, u20⟩, ⟨x21, rfl, l21, u21⟩, ⟨x22, rfl, l22, u22⟩, trivial⟩ (en_ac (lw_f0 I.hs.2.1 rfl f20 rfl) (en_ac (lw_f0 I.hs.2.1 rfl f21 rfl) (en_ac (lw_f0 I.hs.2.1 rfl f22 rfl) (en_ac (⟨I.had, I.hs.2.2.2.1⟩) (en_an)))))) dlw_691 (fun u res H1 locs1 hrv hpo L1 => ?_)
      refine W.widen (k := cells + 8) (n := slots + 64) (Nat.add_le_add_left (Nat.le_of_ble_eq_true rfl) _) (Nat.add_le_add_left (Nat.le_of_ble_eq_true rfl) _) ?_
      obtain ⟨fs', I1⟩ := lw_Iqq hLP I hpo.1 (by decide +kernel) (by decide +kernel) (by decide +kernel) (by decide +kernel) (lw_Io I hpo.1 (by decide +kernel)) (lw_Id I hpo.1 (by decide +kernel))
      exact k9 hpo.1 (by decide +kernel) (by decide +kernel) (Or.inr ⟨hbm, Or.inr ⟨rfl, fun h9 => by rcases h9 with ⟨z1, z2, z3⟩ | ⟨z1, z2, z3⟩ <;> omega⟩⟩) hrv I1 L1
    · have hb1 := hb2
      have f16 := fM.2.2.2.2.1
      have f17 := fM.2.2.2.2.2.1
      obtain ⟨x16, ex16⟩ : ∃ x : Int32, x = nI hm := ⟨_, rfl⟩
      obtain ⟨x17, ex17⟩ : ∃ x : Int32, x = nI pm := ⟨_, rfl⟩
      have v16 : x16.toInt = (hm : Int) := by rw [ex16]; exact n16
      have v17 : x17.toInt = (pm : Int) := by rw [ex17]; exact n17
      rw [← ex16] at f16
      rw [← ex17] at f17
      obtain ⟨x20, f20, l20, u20⟩ := I.hs.2.2.1 (20, 0, 0) (by decide)
      have l20 : (0 : Int) ≤ x20.toInt := l20
      have u20 : x20.toInt ≤ (0 : Int) := u20
      obtain ⟨x21, f21, l21, u21⟩ := I.hs.2.2.1 (21, 0, 0) (by decide)
      have l21 : (0 : Int) ≤ x21.toInt := l21
      have u21 : x21.toInt ≤ (0 : Int) := u21
      obtain ⟨x22, f22, l22, u22⟩ := I.hs.2.2.1 (22, 0, 0) (by decide)
      have l22 : (0 : Int) ≤ x22.toInt := l22
      have u22 : x22.toInt ≤ (0 : Int) := u22
      refine lw_mc (lv' := 1) (ρp := [.ref (sh.2 0), .int a1, .int x20, .int x21, .int x22]) (As := [.int a1]) F L (ct_X7_begin_4 hl9 (cx := cx) (cy := cy)) gm_X7_begin I.hs.2.1 rfl rfl (Nat.le_of_ble_eq_true rfl) (by decide) ⟨Nat.le_trans (Nat.add_le_add_left (Nat.le_of_ble_eq_true rfl) _) hcs.1, Nat.le_trans (Nat.add_le_add_left (Nat.le_of_ble_eq_true rfl) _) hcs.2⟩ hls rfl (lw_pre I.hs.1 (by decide) (Or.inr (by decide))) (I.hO cx cy) (lw_pa (env := k_X7_begin_4.2.1.1) (fa := k_X7_begin_4.2.1.2) ⟨⟨0, I.h20, rfl⟩, ⟨a1, rfl, hb1.1, hb1.2⟩, ⟨x20, rfl, l20, u20⟩, ⟨x21, rfl, l21, u21⟩, ⟨x22, rfl, l22, u22⟩, trivial⟩ (en_ac (lw_f0 I.hs.2.1 rfl f20 rfl) (en_ac (lw_f0 I.hs.2.1 rfl f21 rfl) (en_ac (lw_f0 I.hs.2.1 rfl f22 rfl) (en_ac (⟨I.had, I.hs.2.2.2.1⟩) (en_an)))))) dlw_691 (fun u res H1 locs1 hrv hpo L1 => ?_)
      refine W.widen (k := cells + 8) (n := slots + 64) (Nat.add_le_add_left (Nat.le_of_ble_eq_true rfl) _) (Nat.add_le_add_left (Nat.le_of_ble_eq_true rfl) _) ?_
      obtain ⟨fs', I1⟩ := lw_Iqq hLP I hpo.1 (by decide +kernel) (by decide +kernel) (by decide +kernel) (by decide +kernel) (lw_Io I hpo.1 (by decide +kernel)) (lw_Id I hpo.1 (by decide +kernel))
      exact k9 hpo.1 (by decide +kernel) (by decide +kernel) (Or.inr ⟨hbm, Or.inr ⟨rfl, fun h9 => by rcases h9 with ⟨z1, z2, z3⟩ | ⟨z1, z2, z3⟩ <;> omega⟩⟩) hrv I1 L1
    · have hb1 := hb2
      have f16 := fM.2.2.2.2.1
      have f17 := fM.2.2.2.2.2.1
      obtain ⟨x16, ex16⟩ : ∃ x : Int32, x = nI hm := ⟨_, rfl⟩
      obtain ⟨x17, ex17⟩ : ∃ x : Int32, x = nI pm := ⟨_, rfl⟩
      have v16 : x16.toInt = (hm : Int) := by rw [ex16]; exact n16
      have v17 : x17.toInt = (pm : Int) := by rw [ex17]; exact n17
      rw [← ex16] at f16
      rw [← ex17] at f17
      obtain ⟨x20, f20, l20, u20⟩ := I.hs.2.2.1 (20, 0, 0) (by decide)
      have l20 : (0 : Int) ≤ x20.toInt := l20
      have u20 : x20.toInt ≤ (0 : Int) := u20
      obtain ⟨x21, f21, l21, u21⟩ := I.hs.2.2.1 (21, 0, 0) (by decide)
      have l21 : (0 : Int) ≤ x21.toInt := l21
      have u21 : x21.toInt ≤ (0 : Int) := u21
      obtain ⟨x22, f22, l22, u22⟩ := I.hs.2.2.1 (22, 0, 0) (by decide)
      have l22 : (0 : Int) ≤ x22.toInt := l22
      have u22 : x22.toInt ≤ (0 : Int) := u22
      refine lw_mc (lv' := 1) (ρp := [.ref (sh.2 0), .int a1, .int x20, .int x21, .int x22]) (As := [.int a1]) F L (ct_X7_begin_7 hl9 (cx := cx) (cy := cy)) gm_X7_begin I.hs.2.1 rfl rfl (Nat.le_of_ble_eq_true rfl) (by decide) ⟨Nat.le_trans (Nat.add_le_add_left (Nat.le_of_ble_eq_true rfl) _) hcs.1, Nat.le_trans (Nat.add_le_add_left (Nat.le_of_ble_eq_true rfl) _) hcs.2⟩ hls rfl (lw_pre I.hs.1 (by decide) (Or.inr (by decide))) (I.hO cx cy) (lw_pa (env := k_X7_begin_7.2.1.1) (fa := k_X7_begin_7.2.1.2) ⟨⟨0, I.h20, rfl⟩, ⟨a1, rfl, hb1.1, hb1.2⟩, ⟨x20, rfl, l20, u20⟩, ⟨x21, rfl, l21, u21⟩, ⟨x22, rfl, l22, u22⟩, trivial⟩ (en_ac (lw_f0 I.hs.2.1 rfl f20 rfl) (en_ac (lw_f0 I.hs.2.1 rfl f21 rfl) (en_ac (lw_f0 I.hs.2.1 rfl f22 rfl) (en_ac (⟨I.had, I.hs.2.2.2.1⟩) (en_an)))))) dlw_691 (fun u res H1 locs1 hrv hpo L1 => ?_)
      refine W.widen (k := cells + 8) (n := slots + 64) (Nat.add_le_add_left (Nat.le_of_ble_eq_true rfl) _) (Nat.add_le_add_left (Nat.le_of_ble_eq_true rfl) _) ?_
      obtain ⟨fs', I1⟩ := lw_Iqq hLP I hpo.1 (by decide +kernel) (by decide +kernel) (by decide +kernel) (by decide +kernel) (lw_Io I hpo.1 (by decide +kernel)) (lw_Id I hpo.1 (by decide +kernel))
      exact k9 hpo.1 (by decide +kernel) (by decide +kernel) (Or.inr ⟨hbm, Or.inr ⟨rfl, fun h9 => by rcases h9 with ⟨z1, z2, z3⟩ | ⟨z1, z2, z3⟩ <;> omega⟩⟩) hrv I1 L1
  · skip
    obtain hb2 | hb2 | hb2 | hb2 | hb2 := lw_chr hb1
    · have hb1 := hb2
      obtain ⟨x16, f16, l16, u16⟩ := I.hs.2.2.1 (16, 1, 9) (by decide)
      have l16 : (1 : Int) ≤ x16.toInt := l16
      have u16 : x16.toInt ≤ (9 : Int) := u16
      obtain ⟨x20, f20, l20, u20⟩ := I.hs.2.2.1 (20, 115, 115) (by decide)
      have l20 : (115 : Int) ≤ x20.toInt := l20
      have u20 : x20.toInt ≤ (115 : Int) := u20
      obtain ⟨x21, f21, l21, u21⟩ := I.hs.2.2.1 (21, 1, 1) (by decide)
      have l21 : (1 : Int) ≤ x21.toInt := l21
      have u21 : x21.toInt ≤ (1 : Int) := u21
      obtain ⟨x22, f22, l22, u22⟩ := I.hs.2.2.1 (22, 0, 0) (by decide)
      have l22 : (0 : Int) ≤ x22.toInt := l22
      have u22 : x22.toInt ≤ (0 : Int) := u22
      have b22 := I.hs.2.2.1 (22, 0, 0) (by decide)
      have b21 := I.hs.2.2.1 (21, 1, 1) (by decide)
      have b20 := I.hs.2.2.1 (20, 115, 115) (by decide)
      have b16 := I.hs.2.2.1 (16, 1, 9) (by decide)
      refine lw_mc (lv' := 1) (ρp := [.ref (sh.2 0), .int a1, .int x16, .int x20, .int x21, .int x22]) (As := [.int a1]) F L (ct_X7_begin_0p hl9 (cx := cx) (cy := cy)) gm_X7_begin I.hs.2.1 rfl rfl (Nat.le_of_ble_eq_true rfl) (by decide) ⟨Nat.le_trans (Nat.add_le_add_left (Nat.le_of_ble_eq_true rfl) _) hcs.1, Nat.le_trans (Nat.add_le_add_left (Nat.le_of_ble_eq_true rfl) _) hcs.2⟩ hls rfl (lw_tk (I.hs.1) (by decide)) (I.hO cx cy) (lw_pa (env := k_X7_begin_0p.2.1.1) (fa := k_X7_begin_0p.2.1.2) ⟨⟨0, I.h20, rfl⟩, ⟨a1, rfl, hb1.1, hb1.2⟩, ⟨x16, rfl, l16, u16⟩, ⟨x20, rfl, l20, u20⟩, ⟨x21, rfl, l21, u21⟩, ⟨x22, rfl, l22, u22⟩, trivial⟩ (en_ac (lw_f0 I.hs.2.1 rfl f16 rfl) (en_ac (lw_f0 I.hs.2.1 rfl f20 rfl) (en_ac (lw_f0 I.hs.2.1 rfl f21 rfl) (en_ac (lw_f0 I.hs.2.1 rfl f22 rfl) (en_ac (⟨I.had, I.hs.2.2.2.1⟩) (en_an))))))) dlw_691 (fun u res H1 locs1 hrv hpo L1 => ?_)
      refine W.widen (k := cells + 8) (n := slots + 64) (Nat.add_le_add_left (Nat.le_of_ble_eq_true rfl) _) (Nat.add_le_add_left (Nat.le_of_ble_eq_true rfl) _) ?_
      obtain ⟨hpx, o9, ho9, ρ9, hPa9, hi9, -⟩ := hpo
      obtain ⟨fs', g1, g2⟩ := lw_fs I.h20 I.hs.2.1 hpx
      have h09 : ρ9[0]? = some (.ref (u.1.2 0)) := by rw [hi9 0 (show 0 < 2 by decide), (hpx.1.at I.h20).2]; rfl
      have hWu := lw_wd (I.hs.1) hpx (fun z hz => Or.inl ((by decide +kernel : ∀ z ∈ k_X7_begin_0p.2.2.2.1, z.1 ∈ k_X7_begin_0p.2.2.2.2.1) z hz)) (fun _ => Or.inl rfl)
      rcases List.mem_cons.mp ho9 with ho8 | ho9
      · subst ho8
        have hB9 : ∀ b ∈ lw_B 1, lw_b fs' b := en_ac (lw_hb_ok (b := (22, 0, 0)) (by decide +kernel) L1.hD g1 h09 hPa9) (en_ac (lw_hb_ok (b := (21, 1, 1)) (by decide +kernel) L1.hD g1 h09 hPa9) (en_ac (lw_hb_ok (b := (20, 115, 115)) (by decide +kernel) L1.hD g1 h09 hPa9) (en_ac (lw_bk b16 (g2 16 (by decide +kernel)) (by decide) (by decide)) en_an)))
        have hO1 : en_O1 u.2 := (hPa9.2.2 (5, 1, 0, 0, 0, 0) (by decide +kernel)).2
        have hS9 := lw_off2 (st := 1) g1 hWu hO1 (by decide) hB9
        exact k9 hpx (by decide +kernel) (by decide +kernel) (Or.inl ⟨hbm, rfl⟩) hrv (lw_Iq hLP I hpx (by decide +kernel) g1 (by decide) (lw_Io I hpx (by decide +kernel)) (lw_Id I hpx (by decide +kernel)) hS9) L1
      have ho7 := List.mem_singleton.mp ho9
      subst ho7
      have hB9 : ∀ b ∈ lw_B 4, lw_b fs' b := en_ac (lw_hb_ok (b := (22, 1, 1)) (by decide +kernel) L1.hD g1 h09 hPa9) (en_ac (lw_hb_ok (b := (21, 1, 1)) (by decide +kernel) L1.hD g1 h09 hPa9) (en_ac (lw_hb_ok (b := (20, 109, 109)) (by decide +kernel) L1.hD g1 h09 hPa9) (en_ac (lw_hb_ok (b := (16, 1, 9)) (by decide +kernel) L1.hD g1 h09 hPa9) (en_ac (lw_hb_ok (b := (17, 2, 2)) (by decide +kernel) L1.hD g1 h09 hPa9) (en_ac (lw_hb_ok (b := (25, 0, 8)) (by decide +kernel) L1.hD g1 h09 hPa9) en_an)))))
      have hO1 : en_O1 u.2 := (hPa9.2.2 (5, 1, 0, 0, 0, 0) (by decide +kernel)).2
      have hO2 : en_O2 u.2 := (hPa9.2.2 (5, 2, 0, 0, 0, 0) (by decide +kernel)).2
      have hhn := lw_hh (fs := fs') (lo := 0) (hi := 0) (lo' := 1) (hi' := 9) (lw_hb_ok (by decide +kernel) L1.hD g1 h09 hPa9) (lw_hb_ok (b := (16, 1, 9)) (by decide +kernel) L1.hD g1 h09 hPa9) (by decide)
      obtain ⟨cx9, cy9, hS9⟩ := lw_on2 (st := 4) (fun q hq => I.h27 q (lw_new hpx.1 (by decide) hq)) g1 hWu hO1 hO2 (by decide) hB9 hhn
      exact k9 hpx (by decide +kernel) (by decide +kernel) (Or.inl ⟨hbm, rfl⟩) hrv (lw_Iq hLP I hpx (by decide +kernel) g1 (by decide) (lw_Io I hpx (by decide +kernel)) (lw_Id I hpx (by decide +kernel)) hS9) L1
    · have hb1 := hb2
      obtain ⟨x16, f16, l16, u16⟩ := I.hs.2.2.1 (16, 1, 9) (by decide)
      have l16 : (1 : Int) ≤ x16.toInt := l16
      have u16 : x16.toInt ≤ (9 : Int) := u16
      obtain ⟨x20, f20, l20, u20⟩ := I.hs.2.2.1 (20, 115, 115) (by decide)
      have l20 : (115 : Int) ≤ x20.toInt := l20
      have u20 : x20.toInt ≤ (115 : Int) := u20
      obtain ⟨x21, f21, l21, u21⟩ := I.hs.2.2.1 (21, 1, 1) (by decide)
      have l21 : (1 : Int) ≤ x21.toInt := l21
      have u21 : x21.toInt ≤ (1 : Int) := u21
      obtain ⟨x22, f22, l22, u22⟩ := I.hs.2.2.1 (22, 0, 0) (by decide)
      have l22 : (0 : Int) ≤ x22.toInt := l22
      have u22 : x22.toInt ≤ (0 : Int) := u22
      have b22 := I.hs.2.2.1 (22, 0, 0) (by decide)
      have b21 := I.hs.2.2.1 (21, 1, 1) (by decide)
      have b20 := I.hs.2.2.1 (20, 115, 115) (by decide)
      have b16 := I.hs.2.2.1 (16, 1, 9) (by decide)
      refine lw_mc (lv' := 1) (ρp := [.ref (sh.2 0), .int a1, .int x16, .int x20, .int x21, .int x22]) (As := [.int a1]) F L (ct_X7_begin_2p hl9 (cx := cx) (cy := cy)) gm_X7_begin I.hs.2.1 rfl rfl (Nat.le_of_ble_eq_true rfl) (by decide) ⟨Nat.le_trans (Nat.add_le_add_left (Nat.le_of_ble_eq_true rfl) _) hcs.1, Nat.le_trans (Nat.add_le_add_left (Nat.le_of_ble_eq_true rfl) _) hcs.2⟩ hls rfl (lw_tk (I.hs.1) (by decide)) (I.hO cx cy) (lw_pa (env := k_X7_begin_2p.2.1.1) (fa := k_X7_begin_2p.2.1.2) ⟨⟨0, I.h20, rfl⟩, ⟨a1, rfl, hb1.1, hb1.2⟩, ⟨x16, rfl, l16, u16⟩, ⟨x20, rfl, l20, u20⟩, ⟨x21, rfl, l21, u21⟩, ⟨x22, rfl, l22, u22⟩, trivial⟩ (en_ac (lw_f0 I.hs.2.1 rfl f16 rfl) (en_ac (lw_f0 I.hs.2.1 rfl f20 rfl) (en_ac (lw_f0 I.hs.2.1 rfl f21 rfl) (en_ac (lw_f0 I.hs.2.1 rfl f22 rfl) (en_ac (⟨I.had, I.hs.2.2.2.1⟩) (en_an))))))) dlw_691 (fun u res H1 locs1 hrv hpo L1 => ?_)
      refine W.widen (k := cells + 8) (n := slots + 64) (Nat.add_le_add_left (Nat.le_of_ble_eq_true rfl) _) (Nat.add_le_add_left (Nat.le_of_ble_eq_true rfl) _) ?_
      obtain ⟨hpx, o9, ho9, ρ9, hPa9, hi9, -⟩ := hpo
      obtain ⟨fs', g1, g2⟩ := lw_fs I.h20 I.hs.2.1 hpx
      have h09 : ρ9[0]? = some (.ref (u.1.2 0)) := by rw [hi9 0 (show 0 < 2 by decide), (hpx.1.at I.h20).2]; rfl
      have hWu := lw_wd (I.hs.1) hpx (fun z hz => Or.inl ((by decide +kernel : ∀ z ∈ k_X7_begin_2p.2.2.2.1, z.1 ∈ k_X7_begin_2p.2.2.2.2.1) z hz)) (fun _ => Or.inl rfl)
      rcases List.mem_cons.mp ho9 with ho8 | ho9
      · subst ho8
        have hB9 : ∀ b ∈ lw_B 1, lw_b fs' b := en_ac (lw_hb_ok (b := (22, 0, 0)) (by decide +kernel) L1.hD g1 h09 hPa9) (en_ac (lw_hb_ok (b := (21, 1, 1)) (by decide +kernel) L1.hD g1 h09 hPa9) (en_ac (lw_hb_ok (b := (20, 115, 115)) (by decide +kernel) L1.hD g1 h09 hPa9) (en_ac (lw_bk b16 (g2 16 (by decide +kernel)) (by decide) (by decide)) en_an)))
        have hO1 : en_O1 u.2 := (hPa9.2.2 (5, 1, 0, 0, 0, 0) (by decide +kernel)).2
        have hS9 := lw_off2 (st := 1) g1 hWu hO1 (by decide) hB9
        exact k9 hpx (by decide +kernel) (by decide +kernel) (Or.inl ⟨hbm, rfl⟩) hrv (lw_Iq hLP I hpx (by decide +kernel) g1 (by decide) (lw_Io I hpx (by decide +kernel)) (lw_Id I hpx (by decide +kernel)) hS9) L1
      have ho7 := List.mem_singleton.mp ho9
      subst ho7
      have hB9 : ∀ b ∈ lw_B 3, lw_b fs' b := en_ac (lw_hb_ok (b := (22, 1, 1)) (by decide +kernel) L1.hD g1 h09 hPa9) (en_ac (lw_hb_ok (b := (21, 1, 1)) (by decide +kernel) L1.hD g1 h09 hPa9) (en_ac (lw_hb_ok (b := (20, 115, 115)) (by decide +kernel) L1.hD g1 h09 hPa9) (en_ac (lw_hb_ok (b := (16, 1, 9)) (by decide +kernel) L1.hD g1 h09 hPa9) (en_ac (lw_hb_ok (b := (25, 0, 8)) (by decide +kernel) L1.hD g1 h09 hPa9) en_an))))
      have hO1 : en_O1 u.2 := (hPa9.2.2 (5, 1, 0, 0, 0, 0) (by decide +kernel)).2
      have hO2 : en_O2 u.2 := (hPa9.2.2 (5, 2, 0, 0, 0, 0) (by decide +kernel)).2
      have hhn := lw_hh (fs := fs') (lo := 0) (hi := 0) (lo' := 1) (hi' := 9) (lw_hb_ok (by decide +kernel) L1.hD g1 h09 hPa9) (lw_hb_ok (b := (16, 1, 9)) (by decide +kernel) L1.hD g1 h09 hPa9) (by decide)
      obtain ⟨cx9, cy9, hS9⟩ := lw_on2 (st := 3) (fun q hq => I.h27 q (lw_new hpx.1 (by decide) hq)) g1 hWu hO1 hO2 (by decide) hB9 hhn
      exact k9 hpx (by decide +kernel) (by decide +kernel) (Or.inl ⟨hbm, rfl⟩) hrv (lw_Iq hLP I hpx (by decide +kernel) g1 (by decide) (lw_Io I hpx (by decide +kernel)) (lw_Id I hpx (by decide +kernel)) hS9) L1
    · have hb1 := hb2
      obtain ⟨x16, f16, l16, u16⟩ := I.hs.2.2.1 (16, 1, 9) (by decide)
      have l16 : (1 : Int) ≤ x16.toInt := l16
      have u16 : x16.toInt ≤ (9 : Int) := u16
      obtain ⟨x20, f20, l20, u20⟩ := I.hs.2.2.1 (20, 115, 115) (by decide)
      have l20 : (115 : Int) ≤ x20.toInt := l20
      have u20 : x20.toInt ≤ (115 : Int) := u20
      obtain ⟨x21, f21, l21, u21⟩ := I.hs.2.2.1 (21, 1, 1) (by decide)
      have l21 : (1 : Int) ≤ x21.toInt := l21
      have u21 : x21.toInt ≤ (1 : Int) := u21
      obtain ⟨x22, f22, l22, u22⟩ := I.hs.2.2.1 (22, 0, 0) (by decide)
      have l22 : (0 : Int) ≤ x22.toInt := l22
      have u22 : x22.toInt ≤ (0 : Int) := u22
      refine lw_mc (lv' := 1) (ρp := [.ref (sh.2 0), .int a1, .int x16, .int x20, .int x21, .int x22]) (As := [.int a1]) F L (ct_X7_begin_2 hl9 (cx := cx) (cy := cy)) gm_X7_begin I.hs.2.1 rfl rfl (Nat.le_of_ble_eq_true rfl) (by decide) ⟨Nat.le_trans (Nat.add_le_add_left (Nat.le_of_ble_eq_true rfl) _) hcs.1, Nat.le_trans (Nat.add_le_add_left (Nat.le_of_ble_eq_true rfl) _) hcs.2⟩ hls rfl (lw_pre I.hs.1 (by decide) (Or.inr (by decide))) (I.hO cx cy) (lw_pa (env := k_X7_begin_2.2.1.1) (fa := k_X7_begin_2.2.1.2) ⟨⟨0, I.h20, rfl⟩, ⟨a1, rfl, hb1.1, hb1.2⟩, ⟨x16, rfl, l16, u16⟩, ⟨x20, rfl, l20, u20⟩, ⟨x21, rfl, l21, u21⟩, ⟨x22, rfl, l22, u22⟩, trivial⟩ (en_ac (lw_f0 I.hs.2.1 rfl f16 rfl) (en_ac (lw_f0 I.hs.2.1 rfl f20 rfl) (en_ac (lw_f0 I.hs.2.1 rfl f21 rfl) (en_ac (lw_f0 I.hs.2.1 rfl f22 rfl) (en_ac (⟨I.had, I.hs.2.2.2.1⟩) (en_an))))))) dlw_691 (fun u res H1 locs1 hrv hpo L1 => ?_)
      refine W.widen (k := cells + 8) (n := slots + 64) (Nat.add_le_add_left (Nat.le_of_ble_eq_true rfl) _) (Nat.add_le_add_left (Nat.le_of_ble_eq_true rfl) _) ?_
      obtain ⟨fs', I1⟩ := lw_Iqq hLP I hpo.1 (by decide +kernel) (by decide +kernel) (by decide +kernel) (by decide +kernel) (lw_Io I hpo.1 (by decide +kernel)) (lw_Id I hpo.1 (by decide +kernel))
      exact k9 hpo.1 (by decide +kernel) (by decide +kernel) (Or.inl ⟨hbm, rfl⟩) hrv I1 L1
    · have hb1 := hb2
      obtain ⟨x16, f16, l16, u16⟩ := I.hs.2.2.1 (16, 1, 9) (by decide)
      have l16 : (1 : Int) ≤ x16.toInt := l16
      have u16 : x16.toInt ≤ (9 : Int) := u16
      obtain ⟨x20, f20, l20, u20⟩ := I.hs.2.2.1 (20, 115, 115) (by decide)
      have l20 : (115 : Int) ≤ x20.toInt := l20
      have u20 : x20.toInt ≤ (115 : Int) := u20
      obtain ⟨x21, f21, l21, u21⟩ := I.hs.2.2.1 (21, 1, 1) (by decide)
      have l21 : (1 : Int) ≤ x21.toInt := l21
      have u21 : x21.toInt ≤ (1 : Int) := u21
      obtain ⟨x22, f22, l22, u22⟩ := I.hs.2.2.1 (22, 0, 0) (by decide)
      have l22 : (0 : Int) ≤ x22.toInt := l22
      have u22 : x22.toInt ≤ (0 : Int) := u22
      refine lw_mc (lv' := 1) (ρp := [.ref (sh.2 0), .int a1, .int x16, .int x20, .int x21, .int x22]) (As := [.int a1]) F L (ct_X7_begin_5 hl9 (cx := cx) (cy := cy)) gm_X7_begin I.hs.2.1 rfl rfl (Nat.le_of_ble_eq_true rfl) (by decide) ⟨Nat.le_trans (Nat.add_le_add_left (Nat.le_of_ble_eq_true rfl) _) hcs.1, Nat.le_trans (Nat.add_le_add_left (Nat.le_of_ble_eq_true rfl) _) hcs.2⟩ hls rfl (lw_pre I.hs.1 (by decide) (Or.inr (by decide))) (I.hO cx cy) (lw_pa (env := k_X7_begin_5.2.1.1) (fa := k_X7_begin_5.2.1.2) ⟨⟨0, I.h20, rfl⟩, ⟨a1, rfl, hb1.1, hb1.2⟩, ⟨x16, rfl, l16, u16⟩, ⟨x20, rfl, l20, u20⟩, ⟨x21, rfl, l21, u21⟩, ⟨x22, rfl, l22, u22⟩, trivial⟩ (en_ac (lw_f0 I.hs.2.1 rfl f16 rfl) (en_ac (lw_f0 I.hs.2.1 rfl f20 rfl) (en_ac (lw_f0 I.hs.2.1 rfl f21 rfl) (en_ac (lw_f0 I.hs.2.1 rfl f22 rfl) (en_ac (⟨I.had, I.hs.2.2.2.1⟩) (en_an))))))) dlw_691 (fun u res H1 locs1 hrv hpo L1 => ?_)
      refine W.widen (k := cells + 8) (n := slots + 64) (Nat.add_le_add_left (Nat.le_of_ble_eq_true rfl) _) (Nat.add_le_add_left (Nat.le_of_ble_eq_true rfl) _) ?_
      obtain ⟨fs', I1⟩ := lw_Iqq hLP I hpo.1 (by decide +kernel) (by decide +kernel) (by decide +kernel) (by decide +kernel) (lw_Io I hpo.1 (by decide +kernel)) (lw_Id I hpo.1 (by decide +kernel))
      exact k9 hpo.1 (by decide +kernel) (by decide +kernel) (Or.inl ⟨hbm, rfl⟩) hrv I1 L1
    · have hb1 := hb2
      obtain ⟨x16, f16, l16, u16⟩ := I.hs.2.2.1 (16, 1, 9) (by decide)
      have l16 : (1 : Int) ≤ x16.toInt := l16
      have u16 : x16.toInt ≤ (9 : Int) := u16
      obtain ⟨x20, f20, l20, u20⟩ := I.hs.2.2.1 (20, 115, 115) (by decide)
      have l20 : (115 : Int) ≤ x20.toInt := l20
      have u20 : x20.toInt ≤ (115 : Int) := u20
      obtain ⟨x21, f21, l21, u21⟩ := I.hs.2.2.1 (21, 1, 1) (by decide)
      have l21 : (1 : Int) ≤ x21.toInt := l21
      have u21 : x21.toInt ≤ (1 : Int) := u21
      obtain ⟨x22, f22, l22, u22⟩ := I.hs.2.2.1 (22, 0, 0) (by decide)
      have l22 : (0 : Int) ≤ x22.toInt := l22
      have u22 : x22.toInt ≤ (0 : Int) := u22
      refine lw_mc (lv' := 1) (ρp := [.ref (sh.2 0), .int a1, .int x16, .int x20, .int x21, .int x22]) (As := [.int a1]) F L (ct_X7_begin_8 hl9 (cx := cx) (cy := cy)) gm_X7_begin I.hs.2.1 rfl rfl (Nat.le_of_ble_eq_true rfl) (by decide) ⟨Nat.le_trans (Nat.add_le_add_left (Nat.le_of_ble_eq_true rfl) _) hcs.1, Nat.le_trans (Nat.add_le_add_left (Nat.le_of_ble_eq_true rfl) _) hcs.2⟩ hls rfl (lw_pre I.hs.1 (by decide) (Or.inr (by decide))) (I.hO cx cy) (lw_pa (env := k_X7_begin_8.2.1.1) (fa := k_X7_begin_8.2.1.2) ⟨⟨0, I.h20, rfl⟩, ⟨a1, rfl, hb1.1, hb1.2⟩, ⟨x16, rfl, l16, u16⟩, ⟨x20, rfl, l20, u20⟩, ⟨x21, rfl, l21, u21⟩, ⟨x22, rfl, l22, u22⟩, trivial⟩ (en_ac (lw_f0 I.hs.2.1 rfl f16 rfl) (en_ac (lw_f0 I.hs.2.1 rfl f20 rfl) (en_ac (lw_f0 I.hs.2.1 rfl f21 rfl) (en_ac (lw_f0 I.hs.2.1 rfl f22 rfl) (en_ac (⟨I.had, I.hs.2.2.2.1⟩) (en_an))))))) dlw_691 (fun u res H1 locs1 hrv hpo L1 => ?_)
      refine W.widen (k := cells + 8) (n := slots + 64) (Nat.add_le_add_left (Nat.le_of_ble_eq_true rfl) _) (Nat.add_le_add_left (Nat.le_of_ble_eq_true rfl) _) ?_
      obtain ⟨fs', I1⟩ := lw_Iqq hLP I hpo.1 (by decide +kernel) (by decide +kernel) (by decide +kernel) (by decide +kernel) (lw_Io I hpo.1 (by decide +kernel)) (lw_Id I hpo.1 (by decide +kernel))
      exact k9 hpo.1 (by decide +kernel) (by decide +kernel) (Or.inl ⟨hbm, rfl⟩) hrv I1 L1
  · skip
    obtain hb2 | hb2 | hb2 | hb2 | hb2 := lw_chr hb1
    · have hb1 := hb2
      obtain ⟨x16, f16, l16, u16⟩ := I.hs.2.2.1 (16, 1, 9) (by decide)
      have l16 : (1 : Int) ≤ x16.toInt := l16
      have u16 : x16.toInt ≤ (9 : Int) := u16
      obtain ⟨x17, f17, l17, u17⟩ := I.hs.2.2.1 (17, 2, 2) (by decide)
      have l17 : (2 : Int) ≤ x17.toInt := l17
      have u17 : x17.toInt ≤ (2 : Int) := u17
      obtain ⟨x20, f20, l20, u20⟩ := I.hs.2.2.1 (20, 109, 109) (by decide)
      have l20 : (109 : Int) ≤ x20.toInt := l20
      have u20 : x20.toInt ≤ (109 : Int) := u20
      obtain ⟨x21, f21, l21, u21⟩ := I.hs.2.2.1 (21, 1, 1) (by decide)
      have l21 : (1 : Int) ≤ x21.toInt := l21
      have u21 : x21.toInt ≤ (1 : Int) := u21
      obtain ⟨x22, f22, l22, u22⟩ := I.hs.2.2.1 (22, 0, 0) (by decide)
      have l22 : (0 : Int) ≤ x22.toInt := l22
      have u22 : x22.toInt ≤ (0 : Int) := u22
      have b22 := I.hs.2.2.1 (22, 0, 0) (by decide)
      have b21 := I.hs.2.2.1 (21, 1, 1) (by decide)
      have b20 := I.hs.2.2.1 (20, 109, 109) (by decide)
      have b16 := I.hs.2.2.1 (16, 1, 9) (by decide)
      have b17 := I.hs.2.2.1 (17, 2, 2) (by decide)
      refine lw_mc (lv' := 1) (ρp := [.ref (sh.2 0), .int a1, .int x16, .int x17, .int x20, .int x21, .int x22]) (As := [.int a1]) F L (ct_X7_begin_1p hl9 (cx := cx) (cy := cy)) gm_X7_begin I.hs.2.1 rfl rfl (Nat.le_of_ble_eq_true rfl) (by decide) ⟨Nat.le_trans (Nat.add_le_add_left (Nat.le_of_ble_eq_true rfl) _) hcs.1, Nat.le_trans (Nat.add_le_add_left (Nat.le_of_ble_eq_true rfl) _) hcs.2⟩ hls rfl (lw_tk (I.hs.1) (by decide)) (I.hO cx cy) (lw_pa (env := k_X7_begin_1p.2.1.1) (fa := k_X7_begin_1p.2.1.2) ⟨⟨0, I.h20, rfl⟩, ⟨a1, rfl, hb1.1, hb1.2⟩, ⟨x16, rfl, l16, u16⟩, ⟨x17, rfl, l17, u17⟩, ⟨x20, rfl, l20, u20⟩, ⟨x21, rfl, l21, u21⟩, ⟨x22, rfl, l22, u22⟩, trivial⟩ (en_ac (lw_f0 I.hs.2.1 rfl f16 rfl) (en_ac (lw_f0 I.hs.2.1 rfl f17 rfl) (en_ac (lw_f0 I.hs.2.1 rfl f20 rfl) (en_ac (lw_f0 I.hs.2.1 rfl f21 rfl) (en_ac (lw_f0 I.hs.2.1 rfl f22 rfl) (en_ac (⟨I.had, I.hs.2.2.2.1⟩) (en_an)))))))) dlw_691 (fun u res H1 locs1 hrv hpo L1 => ?_)
      refine W.widen (k := cells + 8) (n := slots + 64) (Nat.add_le_add_left (Nat.le_of_ble_eq_true rfl) _) (Nat.add_le_add_left (Nat.le_of_ble_eq_true rfl) _) ?_
      obtain ⟨hpx, o9, ho9, ρ9, hPa9, hi9, -⟩ := hpo
      obtain ⟨fs', g1, g2⟩ := lw_fs I.h20 I.hs.2.1 hpx
      have h09 : ρ9[0]? = some (.ref (u.1.2 0)) := by rw [hi9 0 (show 0 < 2 by decide), (hpx.1.at I.h20).2]; rfl
      have hWu := lw_wd (I.hs.1) hpx (fun z hz => Or.inl ((by decide +kernel : ∀ z ∈ k_X7_begin_1p.2.2.2.1, z.1 ∈ k_X7_begin_1p.2.2.2.2.1) z hz)) (fun _ => Or.inl rfl)
      have ho9 := List.mem_singleton.mp ho9
      subst ho9
      have hB9 : ∀ b ∈ lw_B 4, lw_b fs' b := en_ac (lw_hb_ok (b := (22, 1, 1)) (by decide +kernel) L1.hD g1 h09 hPa9) (en_ac (lw_hb_ok (b := (21, 1, 1)) (by decide +kernel) L1.hD g1 h09 hPa9) (en_ac (lw_hb_ok (b := (20, 109, 109)) (by decide +kernel) L1.hD g1 h09 hPa9) (en_ac (lw_hb_ok (b := (16, 1, 9)) (by decide +kernel) L1.hD g1 h09 hPa9) (en_ac (lw_bk b17 (g2 17 (by decide +kernel)) (by decide) (by decide)) (en_ac (lw_hb_ok (b := (25, 0, 8)) (by decide +kernel) L1.hD g1 h09 hPa9) en_an)))))
      have hO1 : en_O1 u.2 := (hPa9.2.2 (5, 1, 0, 0, 0, 0) (by decide +kernel)).2
      have hO2 : en_O2 u.2 := (hPa9.2.2 (5, 2, 0, 0, 0, 0) (by decide +kernel)).2
      have hhn := lw_hh (fs := fs') (lo := 0) (hi := 0) (lo' := 1) (hi' := 9) (lw_hb_ok (by decide +kernel) L1.hD g1 h09 hPa9) (lw_hb_ok (b := (16, 1, 9)) (by decide +kernel) L1.hD g1 h09 hPa9) (by decide)
      obtain ⟨cx9, cy9, hS9⟩ := lw_on2 (st := 4) (fun q hq => I.h27 q (lw_new hpx.1 (by decide) hq)) g1 hWu hO1 hO2 (by decide) hB9 hhn
      exact k9 hpx (by decide +kernel) (by decide +kernel) (Or.inl ⟨hbm, rfl⟩) hrv (lw_Iq hLP I hpx (by decide +kernel) g1 (by decide) (lw_Io I hpx (by decide +kernel)) (lw_Id I hpx (by decide +kernel)) hS9) L1
    · have hb1 := hb2
      obtain ⟨x16, f16, l16, u16⟩ := I.hs.2.2.1 (16, 1, 9) (by decide)
      have l16 : (1 : Int) ≤ x16.toInt := l16
      have u16 : x16.toInt ≤ (9 : Int) := u16
      obtain ⟨x17, f17, l17, u17⟩ := I.hs.2.2.1 (17, 2, 2) (by decide)
      have l17 : (2 : Int) ≤ x17.toInt := l17
      have u17 : x17.toInt ≤ (2 : Int) := u17
      obtain ⟨x20, f20, l20, u20⟩ := I.hs.2.2.1 (20, 109, 109) (by decide)
      have l20 : (109 : Int) ≤ x20.toInt := l20
      have u20 : x20.toInt ≤ (109 : Int) := u20
      obtain ⟨x21, f21, l21, u21⟩ := I.hs.2.2.1 (21, 1, 1) (by decide)
      have l21 : (1 : Int) ≤ x21.toInt := l21
      have u21 : x21.toInt ≤ (1 : Int) := u21
      obtain ⟨x22, f22, l22, u22⟩ := I.hs.2.2.1 (22, 0, 0) (by decide)
      have l22 : (0 : Int) ≤ x22.toInt := l22
      have u22 : x22.toInt ≤ (0 : Int) := u22
      have b22 := I.hs.2.2.1 (22, 0, 0) (by decide)
      have b21 := I.hs.2.2.1 (21, 1, 1) (by decide)
      have b20 := I.hs.2.2.1 (20, 109, 109) (by decide)
      have b16 := I.hs.2.2.1 (16, 1, 9) (by decide)
      have b17 := I.hs.2.2.1 (17, 2, 2) (by decide)
      refine lw_mc (lv' := 1) (ρp := [.ref (sh.2 0), .int a1, .int x16, .int x17, .int x20, .int x21, .int x22]) (As := [.int a1]) F L (ct_X7_begin_3p hl9 (cx := cx) (cy := cy)) gm_X7_begin I.hs.2.1 rfl rfl (Nat.le_of_ble_eq_true rfl) (by decide) ⟨Nat.le_trans (Nat.add_le_add_left (Nat.le_of_ble_eq_true rfl) _) hcs.1, Nat.le_trans (Nat.add_le_add_left (Nat.le_of_ble_eq_true rfl) _) hcs.2⟩ hls rfl (lw_tk (I.hs.1) (by decide)) (I.hO cx cy) (lw_pa (env := k_X7_begin_3p.2.1.1) (fa := k_X7_begin_3p.2.1.2) ⟨⟨0, I.h20, rfl⟩, ⟨a1, rfl, hb1.1, hb1.2⟩, ⟨x16, rfl, l16, u16⟩, ⟨x17, rfl, l17, u17⟩, ⟨x20, rfl, l20, u20⟩, ⟨x21, rfl, l21, u21⟩, ⟨x22, rfl, l22, u22⟩, trivial⟩ (en_ac (lw_f0 I.hs.2.1 rfl f16 rfl) (en_ac (lw_f0 I.hs.2.1 rfl f17 rfl) (en_ac (lw_f0 I.hs.2.1 rfl f20 rfl) (en_ac (lw_f0 I.hs.2.1 rfl f21 rfl) (en_ac (lw_f0 I.hs.2.1 rfl f22 rfl) (en_ac (⟨I.had, I.hs.2.2.2.1⟩) (en_an)))))))) dlw_691 (fun u res H1 locs1 hrv hpo L1 => ?_)
      refine W.widen (k := cells + 8) (n := slots + 64) (Nat.add_le_add_left (Nat.le_of_ble_eq_true rfl) _) (Nat.add_le_add_left (Nat.le_of_ble_eq_true rfl) _) ?_
      obtain ⟨hpx, o9, ho9, ρ9, hPa9, hi9, -⟩ := hpo
      obtain ⟨fs', g1, g2⟩ := lw_fs I.h20 I.hs.2.1 hpx
      have h09 : ρ9[0]? = some (.ref (u.1.2 0)) := by rw [hi9 0 (show 0 < 2 by decide), (hpx.1.at I.h20).2]; rfl
      have hWu := lw_wd (I.hs.1) hpx (fun z hz => Or.inl ((by decide +kernel : ∀ z ∈ k_X7_begin_3p.2.2.2.1, z.1 ∈ k_X7_begin_3p.2.2.2.2.1) z hz)) (fun _ => Or.inl rfl)
      have ho9 := List.mem_singleton.mp ho9
      subst ho9
      have hB9 : ∀ b ∈ lw_B 3, lw_b fs' b := en_ac (lw_hb_ok (b := (22, 1, 1)) (by decide +kernel) L1.hD g1 h09 hPa9) (en_ac (lw_hb_ok (b := (21, 1, 1)) (by decide +kernel) L1.hD g1 h09 hPa9) (en_ac (lw_hb_ok (b := (20, 115, 115)) (by decide +kernel) L1.hD g1 h09 hPa9) (en_ac (lw_hb_ok (b := (16, 1, 9)) (by decide +kernel) L1.hD g1 h09 hPa9) (en_ac (lw_hb_ok (b := (25, 0, 8)) (by decide +kernel) L1.hD g1 h09 hPa9) en_an))))
      have hO1 : en_O1 u.2 := (hPa9.2.2 (5, 1, 0, 0, 0, 0) (by decide +kernel)).2
      have hO2 : en_O2 u.2 := (hPa9.2.2 (5, 2, 0, 0, 0, 0) (by decide +kernel)).2
      have hhn := lw_hh (fs := fs') (lo := 0) (hi := 0) (lo' := 1) (hi' := 9) (lw_hb_ok (by decide +kernel) L1.hD g1 h09 hPa9) (lw_hb_ok (b := (16, 1, 9)) (by decide +kernel) L1.hD g1 h09 hPa9) (by decide)
      obtain ⟨cx9, cy9, hS9⟩ := lw_on2 (st := 3) (fun q hq => I.h27 q (lw_new hpx.1 (by decide) hq)) g1 hWu hO1 hO2 (by decide) hB9 hhn
      exact k9 hpx (by decide +kernel) (by decide +kernel) (Or.inl ⟨hbm, rfl⟩) hrv (lw_Iq hLP I hpx (by decide +kernel) g1 (by decide) (lw_Io I hpx (by decide +kernel)) (lw_Id I hpx (by decide +kernel)) hS9) L1
    · have hb1 := hb2
      obtain ⟨x16, f16, l16, u16⟩ := I.hs.2.2.1 (16, 1, 9) (by decide)
      have l16 : (1 : Int) ≤ x16.toInt := l16
      have u16 : x16.toInt ≤ (9 : Int) := u16
      obtain ⟨x17, f17, l17, u17⟩ := I.hs.2.2.1 (17, 2, 2) (by decide)
      have l17 : (2 : Int) ≤ x17.toInt := l17
      have u17 : x17.toInt ≤ (2 : Int) := u17
      obtain ⟨x20, f20, l20, u20⟩ := I.hs.2.2.1 (20, 109, 109) (by decide)
      have l20 : (109 : Int) ≤ x20.toInt := l20
      have u20 : x20.toInt ≤ (109 : Int) := u20
      obtain ⟨x21, f21, l21, u21⟩ := I.hs.2.2.1 (21, 1, 1) (by decide)
      have l21 : (1 : Int) ≤ x21.toInt := l21
      have u21 : x21.toInt ≤ (1 : Int) := u21
      obtain ⟨x22, f22, l22, u22⟩ := I.hs.2.2.1 (22, 0, 0) (by decide)
      have l22 : (0 : Int) ≤ x22.toInt := l22
      have u22 : x22.toInt ≤ (0 : Int) := u22
      refine lw_mc (lv' := 1) (ρp := [.ref (sh.2 0), .int a1, .int x16, .int x17, .int x20, .int x21, .int x22]) (As := [.int a1]) F L (ct_X7_begin_3 hl9 (cx := cx) (cy := cy)) gm_X7_begin I.hs.2.1 rfl rfl (Nat.le_of_ble_eq_true rfl) (by decide) ⟨Nat.le_trans (Nat.add_le_add_left (Nat.le_of_ble_eq_true rfl) _) hcs.1, Nat.le_trans (Nat.add_le_add_left (Nat.le_of_ble_eq_true rfl) _) hcs.2⟩ hls rfl (lw_pre I.hs.1 (by decide) (Or.inr (by decide))) (I.hO cx cy) (lw_pa (env := k_X7_begin_3.2.1.1) (fa := k_X7_begin_3.2.1.2) ⟨⟨0, I.h20, rfl⟩, ⟨a1, rfl, hb1.1, hb1.2⟩, ⟨x16, rfl, l16, u16⟩, ⟨x17, rfl, l17, u17⟩, ⟨x20, rfl, l20, u20⟩, ⟨x21, rfl, l21, u21⟩, ⟨x22, rfl, l22, u22⟩, trivial⟩ (en_ac (lw_f0 I.hs.2.1 rfl f16 rfl) (en_ac (lw_f0 I.hs.2.1 rfl f17 rfl) (en_ac (lw_f0 I.hs.2.1 rfl f20 rfl) (en_ac (lw_f0 I.hs.2.1 rfl f21 rfl) (en_ac (lw_f0 I.hs.2.1 rfl f22 rfl) (en_ac (⟨I.had, I.hs.2.2.2.1⟩) (en_an)))))))) dlw_691 (fun u res H1 locs1 hrv hpo L1 => ?_)
      refine W.widen (k := cells + 8) (n := slots + 64) (Nat.add_le_add_left (Nat.le_of_ble_eq_true rfl) _) (Nat.add_le_add_left (Nat.le_of_ble_eq_true rfl) _) ?_
      obtain ⟨fs', I1⟩ := lw_Iqq hLP I hpo.1 (by decide +kernel) (by decide +kernel) (by decide +kernel) (by decide +kernel) (lw_Io I hpo.1 (by decide +kernel)) (lw_Id I hpo.1 (by decide +kernel))
      exact k9 hpo.1 (by decide +kernel) (by decide +kernel) (Or.inl ⟨hbm, rfl⟩) hrv I1 L1
    · have hb1 := hb2
      obtain ⟨x16, f16, l16, u16⟩ := I.hs.2.2.1 (16, 1, 9) (by decide)
      have l16 : (1 : Int) ≤ x16.toInt := l16
      have u16 : x16.toInt ≤ (9 : Int) := u16
      obtain ⟨x17, f17, l17, u17⟩ := I.hs.2.2.1 (17, 2, 2) (by decide)
      have l17 : (2 : Int) ≤ x17.toInt := l17
      have u17 : x17.toInt ≤ (2 : Int) := u17
      obtain ⟨x20, f20, l20, u20⟩ := I.hs.2.2.1 (20, 109, 109) (by decide)
      have l20 : (109 : Int) ≤ x20.toInt := l20
      have u20 : x20.toInt ≤ (109 : Int) := u20
      obtain ⟨x21, f21, l21, u21⟩ := I.hs.2.2.1 (21, 1, 1) (by decide)
      have l21 : (1 : Int) ≤ x21.toInt := l21
      have u21 : x21.toInt ≤ (1 : Int) := u21
      obtain ⟨x22, f22, l22, u22⟩ := I.hs.2.2.1 (22, 0, 0) (by decide)
      have l22 : (0 : Int) ≤ x22.toInt := l22
      have u22 : x22.toInt ≤ (0 : Int) := u22
      refine lw_mc (lv' := 1) (ρp := [.ref (sh.2 0), .int a1, .int x16, .int x17, .int x20, .int x21, .int x22]) (As := [.int a1]) F L (ct_X7_begin_6 hl9 (cx := cx) (cy := cy)) gm_X7_begin I.hs.2.1 rfl rfl (Nat.le_of_ble_eq_true rfl) (by decide) ⟨Nat.le_trans (Nat.add_le_add_left (Nat.le_of_ble_eq_true rfl) _) hcs.1, Nat.le_trans (Nat.add_le_add_left (Nat.le_of_ble_eq_true rfl) _) hcs.2⟩ hls rfl (lw_pre I.hs.1 (by decide) (Or.inr (by decide))) (I.hO cx cy) (lw_pa (env := k_X7_begin_6.2.1.1) (fa := k_X7_begin_6.2.1.2) ⟨⟨0, I.h20, rfl⟩, ⟨a1, rfl, hb1.1, hb1.2⟩, ⟨x16, rfl, l16, u16⟩, ⟨x17, rfl, l17, u17⟩, ⟨x20, rfl, l20, u20⟩, ⟨x21, rfl, l21, u21⟩, ⟨x22, rfl, l22, u22⟩, trivial⟩ (en_ac (lw_f0 I.hs.2.1 rfl f16 rfl) (en_ac (lw_f0 I.hs.2.1 rfl f17 rfl) (en_ac (lw_f0 I.hs.2.1 rfl f20 rfl) (en_ac (lw_f0 I.hs.2.1 rfl f21 rfl) (en_ac (lw_f0 I.hs.2.1 rfl f22 rfl) (en_ac (⟨I.had, I.hs.2.2.2.1⟩) (en_an)))))))) dlw_691 (fun u res H1 locs1 hrv hpo L1 => ?_)
      refine W.widen (k := cells + 8) (n := slots + 64) (Nat.add_le_add_left (Nat.le_of_ble_eq_true rfl) _) (Nat.add_le_add_left (Nat.le_of_ble_eq_true rfl) _) ?_
      obtain ⟨fs', I1⟩ := lw_Iqq hLP I hpo.1 (by decide +kernel) (by decide +kernel) (by decide +kernel) (by decide +kernel) (lw_Io I hpo.1 (by decide +kernel)) (lw_Id I hpo.1 (by decide +kernel))
      exact k9 hpo.1 (by decide +kernel) (by decide +kernel) (Or.inl ⟨hbm, rfl⟩) hrv I1 L1
    · have hb1 := hb2
      obtain ⟨x16, f16, l16, u16⟩ := I.hs.2.2.1 (16, 1, 9) (by decide)
      have l16 : (1 : Int) ≤ x16.toInt := l16
      have u16 : x16.toInt ≤ (9 : Int) := u16
      obtain ⟨x17, f17, l17, u17⟩ := I.hs.2.2.1 (17, 2, 2) (by decide)
      have l17 : (2 : Int) ≤ x17.toInt := l17
      have u17 : x17.toInt ≤ (2 : Int) := u17
      obtain ⟨x20, f20, l20, u20⟩ := I.hs.2.2.1 (20, 109, 109) (by decide)
      have l20 : (109 : Int) ≤ x20.toInt := l20
      have u20 : x20.toInt ≤ (109 : Int) := u20
      obtain ⟨x21, f21, l21, u21⟩ := I.hs.2.2.1 (21, 1, 1) (by decide)
      have l21 : (1 : Int) ≤ x21.toInt := l21
      have u21 : x21.toInt ≤ (1 : Int) := u21
      obtain ⟨x22, f22, l22, u22⟩ := I.hs.2.2.1 (22, 0, 0) (by decide)
      have l22 : (0 : Int) ≤ x22.toInt := l22
      have u22 : x22.toInt ≤ (0 : Int) := u22
      refine lw_mc (lv' := 1) (ρp := [.ref (sh.2 0), .int a1, .int x16, .int x17, .int x20, .int x21, .int x22]) (As := [.int a1]) F L (ct_X7_begin_9 hl9 (cx := cx) (cy := cy)) gm_X7_begin I.hs.2.1 rfl rfl (Nat.le_of_ble_eq_true rfl) (by decide) ⟨Nat.le_trans (Nat.add_le_add_left (Nat.le_of_ble_eq_true rfl) _) hcs.1, Nat.le_trans (Nat.add_le_add_left (Nat.le_of_ble_eq_true rfl) _) hcs.2⟩ hls rfl (lw_pre I.hs.1 (by decide) (Or.inr (by decide))) (I.hO cx cy) (lw_pa (env := k_X7_begin_9.2.1.1) (fa := k_X7_begin_9.2.1.2) ⟨⟨0, I.h20, rfl⟩, ⟨a1, rfl, hb1.1, hb1.2⟩, ⟨x16, rfl, l16, u16⟩, ⟨x17, rfl, l17, u17⟩, ⟨x20, rfl, l20, u20⟩, ⟨x21, rfl, l21, u21⟩, ⟨x22, rfl, l22, u22⟩, trivial⟩ (en_ac (lw_f0 I.hs.2.1 rfl f16 rfl) (en_ac (lw_f0 I.hs.2.1 rfl f17 rfl) (en_ac (lw_f0 I.hs.2.1 rfl f20 rfl) (en_ac (lw_f0 I.hs.2.1 rfl f21 rfl) (en_ac (lw_f0 I.hs.2.1 rfl f22 rfl) (en_ac (⟨I.had, I.hs.2.2.2.1⟩) (en_an)))))))) dlw_691 (fun u res H1 locs1 hrv hpo L1 => ?_)
      refine W.widen (k := cells + 8) (n := slots + 64) (Nat.add_le_add_left (Nat.le_of_ble_eq_true rfl) _) (Nat.add_le_add_left (Nat.le_of_ble_eq_true rfl) _) ?_
      obtain ⟨fs', I1⟩ := lw_Iqq hLP I hpo.1 (by decide +kernel) (by decide +kernel) (by decide +kernel) (by decide +kernel) (lw_Io I hpo.1 (by decide +kernel)) (lw_Id I hpo.1 (by decide +kernel))
      exact k9 hpo.1 (by decide +kernel) (by decide +kernel) (Or.inl ⟨hbm, rfl⟩) hrv I1 L1
  · skip
    obtain ⟨x16, f16, l16, u16⟩ := I.hs.2.2.1 (16, 1, 9) (by decide)
    have l16 : (1 : Int) ≤ x16.toInt := l16
    have u16 : x16.toInt ≤ (9 : Int) := u16
    obtain ⟨x22, f22, l22, u22⟩ := I.hs.2.2.1 (22, 1, 1) (by decide)
    have l22 : (1 : Int) ≤ x22.toInt := l22
    have u22 : x22.toInt ≤ (1 : Int) := u22
    obtain ⟨x25, f25, l25, u25⟩ := I.hs.2.2.1 (25, 0, 8) (by decide)
    have l25 : (0 : Int) ≤ x25.toInt := l25
    have u25 : x25.toInt ≤ (8 : Int) := u25
    have hOc := (I.hs.2.2.2.2 (by decide)).2.1
    refine lw_mc (lv' := 1) (ρp := [.ref (sh.2 0), .int a1, .int x16, .int x22, .int x25]) (As := [.int a1]) F L (ct_X7_begin_0 hl9 (cx := cx) (cy := cy)) gm_X7_begin I.hs.2.1 rfl rfl (Nat.le_of_ble_eq_true rfl) (by decide) ⟨Nat.le_trans (Nat.add_le_add_left (Nat.le_of_ble_eq_true rfl) _) hcs.1, Nat.le_trans (Nat.add_le_add_left (Nat.le_of_ble_eq_true rfl) _) hcs.2⟩ hls rfl (lw_pre I.hs.1 (by decide) (Or.inl (by decide))) (I.hO cx cy) (lw_pa (env := k_X7_begin_0.2.1.1) (fa := k_X7_begin_0.2.1.2) ⟨⟨0, I.h20, rfl⟩, ⟨a1, rfl, hb1.1, hb1.2⟩, ⟨x16, rfl, l16, u16⟩, ⟨x22, rfl, l22, u22⟩, ⟨x25, rfl, l25, u25⟩, trivial⟩ (en_ac (lw_f0 I.hs.2.1 rfl f16 rfl) (en_ac (lw_f0 I.hs.2.1 rfl f22 rfl) (en_ac (lw_f0 I.hs.2.1 rfl f25 rfl) (en_ac (⟨I.had, hOc⟩) (en_an)))))) dlw_691 (fun u res H1 locs1 hrv hpo L1 => ?_)
    refine W.widen (k := cells + 8) (n := slots + 64) (Nat.add_le_add_left (Nat.le_of_ble_eq_true rfl) _) (Nat.add_le_add_left (Nat.le_of_ble_eq_true rfl) _) ?_
    obtain ⟨fs', I1⟩ := lw_Iqq hLP I hpo.1 (by decide +kernel) (by decide +kernel) (by decide +kernel) (by decide +kernel) (lw_Io I hpo.1 (by decide +kernel)) (lw_Id I hpo.1 (by decide +kernel))
    exact k9 hpo.1 (by decide +kernel) (by decide +kernel) (Or.inl ⟨hbm, rfl⟩) hrv I1 L1
  · skip
    obtain ⟨x16, f16, l16, u16⟩ := I.hs.2.2.1 (16, 1, 9) (by decide)
    have l16 : (1 : Int) ≤ x16.toInt := l16
    have u16 : x16.toInt ≤ (9 : Int) := u16
    obtain ⟨x22, f22, l22, u22⟩ := I.hs.2.2.1 (22, 1, 1) (by decide)
    have l22 : (1 : Int) ≤ x22.toInt := l22
    have u22 : x22.toInt ≤ (1 : Int) := u22
    obtain ⟨x25, f25, l25, u25⟩ := I.hs.2.2.1 (25, 0, 8) (by decide)
    have l25 : (0 : Int) ≤ x25.toInt := l25
    have u25 : x25.toInt ≤ (8 : Int) := u25
    have hOc := (I.hs.2.2.2.2 (by decide)).2.1
    refine lw_mc (lv' := 1) (ρp := [.ref (sh.2 0), .int a1, .int x16, .int x22, .int x25]) (As := [.int a1]) F L (ct_X7_begin_0 hl9 (cx := cx) (cy := cy)) gm_X7_begin I.hs.2.1 rfl rfl (Nat.le_of_ble_eq_true rfl) (by decide) ⟨Nat.le_trans (Nat.add_le_add_left (Nat.le_of_ble_eq_true rfl) _) hcs.1, Nat.le_trans (Nat.add_le_add_left (Nat.le_of_ble_eq_true rfl) _) hcs.2⟩ hls rfl (lw_pre I.hs.1 (by decide) (Or.inl (by decide))) (I.hO cx cy) (lw_pa (env := k_X7_begin_0.2.1.1) (fa := k_X7_begin_0.2.1.2) ⟨⟨0, I.h20, rfl⟩, ⟨a1, rfl, hb1.1, hb1.2⟩, ⟨x16, rfl, l16, u16⟩, ⟨x22, rfl, l22, u22⟩, ⟨x25, rfl, l25, u25⟩, trivial⟩ (en_ac (lw_f0 I.hs.2.1 rfl f16 rfl) (en_ac (lw_f0 I.hs.2.1 rfl f22 rfl) (en_ac (lw_f0 I.hs.2.1 rfl f25 rfl) (en_ac (⟨I.had, hOc⟩) (en_an)))))) dlw_691 (fun u res H1 locs1 hrv hpo L1 => ?_)
    refine W.widen (k := cells + 8) (n := slots + 64) (Nat.add_le_add_left (Nat.le_of_ble_eq_true rfl) _) (Nat.add_le_add_left (Nat.le_of_ble_eq_true rfl) _) ?_
    obtain ⟨fs', I1⟩ := lw_Iqq hLP I hpo.1 (by decide +kernel) (by decide +kernel) (by decide +kernel) (by decide +kernel) (lw_Io I hpo.1 (by decide +kernel)) (lw_Id I hpo.1 (by decide +kernel))
    exact k9 hpo.1 (by decide +kernel) (by decide +kernel) (Or.inl ⟨hbm, rfl⟩) hrv I1 L1
end
