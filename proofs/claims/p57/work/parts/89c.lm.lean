section
variable {p : Program} {l : Launch} {e : Env} {R : Room} {s : State} {m : MethodId} {args : Array Value} {below : List Frame} {meth : Method} {c : Code} {Q : State → Prop}
variable {D : va_G} {tys : List (ClassId × FieldType)} {cO cD : ClassId} {A : Nat → Prop} {sh : en_H} {w : va_W} {H : Heap} {locs : List Loc} {ls : Array Slot} {cells slots qx qo qd : Nat} {E : Int32 → Int32 → Prop} {LP : en_H → va_W → Prop} {st : Nat} {cx cy : Int32} {fs : List Value}
set_option maxHeartbeats 4000000 in
theorem lm_X7_isAhead (hl9 : l.stackTraces = false) (a1 : Int32) (a2 : Int32) (hLP : lw_st LP) (F : lw_Fm p R s m args c D tys cO cD A) (L : lw_H D A s w H locs) (I : lw_I E LP tys cO cD qx qo qd sh w st cx cy fs) (hls : ls.size = 9) (hcs : cells + 8 ≤ R.cells ∧ slots + 64 ≤ R.slots)
    (k : ∀ (u : en_H × va_W) (res : Option Value) (H1 : Heap) (locs1 : List Loc) (st' : Nat) (cx' cy' : Int32) (fs' : List Value), en_rv 0 res → lw_I E LP tys cO cD qx qo qd u.1 u.2 st' cx' cy' fs' → lw_H D A s u.2 H1 locs1 → W p l e R s m args below meth c H1 locs1 (cells + 8) (slots + 64) Q (F0 m 2036 ls (res.toList ++ []))) :
    W p l e R s m args below meth c H locs cells slots Q (F0 m 2033 ls (([.int a1, .int a2] : List Value).reverse ++ [.ref (sh.2 0)])) := by
  obtain rfl | rfl | rfl | rfl | rfl := lw_stc I.hst
  · skip
    obtain ⟨x21, f21, l21, u21⟩ := I.hs.2.2.1 (21, 0, 0) (by decide)
    refine lw_mc (lv' := 2) (ρp := [.ref (sh.2 0), .int a1, .int a2, .int x21]) (As := [.int a1, .int a2]) F L (ct_X7_isAhead_0z hl9 (cx := cx) (cy := cy)) gm_X7_isAhead I.hs.2.1 rfl rfl (Nat.le_of_ble_eq_true rfl) (by decide) ⟨Nat.le_trans (Nat.add_le_add_left (Nat.le_of_ble_eq_true rfl) _) hcs.1, Nat.le_trans (Nat.add_le_add_left (Nat.le_of_ble_eq_true rfl) _) hcs.2⟩ hls rfl (lw_preZ I.hs.1 (by decide) (by decide)) (I.hO cx cy) (lw_pa (env := k_X7_isAhead_0z.2.1.1) (fa := k_X7_isAhead_0z.2.1.2) ⟨⟨0, I.h20, rfl⟩, ⟨a1, rfl, en_lo a1, en_hi a1⟩, ⟨a2, rfl, en_lo a2, en_hi a2⟩, ⟨x21, rfl, l21, u21⟩, trivial⟩ (en_ac (lw_f0 I.hs.2.1 rfl f21 rfl) (en_an))) dlw_2033 (fun u res H1 locs1 hrv hpo L1 => ?_)
    have hpx := lw_zx hpo.1
    refine W.widen (k := cells + 8) (n := slots + 64) (Nat.add_le_add_left (Nat.le_of_ble_eq_true rfl) _) (Nat.add_le_add_left (Nat.le_of_ble_eq_true rfl) _) ?_
    obtain ⟨fs', I1⟩ := lw_Iqq hLP I hpx (by decide +kernel) (by decide +kernel) (by decide +kernel) (by decide +kernel) (lw_Io I hpx (by decide +kernel)) (lw_Id I hpx (by decide +kernel))
    exact k _ _ _ _ _ _ _ _ hrv I1 L1
  · skip
    obtain ⟨x16, f16, l16, u16⟩ := I.hs.2.2.1 (16, 1, 9) (by decide)
    obtain h16 | h16 | h16 | h16 | h16 | h16 | h16 | h16 | h16 := lw_k16 l16 u16
    · have l16 : (1 : Int) ≤ x16.toInt := by omega
      have u16 : x16.toInt ≤ (1 : Int) := by omega
      refine lw_mc (lv' := 2) (ρp := [.ref (sh.2 0), .int a1, .int a2, .int x16]) (As := [.int a1, .int a2]) F L (ct_X7_isAhead_0 hl9 (cx := cx) (cy := cy)) gm_X7_isAhead I.hs.2.1 rfl rfl (Nat.le_of_ble_eq_true rfl) (by decide) ⟨Nat.le_trans (Nat.add_le_add_left (Nat.le_of_ble_eq_true rfl) _) hcs.1, Nat.le_trans (Nat.add_le_add_left (Nat.le_of_ble_eq_true rfl) _) hcs.2⟩ hls rfl (lw_pre I.hs.1 (by decide) (Or.inr (by decide))) (I.hO cx cy) (lw_pa (env := k_X7_isAhead_0.2.1.1) (fa := k_X7_isAhead_0.2.1.2) ⟨⟨0, I.h20, rfl⟩, ⟨a1, rfl, en_lo a1, en_hi a1⟩, ⟨a2, rfl, en_lo a2, en_hi a2⟩, ⟨x16, rfl, l16, u16⟩, trivial⟩ (en_ac (lw_f0 I.hs.2.1 rfl f16 rfl) (en_an))) dlw_2033 (fun u res H1 locs1 hrv hpo L1 => ?_)
      refine W.widen (k := cells + 8) (n := slots + 64) (Nat.add_le_add_left (Nat.le_of_ble_eq_true rfl) _) (Nat.add_le_add_left (Nat.le_of_ble_eq_true rfl) _) ?_
      obtain ⟨fs', I1⟩ := lw_Iqq hLP I hpo.1 (by decide +kernel) (by decide +kernel) (by decide +kernel) (by decide +kernel) (lw_Io I hpo.1 (by decide +kernel)) (lw_Id I hpo.1 (by decide +kernel))
      exact k _ _ _ _ _ _ _ _ hrv I1 L1
    · have l16 : (2 : Int) ≤ x16.toInt := by omega
      have u16 : x16.toInt ≤ (2 : Int) := by omega
      refine lw_mc (lv' := 2) (ρp := [.ref (sh.2 0), .int a1, .int a2, .int x16]) (As := [.int a1, .int a2]) F L (ct_X7_isAhead_1 hl9 (cx := cx) (cy := cy)) gm_X7_isAhead I.hs.2.1 rfl rfl (Nat.le_of_ble_eq_true rfl) (by decide) ⟨Nat.le_trans (Nat.add_le_add_left (Nat.le_of_ble_eq_true rfl) _) hcs.1, Nat.le_trans (Nat.add_le_add_left (Nat.le_of_ble_eq_true rfl) _) hcs.2⟩ hls rfl (lw_pre I.hs.1 (by decide) (Or.inr (by decide))) (I.hO cx cy) (lw_pa (env := k_X7_isAhead_1.2.1.1) (fa := k_X7_isAhead_1.2.1.2) ⟨⟨0, I.h20, rfl⟩, ⟨a1, rfl, en_lo a1, en_hi a1⟩, ⟨a2, rfl, en_lo a2, en_hi a2⟩, ⟨x16, rfl, l16, u16⟩, trivial⟩ (en_ac (lw_f0 I.hs.2.1 rfl f16 rfl) (en_an))) dlw_2033 (fun u res H1 locs1 hrv hpo L1 => ?_)
      refine W.widen (k := cells + 8) (n := slots + 64) (Nat.add_le_add_left (Nat.le_of_ble_eq_true rfl) _) (Nat.add_le_add_left (Nat.le_of_ble_eq_true rfl) _) ?_
      obtain ⟨fs', I1⟩ := lw_Iqq hLP I hpo.1 (by decide +kernel) (by decide +kernel) (by decide +kernel) (by decide +kernel) (lw_Io I hpo.1 (by decide +kernel)) (lw_Id I hpo.1 (by decide +kernel))
      exact k _ _ _ _ _ _ _ _ hrv I1 L1
    · have l16 : (3 : Int) ≤ x16.toInt := by omega
      have u16 : x16.toInt ≤ (3 : Int) := by omega
      refine lw_mc (lv' := 2) (ρp := [.ref (sh.2 0), .int a1, .int a2, .int x16]) (As := [.int a1, .int a2]) F L (ct_X7_isAhead_2 hl9 (cx := cx) (cy := cy)) gm_X7_isAhead I.hs.2.1 rfl rfl (Nat.le_of_ble_eq_true rfl) (by decide) ⟨Nat.le_trans (Nat.add_le_add_left (Nat.le_of_ble_eq_true rfl) _) hcs.1, Nat.le_trans (Nat.add_le_add_left (Nat.le_of_ble_eq_true rfl) _) hcs.2⟩ hls rfl (lw_pre I.hs.1 (by decide) (Or.inr (by decide))) (I.hO cx cy) (lw_pa (env := k_X7_isAhead_2.2.1.1) (fa := k_X7_isAhead_2.2.1.2) ⟨⟨0, I.h20, rfl⟩, ⟨a1, rfl, en_lo a1, en_hi a1⟩, ⟨a2, rfl, en_lo a2, en_hi a2⟩, ⟨x16, rfl, l16, u16⟩, trivial⟩ (en_ac (lw_f0 I.hs.2.1 rfl f16 rfl) (en_an))) dlw_2033 (fun u res H1 locs1 hrv hpo L1 => ?_)
      refine W.widen (k := cells + 8) (n := slots + 64) (Nat.add_le_add_left (Nat.le_of_ble_eq_true rfl) _) (Nat.add_le_add_left (Nat.le_of_ble_eq_true rfl) _) ?_
      obtain ⟨fs', I1⟩ := lw_Iqq hLP I hpo.1 (by decide +kernel) (by decide +kernel) (by decide +kernel) (by decide +kernel) (lw_Io I hpo.1 (by decide +kernel)) (lw_Id I hpo.1 (by decide +kernel))
      exact k _ _ _ _ _ _ _ _ hrv I1 L1
    · have l16 : (4 : Int) ≤ x16.toInt := by omega
      have u16 : x16.toInt ≤ (4 : Int) := by omega
      refine lw_mc (lv' := 2) (ρp := [.ref (sh.2 0), .int a1, .int a2, .int x16]) (As := [.int a1, .int a2]) F L (ct_X7_isAhead_3 hl9 (cx := cx) (cy := cy)) gm_X7_isAhead I.hs.2.1 rfl rfl (Nat.le_of_ble_eq_true rfl) (by decide) ⟨Nat.le_trans (Nat.add_le_add_left (Nat.le_of_ble_eq_true rfl) _) hcs.1, Nat.le_trans (Nat.add_le_add_left (Nat.le_of_ble_eq_true rfl) _) hcs.2⟩ hls rfl (lw_pre I.hs.1 (by decide) (Or.inr (by decide))) (I.hO cx cy) (lw_pa (env := k_X7_isAhead_3.2.1.1) (fa := k_X7_isAhead_3.2.1.2) ⟨⟨0, I.h20, rfl⟩, ⟨a1, rfl, en_lo a1, en_hi a1⟩, ⟨a2, rfl, en_lo a2, en_hi a2⟩, ⟨x16, rfl, l16, u16⟩, trivial⟩ (en_ac (lw_f0 I.hs.2.1 rfl f16 rfl) (en_an))) dlw_2033 (fun u res H1 locs1 hrv hpo L1 => ?_)
      refine W.widen (k := cells + 8) (n := slots + 64) (Nat.add_le_add_left (Nat.le_of_ble_eq_true rfl) _) (Nat.add_le_add_left (Nat.le_of_ble_eq_true rfl) _) ?_
      obtain ⟨fs', I1⟩ := lw_Iqq hLP I hpo.1 (by decide +kernel) (by decide +kernel) (by decide +kernel) (by decide +kernel) (lw_Io I hpo.1 (by decide +kernel)) (lw_Id I hpo.1 (by decide +kernel))
      exact k _ _ _ _ _ _ _ _ hrv I1 L1
    · have l16 : (5 : Int) ≤ x16.toInt := by omega
      have u16 : x16.toInt ≤ (5 : Int) := by omega
      refine lw_mc (lv' := 2) (ρp := [.ref (sh.2 0), .int a1, .int a2, .int x16]) (As := [.int a1, .int a2]) F L (ct_X7_isAhead_4 hl9 (cx := cx) (cy := cy)) gm_X7_isAhead I.hs.2.1 rfl rfl (Nat.le_of_ble_eq_true rfl) (by decide) ⟨Nat.le_trans (Nat.add_le_add_left (Nat.le_of_ble_eq_true rfl) _) hcs.1, Nat.le_trans (Nat.add_le_add_left (Nat.le_of_ble_eq_true rfl) _) hcs.2⟩ hls rfl (lw_pre I.hs.1 (by decide) (Or.inr (by decide))) (I.hO cx cy) (lw_pa (env := k_X7_isAhead_4.2.1.1) (fa := k_X7_isAhead_4.2.1.2) ⟨⟨0, I.h20, rfl⟩, ⟨a1, rfl, en_lo a1, en_hi a1⟩, ⟨a2, rfl, en_lo a2, en_hi a2⟩, ⟨x16, rfl, l16, u16⟩, trivial⟩ (en_ac (lw_f0 I.hs.2.1 rfl f16 rfl) (en_an))) dlw_2033 (fun u res H1 locs1 hrv hpo L1 => ?_)
      refine W.widen (k := cells + 8) (n := slots + 64) (Nat.add_le_add_left (Nat.le_of_ble_eq_true rfl) _) (Nat.add_le_add_left (Nat.le_of_ble_eq_true rfl) _) ?_
      obtain ⟨fs', I1⟩ := lw_Iqq hLP I hpo.1 (by decide +kernel) (by decide +kernel) (by decide +kernel) (by decide +kernel) (lw_Io I hpo.1 (by decide +kernel)) (lw_Id I hpo.1 (by decide +kernel))
      exact k _ _ _ _ _ _ _ _ hrv I1 L1
    · have l16 : (6 : Int) ≤ x16.toInt := by omega
      have u16 : x16.toInt ≤ (6 : Int) := by omega
      refine lw_mc (lv' := 2) (ρp := [.ref (sh.2 0), .int a1, .int a2, .int x16]) (As := [.int a1, .int a2]) F L (ct_X7_isAhead_5 hl9 (cx := cx) (cy := cy)) gm_X7_isAhead I.hs.2.1 rfl rfl (Nat.le_of_ble_eq_true rfl) (by decide) ⟨Nat.le_trans (Nat.add_le_add_left (Nat.le_of_ble_eq_true rfl) _) hcs.1, Nat.le_trans (Nat.add_le_add_left (Nat.le_of_ble_eq_true rfl) _) hcs.2⟩ hls rfl (lw_pre I.hs.1 (by decide) (Or.inr (by decide))) (I.hO cx cy) (lw_pa (env := k_X7_isAhead_5.2.1.1) (fa := k_X7_isAhead_5.2.1.2) ⟨⟨0, I.h20, rfl⟩, ⟨a1, rfl, en_lo a1, en_hi a1⟩, ⟨a2, rfl, en_lo a2, en_hi a2⟩, ⟨x16, rfl, l16, u16⟩, trivial⟩ (en_ac (lw_f0 I.hs.2.1 rfl f16 rfl) (en_an))) dlw_2033 (fun u res H1 locs1 hrv hpo L1 => ?_)
      refine W.widen (k := cells + 8) (n := slots + 64) (Nat.add_le_add_left (Nat.le_of_ble_eq_true rfl) _) (Nat.add_le_add_left (Nat.le_of_ble_eq_true rfl) _) ?_
      obtain ⟨fs', I1⟩ := lw_Iqq hLP I hpo.1 (by decide +kernel) (by decide +kernel) (by decide +kernel) (by decide +kernel) (lw_Io I hpo.1 (by decide +kernel)) (lw_Id I hpo.1 (by decide +kernel))
      exact k _ _ _ _ _ _ _ _ hrv I1 L1
    · have l16 : (7 : Int) ≤ x16.toInt := by omega
      have u16 : x16.toInt ≤ (7 : Int) := by omega
      refine lw_mc (lv' := 2) (ρp := [.ref (sh.2 0), .int a1, .int a2, .int x16]) (As := [.int a1, .int a2]) F L (ct_X7_isAhead_6 hl9 (cx := cx) (cy := cy)) gm_X7_isAhead I.hs.2.1 rfl rfl (Nat.le_of_ble_eq_true rfl) (by decide) ⟨Nat.le_trans (Nat.add_le_add_left (Nat.le_of_ble_eq_true rfl) _) hcs.1, Nat.le_trans (Nat.add_le_add_left (Nat.le_of_ble_eq_true rfl) _) hcs.2⟩ hls rfl (lw_pre I.hs.1 (by decide) (Or.inr (by decide))) (I.hO cx cy) (lw_pa (env := k_X7_isAhead_6.2.1.1) (fa := k_X7_isAhead_6.2.1.2) ⟨⟨0, I.h20, rfl⟩, ⟨a1, rfl, en_lo a1, en_hi a1⟩, ⟨a2, rfl, en_lo a2, en_hi a2⟩, ⟨x16, rfl, l16, u16⟩, trivial⟩ (en_ac (lw_f0 I.hs.2.1 rfl f16 rfl) (en_an))) dlw_2033 (fun u res H1 locs1 hrv hpo L1 => ?_)
      refine W.widen (k := cells + 8) (n := slots + 64) (Nat.add_le_add_left (Nat.le_of_ble_eq_true rfl) _) (Nat.add_le_add_left (Nat.le_of_ble_eq_true rfl) _) ?_
      obtain ⟨fs', I1⟩ := lw_Iqq hLP I hpo.1 (by decide +kernel) (by decide +kernel) (by decide +kernel) (by decide +kernel) (lw_Io I hpo.1 (by decide +kernel)) (lw_Id I hpo.1 (by decide +kernel))
      exact k _ _ _ _ _ _ _ _ hrv I1 L1
    · have l16 : (8 : Int) ≤ x16.toInt := by omega
      have u16 : x16.toInt ≤ (8 : Int) := by omega
      refine lw_mc (lv' := 2) (ρp := [.ref (sh.2 0), .int a1, .int a2, .int x16]) (As := [.int a1, .int a2]) F L (ct_X7_isAhead_7 hl9 (cx := cx) (cy := cy)) gm_X7_isAhead I.hs.2.1 rfl rfl (Nat.le_of_ble_eq_true rfl) (by decide) ⟨Nat.le_trans (Nat.add_le_add_left (Nat.le_of_ble_eq_true rfl) _) hcs.1, Nat.le_trans (Nat.add_le_add_left (Nat.le_of_ble_eq_true rfl) _) hcs.2⟩ hls rfl (lw_pre I.hs.1 (by decide) (Or.inr (by decide))) (I.hO cx cy) (lw_pa (env := k_X7_isAhead_7.2.1.1) (fa := k_X7_isAhead_7.2.1.2) ⟨⟨0, I.h20, rfl⟩, ⟨a1, rfl, en_lo a1, en_hi a1⟩, ⟨a2, rfl, en_lo a2, en_hi a2⟩, ⟨x16, rfl, l16, u16⟩, trivial⟩ (en_ac (lw_f0 I.hs.2.1 rfl f16 rfl) (en_an))) dlw_2033 (fun u res H1 locs1 hrv hpo L1 => ?_)
      refine W.widen (k := cells + 8) (n := slots + 64) (Nat.add_le_add_left (Nat.le_of_ble_eq_true rfl) _) (Nat.add_le_add_left (Nat.le_of_ble_eq_true rfl) _) ?_
      obtain ⟨fs', I1⟩ := lw_Iqq hLP I hpo.1 (by decide +kernel) (by decide +kernel) (by decide +kernel) (by decide +kernel) (lw_Io I hpo.1 (by decide +kernel)) (lw_Id I hpo.1 (by decide +kernel))
      exact k _ _ _ _ _ _ _ _ hrv I1 L1
    · have l16 : (9 : Int) ≤ x16.toInt := by omega
      have u16 : x16.toInt ≤ (9 : Int) := by omega
      refine lw_mc (lv' := 2) (ρp := [.ref (sh.2 0), .int a1, .int a2, .int x16]) (As := [.int a1, .int a2]) F L (ct_X7_isAhead_8 hl9 (cx := cx) (cy := cy)) gm_X7_isAhead I.hs.2.1 rfl rfl (Nat.le_of_ble_eq_true rfl) (by decide) ⟨Nat.le_trans (Nat.add_le_add_left (Nat.le_of_ble_eq_true rfl) _) hcs.1, Nat.le_trans (Nat.add_le_add_left (Nat.le_of_ble_eq_true rfl) _) hcs.2⟩ hls rfl (lw_pre I.hs.1 (by decide) (Or.inr (by decide))) (I.hO cx cy) (lw_pa (env := k_X7_isAhead_8.2.1.1) (fa := k_X7_isAhead_8.2.1.2) ⟨⟨0, I.h20, rfl⟩, ⟨a1, rfl, en_lo a1, en_hi a1⟩, ⟨a2, rfl, en_lo a2, en_hi a2⟩, ⟨x16, rfl, l16, u16⟩, trivial⟩ (en_ac (lw_f0 I.hs.2.1 rfl f16 rfl) (en_an))) dlw_2033 (fun u res H1 locs1 hrv hpo L1 => ?_)
      refine W.widen (k := cells + 8) (n := slots + 64) (Nat.add_le_add_left (Nat.le_of_ble_eq_true rfl) _) (Nat.add_le_add_left (Nat.le_of_ble_eq_true rfl) _) ?_
      obtain ⟨fs', I1⟩ := lw_Iqq hLP I hpo.1 (by decide +kernel) (by decide +kernel) (by decide +kernel) (by decide +kernel) (lw_Io I hpo.1 (by decide +kernel)) (lw_Id I hpo.1 (by decide +kernel))
      exact k _ _ _ _ _ _ _ _ hrv I1 L1
  · skip
    obtain ⟨x16, f16, l16, u16⟩ := I.hs.2.2.1 (16, 1, 9) (by decide)
    obtain h16 | h16 | h16 | h16 | h16 | h16 | h16 | h16 | h16 := lw_k16 l16 u16
    · have l16 : (1 : Int) ≤ x16.toInt := by omega
      have u16 : x16.toInt ≤ (1 : Int) := by omega
      refine lw_mc (lv' := 2) (ρp := [.ref (sh.2 0), .int a1, .int a2, .int x16]) (As := [.int a1, .int a2]) F L (ct_X7_isAhead_0 hl9 (cx := cx) (cy := cy)) gm_X7_isAhead I.hs.2.1 rfl rfl (Nat.le_of_ble_eq_true rfl) (by decide) ⟨Nat.le_trans (Nat.add_le_add_left (Nat.le_of_ble_eq_true rfl) _) hcs.1, Nat.le_trans (Nat.add_le_add_left (Nat.le_of_ble_eq_true rfl) _) hcs.2⟩ hls rfl (lw_pre I.hs.1 (by decide) (Or.inr (by decide))) (I.hO cx cy) (lw_pa (env := k_X7_isAhead_0.2.1.1) (fa := k_X7_isAhead_0.2.1.2) ⟨⟨0, I.h20, rfl⟩, ⟨a1, rfl, en_lo a1, en_hi a1⟩, ⟨a2, rfl, en_lo a2, en_hi a2⟩, ⟨x16, rfl, l16, u16⟩, trivial⟩ (en_ac (lw_f0 I.hs.2.1 rfl f16 rfl) (en_an))) dlw_2033 (fun u res H1 locs1 hrv hpo L1 => ?_)
      refine W.widen (k := cells + 8) (n := slots + 64) (Nat.add_le_add_left (Nat.le_of_ble_eq_true rfl) _) (Nat.add_le_add_left (Nat.le_of_ble_eq_true rfl) _) ?_
      obtain ⟨fs', I1⟩ := lw_Iqq hLP I hpo.1 (by decide +kernel) (by decide +kernel) (by decide +kernel) (by decide +kernel) (lw_Io I hpo.1 (by decide +kernel)) (lw_Id I hpo.1 (by decide +kernel))
      exact k _ _ _ _ _ _ _ _ hrv I1 L1
    · have l16 : (2 : Int) ≤ x16.toInt := by omega
      have u16 : x16.toInt ≤ (2 : Int) := by omega
      refine lw_mc (lv' := 2) (ρp := [.ref (sh.2 0), .int a1, .int a2, .int x16]) (As := [.int a1, .int a2]) F L (ct_X7_isAhead_1 hl9 (cx := cx) (cy := cy)) gm_X7_isAhead I.hs.2.1 rfl rfl (Nat.le_of_ble_eq_true rfl) (by decide) ⟨Nat.le_trans (Nat.add_le_add_left (Nat.le_of_ble_eq_true rfl) _) hcs.1, Nat.le_trans (Nat.add_le_add_left (Nat.le_of_ble_eq_true rfl) _) hcs.2⟩ hls rfl (lw_pre I.hs.1 (by decide) (Or.inr (by decide))) (I.hO cx cy) (lw_pa (env := k_X7_isAhead_1.2.1.1) (fa := k_X7_isAhead_1.2.1.2) ⟨⟨0, I.h20, rfl⟩, ⟨a1, rfl, en_lo a1, en_hi a1⟩, ⟨a2, rfl, en_lo a2, en_hi a2⟩, ⟨x16, rfl, l16, u16⟩, trivial⟩ (en_ac (lw_f0 I.hs.2.1 rfl f16 rfl) (en_an))) dlw_2033 (fun u res H1 locs1 hrv hpo L1 => ?_)
      refine W.widen (k := cells + 8) (n := slots + 64) (Nat.add_le_add_left (Nat.le_of_ble_eq_true rfl) _) (Nat.add_le_add_left (Nat.le_of_ble_eq_true rfl) _) ?_
      obtain ⟨fs', I1⟩ := lw_Iqq hLP I hpo.1 (by decide +kernel) (by decide +kernel) (by decide +kernel) (by decide +kernel) (lw_Io I hpo.1 (by decide +kernel)) (lw_Id I hpo.1 (by decide +kernel))
      exact k _ _ _ _ _ _ _ _ hrv I1 L1
    · have l16 : (3 : Int) ≤ x16.toInt := by omega
      have u16 : x16.toInt ≤ (3 : Int) := by omega
      refine lw_mc (lv' := 2) (ρp := [.ref (sh.2 0), .int a1, .int a2, .int x16]) (As := [.int a1, .int a2]) F L (ct_X7_isAhead_2 hl9 (cx := cx) (cy := cy)) gm_X7_isAhead I.hs.2.1 rfl rfl (Nat.le_of_ble_eq_true rfl) (by decide) ⟨Nat.le_trans (Nat.add_le_add_left (Nat.le_of_ble_eq_true rfl) _) hcs.1, Nat.le_trans (Nat.add_le_add_left (Nat.le_of_ble_eq_true rfl) _) hcs.2⟩ hls rfl (lw_pre I.hs.1 (by decide) (Or.inr (by decide))) (I.hO cx cy) (lw_pa (env := k_X7_isAhead_2.2.1.1) (fa := k_X7_isAhead_2.2.1.2) ⟨⟨0, I.h20, rfl⟩, ⟨a1, rfl, en_lo a1, en_hi a1⟩, ⟨a2, rfl, en_lo a2, en_hi a2⟩, ⟨x16, rfl, l16, u16⟩, trivial⟩ (en_ac (lw_f0 I.hs.2.1 rfl f16 rfl) (en_an))) dlw_2033 (fun u res H1 locs1 hrv hpo L1 => ?_)
      refine W.widen (k := cells + 8) (n := slots + 64) (Nat.add_le_add_left (Nat.le_of_ble_eq_true rfl) _) (Nat.add_le_add_left (Nat.le_of_ble_eq_true rfl) _) ?_
      obtain ⟨fs', I1⟩ := lw_Iqq hLP I hpo.1 (by decide +kernel) (by decide +kernel) (by decide +kernel) (by decide +kernel) (lw_Io I hpo.1 (by decide +kernel)) (lw_Id I hpo.1 (by decide +kernel))
      exact k _ _ _ _ _ _ _ _ hrv I1 L1
    · have l16 : (4 : Int) ≤ x16.toInt := by omega
      have u16 : x16.toInt ≤ (4 : Int) := by omega
      refine lw_mc (lv' := 2) (ρp := [.ref (sh.2 0), .int a1, .int a2, .int x16]) (As := [.int a1, .int a2]) F L (ct_X7_isAhead_3 hl9 (cx := cx) (cy := cy)) gm_X7_isAhead I.hs.2.1 rfl rfl (Nat.le_of_ble_eq_true rfl) (by decide) ⟨Nat.le_trans (Nat.add_le_add_left (Nat.le_of_ble_eq_true rfl) _) hcs.1, Nat.le_trans (Nat.add_le_add_left (Nat.le_of_ble_eq_true rfl) _) hcs.2⟩ hls rfl (lw_pre I.hs.1 (by decide) (Or.inr (by decide))) (I.hO cx cy) (lw_pa (env := k_X7_isAhead_3.2.1.1) (fa := k_X7_isAhead_3.2.1.2) ⟨⟨0, I.h20, rfl⟩, ⟨a1, rfl, en_lo a1, en_hi a1⟩, ⟨a2, rfl, en_lo a2, en_hi a2⟩, ⟨x16, rfl, l16, u16⟩, trivial⟩ (en_ac (lw_f0 I.hs.2.1 rfl f16 rfl) (en_an))) dlw_2033 (fun u res H1 locs1 hrv hpo L1 => ?_)
      refine W.widen (k := cells + 8) (n := slots + 64) (Nat.add_le_add_left (Nat.le_of_ble_eq_true rfl) _) (Nat.add_le_add_left (Nat.le_of_ble_eq_true rfl) _) ?_
      obtain ⟨fs', I1⟩ := lw_Iqq hLP I hpo.1 (by decide +kernel) (by decide +kernel) (by decide +kernel) (by decide +kernel) (lw_Io I hpo.1 (by decide +kernel)) (lw_Id I hpo.1 (by decide +kernel))
      exact k _ _ _ _ _ _ _ _ hrv I1 L1
    · have l16 : (5 : Int) ≤ x16.toInt := by omega
      have u16 : x16.toInt ≤ (5 : Int) := by omega
      refine lw_mc (lv' := 2) (ρp := [.ref (sh.2 0), .int a1, .int a2, .int x16]) (As := [.int a1, .int a2]) F L (ct_X7_isAhead_4 hl9 (cx := cx) (cy := cy)) gm_X7_isAhead I.hs.2.1 rfl rfl (Nat.le_of_ble_eq_true rfl) (by decide) ⟨Nat.le_trans (Nat.add_le_add_left (Nat.le_of_ble_eq_true rfl) _) hcs.1, Nat.le_trans (Nat.add_le_add_left (Nat.le_of_ble_eq_true rfl) _) hcs.2⟩ hls rfl (lw_pre I.hs.1 (by decide) (Or.inr (by decide))) (I.hO cx cy) (lw_pa (env := k_X7_isAhead_4.2.1.1) (fa := k_X7_isAhead_4.2.1.2) ⟨⟨0, I.h20, rfl⟩, ⟨a1, rfl, en_lo a1, en_hi a1⟩, ⟨a2, rfl, en_lo a2, en_hi a2⟩, ⟨x16, rfl, l16, u16⟩, trivial⟩ (en_ac (lw_f0 I.hs.2.1 rfl f16 rfl) (en_an))) dlw_2033 (fun u res H1 locs1 hrv hpo L1 => ?_)
      refine W.widen (k := cells + 8) (n := slots + 64) (Nat.add_le_add_left (Nat.le_of_ble_eq_true rfl) _) (Nat.add_le_add_left (Nat.le_of_ble_eq_true rfl) _) ?_
      obtain ⟨fs', I1⟩ := lw_Iqq hLP I hpo.1 (by decide +kernel) (by decide +kernel) (by decide +kernel) (by decide +kernel) (lw_Io I hpo.1 (by decide +kernel)) (lw_Id I hpo.1 (by decide +kernel))
      exact k _ _ _ _ _ _ _ _ hrv I1 L1
    · have l16 : (6 : Int) ≤ x16.toInt := by omega
      have u16 : x16.toInt ≤ (6 : Int) := by omega
      refine lw_mc (lv' := 2) (ρp := [.ref (sh.2 0), .int a1, .int a2, .int x16]) (As := [.int a1, .int a2]) F L (ct_X7_isAhead_5 hl9 (cx := cx) (cy := cy)) gm_X7_isAhead I.hs.2.1 rfl rfl (Nat.le_of_ble_eq_true rfl) (by decide) ⟨Nat.le_trans (Nat.add_le_add_left (Nat.le_of_ble_eq_true rfl) _) hcs.1, Nat.le_trans (Nat.add_le_add_left (Nat.le_of_ble_eq_true rfl) _) hcs.2⟩ hls rfl (lw_pre I.hs.1 (by decide) (Or.inr (by decide))) (I.hO cx cy) (lw_pa (env := k_X7_isAhead_5.2.1.1) (fa := k_X7_isAhead_5.2.1.2) ⟨⟨0, I.h20, rfl⟩, ⟨a1, rfl, en_lo a1, en_hi a1⟩, ⟨a2, rfl, en_lo a2, en_hi a2⟩, ⟨x16, rfl, l16, u16⟩, trivial⟩ (en_ac (lw_f0 I.hs.2.1 rfl f16 rfl) (en_an))) dlw_2033 (fun u res H1 locs1 hrv hpo L1 => ?_)
      refine W.widen (k := cells + 8) (n := slots + 64) (Nat.add_le_add_left (Nat.le_of_ble_eq_true rfl) _) (Nat.add_le_add_left (Nat.le_of_ble_eq_true rfl) _) ?_
      obtain ⟨fs', I1⟩ := lw_Iqq hLP I hpo.1 (by decide +kernel) (by decide +kernel) (by decide +kernel) (by decide +kernel) (lw_Io I hpo.1 (by decide +kernel)) (lw_Id I hpo.1 (by decide +kernel))
      exact k _ _ _ _ _ _ _ _ hrv I1 L1
    · have l16 : (7 : Int) ≤ x16.toInt := by omega
      have u16 : x16.toInt ≤ (7 : Int) := by omega
      refine lw_mc (lv' := 2) (ρp := [.ref (sh.2 0), .int a1, .int a2, .int x16]) (As := [.int a1, .int a2]) F L (ct_X7_isAhead_6 hl9 (cx := cx) (cy := cy)) gm_X7_isAhead I.hs.2.1 rfl rfl (Nat.le_of_ble_eq_true rfl) (by decide) ⟨Nat.le_trans (Nat.add_le_add_left (Nat.le_of_ble_eq_true rfl) _) hcs.1, Nat.le_trans (Nat.add_le_add_left (Nat.le_of_ble_eq_true rfl) _) hcs.2⟩ hls rfl (lw_pre I.hs.1 (by decide) (Or.inr (by decide))) (I.hO cx cy) (lw_pa (env := k_X7_isAhead_6.2.1.1) (fa := k_X7_isAhead_6.2.1.2) ⟨⟨0, I.h20, rfl⟩, ⟨a1, rfl, en_lo a1, en_hi a1⟩, ⟨a2, rfl, en_lo a2, en_hi a2⟩, ⟨x16, rfl, l16, u16⟩, trivial⟩ (en_ac (lw_f0 I.hs.2.1 rfl f16 rfl) (en_an))) dlw_2033 (fun u res H1 locs1 hrv hpo L1 => ?_)
      refine W.widen (k := cells + 8) (n := slots + 64) (Nat.add_le_add_left (Nat.le_of_ble_eq_true rfl) _) (Nat.add_le_add_left (Nat.le_of_ble_eq_true rfl) _) ?_
      obtain ⟨fs', I1⟩ := lw_Iqq hLP I hpo.1 (by decide +kernel) (by decide +kernel) (by decide +kernel) (by decide +kernel) (lw_Io I hpo.1 (by decide +kernel)) (lw_Id I hpo.1 (by decide +kernel))
      exact k _ _ _ _ _ _ _ _ hrv I1 L1
    · have l16 : (8 : Int) ≤ x16.toInt := by omega
      have u16 : x16.toInt ≤ (8 : Int) := by omega
      refine lw_mc (lv' := 2) (ρp := [.ref (sh.2 0), .int a1, .int a2, .int x16]) (As := [.int a1, .int a2]) F L (ct_X7_isAhead_7 hl9 (cx := cx) (cy := cy)) gm_X7_isAhead I.hs.2.1 rfl rfl (Nat.le_of_ble_eq_true rfl) (by decide) ⟨Nat.le_trans (Nat.add_le_add_left (Nat.le_of_ble_eq_true rfl) _) hcs.1, Nat.le_trans (Nat.add_le_add_left (Nat.le_of_ble_eq_true rfl) _) hcs.2⟩ hls rfl (lw_pre I.hs.1 (by decide) (Or.inr (by decide))) (I.hO cx cy) (lw_pa (env := k_X7_isAhead_7.2.1.1) (fa := k_X7_isAhead_7.2.1.2) ⟨⟨0, I.h20, rfl⟩, ⟨a1, rfl, en_lo a1, en_hi a1⟩, ⟨a2, rfl, en_lo a2, en_hi a2⟩, ⟨x16, rfl, l16, u16⟩, trivial⟩ (en_ac (lw_f0 I.hs.2.1 rfl f16 rfl) (en_an))) dlw_2033 (fun u res H1 locs1 hrv hpo L1 => ?_)
      refine W.widen (k := cells + 8) (n := slots + 64) (Nat.add_le_add_left (Nat.le_of_ble_eq_true rfl) _) (Nat.add_le_add_left (Nat.le_of_ble_eq_true rfl) _) ?_
      obtain ⟨fs', I1⟩ := lw_Iqq hLP I hpo.1 (by decide +kernel) (by decide +kernel) (by decide +kernel) (by decide +kernel) (lw_Io I hpo.1 (by decide +kernel)) (lw_Id I hpo.1 (by decide +kernel))
      exact k _ _ _ _ _ _ _ _ hrv I1 L1
    · have l16 : (9 : Int) ≤ x16.toInt := by omega
      have u16 : x16.toInt ≤ (9 : Int) := by omega
      refine lw_mc (lv' := 2) (ρp := [.ref (sh.2 0), .int a1, .int a2, .int x16]) (As := [.int a1, .int a2]) F L (ct_X7_isAhead_8 hl9 (cx := cx) (cy := cy)) gm_X7_isAhead I.hs.2.1 rfl rfl (Nat.le_of_ble_eq_true rfl) (by decide) ⟨Nat.le_trans (Nat.add_le_add_left (Nat.le_of_ble_eq_true rfl) _) hcs.1, Nat.le_trans (Nat.add_le_add_left (Nat.le_of_ble_eq_true rfl) _) hcs.2⟩ hls rfl (lw_pre I.hs.1 (by decide) (Or.inr (by decide))) (I.hO cx cy) (lw_pa (env := k_X7_isAhead_8.2.1.1) (fa := k_X7_isAhead_8.2.1.2) ⟨⟨0, I.h20, rfl⟩, ⟨a1, rfl, en_lo a1, en_hi a1⟩, ⟨a2, rfl, en_lo a2, en_hi a2⟩, ⟨x16, rfl, l16, u16⟩, trivial⟩ (en_ac (lw_f0 I.hs.2.1 rfl f16 rfl) (en_an))) dlw_2033 (fun u res H1 locs1 hrv hpo L1 => ?_)
      refine W.widen (k := cells + 8) (n := slots + 64) (Nat.add_le_add_left (Nat.le_of_ble_eq_true rfl) _) (Nat.add_le_add_left (Nat.le_of_ble_eq_true rfl) _) ?_
      obtain ⟨fs', I1⟩ := lw_Iqq hLP I hpo.1 (by decide +kernel) (by decide +kernel) (by decide +kernel) (by decide +kernel) (lw_Io I hpo.1 (by decide +kernel)) (lw_Id I hpo.1 (by decide +kernel))
      exact k _ _ _ _ _ _ _ _ hrv I1 L1
  · skip
    obtain ⟨x16, f16, l16, u16⟩ := I.hs.2.2.1 (16, 1, 9) (by decide)
    have hOc := (I.hs.2.2.2.2 (by decide)).2.1
    have hAh := (I.hs.2.2.2.2 (by decide)).2.2
    obtain h16 | h16 | h16 | h16 | h16 | h16 | h16 | h16 | h16 := lw_k16 l16 u16
    · have l16 : (1 : Int) ≤ x16.toInt := by omega
      have u16 : x16.toInt ≤ (1 : Int) := by omega
      refine lw_mc (lv' := 2) (ρp := [.ref (sh.2 0), .int a1, .int a2, .int x16]) (As := [.int a1, .int a2]) F L (ct_X7_isAhead_9 hl9 (cx := cx) (cy := cy)) gm_X7_isAhead I.hs.2.1 rfl rfl (Nat.le_of_ble_eq_true rfl) (by decide) ⟨Nat.le_trans (Nat.add_le_add_left (Nat.le_of_ble_eq_true rfl) _) hcs.1, Nat.le_trans (Nat.add_le_add_left (Nat.le_of_ble_eq_true rfl) _) hcs.2⟩ hls rfl (lw_pre I.hs.1 (by decide) (Or.inl (by decide))) (I.hO cx cy) (lw_pa (env := k_X7_isAhead_9.2.1.1) (fa := k_X7_isAhead_9.2.1.2) ⟨⟨0, I.h20, rfl⟩, ⟨a1, rfl, en_lo a1, en_hi a1⟩, ⟨a2, rfl, en_lo a2, en_hi a2⟩, ⟨x16, rfl, l16, u16⟩, trivial⟩ (en_ac (lw_f0 I.hs.2.1 rfl f16 rfl) (en_ac (⟨I.had, hOc⟩) (en_an)))) dlw_2033 (fun u res H1 locs1 hrv hpo L1 => ?_)
      refine W.widen (k := cells + 8) (n := slots + 64) (Nat.add_le_add_left (Nat.le_of_ble_eq_true rfl) _) (Nat.add_le_add_left (Nat.le_of_ble_eq_true rfl) _) ?_
      obtain ⟨fs', I1⟩ := lw_Iqq hLP I hpo.1 (by decide +kernel) (by decide +kernel) (by decide +kernel) (by decide +kernel) (lw_Io I hpo.1 (by decide +kernel)) (lw_Id I hpo.1 (by decide +kernel))
      exact k _ _ _ _ _ _ _ _ hrv I1 L1
    · have l16 : (2 : Int) ≤ x16.toInt := by omega
      have u16 : x16.toInt ≤ (2 : Int) := by omega
      refine lw_mc (lv' := 2) (ρp := [.ref (sh.2 0), .int a1, .int a2, .int x16]) (As := [.int a1, .int a2]) F L (ct_X7_isAhead_10 hl9 (cx := cx) (cy := cy)) gm_X7_isAhead I.hs.2.1 rfl rfl (Nat.le_of_ble_eq_true rfl) (by decide) ⟨Nat.le_trans (Nat.add_le_add_left (Nat.le_of_ble_eq_true rfl) _) hcs.1, Nat.le_trans (Nat.add_le_add_left (Nat.le_of_ble_eq_true rfl) _) hcs.2⟩ hls rfl (lw_pre I.hs.1 (by decide) (Or.inl (by decide))) (I.hO cx cy) (lw_pa (env := k_X7_isAhead_10.2.1.1) (fa := k_X7_isAhead_10.2.1.2) ⟨⟨0, I.h20, rfl⟩, ⟨a1, rfl, en_lo a1, en_hi a1⟩, ⟨a2, rfl, en_lo a2, en_hi a2⟩, ⟨x16, rfl, l16, u16⟩, trivial⟩ (en_ac (lw_f0 I.hs.2.1 rfl f16 rfl) (en_ac (⟨I.had, hOc⟩) (en_an)))) dlw_2033 (fun u res H1 locs1 hrv hpo L1 => ?_)
      refine W.widen (k := cells + 8) (n := slots + 64) (Nat.add_le_add_left (Nat.le_of_ble_eq_true rfl) _) (Nat.add_le_add_left (Nat.le_of_ble_eq_true rfl) _) ?_
      obtain ⟨fs', I1⟩ := lw_Iqq hLP I hpo.1 (by decide +kernel) (by decide +kernel) (by decide +kernel) (by decide +kernel) (lw_Io I hpo.1 (by decide +kernel)) (lw_Id I hpo.1 (by decide +kernel))
      exact k _ _ _ _ _ _ _ _ hrv I1 L1
    · have l16 : (3 : Int) ≤ x16.toInt := by omega
      have u16 : x16.toInt ≤ (3 : Int) := by omega
      refine lw_mc (lv' := 2) (ρp := [.ref (sh.2 0), .int a1, .int a2, .int x16]) (As := [.int a1, .int a2]) F L (ct_X7_isAhead_11 hl9 (cx := cx) (cy := cy)) gm_X7_isAhead I.hs.2.1 rfl rfl (Nat.le_of_ble_eq_true rfl) (by decide) ⟨Nat.le_trans (Nat.add_le_add_left (Nat.le_of_ble_eq_true rfl) _) hcs.1, Nat.le_trans (Nat.add_le_add_left (Nat.le_of_ble_eq_true rfl) _) hcs.2⟩ hls rfl (lw_pre I.hs.1 (by decide) (Or.inl (by decide))) (I.hO cx cy) (lw_pa (env := k_X7_isAhead_11.2.1.1) (fa := k_X7_isAhead_11.2.1.2) ⟨⟨0, I.h20, rfl⟩, ⟨a1, rfl, en_lo a1, en_hi a1⟩, ⟨a2, rfl, en_lo a2, en_hi a2⟩, ⟨x16, rfl, l16, u16⟩, trivial⟩ (en_ac (lw_f0 I.hs.2.1 rfl f16 rfl) (en_ac (⟨I.had, hOc⟩) (en_an)))) dlw_2033 (fun u res H1 locs1 hrv hpo L1 => ?_)
      refine W.widen (k := cells + 8) (n := slots + 64) (Nat.add_le_add_left (Nat.le_of_ble_eq_true rfl) _) (Nat.add_le_add_left (Nat.le_of_ble_eq_true rfl) _) ?_
      obtain ⟨fs', I1⟩ := lw_Iqq hLP I hpo.1 (by decide +kernel) (by decide +kernel) (by decide +kernel) (by decide +kernel) (lw_Io I hpo.1 (by decide +kernel)) (lw_Id I hpo.1 (by decide +kernel))
      exact k _ _ _ _ _ _ _ _ hrv I1 L1
    · have l16 : (4 : Int) ≤ x16.toInt := by omega
      have u16 : x16.toInt ≤ (4 : Int) := by omega
      refine lw_mc (lv' := 2) (ρp := [.ref (sh.2 0), .int a1, .int a2, .int x16]) (As := [.int a1, .int a2]) F L (ct_X7_isAhead_12 hl9 (cx := cx) (cy := cy)) gm_X7_isAhead I.hs.2.1 rfl rfl (Nat.le_of_ble_eq_true rfl) (by decide) ⟨Nat.le_trans (Nat.add_le_add_left (Nat.le_of_ble_eq_true rfl) _) hcs.1, Nat.le_trans (Nat.add_le_add_left (Nat.le_of_ble_eq_true rfl) _) hcs.2⟩ hls rfl (lw_pre I.hs.1 (by decide) (Or.inl (by decide))) (I.hO cx cy) (lw_pa (env := k_X7_isAhead_12.2.1.1) (fa := k_X7_isAhead_12.2.1.2) ⟨⟨0, I.h20, rfl⟩, ⟨a1, rfl, en_lo a1, en_hi a1⟩, ⟨a2, rfl, en_lo a2, en_hi a2⟩, ⟨x16, rfl, l16, u16⟩, trivial⟩ (en_ac (lw_f0 I.hs.2.1 rfl f16 rfl) (en_ac (⟨I.had, hOc⟩) (en_an)))) dlw_2033 (fun u res H1 locs1 hrv hpo L1 => ?_)
      refine W.widen (k := cells + 8) (n := slots + 64) (Nat.add_le_add_left (Nat.le_of_ble_eq_true rfl) _) (Nat.add_le_add_left (Nat.le_of_ble_eq_true rfl) _) ?_
      obtain ⟨fs', I1⟩ := lw_Iqq hLP I hpo.1 (by decide +kernel) (by decide +kernel) (by decide +kernel) (by decide +kernel) (lw_Io I hpo.1 (by decide +kernel)) (lw_Id I hpo.1 (by decide +kernel))
      exact k _ _ _ _ _ _ _ _ hrv I1 L1
    · have l16 : (5 : Int) ≤ x16.toInt := by omega
      have u16 : x16.toInt ≤ (5 : Int) := by omega
      refine lw_mc (lv' := 2) (ρp := [.ref (sh.2 0), .int a1, .int a2, .int x16]) (As := [.int a1, .int a2]) F L (ct_X7_isAhead_13 hl9 (cx := cx) (cy := cy)) gm_X7_isAhead I.hs.2.1 rfl rfl (Nat.le_of_ble_eq_true rfl) (by decide) ⟨Nat.le_trans (Nat.add_le_add_left (Nat.le_of_ble_eq_true rfl) _) hcs.1, Nat.le_trans (Nat.add_le_add_left (Nat.le_of_ble_eq_true rfl) _) hcs.2⟩ hls rfl (lw_pre I.hs.1 (by decide) (Or.inl (by decide))) (I.hO cx cy) (lw_pa (env := k_X7_isAhead_13.2.1.1) (fa := k_X7_isAhead_13.2.1.2) ⟨⟨0, I.h20, rfl⟩, ⟨a1, rfl, en_lo a1, en_hi a1⟩, ⟨a2, rfl, en_lo a2, en_hi a2⟩, ⟨x16, rfl, l16, u16⟩, trivial⟩ (en_ac (lw_f0 I.hs.2.1 rfl f16 rfl) (en_ac (⟨I.had, hOc⟩) (en_an)))) dlw_2033 (fun u res H1 locs1 hrv hpo L1 => ?_)
      refine W.widen (k := cells + 8) (n := slots + 64) (Nat.add_le_add_left (Nat.le_of_ble_eq_true rfl) _) (Nat.add_le_add_left (Nat.le_of_ble_eq_true rfl) _) ?_
      obtain ⟨fs', I1⟩ := lw_Iqq hLP I hpo.1 (by decide +kernel) (by decide +kernel) (by decide +kernel) (by decide +kernel) (lw_Io I hpo.1 (by decide +kernel)) (lw_Id I hpo.1 (by decide +kernel))
      exact k _ _ _ _ _ _ _ _ hrv I1 L1
    · have l16 : (6 : Int) ≤ x16.toInt := by omega
      have u16 : x16.toInt ≤ (6 : Int) := by omega
      refine lw_mc (lv' := 2) (ρp := [.ref (sh.2 0), .int a1, .int a2, .int x16]) (As := [.int a1, .int a2]) F L (ct_X7_isAhead_14 hl9 (cx := cx) (cy := cy)) gm_X7_isAhead I.hs.2.1 rfl rfl (Nat.le_of_ble_eq_true rfl) (by decide) ⟨Nat.le_trans (Nat.add_le_add_left (Nat.le_of_ble_eq_true rfl) _) hcs.1, Nat.le_trans (Nat.add_le_add_left (Nat.le_of_ble_eq_true rfl) _) hcs.2⟩ hls rfl (lw_pre I.hs.1 (by decide) (Or.inl (by decide))) (I.hO cx cy) (lw_pa (env := k_X7_isAhead_14.2.1.1) (fa := k_X7_isAhead_14.2.1.2) ⟨⟨0, I.h20, rfl⟩, ⟨a1, rfl, en_lo a1, en_hi a1⟩, ⟨a2, rfl, en_lo a2, en_hi a2⟩, ⟨x16, rfl, l16, u16⟩, trivial⟩ (en_ac (lw_f0 I.hs.2.1 rfl f16 rfl) (en_ac (⟨I.had, hOc⟩) (en_an)))) dlw_2033 (fun u res H1 locs1 hrv hpo L1 => ?_)
      refine W.widen (k := cells + 8) (n := slots + 64) (Nat.add_le_add_left (Nat.le_of_ble_eq_true rfl) _) (Nat.add_le_add_left (Nat.le_of_ble_eq_true rfl) _) ?_
      obtain ⟨fs', I1⟩ := lw_Iqq hLP I hpo.1 (by decide +kernel) (by decide +kernel) (by decide +kernel) (by decide +kernel) (lw_Io I hpo.1 (by decide +kernel)) (lw_Id I hpo.1 (by decide +kernel))
      exact k _ _ _ _ _ _ _ _ hrv I1 L1
    · have l16 : (7 : Int) ≤ x16.toInt := by omega
      have u16 : x16.toInt ≤ (7 : Int) := by omega
      refine lw_mc (lv' := 2) (ρp := [.ref (sh.2 0), .int a1, .int a2, .int x16]) (As := [.int a1, .int a2]) F L (ct_X7_isAhead_15 hl9 (cx := cx) (cy := cy)) gm_X7_isAhead I.hs.2.1 rfl rfl (Nat.le_of_ble_eq_true rfl) (by decide) ⟨Nat.le_trans (Nat.add_le_add_left (Nat.le_of_ble_eq_true rfl) _) hcs.1, Nat.le_trans (Nat.add_le_add_left (Nat.le_of_ble_eq_true rfl) _) hcs.2⟩ hls rfl (lw_pre I.hs.1 (by decide) (Or.inl (by decide))) (I.hO cx cy) (lw_pa (env := k_X7_isAhead_15.2.1.1) (fa := k_X7_isAhead_15.2.1.2) ⟨⟨0, I.h20, rfl⟩, ⟨a1, rfl, en_lo a1, en_hi a1⟩, ⟨a2, rfl, en_lo a2, en_hi a2⟩, ⟨x16, rfl, l16, u16⟩, trivial⟩ (en_ac (lw_f0 I.hs.2.1 rfl f16 rfl) (en_ac (⟨I.had, hOc⟩) (en_an)))) dlw_2033 (fun u res H1 locs1 hrv hpo L1 => ?_)
      refine W.widen (k := cells + 8) (n := slots + 64) (Nat.add_le_add_left (Nat.le_of_ble_eq_true rfl) _) (Nat.add_le_add_left (Nat.le_of_ble_eq_true rfl) _) ?_
      obtain ⟨fs', I1⟩ := lw_Iqq hLP I hpo.1 (by decide +kernel) (by decide +kernel) (by decide +kernel) (by decide +kernel) (lw_Io I hpo.1 (by decide +kernel)) (lw_Id I hpo.1 (by decide +kernel))
      exact k _ _ _ _ _ _ _ _ hrv I1 L1
    · have l16 : (8 : Int) ≤ x16.toInt := by omega
      have u16 : x16.toInt ≤ (8 : Int) := by omega
      refine lw_mc (lv' := 2) (ρp := [.ref (sh.2 0), .int a1, .int a2, .int x16]) (As := [.int a1, .int a2]) F L (ct_X7_isAhead_16 hl9 (cx := cx) (cy := cy)) gm_X7_isAhead I.hs.2.1 rfl rfl (Nat.le_of_ble_eq_true rfl) (by decide) ⟨Nat.le_trans (Nat.add_le_add_left (Nat.le_of_ble_eq_true rfl) _) hcs.1, Nat.le_trans (Nat.add_le_add_left (Nat.le_of_ble_eq_true rfl) _) hcs.2⟩ hls rfl (lw_pre I.hs.1 (by decide) (Or.inl (by decide))) (I.hO cx cy) (lw_pa (env := k_X7_isAhead_16.2.1.1) (fa := k_X7_isAhead_16.2.1.2) ⟨⟨0, I.h20, rfl⟩, ⟨a1, rfl, en_lo a1, en_hi a1⟩, ⟨a2, rfl, en_lo a2, en_hi a2⟩, ⟨x16, rfl, l16, u16⟩, trivial⟩ (en_ac (lw_f0 I.hs.2.1 rfl f16 rfl) (en_ac (⟨I.had, hOc⟩) (en_an)))) dlw_2033 (fun u res H1 locs1 hrv hpo L1 => ?_)
      refine W.widen (k := cells + 8) (n := slots + 64) (Nat.add_le_add_left (Nat.le_of_ble_eq_true rfl) _) (Nat.add_le_add_left (Nat.le_of_ble_eq_true rfl) _) ?_
      obtain ⟨fs', I1⟩ := lw_Iqq hLP I hpo.1 (by decide +kernel) (by decide +kernel) (by decide +kernel) (by decide +kernel) (lw_Io I hpo.1 (by decide +kernel)) (lw_Id I hpo.1 (by decide +kernel))
      exact k _ _ _ _ _ _ _ _ hrv I1 L1
    · have l16 : (9 : Int) ≤ x16.toInt := by omega
      have u16 : x16.toInt ≤ (9 : Int) := by omega
      refine lw_mc (lv' := 2) (ρp := [.ref (sh.2 0), .int a1, .int a2, .int x16]) (As := [.int a1, .int a2]) F L (ct_X7_isAhead_17 hl9 (cx := cx) (cy := cy)) gm_X7_isAhead I.hs.2.1 rfl rfl (Nat.le_of_ble_eq_true rfl) (by decide) ⟨Nat.le_trans (Nat.add_le_add_left (Nat.le_of_ble_eq_true rfl) _) hcs.1, Nat.le_trans (Nat.add_le_add_left (Nat.le_of_ble_eq_true rfl) _) hcs.2⟩ hls rfl (lw_pre I.hs.1 (by decide) (Or.inl (by decide))) (I.hO cx cy) (lw_pa (env := k_X7_isAhead_17.2.1.1) (fa := k_X7_isAhead_17.2.1.2) ⟨⟨0, I.h20, rfl⟩, ⟨a1, rfl, en_lo a1, en_hi a1⟩, ⟨a2, rfl, en_lo a2, en_hi a2⟩, ⟨x16, rfl, l16, u16⟩, trivial⟩ (en_ac (lw_f0 I.hs.2.1 rfl f16 rfl) (en_ac (⟨I.had, hOc⟩) (en_an)))) dlw_2033 (fun u res H1 locs1 hrv hpo L1 => ?_)
      refine W.widen (k := cells + 8) (n := slots + 64) (Nat.add_le_add_left (Nat.le_of_ble_eq_true rfl) _) (Nat.add_le_add_left (Nat.le_of_ble_eq_true rfl) _) ?_
      obtain ⟨fs', I1⟩ := lw_Iqq hLP I hpo.1 (by decide +kernel) (by decide +kernel) (by decide +kernel) (by decide +kernel) (lw_Io I hpo.1 (by decide +kernel)) (lw_Id I hpo.1 (by decide +kernel))
      exact k _ _ _ _ _ _ _ _ hrv I1 L1
  · skip
    obtain ⟨x16, f16, l16, u16⟩ := I.hs.2.2.1 (16, 1, 9) (by decide)
    have hOc := (I.hs.2.2.2.2 (by decide)).2.1
    have hAh := (I.hs.2.2.2.2 (by decide)).2.2
    obtain h16 | h16 | h16 | h16 | h16 | h16 | h16 | h16 | h16 := lw_k16 l16 u16
    · have l16 : (1 : Int) ≤ x16.toInt := by omega
      have u16 : x16.toInt ≤ (1 : Int) := by omega
      refine lw_mc (lv' := 2) (ρp := [.ref (sh.2 0), .int a1, .int a2, .int x16]) (As := [.int a1, .int a2]) F L (ct_X7_isAhead_9 hl9 (cx := cx) (cy := cy)) gm_X7_isAhead I.hs.2.1 rfl rfl (Nat.le_of_ble_eq_true rfl) (by decide) ⟨Nat.le_trans (Nat.add_le_add_left (Nat.le_of_ble_eq_true rfl) _) hcs.1, Nat.le_trans (Nat.add_le_add_left (Nat.le_of_ble_eq_true rfl) _) hcs.2⟩ hls rfl (lw_pre I.hs.1 (by decide) (Or.inl (by decide))) (I.hO cx cy) (lw_pa (env := k_X7_isAhead_9.2.1.1) (fa := k_X7_isAhead_9.2.1.2) ⟨⟨0, I.h20, rfl⟩, ⟨a1, rfl, en_lo a1, en_hi a1⟩, ⟨a2, rfl, en_lo a2, en_hi a2⟩, ⟨x16, rfl, l16, u16⟩, trivial⟩ (en_ac (lw_f0 I.hs.2.1 rfl f16 rfl) (en_ac (⟨I.had, hOc⟩) (en_an)))) dlw_2033 (fun u res H1 locs1 hrv hpo L1 => ?_)
      refine W.widen (k := cells + 8) (n := slots + 64) (Nat.add_le_add_left (Nat.le_of_ble_eq_true rfl) _) (Nat.add_le_add_left (Nat.le_of_ble_eq_true rfl) _) ?_
      obtain ⟨fs', I1⟩ := lw_Iqq hLP I hpo.1 (by decide +kernel) (by decide +kernel) (by decide +kernel) (by decide +kernel) (lw_Io I hpo.1 (by decide +kernel)) (lw_Id I hpo.1 (by decide +kernel))
      exact k _ _ _ _ _ _ _ _ hrv I1 L1
    · have l16 : (2 : Int) ≤ x16.toInt := by omega
      have u16 : x16.toInt ≤ (2 : Int) := by omega
      refine lw_mc (lv' := 2) (ρp := [.ref (sh.2 0), .int a1, .int a2, .int x16]) (As := [.int a1, .int a2]) F L (ct_X7_isAhead_10 hl9 (cx := cx) (cy := cy)) gm_X7_isAhead I.hs.2.1 rfl rfl (Nat.le_of_ble_eq_true rfl) (by decide) ⟨Nat.le_trans (Nat.add_le_add_left (Nat.le_of_ble_eq_true rfl) _) hcs.1, Nat.le_trans (Nat.add_le_add_left (Nat.le_of_ble_eq_true rfl) _) hcs.2⟩ hls rfl (lw_pre I.hs.1 (by decide) (Or.inl (by decide))) (I.hO cx cy) (lw_pa (env := k_X7_isAhead_10.2.1.1) (fa := k_X7_isAhead_10.2.1.2) ⟨⟨0, I.h20, rfl⟩, ⟨a1, rfl, en_lo a1, en_hi a1⟩, ⟨a2, rfl, en_lo a2, en_hi a2⟩, ⟨x16, rfl, l16, u16⟩, trivial⟩ (en_ac (lw_f0 I.hs.2.1 rfl f16 rfl) (en_ac (⟨I.had, hOc⟩) (en_an)))) dlw_2033 (fun u res H1 locs1 hrv hpo L1 => ?_)
      refine W.widen (k := cells + 8) (n := slots + 64) (Nat.add_le_add_left (Nat.le_of_ble_eq_true rfl) _) (Nat.add_le_add_left (Nat.le_of_ble_eq_true rfl) _) ?_
      obtain ⟨fs', I1⟩ := lw_Iqq hLP I hpo.1 (by decide +kernel) (by decide +kernel) (by decide +kernel) (by decide +kernel) (lw_Io I hpo.1 (by decide +kernel)) (lw_Id I hpo.1 (by decide +kernel))
      exact k _ _ _ _ _ _ _ _ hrv I1 L1
    · have l16 : (3 : Int) ≤ x16.toInt := by omega
      have u16 : x16.toInt ≤ (3 : Int) := by omega
      refine lw_mc (lv' := 2) (ρp := [.ref (sh.2 0), .int a1, .int a2, .int x16]) (As := [.int a1, .int a2]) F L (ct_X7_isAhead_11 hl9 (cx := cx) (cy := cy)) gm_X7_isAhead I.hs.2.1 rfl rfl (Nat.le_of_ble_eq_true rfl) (by decide) ⟨Nat.le_trans (Nat.add_le_add_left (Nat.le_of_ble_eq_true rfl) _) hcs.1, Nat.le_trans (Nat.add_le_add_left (Nat.le_of_ble_eq_true rfl) _) hcs.2⟩ hls rfl (lw_pre I.hs.1 (by decide) (Or.inl (by decide))) (I.hO cx cy) (lw_pa (env := k_X7_isAhead_11.2.1.1) (fa := k_X7_isAhead_11.2.1.2) ⟨⟨0, I.h20, rfl⟩, ⟨a1, rfl, en_lo a1, en_hi a1⟩, ⟨a2, rfl, en_lo a2, en_hi a2⟩, ⟨x16, rfl, l16, u16⟩, trivial⟩ (en_ac (lw_f0 I.hs.2.1 rfl f16 rfl) (en_ac (⟨I.had, hOc⟩) (en_an)))) dlw_2033 (fun u res H1 locs1 hrv hpo L1 => ?_)
      refine W.widen (k := cells + 8) (n := slots + 64) (Nat.add_le_add_left (Nat.le_of_ble_eq_true rfl) _) (Nat.add_le_add_left (Nat.le_of_ble_eq_true rfl) _) ?_
      obtain ⟨fs', I1⟩ := lw_Iqq hLP I hpo.1 (by decide +kernel) (by decide +kernel) (by decide +kernel) (by decide +kernel) (lw_Io I hpo.1 (by decide +kernel)) (lw_Id I hpo.1 (by decide +kernel))
      exact k _ _ _ _ _ _ _ _ hrv I1 L1
    · have l16 : (4 : Int) ≤ x16.toInt := by omega
      have u16 : x16.toInt ≤ (4 : Int) := by omega
      refine lw_mc (lv' := 2) (ρp := [.ref (sh.2 0), .int a1, .int a2, .int x16]) (As := [.int a1, .int a2]) F L (ct_X7_isAhead_12 hl9 (cx := cx) (cy := cy)) gm_X7_isAhead I.hs.2.1 rfl rfl (Nat.le_of_ble_eq_true rfl) (by decide) ⟨Nat.le_trans (Nat.add_le_add_left (Nat.le_of_ble_eq_true rfl) _) hcs.1, Nat.le_trans (Nat.add_le_add_left (Nat.le_of_ble_eq_true rfl) _) hcs.2⟩ hls rfl (lw_pre I.hs.1 (by decide) (Or.inl (by decide))) (I.hO cx cy) (lw_pa (env := k_X7_isAhead_12.2.1.1) (fa := k_X7_isAhead_12.2.1.2) ⟨⟨0, I.h20, rfl⟩, ⟨a1, rfl, en_lo a1, en_hi a1⟩, ⟨a2, rfl, en_lo a2, en_hi a2⟩, ⟨x16, rfl, l16, u16⟩, trivial⟩ (en_ac (lw_f0 I.hs.2.1 rfl f16 rfl) (en_ac (⟨I.had, hOc⟩) (en_an)))) dlw_2033 (fun u res H1 locs1 hrv hpo L1 => ?_)
      refine W.widen (k := cells + 8) (n := slots + 64) (Nat.add_le_add_left (Nat.le_of_ble_eq_true rfl) _) (Nat.add_le_add_left (Nat.le_of_ble_eq_true rfl) _) ?_
      obtain ⟨fs', I1⟩ := lw_Iqq hLP I hpo.1 (by decide +kernel) (by decide +kernel) (by decide +kernel) (by decide +kernel) (lw_Io I hpo.1 (by decide +kernel)) (lw_Id I hpo.1 (by decide +kernel))
      exact k _ _ _ _ _ _ _ _ hrv I1 L1
    · have l16 : (5 : Int) ≤ x16.toInt := by omega
      have u16 : x16.toInt ≤ (5 : Int) := by omega
      refine lw_mc (lv' := 2) (ρp := [.ref (sh.2 0), .int a1, .int a2, .int x16]) (As := [.int a1, .int a2]) F L (ct_X7_isAhead_13 hl9 (cx := cx) (cy := cy)) gm_X7_isAhead I.hs.2.1 rfl rfl (Nat.le_of_ble_eq_true rfl) (by decide) ⟨Nat.le_trans (Nat.add_le_add_left (Nat.le_of_ble_eq_true rfl) _) hcs.1, Nat.le_trans (Nat.add_le_add_left (Nat.le_of_ble_eq_true rfl) _) hcs.2⟩ hls rfl (lw_pre I.hs.1 (by decide) (Or.inl (by decide))) (I.hO cx cy) (lw_pa (env := k_X7_isAhead_13.2.1.1) (fa := k_X7_isAhead_13.2.1.2) ⟨⟨0, I.h20, rfl⟩, ⟨a1, rfl, en_lo a1, en_hi a1⟩, ⟨a2, rfl, en_lo a2, en_hi a2⟩, ⟨x16, rfl, l16, u16⟩, trivial⟩ (en_ac (lw_f0 I.hs.2.1 rfl f16 rfl) (en_ac (⟨I.had, hOc⟩) (en_an)))) dlw_2033 (fun u res H1 locs1 hrv hpo L1 => ?_)
      refine W.widen (k := cells + 8) (n := slots + 64) (Nat.add_le_add_left (Nat.le_of_ble_eq_true rfl) _) (Nat.add_le_add_left (Nat.le_of_ble_eq_true rfl) _) ?_
      obtain ⟨fs', I1⟩ := lw_Iqq hLP I hpo.1 (by decide +kernel) (by decide +kernel) (by decide +kernel) (by decide +kernel) (lw_Io I hpo.1 (by decide +kernel)) (lw_Id I hpo.1 (by decide +kernel))
      exact k _ _ _ _ _ _ _ _ hrv I1 L1
    · have l16 : (6 : Int) ≤ x16.toInt := by omega
      have u16 : x16.toInt ≤ (6 : Int) := by omega
      refine lw_mc (lv' := 2) (ρp := [.ref (sh.2 0), .int a1, .int a2, .int x16]) (As := [.int a1, .int a2]) F L (ct_X7_isAhead_14 hl9 (cx := cx) (cy := cy)) gm_X7_isAhead I.hs.2.1 rfl rfl (Nat.le_of_ble_eq_true rfl) (by decide) ⟨Nat.le_trans (Nat.add_le_add_left (Nat.le_of_ble_eq_true rfl) _) hcs.1, Nat.le_trans (Nat.add_le_add_left (Nat.le_of_ble_eq_true rfl) _) hcs.2⟩ hls rfl (lw_pre I.hs.1 (by decide) (Or.inl (by decide))) (I.hO cx cy) (lw_pa (env := k_X7_isAhead_14.2.1.1) (fa := k_X7_isAhead_14.2.1.2) ⟨⟨0, I.h20, rfl⟩, ⟨a1, rfl, en_lo a1, en_hi a1⟩, ⟨a2, rfl, en_lo a2, en_hi a2⟩, ⟨x16, rfl, l16, u16⟩, trivial⟩ (en_ac (lw_f0 I.hs.2.1 rfl f16 rfl) (en_ac (⟨I.had, hOc⟩) (en_an)))) dlw_2033 (fun u res H1 locs1 hrv hpo L1 => ?_)
      refine W.widen (k := cells + 8) (n := slots + 64) (Nat.add_le_add_left (Nat.le_of_ble_eq_true rfl) _) (Nat.add_le_add_left (Nat.le_of_ble_eq_true rfl) _) ?_
      obtain ⟨fs', I1⟩ := lw_Iqq hLP I hpo.1 (by decide +kernel) (by decide +kernel) (by decide +kernel) (by decide +kernel) (lw_Io I hpo.1 (by decide +kernel)) (lw_Id I hpo.1 (by decide +kernel))
      exact k _ _ _ _ _ _ _ _ hrv I1 L1
    · have l16 : (7 : Int) ≤ x16.toInt := by omega
      have u16 : x16.toInt ≤ (7 : Int) := by omega
      refine lw_mc (lv' := 2) (ρp := [.ref (sh.2 0), .int a1, .int a2, .int x16]) (As := [.int a1, .int a2]) F L (ct_X7_isAhead_15 hl9 (cx := cx) (cy := cy)) gm_X7_isAhead I.hs.2.1 rfl rfl (Nat.le_of_ble_eq_true rfl) (by decide) ⟨Nat.le_trans (Nat.add_le_add_left (Nat.le_of_ble_eq_true rfl) _) hcs.1, Nat.le_trans (Nat.add_le_add_left (Nat.le_of_ble_eq_true rfl) _) hcs.2⟩ hls rfl (lw_pre I.hs.1 (by decide) (Or.inl (by decide))) (I.hO cx cy) (lw_pa (env := k_X7_isAhead_15.2.1.1) (fa := k_X7_isAhead_15.2.1.2) ⟨⟨0, I.h20, rfl⟩, ⟨a1, rfl, en_lo a1, en_hi a1⟩, ⟨a2, rfl, en_lo a2, en_hi a2⟩, ⟨x16, rfl, l16, u16⟩, trivial⟩ (en_ac (lw_f0 I.hs.2.1 rfl f16 rfl) (en_ac (⟨I.had, hOc⟩) (en_an)))) dlw_2033 (fun u res H1 locs1 hrv hpo L1 => ?_)
      refine W.widen (k := cells + 8) (n := slots + 64) (Nat.add_le_add_left (Nat.le_of_ble_eq_true rfl) _) (Nat.add_le_add_left (Nat.le_of_ble_eq_true rfl) _) ?_
      obtain ⟨fs', I1⟩ := lw_Iqq hLP I hpo.1 (by decide +kernel) (by decide +kernel) (by decide +kernel) (by decide +kernel) (lw_Io I hpo.1 (by decide +kernel)) (lw_Id I hpo.1 (by decide +kernel))
      exact k _ _ _ _ _ _ _ _ hrv I1 L1
    · have l16 : (8 : Int) ≤ x16.toInt := by omega
      have u16 : x16.toInt ≤ (8 : Int) := by omega
      refine lw_mc (lv' := 2) (ρp := [.ref (sh.2 0), .int a1, .int a2, .int x16]) (As := [.int a1, .int a2]) F L (ct_X7_isAhead_16 hl9 (cx := cx) (cy := cy)) gm_X7_isAhead I.hs.2.1 rfl rfl (Nat.le_of_ble_eq_true rfl) (by decide) ⟨Nat.le_trans (Nat.add_le_add_left (Nat.le_of_ble_eq_true rfl) _) hcs.1, Nat.le_trans (Nat.add_le_add_left (Nat.le_of_ble_eq_true rfl) _) hcs.2⟩ hls rfl (lw_pre I.hs.1 (by decide) (Or.inl (by decide))) (I.hO cx cy) (lw_pa (env := k_X7_isAhead_16.2.1.1) (fa := k_X7_isAhead_16.2.1.2) ⟨⟨0, I.h20, rfl⟩, ⟨a1, rfl, en_lo a1, en_hi a1⟩, ⟨a2, rfl, en_lo a2, en_hi a2⟩, ⟨x16, rfl, l16, u16⟩, trivial⟩ (en_ac (lw_f0 I.hs.2.1 rfl f16 rfl) (en_ac (⟨I.had, hOc⟩) (en_an)))) dlw_2033 (fun u res H1 locs1 hrv hpo L1 => ?_)
      refine W.widen (k := cells + 8) (n := slots + 64) (Nat.add_le_add_left (Nat.le_of_ble_eq_true rfl) _) (Nat.add_le_add_left (Nat.le_of_ble_eq_true rfl) _) ?_
      obtain ⟨fs', I1⟩ := lw_Iqq hLP I hpo.1 (by decide +kernel) (by decide +kernel) (by decide +kernel) (by decide +kernel) (lw_Io I hpo.1 (by decide +kernel)) (lw_Id I hpo.1 (by decide +kernel))
      exact k _ _ _ _ _ _ _ _ hrv I1 L1
    · have l16 : (9 : Int) ≤ x16.toInt := by omega
      have u16 : x16.toInt ≤ (9 : Int) := by omega
      refine lw_mc (lv' := 2) (ρp := [.ref (sh.2 0), .int a1, .int a2, .int x16]) (As := [.int a1, .int a2]) F L (ct_X7_isAhead_17 hl9 (cx := cx) (cy := cy)) gm_X7_isAhead I.hs.2.1 rfl rfl (Nat.le_of_ble_eq_true rfl) (by decide) ⟨Nat.le_trans (Nat.add_le_add_left (Nat.le_of_ble_eq_true rfl) _) hcs.1, Nat.le_trans (Nat.add_le_add_left (Nat.le_of_ble_eq_true rfl) _) hcs.2⟩ hls rfl (lw_pre I.hs.1 (by decide) (Or.inl (by decide))) (I.hO cx cy) (lw_pa (env := k_X7_isAhead_17.2.1.1) (fa := k_X7_isAhead_17.2.1.2) ⟨⟨0, I.h20, rfl⟩, ⟨a1, rfl, en_lo a1, en_hi a1⟩, ⟨a2, rfl, en_lo a2, en_hi a2⟩, ⟨x16, rfl, l16, u16⟩, trivial⟩ (en_ac (lw_f0 I.hs.2.1 rfl f16 rfl) (en_ac (⟨I.had, hOc⟩) (en_an)))) dlw_2033 (fun u res H1 locs1 hrv hpo L1 => ?_)
      refine W.widen (k := cells + 8) (n := slots + 64) (Nat.add_le_add_left (Nat.le_of_ble_eq_true rfl) _) (Nat.add_le_add_left (Nat.le_of_ble_eq_true rfl) _) ?_
      obtain ⟨fs', I1⟩ := lw_Iqq hLP I hpo.1 (by decide +kernel) (by decide +kernel) (by decide +kernel) (by decide +kernel) (lw_Io I hpo.1 (by decide +kernel)) (lw_Id I hpo.1 (by decide +kernel))
      exact k _ _ _ _ _ _ _ _ hrv I1 L1
set_option maxHeartbeats 4000000 in
theorem lm_X7_isMatchOver (hl9 : l.stackTraces = false) (hLP : lw_st LP) (F : lw_Fm p R s m args c D tys cO cD A) (L : lw_H D A s w H locs) (I : lw_I E LP tys cO cD qx qo qd sh w st cx cy fs) (hls : ls.size = 9) (hcs : cells + 8 ≤ R.cells ∧ slots + 64 ≤ R.slots)
    (k : ∀ (u : en_H × va_W) (res : Option Value) (H1 : Heap) (locs1 : List Loc) (st' : Nat) (cx' cy' : Int32) (fs' : List Value), en_rv 0 res → lw_I E LP tys cO cD qx qo qd u.1 u.2 st' cx' cy' fs' → lw_H D A s u.2 H1 locs1 → W p l e R s m args below meth c H1 locs1 (cells + 8) (slots + 64) Q (F0 m 1736 ls (res.toList ++ []))) :
    W p l e R s m args below meth c H locs cells slots Q (F0 m 1733 ls (([] : List Value).reverse ++ [.ref (sh.2 0)])) := by
  by_cases h3 : 3 ≤ st
  · skip
    obtain ⟨⟨x22, f22, l22, u22⟩, ⟨x16, f16, l16, u16⟩, x25, f25, l25, u25⟩ := lw_bon h3 I.hs.2.2.1
    have hOc := (I.hs.2.2.2.2 h3).2.1
    have hAh := (I.hs.2.2.2.2 h3).2.2
    refine lw_mc (lv' := 1) (ρp := [.ref (sh.2 0), .int x16, .int x22]) (As := []) F L (ct_X7_isMatchOver_1 hl9 (cx := cx) (cy := cy)) gm_X7_isMatchOver I.hs.2.1 rfl rfl (Nat.le_of_ble_eq_true rfl) (by decide) ⟨Nat.le_trans (Nat.add_le_add_left (Nat.le_of_ble_eq_true rfl) _) hcs.1, Nat.le_trans (Nat.add_le_add_left (Nat.le_of_ble_eq_true rfl) _) hcs.2⟩ hls rfl (lw_pre I.hs.1 (by decide) (Or.inl h3)) (I.hO cx cy) (lw_pa (env := k_X7_isMatchOver_1.2.1.1) (fa := k_X7_isMatchOver_1.2.1.2) ⟨⟨0, I.h20, rfl⟩, ⟨x16, rfl, l16, u16⟩, ⟨x22, rfl, l22, u22⟩, trivial⟩ (en_ac (lw_f0 I.hs.2.1 rfl f16 rfl) (en_ac (lw_f0 I.hs.2.1 rfl f22 rfl) (en_ac (⟨I.had, hOc⟩) (en_an))))) dlw_1733 (fun u res H1 locs1 hrv hpo L1 => ?_)
    refine W.widen (k := cells + 8) (n := slots + 64) (Nat.add_le_add_left (Nat.le_of_ble_eq_true rfl) _) (Nat.add_le_add_left (Nat.le_of_ble_eq_true rfl) _) ?_
    obtain ⟨fs', I1⟩ := lw_Iqq hLP I hpo.1 (by decide +kernel) (lw_qon h3 (by decide +kernel)) (by decide +kernel) (by decide +kernel) (lw_Io I hpo.1 (by decide +kernel)) (lw_Id I hpo.1 (by decide +kernel))
    exact k _ _ _ _ _ _ _ _ hrv I1 L1
  · skip
    obtain ⟨x22, f22, l22, u22⟩ := lw_boff h3 I.hs.2.2.1
    refine lw_mc (lv' := 1) (ρp := [.ref (sh.2 0), .int x22]) (As := []) F L (ct_X7_isMatchOver_0 hl9 (cx := cx) (cy := cy)) gm_X7_isMatchOver I.hs.2.1 rfl rfl (Nat.le_of_ble_eq_true rfl) (by decide) ⟨Nat.le_trans (Nat.add_le_add_left (Nat.le_of_ble_eq_true rfl) _) hcs.1, Nat.le_trans (Nat.add_le_add_left (Nat.le_of_ble_eq_true rfl) _) hcs.2⟩ hls rfl (lw_pre I.hs.1 (by decide) (Or.inr (by decide))) (I.hO cx cy) (lw_pa (env := k_X7_isMatchOver_0.2.1.1) (fa := k_X7_isMatchOver_0.2.1.2) ⟨⟨0, I.h20, rfl⟩, ⟨x22, rfl, l22, u22⟩, trivial⟩ (en_ac (lw_f0 I.hs.2.1 rfl f22 rfl) (en_an))) dlw_1733 (fun u res H1 locs1 hrv hpo L1 => ?_)
    refine W.widen (k := cells + 8) (n := slots + 64) (Nat.add_le_add_left (Nat.le_of_ble_eq_true rfl) _) (Nat.add_le_add_left (Nat.le_of_ble_eq_true rfl) _) ?_
    obtain ⟨fs', I1⟩ := lw_Iqq hLP I hpo.1 (by decide +kernel) (lw_qoff h3 (by decide +kernel)) (by decide +kernel) (by decide +kernel) (lw_Io I hpo.1 (by decide +kernel)) (lw_Id I hpo.1 (by decide +kernel))
    exact k _ _ _ _ _ _ _ _ hrv I1 L1
set_option maxHeartbeats 4000000 in
theorem lm_X7_isOut (hl9 : l.stackTraces = false) (a1 : Int32) (hLP : lw_st LP) (F : lw_Fm p R s m args c D tys cO cD A) (L : lw_H D A s w H locs) (I : lw_I E LP tys cO cD qx qo qd sh w st cx cy fs) (hls : ls.size = 9) (hcs : cells + 8 ≤ R.cells ∧ slots + 64 ≤ R.slots)
    (k : ∀ (u : en_H × va_W) (res : Option Value) (H1 : Heap) (locs1 : List Loc) (st' : Nat) (cx' cy' : Int32) (fs' : List Value), en_rv 0 res → lw_I E LP tys cO cD qx qo qd u.1 u.2 st' cx' cy' fs' → lw_H D A s u.2 H1 locs1 → W p l e R s m args below meth c H1 locs1 (cells + 8) (slots + 64) Q (F0 m 1664 ls (res.toList ++ []))) :
    W p l e R s m args below meth c H locs cells slots Q (F0 m 1661 ls (([.int a1] : List Value).reverse ++ [.ref (sh.2 0)])) := by
  by_cases h3 : 3 ≤ st
  · skip
    obtain ⟨⟨x22, f22, l22, u22⟩, ⟨x16, f16, l16, u16⟩, x25, f25, l25, u25⟩ := lw_bon h3 I.hs.2.2.1
    have hOc := (I.hs.2.2.2.2 h3).2.1
    have hAh := (I.hs.2.2.2.2 h3).2.2
    refine lw_mc (lv' := 2) (ρp := [.ref (sh.2 0), .int a1]) (As := [.int a1]) F L (ct_X7_isOut_1 hl9 (cx := cx) (cy := cy)) gm_X7_isOut I.hs.2.1 rfl rfl (Nat.le_of_ble_eq_true rfl) (by decide) ⟨Nat.le_trans (Nat.add_le_add_left (Nat.le_of_ble_eq_true rfl) _) hcs.1, Nat.le_trans (Nat.add_le_add_left (Nat.le_of_ble_eq_true rfl) _) hcs.2⟩ hls rfl (lw_pre I.hs.1 (by decide) (Or.inl h3)) (I.hO cx cy) (lw_pa (env := k_X7_isOut_1.2.1.1) (fa := k_X7_isOut_1.2.1.2) ⟨⟨0, I.h20, rfl⟩, ⟨a1, rfl, en_lo a1, en_hi a1⟩, trivial⟩ (en_ac (⟨I.had, hOc⟩) (en_an))) dlw_1661 (fun u res H1 locs1 hrv hpo L1 => ?_)
    refine W.widen (k := cells + 8) (n := slots + 64) (Nat.add_le_add_left (Nat.le_of_ble_eq_true rfl) _) (Nat.add_le_add_left (Nat.le_of_ble_eq_true rfl) _) ?_
    obtain ⟨fs', I1⟩ := lw_Iqq hLP I hpo.1 (by decide +kernel) (lw_qon h3 (by decide +kernel)) (by decide +kernel) (by decide +kernel) (lw_Io I hpo.1 (by decide +kernel)) (lw_Id I hpo.1 (by decide +kernel))
    exact k _ _ _ _ _ _ _ _ hrv I1 L1
  · skip
    obtain ⟨x22, f22, l22, u22⟩ := lw_boff h3 I.hs.2.2.1
    refine lw_mc (lv' := 2) (ρp := [.ref (sh.2 0), .int a1]) (As := [.int a1]) F L (ct_X7_isOut_0 hl9 (cx := cx) (cy := cy)) gm_X7_isOut I.hs.2.1 rfl rfl (Nat.le_of_ble_eq_true rfl) (by decide) ⟨Nat.le_trans (Nat.add_le_add_left (Nat.le_of_ble_eq_true rfl) _) hcs.1, Nat.le_trans (Nat.add_le_add_left (Nat.le_of_ble_eq_true rfl) _) hcs.2⟩ hls rfl (lw_pre I.hs.1 (by decide) (Or.inr (by decide))) (I.hO cx cy) (lw_pa (env := k_X7_isOut_0.2.1.1) (fa := k_X7_isOut_0.2.1.2) ⟨⟨0, I.h20, rfl⟩, ⟨a1, rfl, en_lo a1, en_hi a1⟩, trivial⟩ (en_an)) dlw_1661 (fun u res H1 locs1 hrv hpo L1 => ?_)
    refine W.widen (k := cells + 8) (n := slots + 64) (Nat.add_le_add_left (Nat.le_of_ble_eq_true rfl) _) (Nat.add_le_add_left (Nat.le_of_ble_eq_true rfl) _) ?_
    obtain ⟨fs', I1⟩ := lw_Iqq hLP I hpo.1 (by decide +kernel) (lw_qoff h3 (by decide +kernel)) (by decide +kernel) (by decide +kernel) (lw_Io I hpo.1 (by decide +kernel)) (lw_Id I hpo.1 (by decide +kernel))
    exact k _ _ _ _ _ _ _ _ hrv I1 L1
set_option maxHeartbeats 4000000 in
theorem lm_X7_isSound (hl9 : l.stackTraces = false) (hLP : lw_st LP) (F : lw_Fm p R s m args c D tys cO cD A) (L : lw_H D A s w H locs) (I : lw_I E LP tys cO cD qx qo qd sh w st cx cy fs) (hls : ls.size = 9) (hcs : cells + 8 ≤ R.cells ∧ slots + 64 ≤ R.slots)
    (k : ∀ (u : en_H × va_W) (res : Option Value) (H1 : Heap) (locs1 : List Loc) (st' : Nat) (cx' cy' : Int32) (fs' : List Value), en_rv 0 res → lw_I E LP tys cO cD qx qo qd u.1 u.2 st' cx' cy' fs' → lw_H D A s u.2 H1 locs1 → W p l e R s m args below meth c H1 locs1 (cells + 8) (slots + 64) Q (F0 m 2324 ls (res.toList ++ []))) :
    W p l e R s m args below meth c H locs cells slots Q (F0 m 2321 ls (([] : List Value).reverse ++ [.ref (sh.2 0)])) := by
  by_cases h3 : 3 ≤ st
  · skip
    obtain ⟨⟨x22, f22, l22, u22⟩, ⟨x16, f16, l16, u16⟩, x25, f25, l25, u25⟩ := lw_bon h3 I.hs.2.2.1
    have hOc := (I.hs.2.2.2.2 h3).2.1
    have hAh := (I.hs.2.2.2.2 h3).2.2
    refine lw_mc (lv' := 0) (ρp := [.ref (sh.2 0)]) (As := []) F L (ct_X7_isSound_1 hl9 (cx := cx) (cy := cy)) gm_X7_isSound I.hs.2.1 rfl rfl (Nat.le_of_ble_eq_true rfl) (by decide) ⟨Nat.le_trans (Nat.add_le_add_left (Nat.le_of_ble_eq_true rfl) _) hcs.1, Nat.le_trans (Nat.add_le_add_left (Nat.le_of_ble_eq_true rfl) _) hcs.2⟩ hls rfl (lw_pre I.hs.1 (by decide) (Or.inl h3)) (I.hO cx cy) (lw_pa (env := k_X7_isSound_1.2.1.1) (fa := k_X7_isSound_1.2.1.2) ⟨⟨0, I.h20, rfl⟩, trivial⟩ (en_ac (⟨I.had, hOc⟩) (en_an))) dlw_2321 (fun u res H1 locs1 hrv hpo L1 => ?_)
    refine W.widen (k := cells + 8) (n := slots + 64) (Nat.add_le_add_left (Nat.le_of_ble_eq_true rfl) _) (Nat.add_le_add_left (Nat.le_of_ble_eq_true rfl) _) ?_
    obtain ⟨fs', I1⟩ := lw_Iqq hLP I hpo.1 (by decide +kernel) (lw_qon h3 (by decide +kernel)) (by decide +kernel) (by decide +kernel) (lw_Io I hpo.1 (by decide +kernel)) (lw_Id I hpo.1 (by decide +kernel))
    exact k _ _ _ _ _ _ _ _ hrv I1 L1
  · skip
    obtain ⟨x22, f22, l22, u22⟩ := lw_boff h3 I.hs.2.2.1
    refine lw_mc (lv' := 0) (ρp := [.ref (sh.2 0)]) (As := []) F L (ct_X7_isSound_0 hl9 (cx := cx) (cy := cy)) gm_X7_isSound I.hs.2.1 rfl rfl (Nat.le_of_ble_eq_true rfl) (by decide) ⟨Nat.le_trans (Nat.add_le_add_left (Nat.le_of_ble_eq_true rfl) _) hcs.1, Nat.le_trans (Nat.add_le_add_left (Nat.le_of_ble_eq_true rfl) _) hcs.2⟩ hls rfl (lw_pre I.hs.1 (by decide) (Or.inr (by decide))) (I.hO cx cy) (lw_pa (env := k_X7_isSound_0.2.1.1) (fa := k_X7_isSound_0.2.1.2) ⟨⟨0, I.h20, rfl⟩, trivial⟩ (en_an)) dlw_2321 (fun u res H1 locs1 hrv hpo L1 => ?_)
    refine W.widen (k := cells + 8) (n := slots + 64) (Nat.add_le_add_left (Nat.le_of_ble_eq_true rfl) _) (Nat.add_le_add_left (Nat.le_of_ble_eq_true rfl) _) ?_
    obtain ⟨fs', I1⟩ := lw_Iqq hLP I hpo.1 (by decide +kernel) (lw_qoff h3 (by decide +kernel)) (by decide +kernel) (by decide +kernel) (lw_Io I hpo.1 (by decide +kernel)) (lw_Id I hpo.1 (by decide +kernel))
    exact k _ _ _ _ _ _ _ _ hrv I1 L1
set_option maxHeartbeats 4000000 in
theorem lm_X7_kindAt (hl9 : l.stackTraces = false) (a1 : Int32) (a2 : Int32) (a3 : Int32) (hLP : lw_st LP) (F : lw_Fm p R s m args c D tys cO cD A) (L : lw_H D A s w H locs) (I : lw_I E LP tys cO cD qx qo qd sh w st cx cy fs) (hls : ls.size = 9) (hcs : cells + 8 ≤ R.cells ∧ slots + 64 ≤ R.slots)
    (k : ∀ (u : en_H × va_W) (res : Option Value) (H1 : Heap) (locs1 : List Loc) (st' : Nat) (cx' cy' : Int32) (fs' : List Value), en_rv 0 res → lw_I E LP tys cO cD qx qo qd u.1 u.2 st' cx' cy' fs' → lw_H D A s u.2 H1 locs1 → W p l e R s m args below meth c H1 locs1 (cells + 8) (slots + 64) Q (F0 m 513 ls (res.toList ++ []))) :
    W p l e R s m args below meth c H locs cells slots Q (F0 m 510 ls (([.int a1, .int a2, .int a3] : List Value).reverse ++ [.ref (sh.2 0)])) := by
  by_cases h3 : 3 ≤ st
  · skip
    obtain ⟨⟨x22, f22, l22, u22⟩, ⟨x16, f16, l16, u16⟩, x25, f25, l25, u25⟩ := lw_bon h3 I.hs.2.2.1
    have hOc := (I.hs.2.2.2.2 h3).2.1
    have hAh := (I.hs.2.2.2.2 h3).2.2
    refine lw_mc (lv' := 2) (ρp := [.ref (sh.2 0), .int a1, .int a2, .int a3, .int x16]) (As := [.int a1, .int a2, .int a3]) F L (ct_X7_kindAt_1 hl9 (cx := cx) (cy := cy)) gm_X7_kindAt I.hs.2.1 rfl rfl (Nat.le_of_ble_eq_true rfl) (by decide) ⟨Nat.le_trans (Nat.add_le_add_left (Nat.le_of_ble_eq_true rfl) _) hcs.1, Nat.le_trans (Nat.add_le_add_left (Nat.le_of_ble_eq_true rfl) _) hcs.2⟩ hls rfl (lw_pre I.hs.1 (by decide) (Or.inl h3)) (I.hO cx cy) (lw_pa (env := k_X7_kindAt_1.2.1.1) (fa := k_X7_kindAt_1.2.1.2) ⟨⟨0, I.h20, rfl⟩, ⟨a1, rfl, en_lo a1, en_hi a1⟩, ⟨a2, rfl, en_lo a2, en_hi a2⟩, ⟨a3, rfl, en_lo a3, en_hi a3⟩, ⟨x16, rfl, l16, u16⟩, trivial⟩ (en_ac (lw_f0 I.hs.2.1 rfl f16 rfl) (en_ac (⟨I.had, hOc⟩) (en_an)))) dlw_510 (fun u res H1 locs1 hrv hpo L1 => ?_)
    refine W.widen (k := cells + 8) (n := slots + 64) (Nat.add_le_add_left (Nat.le_of_ble_eq_true rfl) _) (Nat.add_le_add_left (Nat.le_of_ble_eq_true rfl) _) ?_
    obtain ⟨fs', I1⟩ := lw_Iqq hLP I hpo.1 (by decide +kernel) (lw_qon h3 (by decide +kernel)) (by decide +kernel) (by decide +kernel) (lw_Io I hpo.1 (by decide +kernel)) (lw_Id I hpo.1 (by decide +kernel))
    exact k _ _ _ _ _ _ _ _ hrv I1 L1
  · skip
    obtain ⟨x22, f22, l22, u22⟩ := lw_boff h3 I.hs.2.2.1
    refine lw_mc (lv' := 2) (ρp := [.ref (sh.2 0), .int a1, .int a2, .int a3]) (As := [.int a1, .int a2, .int a3]) F L (ct_X7_kindAt_0 hl9 (cx := cx) (cy := cy)) gm_X7_kindAt I.hs.2.1 rfl rfl (Nat.le_of_ble_eq_true rfl) (by decide) ⟨Nat.le_trans (Nat.add_le_add_left (Nat.le_of_ble_eq_true rfl) _) hcs.1, Nat.le_trans (Nat.add_le_add_left (Nat.le_of_ble_eq_true rfl) _) hcs.2⟩ hls rfl (lw_pre I.hs.1 (by decide) (Or.inr (by decide))) (I.hO cx cy) (lw_pa (env := k_X7_kindAt_0.2.1.1) (fa := k_X7_kindAt_0.2.1.2) ⟨⟨0, I.h20, rfl⟩, ⟨a1, rfl, en_lo a1, en_hi a1⟩, ⟨a2, rfl, en_lo a2, en_hi a2⟩, ⟨a3, rfl, en_lo a3, en_hi a3⟩, trivial⟩ (en_an)) dlw_510 (fun u res H1 locs1 hrv hpo L1 => ?_)
    refine W.widen (k := cells + 8) (n := slots + 64) (Nat.add_le_add_left (Nat.le_of_ble_eq_true rfl) _) (Nat.add_le_add_left (Nat.le_of_ble_eq_true rfl) _) ?_
    obtain ⟨fs', I1⟩ := lw_Iqq hLP I hpo.1 (by decide +kernel) (lw_qoff h3 (by decide +kernel)) (by decide +kernel) (by decide +kernel) (lw_Io I hpo.1 (by decide +kernel)) (lw_Id I hpo.1 (by decide +kernel))
    exact k _ _ _ _ _ _ _ _ hrv I1 L1
set_option maxHeartbeats 4000000 in
theorem lm_X7_lie (hl9 : l.stackTraces = false) (a1 : Int32) (a2 : Int32) (hb2 : 0 ≤ a2.toInt ∧ a2.toInt ≤ 1) (hLP : lw_st LP) (F : lw_Fm p R s m args c D tys cO cD A) (L : lw_H D A s w H locs) (I : lw_I E LP tys cO cD qx qo qd sh w st cx cy fs) (hls : ls.size = 9) (hcs : cells + 8 ≤ R.cells ∧ slots + 64 ≤ R.slots)
    (k : ∀ (u : en_H × va_W) (res : Option Value) (H1 : Heap) (locs1 : List Loc) (st' : Nat) (cx' cy' : Int32) (fs' : List Value), en_rv 0 res → lw_I E LP tys cO cD qx qo qd u.1 u.2 st' cx' cy' fs' → lw_H D A s u.2 H1 locs1 → W p l e R s m args below meth c H1 locs1 (cells + 8) (slots + 64) Q (F0 m 1580 ls (res.toList ++ []))) :
    W p l e R s m args below meth c H locs cells slots Q (F0 m 1577 ls (([.int a1, .int a2] : List Value).reverse ++ [.ref (sh.2 0)])) := by
  by_cases h3 : 3 ≤ st
  · skip
    obtain ⟨⟨x22, f22, l22, u22⟩, ⟨x16, f16, l16, u16⟩, x25, f25, l25, u25⟩ := lw_bon h3 I.hs.2.2.1
    have hOc := (I.hs.2.2.2.2 h3).2.1
    have hAh := (I.hs.2.2.2.2 h3).2.2
    refine lw_mc (lv' := 3) (ρp := [.ref (sh.2 0), .int a1, .int a2, .int x22]) (As := [.int a1, .int a2]) F L (ct_X7_lie_1 hl9 (cx := cx) (cy := cy)) gm_X7_lie I.hs.2.1 rfl rfl (Nat.le_of_ble_eq_true rfl) (by decide) ⟨Nat.le_trans (Nat.add_le_add_left (Nat.le_of_ble_eq_true rfl) _) hcs.1, Nat.le_trans (Nat.add_le_add_left (Nat.le_of_ble_eq_true rfl) _) hcs.2⟩ hls rfl (lw_pre I.hs.1 (by decide) (Or.inl h3)) (I.hO cx cy) (lw_pa (env := k_X7_lie_1.2.1.1) (fa := k_X7_lie_1.2.1.2) ⟨⟨0, I.h20, rfl⟩, ⟨a1, rfl, en_lo a1, en_hi a1⟩, ⟨a2, rfl, hb2.1, hb2.2⟩, ⟨x22, rfl, l22, u22⟩, trivial⟩ (en_ac (lw_f0 I.hs.2.1 rfl f22 rfl) (en_ac (⟨I.had, hOc⟩) (en_an)))) dlw_1577 (fun u res H1 locs1 hrv hpo L1 => ?_)
    refine W.widen (k := cells + 8) (n := slots + 64) (Nat.add_le_add_left (Nat.le_of_ble_eq_true rfl) _) (Nat.add_le_add_left (Nat.le_of_ble_eq_true rfl) _) ?_
    obtain ⟨fs', I1⟩ := lw_Iqq hLP I hpo.1 (by decide +kernel) (lw_qon h3 (by decide +kernel)) (by decide +kernel) (by decide +kernel) (lw_Io I hpo.1 (by decide +kernel)) (lw_Id I hpo.1 (by decide +kernel))
    exact k _ _ _ _ _ _ _ _ hrv I1 L1
  · skip
    obtain ⟨x22, f22, l22, u22⟩ := lw_boff h3 I.hs.2.2.1
    refine lw_mc (lv' := 3) (ρp := [.ref (sh.2 0), .int a1, .int a2, .int x22]) (As := [.int a1, .int a2]) F L (ct_X7_lie_0 hl9 (cx := cx) (cy := cy)) gm_X7_lie I.hs.2.1 rfl rfl (Nat.le_of_ble_eq_true rfl) (by decide) ⟨Nat.le_trans (Nat.add_le_add_left (Nat.le_of_ble_eq_true rfl) _) hcs.1, Nat.le_trans (Nat.add_le_add_left (Nat.le_of_ble_eq_true rfl) _) hcs.2⟩ hls rfl (lw_pre I.hs.1 (by decide) (Or.inr (by decide))) (I.hO cx cy) (lw_pa (env := k_X7_lie_0.2.1.1) (fa := k_X7_lie_0.2.1.2) ⟨⟨0, I.h20, rfl⟩, ⟨a1, rfl, en_lo a1, en_hi a1⟩, ⟨a2, rfl, hb2.1, hb2.2⟩, ⟨x22, rfl, l22, u22⟩, trivial⟩ (en_ac (lw_f0 I.hs.2.1 rfl f22 rfl) (en_an))) dlw_1577 (fun u res H1 locs1 hrv hpo L1 => ?_)
    refine W.widen (k := cells + 8) (n := slots + 64) (Nat.add_le_add_left (Nat.le_of_ble_eq_true rfl) _) (Nat.add_le_add_left (Nat.le_of_ble_eq_true rfl) _) ?_
    obtain ⟨fs', I1⟩ := lw_Iqq hLP I hpo.1 (by decide +kernel) (lw_qoff h3 (by decide +kernel)) (by decide +kernel) (by decide +kernel) (lw_Io I hpo.1 (by decide +kernel)) (lw_Id I hpo.1 (by decide +kernel))
    exact k _ _ _ _ _ _ _ _ hrv I1 L1
set_option maxHeartbeats 4000000 in
theorem lm_X7_line (hl9 : l.stackTraces = false) (a1 : Int32) (a2 : Int32) (hLP : lw_st LP) (F : lw_Fm p R s m args c D tys cO cD A) (L : lw_H D A s w H locs) (I : lw_I E LP tys cO cD qx qo qd sh w st cx cy fs) (hls : ls.size = 9) (hcs : cells + 8 ≤ R.cells ∧ slots + 64 ≤ R.slots)
    (k : ∀ (u : en_H × va_W) (res : Option Value) (H1 : Heap) (locs1 : List Loc) (st' : Nat) (cx' cy' : Int32) (fs' : List Value), en_rv 0 res → lw_I E LP tys cO cD qx qo qd u.1 u.2 st' cx' cy' fs' → lw_H D A s u.2 H1 locs1 → W p l e R s m args below meth c H1 locs1 (cells + 8) (slots + 64) Q (F0 m 992 ls (res.toList ++ []))) :
    W p l e R s m args below meth c H locs cells slots Q (F0 m 989 ls (([.int a1, .int a2] : List Value).reverse ++ [.ref (sh.2 0)])) := by
  by_cases h3 : 3 ≤ st
  · skip
    obtain ⟨⟨x22, f22, l22, u22⟩, ⟨x16, f16, l16, u16⟩, x25, f25, l25, u25⟩ := lw_bon h3 I.hs.2.2.1
    have hOc := (I.hs.2.2.2.2 h3).2.1
    have hAh := (I.hs.2.2.2.2 h3).2.2
    rcases hAh with hAl | f28
    · skip
      refine lw_mc (lv' := 20) (ρp := [.ref (sh.2 0), .int a1, .int a2, .int x22, .int x25]) (As := [.int a1, .int a2]) F L (ct_X7_line_1 hl9 (cx := cx) (cy := cy)) gm_X7_line I.hs.2.1 rfl rfl (Nat.le_of_ble_eq_true rfl) (by decide) ⟨Nat.le_trans (Nat.add_le_add_left (Nat.le_of_ble_eq_true rfl) _) hcs.1, Nat.le_trans (Nat.add_le_add_left (Nat.le_of_ble_eq_true rfl) _) hcs.2⟩ hls rfl (lw_pre I.hs.1 (by decide) (Or.inl h3)) (I.hO cx cy) (lw_pa (env := k_X7_line_1.2.1.1) (fa := k_X7_line_1.2.1.2) ⟨⟨0, I.h20, rfl⟩, ⟨a1, rfl, en_lo a1, en_hi a1⟩, ⟨a2, rfl, en_lo a2, en_hi a2⟩, ⟨x22, rfl, l22, u22⟩, ⟨x25, rfl, l25, u25⟩, trivial⟩ (en_ac (lw_f0 I.hs.2.1 rfl f22 rfl) (en_ac (lw_f0 I.hs.2.1 rfl f25 rfl) (en_ac (⟨I.had, hOc⟩) (en_an))))) dlw_989 (fun u res H1 locs1 hrv hpo L1 => ?_)
      refine W.widen (k := cells + 8) (n := slots + 64) (Nat.add_le_add_left (Nat.le_of_ble_eq_true rfl) _) (Nat.add_le_add_left (Nat.le_of_ble_eq_true rfl) _) ?_
      obtain ⟨fs', g1, g2⟩ := lw_fs I.h20 I.hs.2.1 hpo.1
      have hA1 : lw_ah cx cy fs' u.2 := lw_ahA I hpo.1 g1 (by decide +kernel) hAl
      exact k _ _ _ _ _ _ _ _ hrv (lw_Iq hLP I hpo.1 (by decide +kernel) g1 I.hst (lw_Io I hpo.1 (by decide +kernel)) (lw_Id I hpo.1 (by decide +kernel)) (lw_q I.h20 I.hlen (I.hO cx cy) I.hs hpo.1 (lw_qon h3 (by decide +kernel)) g1 (fun _ => hA1))) L1
    · skip
      have l28 : (-1 : Int) ≤ (-1 : Int32).toInt := by decide
      have u28 : (-1 : Int32).toInt ≤ (-1 : Int) := by decide
      obtain ⟨x28, e28⟩ : ∃ x : Int32, x = -1 := ⟨_, rfl⟩
      rw [← e28] at f28 l28 u28
      refine lw_mc (lv' := 20) (ρp := [.ref (sh.2 0), .int a1, .int a2, .int x22, .int x25, .int x28]) (As := [.int a1, .int a2]) F L (ct_X7_line_2 hl9 (cx := cx) (cy := cy)) gm_X7_line I.hs.2.1 rfl rfl (Nat.le_of_ble_eq_true rfl) (by decide) ⟨Nat.le_trans (Nat.add_le_add_left (Nat.le_of_ble_eq_true rfl) _) hcs.1, Nat.le_trans (Nat.add_le_add_left (Nat.le_of_ble_eq_true rfl) _) hcs.2⟩ hls rfl (lw_pre I.hs.1 (by decide) (Or.inl h3)) (I.hO cx cy) (lw_pa (env := k_X7_line_2.2.1.1) (fa := k_X7_line_2.2.1.2) ⟨⟨0, I.h20, rfl⟩, ⟨a1, rfl, en_lo a1, en_hi a1⟩, ⟨a2, rfl, en_lo a2, en_hi a2⟩, ⟨x22, rfl, l22, u22⟩, ⟨x25, rfl, l25, u25⟩, ⟨x28, rfl, l28, u28⟩, trivial⟩ (en_ac (lw_f0 I.hs.2.1 rfl f22 rfl) (en_ac (lw_f0 I.hs.2.1 rfl f25 rfl) (en_ac (lw_f0 I.hs.2.1 rfl f28 rfl) (en_ac (⟨I.had, hOc⟩) (en_an)))))) dlw_989 (fun u res H1 locs1 hrv hpo L1 => ?_)
      refine W.widen (k := cells + 8) (n := slots + 64) (Nat.add_le_add_left (Nat.le_of_ble_eq_true rfl) _) (Nat.add_le_add_left (Nat.le_of_ble_eq_true rfl) _) ?_
      obtain ⟨fs', g1, g2⟩ := lw_fs I.h20 I.hs.2.1 hpo.1
      have hA1 : lw_ah cx cy fs' u.2 := Or.inr (lw_last I (by decide +kernel) L1.hD g1 hpo (show 0 < 3 by decide) rfl)
      exact k _ _ _ _ _ _ _ _ hrv (lw_Iq hLP I hpo.1 (by decide +kernel) g1 I.hst (lw_Io I hpo.1 (by decide +kernel)) (lw_Id I hpo.1 (by decide +kernel)) (lw_q I.h20 I.hlen (I.hO cx cy) I.hs hpo.1 (lw_qon h3 (by decide +kernel)) g1 (fun _ => hA1))) L1
  · skip
    obtain ⟨x22, f22, l22, u22⟩ := lw_boff h3 I.hs.2.2.1
    refine lw_mc (lv' := 2) (ρp := [.ref (sh.2 0), .int a1, .int a2, .int x22]) (As := [.int a1, .int a2]) F L (ct_X7_line_0 hl9 (cx := cx) (cy := cy)) gm_X7_line I.hs.2.1 rfl rfl (Nat.le_of_ble_eq_true rfl) (by decide) ⟨Nat.le_trans (Nat.add_le_add_left (Nat.le_of_ble_eq_true rfl) _) hcs.1, Nat.le_trans (Nat.add_le_add_left (Nat.le_of_ble_eq_true rfl) _) hcs.2⟩ hls rfl (lw_pre I.hs.1 (by decide) (Or.inr (by decide))) (I.hO cx cy) (lw_pa (env := k_X7_line_0.2.1.1) (fa := k_X7_line_0.2.1.2) ⟨⟨0, I.h20, rfl⟩, ⟨a1, rfl, en_lo a1, en_hi a1⟩, ⟨a2, rfl, en_lo a2, en_hi a2⟩, ⟨x22, rfl, l22, u22⟩, trivial⟩ (en_ac (lw_f0 I.hs.2.1 rfl f22 rfl) (en_an))) dlw_989 (fun u res H1 locs1 hrv hpo L1 => ?_)
    refine W.widen (k := cells + 8) (n := slots + 64) (Nat.add_le_add_left (Nat.le_of_ble_eq_true rfl) _) (Nat.add_le_add_left (Nat.le_of_ble_eq_true rfl) _) ?_
    obtain ⟨fs', I1⟩ := lw_Iqq hLP I hpo.1 (by decide +kernel) (lw_qoff h3 (by decide +kernel)) (by decide +kernel) (by decide +kernel) (lw_Io I hpo.1 (by decide +kernel)) (lw_Id I hpo.1 (by decide +kernel))
    exact k _ _ _ _ _ _ _ _ hrv I1 L1
set_option maxHeartbeats 4000000 in
theorem lm_X7_meanScore (hl9 : l.stackTraces = false) (a1 : Int32) (hLP : lw_st LP) (F : lw_Fm p R s m args c D tys cO cD A) (L : lw_H D A s w H locs) (I : lw_I E LP tys cO cD qx qo qd sh w st cx cy fs) (hls : ls.size = 9) (hcs : cells + 8 ≤ R.cells ∧ slots + 64 ≤ R.slots)
    (k : ∀ (u : en_H × va_W) (res : Option Value) (H1 : Heap) (locs1 : List Loc) (st' : Nat) (cx' cy' : Int32) (fs' : List Value), en_rv 3 res → lw_I E LP tys cO cD qx qo qd u.1 u.2 st' cx' cy' fs' → lw_H D A s u.2 H1 locs1 → W p l e R s m args below meth c H1 locs1 (cells + 8) (slots + 64) Q (F0 m 2311 ls (res.toList ++ []))) :
    W p l e R s m args below meth c H locs cells slots Q (F0 m 2308 ls (([.int a1] : List Value).reverse ++ [.ref (sh.2 0)])) := by
  by_cases h3 : 3 ≤ st
  · skip
    obtain ⟨⟨x22, f22, l22, u22⟩, ⟨x16, f16, l16, u16⟩, x25, f25, l25, u25⟩ := lw_bon h3 I.hs.2.2.1
    have hOc := (I.hs.2.2.2.2 h3).2.1
    have hAh := (I.hs.2.2.2.2 h3).2.2
    refine lw_mc (lv' := 2) (ρp := [.ref (sh.2 0), .int a1, .int x16]) (As := [.int a1]) F L (ct_X7_meanScore_1 hl9 (cx := cx) (cy := cy)) gm_X7_meanScore I.hs.2.1 rfl rfl (Nat.le_of_ble_eq_true rfl) (by decide) ⟨Nat.le_trans (Nat.add_le_add_left (Nat.le_of_ble_eq_true rfl) _) hcs.1, Nat.le_trans (Nat.add_le_add_left (Nat.le_of_ble_eq_true rfl) _) hcs.2⟩ hls rfl (lw_pre I.hs.1 (by decide) (Or.inl h3)) (I.hO cx cy) (lw_pa (env := k_X7_meanScore_1.2.1.1) (fa := k_X7_meanScore_1.2.1.2) ⟨⟨0, I.h20, rfl⟩, ⟨a1, rfl, en_lo a1, en_hi a1⟩, ⟨x16, rfl, l16, u16⟩, trivial⟩ (en_ac (lw_f0 I.hs.2.1 rfl f16 rfl) (en_ac (⟨I.had, hOc⟩) (en_an)))) dlw_2308 (fun u res H1 locs1 hrv hpo L1 => ?_)
    refine W.widen (k := cells + 8) (n := slots + 64) (Nat.add_le_add_left (Nat.le_of_ble_eq_true rfl) _) (Nat.add_le_add_left (Nat.le_of_ble_eq_true rfl) _) ?_
    obtain ⟨fs', I1⟩ := lw_Iqq hLP I hpo.1 (by decide +kernel) (lw_qon h3 (by decide +kernel)) (by decide +kernel) (by decide +kernel) (lw_Io I hpo.1 (by decide +kernel)) (lw_Id I hpo.1 (by decide +kernel))
    exact k _ _ _ _ _ _ _ _ hrv I1 L1
  · skip
    obtain ⟨x22, f22, l22, u22⟩ := lw_boff h3 I.hs.2.2.1
    refine lw_mc (lv' := 2) (ρp := [.ref (sh.2 0), .int a1]) (As := [.int a1]) F L (ct_X7_meanScore_0 hl9 (cx := cx) (cy := cy)) gm_X7_meanScore I.hs.2.1 rfl rfl (Nat.le_of_ble_eq_true rfl) (by decide) ⟨Nat.le_trans (Nat.add_le_add_left (Nat.le_of_ble_eq_true rfl) _) hcs.1, Nat.le_trans (Nat.add_le_add_left (Nat.le_of_ble_eq_true rfl) _) hcs.2⟩ hls rfl (lw_pre I.hs.1 (by decide) (Or.inr (by decide))) (I.hO cx cy) (lw_pa (env := k_X7_meanScore_0.2.1.1) (fa := k_X7_meanScore_0.2.1.2) ⟨⟨0, I.h20, rfl⟩, ⟨a1, rfl, en_lo a1, en_hi a1⟩, trivial⟩ (en_an)) dlw_2308 (fun u res H1 locs1 hrv hpo L1 => ?_)
    refine W.widen (k := cells + 8) (n := slots + 64) (Nat.add_le_add_left (Nat.le_of_ble_eq_true rfl) _) (Nat.add_le_add_left (Nat.le_of_ble_eq_true rfl) _) ?_
    obtain ⟨fs', I1⟩ := lw_Iqq hLP I hpo.1 (by decide +kernel) (lw_qoff h3 (by decide +kernel)) (by decide +kernel) (by decide +kernel) (lw_Io I hpo.1 (by decide +kernel)) (lw_Id I hpo.1 (by decide +kernel))
    exact k _ _ _ _ _ _ _ _ hrv I1 L1
end
