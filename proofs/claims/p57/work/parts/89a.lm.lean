section
variable {p : Program} {l : Launch} {e : Env} {R : Room} {s : State} {m : MethodId} {args : Array Value} {below : List Frame} {meth : Method} {c : Code} {Q : State → Prop}
variable {D : va_G} {tys : List (ClassId × FieldType)} {cO cD : ClassId} {A : Nat → Prop} {sh : en_H} {w : va_W} {H : Heap} {locs : List Loc} {ls : Array Slot} {cells slots qx qo qd : Nat} {E : Int32 → Int32 → Prop} {LP : en_H → va_W → Prop} {st : Nat} {cx cy : Int32} {fs : List Value}
set_option maxHeartbeats 4000000 in
theorem lm_X7_again (hl9 : l.stackTraces = false) (a1 : Int32) (hLP : lw_st LP) (F : lw_Fm p R s m args c D tys cO cD A) (L : lw_H D A s w H locs) (I : lw_I E LP tys cO cD qx qo qd sh w st cx cy fs) (hls : ls.size = 9) (hcs : cells + 8 ≤ R.cells ∧ slots + 64 ≤ R.slots)
    (k : ∀ (u : en_H × va_W) (res : Option Value) (H1 : Heap) (locs1 : List Loc) (st' : Nat) (cx' cy' : Int32) (fs' : List Value), en_rv 0 res → lw_I E LP tys cO cD qx qo qd u.1 u.2 st' cx' cy' fs' → lw_H D A s u.2 H1 locs1 → W p l e R s m args below meth c H1 locs1 (cells + 8) (slots + 64) Q (F0 m 952 ls (res.toList ++ []))) :
    W p l e R s m args below meth c H locs cells slots Q (F0 m 949 ls (([.int a1] : List Value).reverse ++ [.ref (sh.2 0)])) := by
  by_cases h3 : 3 ≤ st
  · skip
    obtain ⟨⟨x22, f22, l22, u22⟩, ⟨x16, f16, l16, u16⟩, x25, f25, l25, u25⟩ := lw_bon h3 I.hs.2.2.1
    have hOc := (I.hs.2.2.2.2 h3).2.1
    have hAh := (I.hs.2.2.2.2 h3).2.2
    rcases hAh with hAl | f28
    · skip
      refine lw_mc (lv' := 2) (ρp := [.ref (sh.2 0), .int a1, .int x22]) (As := [.int a1]) F L (ct_X7_again_1 hl9 (cx := cx) (cy := cy)) gm_X7_again I.hs.2.1 rfl rfl (Nat.le_of_ble_eq_true rfl) (by decide) ⟨Nat.le_trans (Nat.add_le_add_left (Nat.le_of_ble_eq_true rfl) _) hcs.1, Nat.le_trans (Nat.add_le_add_left (Nat.le_of_ble_eq_true rfl) _) hcs.2⟩ hls rfl (lw_pre I.hs.1 (by decide) (Or.inl h3)) (I.hO cx cy) (lw_pa (env := k_X7_again_1.2.1.1) (fa := k_X7_again_1.2.1.2) ⟨⟨0, I.h20, rfl⟩, ⟨a1, rfl, en_lo a1, en_hi a1⟩, ⟨x22, rfl, l22, u22⟩, trivial⟩ (en_ac (lw_f0 I.hs.2.1 rfl f22 rfl) (en_ac (⟨I.had, hOc⟩) (en_an)))) dlw_949 (fun u res H1 locs1 hrv hpo L1 => ?_)
      refine W.widen (k := cells + 8) (n := slots + 64) (Nat.add_le_add_left (Nat.le_of_ble_eq_true rfl) _) (Nat.add_le_add_left (Nat.le_of_ble_eq_true rfl) _) ?_
      obtain ⟨fs', g1, g2⟩ := lw_fs I.h20 I.hs.2.1 hpo.1
      have hA1 : lw_ah cx cy fs' u.2 := lw_ahA I hpo.1 g1 (by decide +kernel) hAl
      exact k _ _ _ _ _ _ _ _ hrv (lw_Iq hLP I hpo.1 (by decide +kernel) g1 I.hst (lw_Io I hpo.1 (by decide +kernel)) (lw_Id I hpo.1 (by decide +kernel)) (lw_q I.h20 I.hlen (I.hO cx cy) I.hs hpo.1 (lw_qon h3 (by decide +kernel)) g1 (fun _ => hA1))) L1
    · skip
      have l28 : (-1 : Int) ≤ (-1 : Int32).toInt := by decide
      have u28 : (-1 : Int32).toInt ≤ (-1 : Int) := by decide
      obtain ⟨x28, e28⟩ : ∃ x : Int32, x = -1 := ⟨_, rfl⟩
      rw [← e28] at f28 l28 u28
      refine lw_mc (lv' := 2) (ρp := [.ref (sh.2 0), .int a1, .int x22, .int x28]) (As := [.int a1]) F L (ct_X7_again_2 hl9 (cx := cx) (cy := cy)) gm_X7_again I.hs.2.1 rfl rfl (Nat.le_of_ble_eq_true rfl) (by decide) ⟨Nat.le_trans (Nat.add_le_add_left (Nat.le_of_ble_eq_true rfl) _) hcs.1, Nat.le_trans (Nat.add_le_add_left (Nat.le_of_ble_eq_true rfl) _) hcs.2⟩ hls rfl (lw_pre I.hs.1 (by decide) (Or.inl h3)) (I.hO cx cy) (lw_pa (env := k_X7_again_2.2.1.1) (fa := k_X7_again_2.2.1.2) ⟨⟨0, I.h20, rfl⟩, ⟨a1, rfl, en_lo a1, en_hi a1⟩, ⟨x22, rfl, l22, u22⟩, ⟨x28, rfl, l28, u28⟩, trivial⟩ (en_ac (lw_f0 I.hs.2.1 rfl f22 rfl) (en_ac (lw_f0 I.hs.2.1 rfl f28 rfl) (en_ac (⟨I.had, hOc⟩) (en_an))))) dlw_949 (fun u res H1 locs1 hrv hpo L1 => ?_)
      refine W.widen (k := cells + 8) (n := slots + 64) (Nat.add_le_add_left (Nat.le_of_ble_eq_true rfl) _) (Nat.add_le_add_left (Nat.le_of_ble_eq_true rfl) _) ?_
      obtain ⟨fs', g1, g2⟩ := lw_fs I.h20 I.hs.2.1 hpo.1
      have hA1 : lw_ah cx cy fs' u.2 := Or.inr (lw_last I (by decide +kernel) L1.hD g1 hpo (show 0 < 2 by decide) rfl)
      exact k _ _ _ _ _ _ _ _ hrv (lw_Iq hLP I hpo.1 (by decide +kernel) g1 I.hst (lw_Io I hpo.1 (by decide +kernel)) (lw_Id I hpo.1 (by decide +kernel)) (lw_q I.h20 I.hlen (I.hO cx cy) I.hs hpo.1 (lw_qon h3 (by decide +kernel)) g1 (fun _ => hA1))) L1
  · skip
    obtain ⟨x22, f22, l22, u22⟩ := lw_boff h3 I.hs.2.2.1
    refine lw_mc (lv' := 2) (ρp := [.ref (sh.2 0), .int a1, .int x22]) (As := [.int a1]) F L (ct_X7_again_0 hl9 (cx := cx) (cy := cy)) gm_X7_again I.hs.2.1 rfl rfl (Nat.le_of_ble_eq_true rfl) (by decide) ⟨Nat.le_trans (Nat.add_le_add_left (Nat.le_of_ble_eq_true rfl) _) hcs.1, Nat.le_trans (Nat.add_le_add_left (Nat.le_of_ble_eq_true rfl) _) hcs.2⟩ hls rfl (lw_pre I.hs.1 (by decide) (Or.inr (by decide))) (I.hO cx cy) (lw_pa (env := k_X7_again_0.2.1.1) (fa := k_X7_again_0.2.1.2) ⟨⟨0, I.h20, rfl⟩, ⟨a1, rfl, en_lo a1, en_hi a1⟩, ⟨x22, rfl, l22, u22⟩, trivial⟩ (en_ac (lw_f0 I.hs.2.1 rfl f22 rfl) (en_an))) dlw_949 (fun u res H1 locs1 hrv hpo L1 => ?_)
    refine W.widen (k := cells + 8) (n := slots + 64) (Nat.add_le_add_left (Nat.le_of_ble_eq_true rfl) _) (Nat.add_le_add_left (Nat.le_of_ble_eq_true rfl) _) ?_
    obtain ⟨fs', I1⟩ := lw_Iqq hLP I hpo.1 (by decide +kernel) (lw_qoff h3 (by decide +kernel)) (by decide +kernel) (by decide +kernel) (lw_Io I hpo.1 (by decide +kernel)) (lw_Id I hpo.1 (by decide +kernel))
    exact k _ _ _ _ _ _ _ _ hrv I1 L1
set_option maxHeartbeats 4000000 in
theorem lm_X7_area (hl9 : l.stackTraces = false) (a1 : Int32) (a2 : Int32) (a3 : Int32) (a4 : Int32) (a5 : Int32) (a6 : Int32) (hb2 : 0 ≤ a2.toInt ∧ a2.toInt ≤ 65535) (hLP : lw_st LP) (F : lw_Fm p R s m args c D tys cO cD A) (L : lw_H D A s w H locs) (I : lw_I E LP tys cO cD qx qo qd sh w st cx cy fs) (hls : ls.size = 9) (hcs : cells + 8 ≤ R.cells ∧ slots + 64 ≤ R.slots)
    (k : ∀ (u : en_H × va_W) (res : Option Value) (H1 : Heap) (locs1 : List Loc) (st' : Nat) (cx' cy' : Int32) (fs' : List Value), en_rv 0 res → lw_I E LP tys cO cD qx qo qd u.1 u.2 st' cx' cy' fs' → lw_H D A s u.2 H1 locs1 → W p l e R s m args below meth c H1 locs1 (cells + 8) (slots + 64) Q (F0 m 461 ls (res.toList ++ []))) :
    W p l e R s m args below meth c H locs cells slots Q (F0 m 458 ls (([.int a1, .int a2, .int a3, .int a4, .int a5, .int a6] : List Value).reverse ++ [.ref (sh.2 0)])) := by
  obtain rfl | h1 : st = 0 ∨ 1 ≤ st := by omega
  · skip
    obtain ⟨x21, f21, l21, u21⟩ := I.hs.2.2.1 (21, 0, 0) (by decide)
    have l21 : (0 : Int) ≤ x21.toInt := l21
    have u21 : x21.toInt ≤ (0 : Int) := u21
    obtain ⟨x16, f16, l16, u16⟩ := I.hs.2.2.1 (16, 0, 9) (by decide)
    have l16 : (0 : Int) ≤ x16.toInt := l16
    have u16 : x16.toInt ≤ (9 : Int) := u16
    obtain ⟨cA9, f9, hw19, hf19⟩ := I.hcr
    by_cases hneg : a1.toInt < 0
    · have ha1 : (-2147483648 : Int) ≤ a1.toInt ∧ a1.toInt ≤ (-1 : Int) := ⟨en_lo a1, by omega⟩
      refine lw_mc (lv' := 2) (ρp := [.ref (sh.2 0), .int a1, .int a2, .int a3, .int a4, .int a5, .int a6, .int x21]) (As := [.int a1, .int a2, .int a3, .int a4, .int a5, .int a6]) F L (ct_X7_area_1 hl9 (cx := cx) (cy := cy)) gm_X7_area I.hs.2.1 rfl rfl (Nat.le_of_ble_eq_true rfl) (by decide) ⟨Nat.le_trans (Nat.add_le_add_left (Nat.le_of_ble_eq_true rfl) _) hcs.1, Nat.le_trans (Nat.add_le_add_left (Nat.le_of_ble_eq_true rfl) _) hcs.2⟩ hls rfl (lw_pre I.hs.1 (by decide) (Or.inr (by decide))) (I.hO cx cy) (lw_pa (env := k_X7_area_1.2.1.1) (fa := k_X7_area_1.2.1.2) ⟨⟨0, I.h20, rfl⟩, ⟨a1, rfl, ha1.1, ha1.2⟩, ⟨a2, rfl, hb2.1, hb2.2⟩, ⟨a3, rfl, en_lo a3, en_hi a3⟩, ⟨a4, rfl, en_lo a4, en_hi a4⟩, ⟨a5, rfl, en_lo a5, en_hi a5⟩, ⟨a6, rfl, en_lo a6, en_hi a6⟩, ⟨x21, rfl, l21, u21⟩, trivial⟩ (en_ac (lw_f0 I.hs.2.1 rfl f21 rfl) (en_an))) dlw_458 (fun u res H1 locs1 hrv hpo L1 => ?_)
      refine W.widen (k := cells + 8) (n := slots + 64) (Nat.add_le_add_left (Nat.le_of_ble_eq_true rfl) _) (Nat.add_le_add_left (Nat.le_of_ble_eq_true rfl) _) ?_
      obtain ⟨fs', I1⟩ := lw_Iqq hLP I hpo.1 (by decide +kernel) (by decide +kernel) (by decide +kernel) (by decide +kernel) (lw_Io I hpo.1 (by decide +kernel)) (lw_Id I hpo.1 (by decide +kernel))
      exact k _ _ _ _ _ _ _ _ hrv I1 L1
    by_cases hge : x16.toInt ≤ a1.toInt
    · skip
      obtain h16 | h16 | h16 | h16 | h16 | h16 | h16 | h16 | h16 | h16 := lw_k09 l16 u16
      · have l16 : (0 : Int) ≤ x16.toInt := by omega
        have u16 : x16.toInt ≤ (0 : Int) := by omega
        have ha1 : (0 : Int) ≤ a1.toInt ∧ a1.toInt ≤ (2147483647 : Int) := ⟨by omega, en_hi a1⟩
        refine lw_mc (lv' := 2) (ρp := [.ref (sh.2 0), .int a1, .int a2, .int a3, .int a4, .int a5, .int a6, .int x16, .int x21]) (As := [.int a1, .int a2, .int a3, .int a4, .int a5, .int a6]) F L (ct_X7_area_2 hl9 (cx := cx) (cy := cy)) gm_X7_area I.hs.2.1 rfl rfl (Nat.le_of_ble_eq_true rfl) (by decide) ⟨Nat.le_trans (Nat.add_le_add_left (Nat.le_of_ble_eq_true rfl) _) hcs.1, Nat.le_trans (Nat.add_le_add_left (Nat.le_of_ble_eq_true rfl) _) hcs.2⟩ hls rfl (lw_pre I.hs.1 (by decide) (Or.inr (by decide))) (I.hO cx cy) (lw_pa (env := k_X7_area_2.2.1.1) (fa := k_X7_area_2.2.1.2) ⟨⟨0, I.h20, rfl⟩, ⟨a1, rfl, ha1.1, ha1.2⟩, ⟨a2, rfl, hb2.1, hb2.2⟩, ⟨a3, rfl, en_lo a3, en_hi a3⟩, ⟨a4, rfl, en_lo a4, en_hi a4⟩, ⟨a5, rfl, en_lo a5, en_hi a5⟩, ⟨a6, rfl, en_lo a6, en_hi a6⟩, ⟨x16, rfl, l16, u16⟩, ⟨x21, rfl, l21, u21⟩, trivial⟩ (en_ac (lw_f0 I.hs.2.1 rfl f16 rfl) (en_ac (lw_f0 I.hs.2.1 rfl f21 rfl) (en_an)))) dlw_458 (fun u res H1 locs1 hrv hpo L1 => ?_)
        refine W.widen (k := cells + 8) (n := slots + 64) (Nat.add_le_add_left (Nat.le_of_ble_eq_true rfl) _) (Nat.add_le_add_left (Nat.le_of_ble_eq_true rfl) _) ?_
        obtain ⟨fs', I1⟩ := lw_Iqq hLP I hpo.1 (by decide +kernel) (by decide +kernel) (by decide +kernel) (by decide +kernel) (lw_Io I hpo.1 (by decide +kernel)) (lw_Id I hpo.1 (by decide +kernel))
        exact k _ _ _ _ _ _ _ _ hrv I1 L1
      · have l16 : (1 : Int) ≤ x16.toInt := by omega
        have u16 : x16.toInt ≤ (1 : Int) := by omega
        have ha1 : (1 : Int) ≤ a1.toInt ∧ a1.toInt ≤ (2147483647 : Int) := ⟨by omega, en_hi a1⟩
        refine lw_mc (lv' := 2) (ρp := [.ref (sh.2 0), .int a1, .int a2, .int a3, .int a4, .int a5, .int a6, .int x16, .int x21]) (As := [.int a1, .int a2, .int a3, .int a4, .int a5, .int a6]) F L (ct_X7_area_3 hl9 (cx := cx) (cy := cy)) gm_X7_area I.hs.2.1 rfl rfl (Nat.le_of_ble_eq_true rfl) (by decide) ⟨Nat.le_trans (Nat.add_le_add_left (Nat.le_of_ble_eq_true rfl) _) hcs.1, Nat.le_trans (Nat.add_le_add_left (Nat.le_of_ble_eq_true rfl) _) hcs.2⟩ hls rfl (lw_pre I.hs.1 (by decide) (Or.inr (by decide))) (I.hO cx cy) (lw_pa (env := k_X7_area_3.2.1.1) (fa := k_X7_area_3.2.1.2) ⟨⟨0, I.h20, rfl⟩, ⟨a1, rfl, ha1.1, ha1.2⟩, ⟨a2, rfl, hb2.1, hb2.2⟩, ⟨a3, rfl, en_lo a3, en_hi a3⟩, ⟨a4, rfl, en_lo a4, en_hi a4⟩, ⟨a5, rfl, en_lo a5, en_hi a5⟩, ⟨a6, rfl, en_lo a6, en_hi a6⟩, ⟨x16, rfl, l16, u16⟩, ⟨x21, rfl, l21, u21⟩, trivial⟩ (en_ac (lw_f0 I.hs.2.1 rfl f16 rfl) (en_ac (lw_f0 I.hs.2.1 rfl f21 rfl) (en_an)))) dlw_458 (fun u res H1 locs1 hrv hpo L1 => ?_)
        refine W.widen (k := cells + 8) (n := slots + 64) (Nat.add_le_add_left (Nat.le_of_ble_eq_true rfl) _) (Nat.add_le_add_left (Nat.le_of_ble_eq_true rfl) _) ?_
        obtain ⟨fs', I1⟩ := lw_Iqq hLP I hpo.1 (by decide +kernel) (by decide +kernel) (by decide +kernel) (by decide +kernel) (lw_Io I hpo.1 (by decide +kernel)) (lw_Id I hpo.1 (by decide +kernel))
        exact k _ _ _ _ _ _ _ _ hrv I1 L1
      · have l16 : (2 : Int) ≤ x16.toInt := by omega
        have u16 : x16.toInt ≤ (2 : Int) := by omega
        have ha1 : (2 : Int) ≤ a1.toInt ∧ a1.toInt ≤ (2147483647 : Int) := ⟨by omega, en_hi a1⟩
        refine lw_mc (lv' := 2) (ρp := [.ref (sh.2 0), .int a1, .int a2, .int a3, .int a4, .int a5, .int a6, .int x16, .int x21]) (As := [.int a1, .int a2, .int a3, .int a4, .int a5, .int a6]) F L (ct_X7_area_4 hl9 (cx := cx) (cy := cy)) gm_X7_area I.hs.2.1 rfl rfl (Nat.le_of_ble_eq_true rfl) (by decide) ⟨Nat.le_trans (Nat.add_le_add_left (Nat.le_of_ble_eq_true rfl) _) hcs.1, Nat.le_trans (Nat.add_le_add_left (Nat.le_of_ble_eq_true rfl) _) hcs.2⟩ hls rfl (lw_pre I.hs.1 (by decide) (Or.inr (by decide))) (I.hO cx cy) (lw_pa (env := k_X7_area_4.2.1.1) (fa := k_X7_area_4.2.1.2) ⟨⟨0, I.h20, rfl⟩, ⟨a1, rfl, ha1.1, ha1.2⟩, ⟨a2, rfl, hb2.1, hb2.2⟩, ⟨a3, rfl, en_lo a3, en_hi a3⟩, ⟨a4, rfl, en_lo a4, en_hi a4⟩, ⟨a5, rfl, en_lo a5, en_hi a5⟩, ⟨a6, rfl, en_lo a6, en_hi a6⟩, ⟨x16, rfl, l16, u16⟩, ⟨x21, rfl, l21, u21⟩, trivial⟩ (en_ac (lw_f0 I.hs.2.1 rfl f16 rfl) (en_ac (lw_f0 I.hs.2.1 rfl f21 rfl) (en_an)))) dlw_458 (fun u res H1 locs1 hrv hpo L1 => ?_)
        refine W.widen (k := cells + 8) (n := slots + 64) (Nat.add_le_add_left (Nat.le_of_ble_eq_true rfl) _) (Nat.add_le_add_left (Nat.le_of_ble_eq_true rfl) _) ?_
        obtain ⟨fs', I1⟩ := lw_Iqq hLP I hpo.1 (by decide +kernel) (by decide +kernel) (by decide +kernel) (by decide +kernel) (lw_Io I hpo.1 (by decide +kernel)) (lw_Id I hpo.1 (by decide +kernel))
        exact k _ _ _ _ _ _ _ _ hrv I1 L1
      · have l16 : (3 : Int) ≤ x16.toInt := by omega
        have u16 : x16.toInt ≤ (3 : Int) := by omega
        have ha1 : (3 : Int) ≤ a1.toInt ∧ a1.toInt ≤ (2147483647 : Int) := ⟨by omega, en_hi a1⟩
        refine lw_mc (lv' := 2) (ρp := [.ref (sh.2 0), .int a1, .int a2, .int a3, .int a4, .int a5, .int a6, .int x16, .int x21]) (As := [.int a1, .int a2, .int a3, .int a4, .int a5, .int a6]) F L (ct_X7_area_5 hl9 (cx := cx) (cy := cy)) gm_X7_area I.hs.2.1 rfl rfl (Nat.le_of_ble_eq_true rfl) (by decide) ⟨Nat.le_trans (Nat.add_le_add_left (Nat.le_of_ble_eq_true rfl) _) hcs.1, Nat.le_trans (Nat.add_le_add_left (Nat.le_of_ble_eq_true rfl) _) hcs.2⟩ hls rfl (lw_pre I.hs.1 (by decide) (Or.inr (by decide))) (I.hO cx cy) (lw_pa (env := k_X7_area_5.2.1.1) (fa := k_X7_area_5.2.1.2) ⟨⟨0, I.h20, rfl⟩, ⟨a1, rfl, ha1.1, ha1.2⟩, ⟨a2, rfl, hb2.1, hb2.2⟩, ⟨a3, rfl, en_lo a3, en_hi a3⟩, ⟨a4, rfl, en_lo a4, en_hi a4⟩, ⟨a5, rfl, en_lo a5, en_hi a5⟩, ⟨a6, rfl, en_lo a6, en_hi a6⟩, ⟨x16, rfl, l16, u16⟩, ⟨x21, rfl, l21, u21⟩, trivial⟩ (en_ac (lw_f0 I.hs.2.1 rfl f16 rfl) (en_ac (lw_f0 I.hs.2.1 rfl f21 rfl) (en_an)))) dlw_458 (fun u res H1 locs1 hrv hpo L1 => ?_)
        refine W.widen (k := cells + 8) (n := slots + 64) (Nat.add_le_add_left (Nat.le_of_ble_eq_true rfl) _) (Nat.add_le_add_left (Nat.le_of_ble_eq_true rfl) _) ?_
        obtain ⟨fs', I1⟩ := lw_Iqq hLP I hpo.1 (by decide +kernel) (by decide +kernel) (by decide +kernel) (by decide +kernel) (lw_Io I hpo.1 (by decide +kernel)) (lw_Id I hpo.1 (by decide +kernel))
        exact k _ _ _ _ _ _ _ _ hrv I1 L1
      · have l16 : (4 : Int) ≤ x16.toInt := by omega
        have u16 : x16.toInt ≤ (4 : Int) := by omega
        have ha1 : (4 : Int) ≤ a1.toInt ∧ a1.toInt ≤ (2147483647 : Int) := ⟨by omega, en_hi a1⟩
        refine lw_mc (lv' := 2) (ρp := [.ref (sh.2 0), .int a1, .int a2, .int a3, .int a4, .int a5, .int a6, .int x16, .int x21]) (As := [.int a1, .int a2, .int a3, .int a4, .int a5, .int a6]) F L (ct_X7_area_6 hl9 (cx := cx) (cy := cy)) gm_X7_area I.hs.2.1 rfl rfl (Nat.le_of_ble_eq_true rfl) (by decide) ⟨Nat.le_trans (Nat.add_le_add_left (Nat.le_of_ble_eq_true rfl) _) hcs.1, Nat.le_trans (Nat.add_le_add_left (Nat.le_of_ble_eq_true rfl) _) hcs.2⟩ hls rfl (lw_pre I.hs.1 (by decide) (Or.inr (by decide))) (I.hO cx cy) (lw_pa (env := k_X7_area_6.2.1.1) (fa := k_X7_area_6.2.1.2) ⟨⟨0, I.h20, rfl⟩, ⟨a1, rfl, ha1.1, ha1.2⟩, ⟨a2, rfl, hb2.1, hb2.2⟩, ⟨a3, rfl, en_lo a3, en_hi a3⟩, ⟨a4, rfl, en_lo a4, en_hi a4⟩, ⟨a5, rfl, en_lo a5, en_hi a5⟩, ⟨a6, rfl, en_lo a6, en_hi a6⟩, ⟨x16, rfl, l16, u16⟩, ⟨x21, rfl, l21, u21⟩, trivial⟩ (en_ac (lw_f0 I.hs.2.1 rfl f16 rfl) (en_ac (lw_f0 I.hs.2.1 rfl f21 rfl) (en_an)))) dlw_458 (fun u res H1 locs1 hrv hpo L1 => ?_)
        refine W.widen (k := cells + 8) (n := slots + 64) (Nat.add_le_add_left (Nat.le_of_ble_eq_true rfl) _) (Nat.add_le_add_left (Nat.le_of_ble_eq_true rfl) _) ?_
        obtain ⟨fs', I1⟩ := lw_Iqq hLP I hpo.1 (by decide +kernel) (by decide +kernel) (by decide +kernel) (by decide +kernel) (lw_Io I hpo.1 (by decide +kernel)) (lw_Id I hpo.1 (by decide +kernel))
        exact k _ _ _ _ _ _ _ _ hrv I1 L1
      · have l16 : (5 : Int) ≤ x16.toInt := by omega
        have u16 : x16.toInt ≤ (5 : Int) := by omega
        have ha1 : (5 : Int) ≤ a1.toInt ∧ a1.toInt ≤ (2147483647 : Int) := ⟨by omega, en_hi a1⟩
        refine lw_mc (lv' := 2) (ρp := [.ref (sh.2 0), .int a1, .int a2, .int a3, .int a4, .int a5, .int a6, .int x16, .int x21]) (As := [.int a1, .int a2, .int a3, .int a4, .int a5, .int a6]) F L (ct_X7_area_7 hl9 (cx := cx) (cy := cy)) gm_X7_area I.hs.2.1 rfl rfl (Nat.le_of_ble_eq_true rfl) (by decide) ⟨Nat.le_trans (Nat.add_le_add_left (Nat.le_of_ble_eq_true rfl) _) hcs.1, Nat.le_trans (Nat.add_le_add_left (Nat.le_of_ble_eq_true rfl) _) hcs.2⟩ hls rfl (lw_pre I.hs.1 (by decide) (Or.inr (by decide))) (I.hO cx cy) (lw_pa (env := k_X7_area_7.2.1.1) (fa := k_X7_area_7.2.1.2) ⟨⟨0, I.h20, rfl⟩, ⟨a1, rfl, ha1.1, ha1.2⟩, ⟨a2, rfl, hb2.1, hb2.2⟩, ⟨a3, rfl, en_lo a3, en_hi a3⟩, ⟨a4, rfl, en_lo a4, en_hi a4⟩, ⟨a5, rfl, en_lo a5, en_hi a5⟩, ⟨a6, rfl, en_lo a6, en_hi a6⟩, ⟨x16, rfl, l16, u16⟩, ⟨x21, rfl, l21, u21⟩, trivial⟩ (en_ac (lw_f0 I.hs.2.1 rfl f16 rfl) (en_ac (lw_f0 I.hs.2.1 rfl f21 rfl) (en_an)))) dlw_458 (fun u res H1 locs1 hrv hpo L1 => ?_)
        refine W.widen (k := cells + 8) (n := slots + 64) (Nat.add_le_add_left (Nat.le_of_ble_eq_true rfl) _) (Nat.add_le_add_left (Nat.le_of_ble_eq_true rfl) _) ?_
        obtain ⟨fs', I1⟩ := lw_Iqq hLP I hpo.1 (by decide +kernel) (by decide +kernel) (by decide +kernel) (by decide +kernel) (lw_Io I hpo.1 (by decide +kernel)) (lw_Id I hpo.1 (by decide +kernel))
        exact k _ _ _ _ _ _ _ _ hrv I1 L1
      · have l16 : (6 : Int) ≤ x16.toInt := by omega
        have u16 : x16.toInt ≤ (6 : Int) := by omega
        have ha1 : (6 : Int) ≤ a1.toInt ∧ a1.toInt ≤ (2147483647 : Int) := ⟨by omega, en_hi a1⟩
        refine lw_mc (lv' := 2) (ρp := [.ref (sh.2 0), .int a1, .int a2, .int a3, .int a4, .int a5, .int a6, .int x16, .int x21]) (As := [.int a1, .int a2, .int a3, .int a4, .int a5, .int a6]) F L (ct_X7_area_8 hl9 (cx := cx) (cy := cy)) gm_X7_area I.hs.2.1 rfl rfl (Nat.le_of_ble_eq_true rfl) (by decide) ⟨Nat.le_trans (Nat.add_le_add_left (Nat.le_of_ble_eq_true rfl) _) hcs.1, Nat.le_trans (Nat.add_le_add_left (Nat.le_of_ble_eq_true rfl) _) hcs.2⟩ hls rfl (lw_pre I.hs.1 (by decide) (Or.inr (by decide))) (I.hO cx cy) (lw_pa (env := k_X7_area_8.2.1.1) (fa := k_X7_area_8.2.1.2) ⟨⟨0, I.h20, rfl⟩, ⟨a1, rfl, ha1.1, ha1.2⟩, ⟨a2, rfl, hb2.1, hb2.2⟩, ⟨a3, rfl, en_lo a3, en_hi a3⟩, ⟨a4, rfl, en_lo a4, en_hi a4⟩, ⟨a5, rfl, en_lo a5, en_hi a5⟩, ⟨a6, rfl, en_lo a6, en_hi a6⟩, ⟨x16, rfl, l16, u16⟩, ⟨x21, rfl, l21, u21⟩, trivial⟩ (en_ac (lw_f0 I.hs.2.1 rfl f16 rfl) (en_ac (lw_f0 I.hs.2.1 rfl f21 rfl) (en_an)))) dlw_458 (fun u res H1 locs1 hrv hpo L1 => ?_)
        refine W.widen (k := cells + 8) (n := slots + 64) (Nat.add_le_add_left (Nat.le_of_ble_eq_true rfl) _) (Nat.add_le_add_left (Nat.le_of_ble_eq_true rfl) _) ?_
        obtain ⟨fs', I1⟩ := lw_Iqq hLP I hpo.1 (by decide +kernel) (by decide +kernel) (by decide +kernel) (by decide +kernel) (lw_Io I hpo.1 (by decide +kernel)) (lw_Id I hpo.1 (by decide +kernel))
        exact k _ _ _ _ _ _ _ _ hrv I1 L1
      · have l16 : (7 : Int) ≤ x16.toInt := by omega
        have u16 : x16.toInt ≤ (7 : Int) := by omega
        have ha1 : (7 : Int) ≤ a1.toInt ∧ a1.toInt ≤ (2147483647 : Int) := ⟨by omega, en_hi a1⟩
        refine lw_mc (lv' := 2) (ρp := [.ref (sh.2 0), .int a1, .int a2, .int a3, .int a4, .int a5, .int a6, .int x16, .int x21]) (As := [.int a1, .int a2, .int a3, .int a4, .int a5, .int a6]) F L (ct_X7_area_9 hl9 (cx := cx) (cy := cy)) gm_X7_area I.hs.2.1 rfl rfl (Nat.le_of_ble_eq_true rfl) (by decide) ⟨Nat.le_trans (Nat.add_le_add_left (Nat.le_of_ble_eq_true rfl) _) hcs.1, Nat.le_trans (Nat.add_le_add_left (Nat.le_of_ble_eq_true rfl) _) hcs.2⟩ hls rfl (lw_pre I.hs.1 (by decide) (Or.inr (by decide))) (I.hO cx cy) (lw_pa (env := k_X7_area_9.2.1.1) (fa := k_X7_area_9.2.1.2) ⟨⟨0, I.h20, rfl⟩, ⟨a1, rfl, ha1.1, ha1.2⟩, ⟨a2, rfl, hb2.1, hb2.2⟩, ⟨a3, rfl, en_lo a3, en_hi a3⟩, ⟨a4, rfl, en_lo a4, en_hi a4⟩, ⟨a5, rfl, en_lo a5, en_hi a5⟩, ⟨a6, rfl, en_lo a6, en_hi a6⟩, ⟨x16, rfl, l16, u16⟩, ⟨x21, rfl, l21, u21⟩, trivial⟩ (en_ac (lw_f0 I.hs.2.1 rfl f16 rfl) (en_ac (lw_f0 I.hs.2.1 rfl f21 rfl) (en_an)))) dlw_458 (fun u res H1 locs1 hrv hpo L1 => ?_)
        refine W.widen (k := cells + 8) (n := slots + 64) (Nat.add_le_add_left (Nat.le_of_ble_eq_true rfl) _) (Nat.add_le_add_left (Nat.le_of_ble_eq_true rfl) _) ?_
        obtain ⟨fs', I1⟩ := lw_Iqq hLP I hpo.1 (by decide +kernel) (by decide +kernel) (by decide +kernel) (by decide +kernel) (lw_Io I hpo.1 (by decide +kernel)) (lw_Id I hpo.1 (by decide +kernel))
        exact k _ _ _ _ _ _ _ _ hrv I1 L1
      · have l16 : (8 : Int) ≤ x16.toInt := by omega
        have u16 : x16.toInt ≤ (8 : Int) := by omega
        have ha1 : (8 : Int) ≤ a1.toInt ∧ a1.toInt ≤ (2147483647 : Int) := ⟨by omega, en_hi a1⟩
        refine lw_mc (lv' := 2) (ρp := [.ref (sh.2 0), .int a1, .int a2, .int a3, .int a4, .int a5, .int a6, .int x16, .int x21]) (As := [.int a1, .int a2, .int a3, .int a4, .int a5, .int a6]) F L (ct_X7_area_10 hl9 (cx := cx) (cy := cy)) gm_X7_area I.hs.2.1 rfl rfl (Nat.le_of_ble_eq_true rfl) (by decide) ⟨Nat.le_trans (Nat.add_le_add_left (Nat.le_of_ble_eq_true rfl) _) hcs.1, Nat.le_trans (Nat.add_le_add_left (Nat.le_of_ble_eq_true rfl) _) hcs.2⟩ hls rfl (lw_pre I.hs.1 (by decide) (Or.inr (by decide))) (I.hO cx cy) (lw_pa (env := k_X7_area_10.2.1.1) (fa := k_X7_area_10.2.1.2) ⟨⟨0, I.h20, rfl⟩, ⟨a1, rfl, ha1.1, ha1.2⟩, ⟨a2, rfl, hb2.1, hb2.2⟩, ⟨a3, rfl, en_lo a3, en_hi a3⟩, ⟨a4, rfl, en_lo a4, en_hi a4⟩, ⟨a5, rfl, en_lo a5, en_hi a5⟩, ⟨a6, rfl, en_lo a6, en_hi a6⟩, ⟨x16, rfl, l16, u16⟩, ⟨x21, rfl, l21, u21⟩, trivial⟩ (en_ac (lw_f0 I.hs.2.1 rfl f16 rfl) (en_ac (lw_f0 I.hs.2.1 rfl f21 rfl) (en_an)))) dlw_458 (fun u res H1 locs1 hrv hpo L1 => ?_)
        refine W.widen (k := cells + 8) (n := slots + 64) (Nat.add_le_add_left (Nat.le_of_ble_eq_true rfl) _) (Nat.add_le_add_left (Nat.le_of_ble_eq_true rfl) _) ?_
        obtain ⟨fs', I1⟩ := lw_Iqq hLP I hpo.1 (by decide +kernel) (by decide +kernel) (by decide +kernel) (by decide +kernel) (lw_Io I hpo.1 (by decide +kernel)) (lw_Id I hpo.1 (by decide +kernel))
        exact k _ _ _ _ _ _ _ _ hrv I1 L1
      · have l16 : (9 : Int) ≤ x16.toInt := by omega
        have u16 : x16.toInt ≤ (9 : Int) := by omega
        have ha1 : (9 : Int) ≤ a1.toInt ∧ a1.toInt ≤ (2147483647 : Int) := ⟨by omega, en_hi a1⟩
        refine lw_mc (lv' := 2) (ρp := [.ref (sh.2 0), .int a1, .int a2, .int a3, .int a4, .int a5, .int a6, .int x16, .int x21]) (As := [.int a1, .int a2, .int a3, .int a4, .int a5, .int a6]) F L (ct_X7_area_11 hl9 (cx := cx) (cy := cy)) gm_X7_area I.hs.2.1 rfl rfl (Nat.le_of_ble_eq_true rfl) (by decide) ⟨Nat.le_trans (Nat.add_le_add_left (Nat.le_of_ble_eq_true rfl) _) hcs.1, Nat.le_trans (Nat.add_le_add_left (Nat.le_of_ble_eq_true rfl) _) hcs.2⟩ hls rfl (lw_pre I.hs.1 (by decide) (Or.inr (by decide))) (I.hO cx cy) (lw_pa (env := k_X7_area_11.2.1.1) (fa := k_X7_area_11.2.1.2) ⟨⟨0, I.h20, rfl⟩, ⟨a1, rfl, ha1.1, ha1.2⟩, ⟨a2, rfl, hb2.1, hb2.2⟩, ⟨a3, rfl, en_lo a3, en_hi a3⟩, ⟨a4, rfl, en_lo a4, en_hi a4⟩, ⟨a5, rfl, en_lo a5, en_hi a5⟩, ⟨a6, rfl, en_lo a6, en_hi a6⟩, ⟨x16, rfl, l16, u16⟩, ⟨x21, rfl, l21, u21⟩, trivial⟩ (en_ac (lw_f0 I.hs.2.1 rfl f16 rfl) (en_ac (lw_f0 I.hs.2.1 rfl f21 rfl) (en_an)))) dlw_458 (fun u res H1 locs1 hrv hpo L1 => ?_)
        refine W.widen (k := cells + 8) (n := slots + 64) (Nat.add_le_add_left (Nat.le_of_ble_eq_true rfl) _) (Nat.add_le_add_left (Nat.le_of_ble_eq_true rfl) _) ?_
        obtain ⟨fs', I1⟩ := lw_Iqq hLP I hpo.1 (by decide +kernel) (by decide +kernel) (by decide +kernel) (by decide +kernel) (lw_Io I hpo.1 (by decide +kernel)) (lw_Id I hpo.1 (by decide +kernel))
        exact k _ _ _ _ _ _ _ _ hrv I1 L1
    obtain h17 | h17 | h17 | h17 | h17 | h17 | h17 | h17 | h17 := lw_k08 (show 0 ≤ a1.toInt by omega) (show a1.toInt ≤ 8 by omega)
    · have ha1 : (0 : Int) ≤ a1.toInt ∧ a1.toInt ≤ (0 : Int) := by omega
      have l16 : (1 : Int) ≤ x16.toInt := by omega
      have ec1 : a1.toNatClampNeg = 0 := by have := en_cN (x := a1) (by omega); omega
      obtain ⟨cA8, cB8, f8, g8, f0, w1, fk, wk, hne, b2, b3, b4, b5⟩ := lw_cup I (k := 0) (by decide) f16 (by omega)
      rcases hne with hne | hne
      · skip
        refine lw_mc (sh := lw_rl 0 sh) (lv' := 2) (ρp := [.ref (sh.2 0), .int a1, .int a2, .int a3, .int a4, .int a5, .int a6, .int x16, .int x21, .ref (sh.2 1), .ref (sh.2 (2 + 0)), .int (g8 2), .int (g8 4)]) (As := [.int a1, .int a2, .int a3, .int a4, .int a5, .int a6]) F L (ct_X7_area_0s0 hl9 (cx := cx) (cy := cy)) gm_X7_area I.hs.2.1 rfl rfl (Nat.le_of_ble_eq_true rfl) (by decide) ⟨Nat.le_trans (Nat.add_le_add_left (Nat.le_of_ble_eq_true rfl) _) hcs.1, Nat.le_trans (Nat.add_le_add_left (Nat.le_of_ble_eq_true rfl) _) hcs.2⟩ hls rfl (lw_toS (k := 0) (by decide) I.hsp.1 I.hsp.2.1 I.hsp.2.2.1 I.hsp.2.2.2.1 hw19 hf19 (lw_pre I.hs.1 (by decide) (Or.inr (by decide))) (by decide)) (lw_Om (lw_omr I.om I.hsp)) (lw_pa (env := k_X7_area_0s0.2.1.1) (fa := k_X7_area_0s0.2.1.2) ⟨⟨0, lw_r20 I.h20, rfl⟩, ⟨a1, rfl, ha1.1, ha1.2⟩, ⟨a2, rfl, hb2.1, hb2.2⟩, ⟨a3, rfl, en_lo a3, en_hi a3⟩, ⟨a4, rfl, en_lo a4, en_hi a4⟩, ⟨a5, rfl, en_lo a5, en_hi a5⟩, ⟨a6, rfl, en_lo a6, en_hi a6⟩, ⟨x16, rfl, l16, u16⟩, ⟨x21, rfl, l21, u21⟩, ⟨1, lw_r21 I.hsp.2.2.2.2, rfl⟩, ⟨2 + 0, lw_r22 (I.hsp.1 0 (by decide)), rfl⟩, ⟨g8 2, rfl, b2.1, b2.2⟩, ⟨g8 4, rfl, b4.1, b4.2⟩, trivial⟩ (en_ac (⟨0, _, 13, fs, _, rfl, I.hs.2.1, f16, rfl⟩) (en_ac (⟨0, _, 13, fs, _, rfl, I.hs.2.1, f21, rfl⟩) (en_ac (⟨0, _, 13, fs, _, rfl, I.hs.2.1, f0, rfl⟩) (en_ac (⟨1, _, 9, cA8, f8, a1, _, rfl, w1, rfl, by rw [ec1]; exact fk, rfl⟩) (en_ac (⟨2 + 0, _, 7, cB8, g8, rfl, wk, by decide, rfl⟩) (en_ac (⟨2 + 0, _, 7, cB8, g8, rfl, wk, by decide, rfl⟩) (en_ac (⟨_, _, rfl, rfl, hne⟩) en_an)))))))) dlw_458 (fun u res H1 locs1 hrv hpo L1 => ?_)
        refine W.widen (k := cells + 8) (n := slots + 64) (Nat.add_le_add_left (Nat.le_of_ble_eq_true rfl) _) (Nat.add_le_add_left (Nat.le_of_ble_eq_true rfl) _) ?_
        obtain ⟨fs', I1⟩ := lw_rowA (k := 0) hLP (by decide) I L1.hD hpo rfl (show 0 < 7 by decide) (by decide +kernel) (by decide +kernel) (by decide +kernel) (by decide +kernel)
        exact k (lw_ul u.1, u.2) _ _ _ _ _ _ _ hrv I1 L1
      · skip
        refine lw_mc (sh := lw_rl 0 sh) (lv' := 2) (ρp := [.ref (sh.2 0), .int a1, .int a2, .int a3, .int a4, .int a5, .int a6, .int x16, .int x21, .ref (sh.2 1), .ref (sh.2 (2 + 0)), .int (g8 3), .int (g8 5)]) (As := [.int a1, .int a2, .int a3, .int a4, .int a5, .int a6]) F L (ct_X7_area_1s0 hl9 (cx := cx) (cy := cy)) gm_X7_area I.hs.2.1 rfl rfl (Nat.le_of_ble_eq_true rfl) (by decide) ⟨Nat.le_trans (Nat.add_le_add_left (Nat.le_of_ble_eq_true rfl) _) hcs.1, Nat.le_trans (Nat.add_le_add_left (Nat.le_of_ble_eq_true rfl) _) hcs.2⟩ hls rfl (lw_toS (k := 0) (by decide) I.hsp.1 I.hsp.2.1 I.hsp.2.2.1 I.hsp.2.2.2.1 hw19 hf19 (lw_pre I.hs.1 (by decide) (Or.inr (by decide))) (by decide)) (lw_Om (lw_omr I.om I.hsp)) (lw_pa (env := k_X7_area_1s0.2.1.1) (fa := k_X7_area_1s0.2.1.2) ⟨⟨0, lw_r20 I.h20, rfl⟩, ⟨a1, rfl, ha1.1, ha1.2⟩, ⟨a2, rfl, hb2.1, hb2.2⟩, ⟨a3, rfl, en_lo a3, en_hi a3⟩, ⟨a4, rfl, en_lo a4, en_hi a4⟩, ⟨a5, rfl, en_lo a5, en_hi a5⟩, ⟨a6, rfl, en_lo a6, en_hi a6⟩, ⟨x16, rfl, l16, u16⟩, ⟨x21, rfl, l21, u21⟩, ⟨1, lw_r21 I.hsp.2.2.2.2, rfl⟩, ⟨2 + 0, lw_r22 (I.hsp.1 0 (by decide)), rfl⟩, ⟨g8 3, rfl, b3.1, b3.2⟩, ⟨g8 5, rfl, b5.1, b5.2⟩, trivial⟩ (en_ac (⟨0, _, 13, fs, _, rfl, I.hs.2.1, f16, rfl⟩) (en_ac (⟨0, _, 13, fs, _, rfl, I.hs.2.1, f21, rfl⟩) (en_ac (⟨0, _, 13, fs, _, rfl, I.hs.2.1, f0, rfl⟩) (en_ac (⟨1, _, 9, cA8, f8, a1, _, rfl, w1, rfl, by rw [ec1]; exact fk, rfl⟩) (en_ac (⟨2 + 0, _, 7, cB8, g8, rfl, wk, by decide, rfl⟩) (en_ac (⟨2 + 0, _, 7, cB8, g8, rfl, wk, by decide, rfl⟩) (en_ac (⟨_, _, rfl, rfl, hne⟩) en_an)))))))) dlw_458 (fun u res H1 locs1 hrv hpo L1 => ?_)
        refine W.widen (k := cells + 8) (n := slots + 64) (Nat.add_le_add_left (Nat.le_of_ble_eq_true rfl) _) (Nat.add_le_add_left (Nat.le_of_ble_eq_true rfl) _) ?_
        obtain ⟨fs', I1⟩ := lw_rowA (k := 0) hLP (by decide) I L1.hD hpo rfl (show 0 < 7 by decide) (by decide +kernel) (by decide +kernel) (by decide +kernel) (by decide +kernel)
        exact k (lw_ul u.1, u.2) _ _ _ _ _ _ _ hrv I1 L1
    · have ha1 : (1 : Int) ≤ a1.toInt ∧ a1.toInt ≤ (1 : Int) := by omega
      have l16 : (2 : Int) ≤ x16.toInt := by omega
      have ec1 : a1.toNatClampNeg = 1 := by have := en_cN (x := a1) (by omega); omega
      obtain ⟨cA8, cB8, f8, g8, f0, w1, fk, wk, hne, b2, b3, b4, b5⟩ := lw_cup I (k := 1) (by decide) f16 (by omega)
      rcases hne with hne | hne
      · skip
        refine lw_mc (sh := lw_rl 1 sh) (lv' := 2) (ρp := [.ref (sh.2 0), .int a1, .int a2, .int a3, .int a4, .int a5, .int a6, .int x16, .int x21, .ref (sh.2 1), .ref (sh.2 (2 + 1)), .int (g8 2), .int (g8 4)]) (As := [.int a1, .int a2, .int a3, .int a4, .int a5, .int a6]) F L (ct_X7_area_0s1 hl9 (cx := cx) (cy := cy)) gm_X7_area I.hs.2.1 rfl rfl (Nat.le_of_ble_eq_true rfl) (by decide) ⟨Nat.le_trans (Nat.add_le_add_left (Nat.le_of_ble_eq_true rfl) _) hcs.1, Nat.le_trans (Nat.add_le_add_left (Nat.le_of_ble_eq_true rfl) _) hcs.2⟩ hls rfl (lw_toS (k := 1) (by decide) I.hsp.1 I.hsp.2.1 I.hsp.2.2.1 I.hsp.2.2.2.1 hw19 hf19 (lw_pre I.hs.1 (by decide) (Or.inr (by decide))) (by decide)) (lw_Om (lw_omr I.om I.hsp)) (lw_pa (env := k_X7_area_0s1.2.1.1) (fa := k_X7_area_0s1.2.1.2) ⟨⟨0, lw_r20 I.h20, rfl⟩, ⟨a1, rfl, ha1.1, ha1.2⟩, ⟨a2, rfl, hb2.1, hb2.2⟩, ⟨a3, rfl, en_lo a3, en_hi a3⟩, ⟨a4, rfl, en_lo a4, en_hi a4⟩, ⟨a5, rfl, en_lo a5, en_hi a5⟩, ⟨a6, rfl, en_lo a6, en_hi a6⟩, ⟨x16, rfl, l16, u16⟩, ⟨x21, rfl, l21, u21⟩, ⟨1, lw_r21 I.hsp.2.2.2.2, rfl⟩, ⟨2 + 1, lw_r22 (I.hsp.1 1 (by decide)), rfl⟩, ⟨g8 2, rfl, b2.1, b2.2⟩, ⟨g8 4, rfl, b4.1, b4.2⟩, trivial⟩ (en_ac (⟨0, _, 13, fs, _, rfl, I.hs.2.1, f16, rfl⟩) (en_ac (⟨0, _, 13, fs, _, rfl, I.hs.2.1, f21, rfl⟩) (en_ac (⟨0, _, 13, fs, _, rfl, I.hs.2.1, f0, rfl⟩) (en_ac (⟨1, _, 9, cA8, f8, a1, _, rfl, w1, rfl, by rw [ec1]; exact fk, rfl⟩) (en_ac (⟨2 + 1, _, 7, cB8, g8, rfl, wk, by decide, rfl⟩) (en_ac (⟨2 + 1, _, 7, cB8, g8, rfl, wk, by decide, rfl⟩) (en_ac (⟨_, _, rfl, rfl, hne⟩) en_an)))))))) dlw_458 (fun u res H1 locs1 hrv hpo L1 => ?_)
        refine W.widen (k := cells + 8) (n := slots + 64) (Nat.add_le_add_left (Nat.le_of_ble_eq_true rfl) _) (Nat.add_le_add_left (Nat.le_of_ble_eq_true rfl) _) ?_
        obtain ⟨fs', I1⟩ := lw_rowA (k := 1) hLP (by decide) I L1.hD hpo rfl (show 0 < 7 by decide) (by decide +kernel) (by decide +kernel) (by decide +kernel) (by decide +kernel)
        exact k (lw_ul u.1, u.2) _ _ _ _ _ _ _ hrv I1 L1
      · skip
        refine lw_mc (sh := lw_rl 1 sh) (lv' := 2) (ρp := [.ref (sh.2 0), .int a1, .int a2, .int a3, .int a4, .int a5, .int a6, .int x16, .int x21, .ref (sh.2 1), .ref (sh.2 (2 + 1)), .int (g8 3), .int (g8 5)]) (As := [.int a1, .int a2, .int a3, .int a4, .int a5, .int a6]) F L (ct_X7_area_1s1 hl9 (cx := cx) (cy := cy)) gm_X7_area I.hs.2.1 rfl rfl (Nat.le_of_ble_eq_true rfl) (by decide) ⟨Nat.le_trans (Nat.add_le_add_left (Nat.le_of_ble_eq_true rfl) _) hcs.1, Nat.le_trans (Nat.add_le_add_left (Nat.le_of_ble_eq_true rfl) _) hcs.2⟩ hls rfl (lw_toS (k := 1) (by decide) I.hsp.1 I.hsp.2.1 I.hsp.2.2.1 I.hsp.2.2.2.1 hw19 hf19 (lw_pre I.hs.1 (by decide) (Or.inr (by decide))) (by decide)) (lw_Om (lw_omr I.om I.hsp)) (lw_pa (env := k_X7_area_1s1.2.1.1) (fa := k_X7_area_1s1.2.1.2) ⟨⟨0, lw_r20 I.h20, rfl⟩, ⟨a1, rfl, ha1.1, ha1.2⟩, ⟨a2, rfl, hb2.1, hb2.2⟩, ⟨a3, rfl, en_lo a3, en_hi a3⟩, ⟨a4, rfl, en_lo a4, en_hi a4⟩, ⟨a5, rfl, en_lo a5, en_hi a5⟩, ⟨a6, rfl, en_lo a6, en_hi a6⟩, ⟨x16, rfl, l16, u16⟩, ⟨x21, rfl, l21, u21⟩, ⟨1, lw_r21 I.hsp.2.2.2.2, rfl⟩, ⟨2 + 1, lw_r22 (I.hsp.1 1 (by decide)), rfl⟩, ⟨g8 3, rfl, b3.1, b3.2⟩, ⟨g8 5, rfl, b5.1, b5.2⟩, trivial⟩ (en_ac (⟨0, _, 13, fs, _, rfl, I.hs.2.1, f16, rfl⟩) (en_ac (⟨0, _, 13, fs, _, rfl, I.hs.2.1, f21, rfl⟩) (en_ac (⟨0, _, 13, fs, _, rfl, I.hs.2.1, f0, rfl⟩) (en_ac (⟨1, _, 9, cA8, f8, a1, _, rfl, w1, rfl, by rw [ec1]; exact fk, rfl⟩) (en_ac (⟨2 + 1, _, 7, cB8, g8, rfl, wk, by decide, rfl⟩) (en_ac (⟨2 + 1, _, 7, cB8, g8, rfl, wk, by decide, rfl⟩) (en_ac (⟨_, _, rfl, rfl, hne⟩) en_an)))))))) dlw_458 (fun u res H1 locs1 hrv hpo L1 => ?_)
        refine W.widen (k := cells + 8) (n := slots + 64) (Nat.add_le_add_left (Nat.le_of_ble_eq_true rfl) _) (Nat.add_le_add_left (Nat.le_of_ble_eq_true rfl) _) ?_
        obtain ⟨fs', I1⟩ := lw_rowA (k := 1) hLP (by decide) I L1.hD hpo rfl (show 0 < 7 by decide) (by decide +kernel) (by decide +kernel) (by decide +kernel) (by decide +kernel)
        exact k (lw_ul u.1, u.2) _ _ _ _ _ _ _ hrv I1 L1
    · have ha1 : (2 : Int) ≤ a1.toInt ∧ a1.toInt ≤ (2 : Int) := by omega
      have l16 : (3 : Int) ≤ x16.toInt := by omega
      have ec1 : a1.toNatClampNeg = 2 := by have := en_cN (x := a1) (by omega); omega
      obtain ⟨cA8, cB8, f8, g8, f0, w1, fk, wk, hne, b2, b3, b4, b5⟩ := lw_cup I (k := 2) (by decide) f16 (by omega)
      rcases hne with hne | hne
      · skip
        refine lw_mc (sh := lw_rl 2 sh) (lv' := 2) (ρp := [.ref (sh.2 0), .int a1, .int a2, .int a3, .int a4, .int a5, .int a6, .int x16, .int x21, .ref (sh.2 1), .ref (sh.2 (2 + 2)), .int (g8 2), .int (g8 4)]) (As := [.int a1, .int a2, .int a3, .int a4, .int a5, .int a6]) F L (ct_X7_area_0s2 hl9 (cx := cx) (cy := cy)) gm_X7_area I.hs.2.1 rfl rfl (Nat.le_of_ble_eq_true rfl) (by decide) ⟨Nat.le_trans (Nat.add_le_add_left (Nat.le_of_ble_eq_true rfl) _) hcs.1, Nat.le_trans (Nat.add_le_add_left (Nat.le_of_ble_eq_true rfl) _) hcs.2⟩ hls rfl (lw_toS (k := 2) (by decide) I.hsp.1 I.hsp.2.1 I.hsp.2.2.1 I.hsp.2.2.2.1 hw19 hf19 (lw_pre I.hs.1 (by decide) (Or.inr (by decide))) (by decide)) (lw_Om (lw_omr I.om I.hsp)) (lw_pa (env := k_X7_area_0s2.2.1.1) (fa := k_X7_area_0s2.2.1.2) ⟨⟨0, lw_r20 I.h20, rfl⟩, ⟨a1, rfl, ha1.1, ha1.2⟩, ⟨a2, rfl, hb2.1, hb2.2⟩, ⟨a3, rfl, en_lo a3, en_hi a3⟩, ⟨a4, rfl, en_lo a4, en_hi a4⟩, ⟨a5, rfl, en_lo a5, en_hi a5⟩, ⟨a6, rfl, en_lo a6, en_hi a6⟩, ⟨x16, rfl, l16, u16⟩, ⟨x21, rfl, l21, u21⟩, ⟨1, lw_r21 I.hsp.2.2.2.2, rfl⟩, ⟨2 + 2, lw_r22 (I.hsp.1 2 (by decide)), rfl⟩, ⟨g8 2, rfl, b2.1, b2.2⟩, ⟨g8 4, rfl, b4.1, b4.2⟩, trivial⟩ (en_ac (⟨0, _, 13, fs, _, rfl, I.hs.2.1, f16, rfl⟩) (en_ac (⟨0, _, 13, fs, _, rfl, I.hs.2.1, f21, rfl⟩) (en_ac (⟨0, _, 13, fs, _, rfl, I.hs.2.1, f0, rfl⟩) (en_ac (⟨1, _, 9, cA8, f8, a1, _, rfl, w1, rfl, by rw [ec1]; exact fk, rfl⟩) (en_ac (⟨2 + 2, _, 7, cB8, g8, rfl, wk, by decide, rfl⟩) (en_ac (⟨2 + 2, _, 7, cB8, g8, rfl, wk, by decide, rfl⟩) (en_ac (⟨_, _, rfl, rfl, hne⟩) en_an)))))))) dlw_458 (fun u res H1 locs1 hrv hpo L1 => ?_)
        refine W.widen (k := cells + 8) (n := slots + 64) (Nat.add_le_add_left (Nat.le_of_ble_eq_true rfl) _) (Nat.add_le_add_left (Nat.le_of_ble_eq_true rfl) _) ?_
        obtain ⟨fs', I1⟩ := lw_rowA (k := 2) hLP (by decide) I L1.hD hpo rfl (show 0 < 7 by decide) (by decide +kernel) (by decide +kernel) (by decide +kernel) (by decide +kernel)
        exact k (lw_ul u.1, u.2) _ _ _ _ _ _ _ hrv I1 L1
      · skip
        refine lw_mc (sh := lw_rl 2 sh) (lv' := 2) (ρp := [.ref (sh.2 0), .int a1, .int a2, .int a3, .int a4, .int a5, .int a6, .int x16, .int x21, .ref (sh.2 1), .ref (sh.2 (2 + 2)), .int (g8 3), .int (g8 5)]) (As := [.int a1, .int a2, .int a3, .int a4, .int a5, .int a6]) F L (ct_X7_area_1s2 hl9 (cx := cx) (cy := cy)) gm_X7_area I.hs.2.1 rfl rfl (Nat.le_of_ble_eq_true rfl) (by decide) ⟨Nat.le_trans (Nat.add_le_add_left (Nat.le_of_ble_eq_true rfl) _) hcs.1, Nat.le_trans (Nat.add_le_add_left (Nat.le_of_ble_eq_true rfl) _) hcs.2⟩ hls rfl (lw_toS (k := 2) (by decide) I.hsp.1 I.hsp.2.1 I.hsp.2.2.1 I.hsp.2.2.2.1 hw19 hf19 (lw_pre I.hs.1 (by decide) (Or.inr (by decide))) (by decide)) (lw_Om (lw_omr I.om I.hsp)) (lw_pa (env := k_X7_area_1s2.2.1.1) (fa := k_X7_area_1s2.2.1.2) ⟨⟨0, lw_r20 I.h20, rfl⟩, ⟨a1, rfl, ha1.1, ha1.2⟩, ⟨a2, rfl, hb2.1, hb2.2⟩, ⟨a3, rfl, en_lo a3, en_hi a3⟩, ⟨a4, rfl, en_lo a4, en_hi a4⟩, ⟨a5, rfl, en_lo a5, en_hi a5⟩, ⟨a6, rfl, en_lo a6, en_hi a6⟩, ⟨x16, rfl, l16, u16⟩, ⟨x21, rfl, l21, u21⟩, ⟨1, lw_r21 I.hsp.2.2.2.2, rfl⟩, ⟨2 + 2, lw_r22 (I.hsp.1 2 (by decide)), rfl⟩, ⟨g8 3, rfl, b3.1, b3.2⟩, ⟨g8 5, rfl, b5.1, b5.2⟩, trivial⟩ (en_ac (⟨0, _, 13, fs, _, rfl, I.hs.2.1, f16, rfl⟩) (en_ac (⟨0, _, 13, fs, _, rfl, I.hs.2.1, f21, rfl⟩) (en_ac (⟨0, _, 13, fs, _, rfl, I.hs.2.1, f0, rfl⟩) (en_ac (⟨1, _, 9, cA8, f8, a1, _, rfl, w1, rfl, by rw [ec1]; exact fk, rfl⟩) (en_ac (⟨2 + 2, _, 7, cB8, g8, rfl, wk, by decide, rfl⟩) (en_ac (⟨2 + 2, _, 7, cB8, g8, rfl, wk, by decide, rfl⟩) (en_ac (⟨_, _, rfl, rfl, hne⟩) en_an)))))))) dlw_458 (fun u res H1 locs1 hrv hpo L1 => ?_)
        refine W.widen (k := cells + 8) (n := slots + 64) (Nat.add_le_add_left (Nat.le_of_ble_eq_true rfl) _) (Nat.add_le_add_left (Nat.le_of_ble_eq_true rfl) _) ?_
        obtain ⟨fs', I1⟩ := lw_rowA (k := 2) hLP (by decide) I L1.hD hpo rfl (show 0 < 7 by decide) (by decide +kernel) (by decide +kernel) (by decide +kernel) (by decide +kernel)
        exact k (lw_ul u.1, u.2) _ _ _ _ _ _ _ hrv I1 L1
    · have ha1 : (3 : Int) ≤ a1.toInt ∧ a1.toInt ≤ (3 : Int) := by omega
      have l16 : (4 : Int) ≤ x16.toInt := by omega
      have ec1 : a1.toNatClampNeg = 3 := by have := en_cN (x := a1) (by omega); omega
      obtain ⟨cA8, cB8, f8, g8, f0, w1, fk, wk, hne, b2, b3, b4, b5⟩ := lw_cup I (k := 3) (by decide) f16 (by omega)
      rcases hne with hne | hne
      · skip
        refine lw_mc (sh := lw_rl 3 sh) (lv' := 2) (ρp := [.ref (sh.2 0), .int a1, .int a2, .int a3, .int a4, .int a5, .int a6, .int x16, .int x21, .ref (sh.2 1), .ref (sh.2 (2 + 3)), .int (g8 2), .int (g8 4)]) (As := [.int a1, .int a2, .int a3, .int a4, .int a5, .int a6]) F L (ct_X7_area_0s3 hl9 (cx := cx) (cy := cy)) gm_X7_area I.hs.2.1 rfl rfl (Nat.le_of_ble_eq_true rfl) (by decide) ⟨Nat.le_trans (Nat.add_le_add_left (Nat.le_of_ble_eq_true rfl) _) hcs.1, Nat.le_trans (Nat.add_le_add_left (Nat.le_of_ble_eq_true rfl) _) hcs.2⟩ hls rfl (lw_toS (k := 3) (by decide) I.hsp.1 I.hsp.2.1 I.hsp.2.2.1 I.hsp.2.2.2.1 hw19 hf19 (lw_pre I.hs.1 (by decide) (Or.inr (by decide))) (by decide)) (lw_Om (lw_omr I.om I.hsp)) (lw_pa (env := k_X7_area_0s3.2.1.1) (fa := k_X7_area_0s3.2.1.2) ⟨⟨0, lw_r20 I.h20, rfl⟩, ⟨a1, rfl, ha1.1, ha1.2⟩, ⟨a2, rfl, hb2.1, hb2.2⟩, ⟨a3, rfl, en_lo a3, en_hi a3⟩, ⟨a4, rfl, en_lo a4, en_hi a4⟩, ⟨a5, rfl, en_lo a5, en_hi a5⟩, ⟨a6, rfl, en_lo a6, en_hi a6⟩, ⟨x16, rfl, l16, u16⟩, ⟨x21, rfl, l21, u21⟩, ⟨1, lw_r21 I.hsp.2.2.2.2, rfl⟩, ⟨2 + 3, lw_r22 (I.hsp.1 3 (by decide)), rfl⟩, ⟨g8 2, rfl, b2.1, b2.2⟩, ⟨g8 4, rfl, b4.1, b4.2⟩, trivial⟩ (en_ac (⟨0, _, 13, fs, _, rfl, I.hs.2.1, f16, rfl⟩) (en_ac (⟨0, _, 13, fs, _, rfl, I.hs.2.1, f21, rfl⟩) (en_ac (⟨0, _, 13, fs, _, rfl, I.hs.2.1, f0, rfl⟩) (en_ac (⟨1, _, 9, cA8, f8, a1, _, rfl, w1, rfl, by rw [ec1]; exact fk, rfl⟩) (en_ac (⟨2 + 3, _, 7, cB8, g8, rfl, wk, by decide, rfl⟩) (en_ac (⟨2 + 3, _, 7, cB8, g8, rfl, wk, by decide, rfl⟩) (en_ac (⟨_, _, rfl, rfl, hne⟩) en_an)))))))) dlw_458 (fun u res H1 locs1 hrv hpo L1 => ?_)
        refine W.widen (k := cells + 8) (n := slots + 64) (Nat.add_le_add_left (Nat.le_of_ble_eq_true rfl) _) (Nat.add_le_add_left (Nat.le_of_ble_eq_true rfl) _) ?_
        obtain ⟨fs', I1⟩ := lw_rowA (k := 3) hLP (by decide) I L1.hD hpo rfl (show 0 < 7 by decide) (by decide +kernel) (by decide +kernel) (by decide +kernel) (by decide +kernel)
        exact k (lw_ul u.1, u.2) _ _ _ _ _ _ _ hrv I1 L1
      · skip
        refine lw_mc (sh := lw_rl 3 sh) (lv' := 2) (ρp := [.ref (sh.2 0), .int a1, .int a2, .int a3, .int a4, .int a5, .int a6, .int x16, .int x21, .ref (sh.2 1), .ref (sh.2 (2 + 3)), .int (g8 3), .int (g8 5)]) (As := [.int a1, .int a2, .int a3, .int a4, .int a5, .int a6]) F L (ct_X7_area_1s3 hl9 (cx := cx) (cy := cy)) gm_X7_area I.hs.2.1 rfl rfl (Nat.le_of_ble_eq_true rfl) (by decide) ⟨Nat.le_trans (Nat.add_le_add_left (Nat.le_of_ble_eq_true rfl) _) hcs.1, Nat.le_trans (Nat.add_le_add_left (Nat.le_of_ble_eq_true rfl) _) hcs.2⟩ hls rfl (lw_toS (k := 3) (by decide) I.hsp.1 I.hsp.2.1 I.hsp.2.2.1 I.hsp.2.2.2.1 hw19 hf19 (lw_pre I.hs.1 (by decide) (Or.inr (by decide))) (by decide)) (lw_Om (lw_omr I.om I.hsp)) (lw_pa (env := k_X7_area_1s3.2.1.1) (fa := k_X7_area_1s3.2.1.2) ⟨⟨0, lw_r20 I.h20, rfl⟩, ⟨a1, rfl, ha1.1, ha1.2⟩, ⟨a2, rfl, hb2.1, hb2.2⟩, ⟨a3, rfl, en_lo a3, en_hi a3⟩, ⟨a4, rfl, en_lo a4, en_hi a4⟩, ⟨a5, rfl, en_lo a5, en_hi a5⟩, ⟨a6, rfl, en_lo a6, en_hi a6⟩, ⟨x16, rfl, l16, u16⟩, ⟨x21, rfl, l21, u21⟩, ⟨1, lw_r21 I.hsp.2.2.2.2, rfl⟩, ⟨2 + 3, lw_r22 (I.hsp.1 3 (by decide)), rfl⟩, ⟨g8 3, rfl, b3.1, b3.2⟩, ⟨g8 5, rfl, b5.1, b5.2⟩, trivial⟩ (en_ac (⟨0, _, 13, fs, _, rfl, I.hs.2.1, f16, rfl⟩) (en_ac (⟨0, _, 13, fs, _, rfl, I.hs.2.1, f21, rfl⟩) (en_ac (⟨0, _, 13, fs, _, rfl, I.hs.2.1, f0, rfl⟩) (en_ac (⟨1, _, 9, cA8, f8, a1, _, rfl, w1, rfl, by rw [ec1]; exact fk, rfl⟩) (en_ac (⟨2 + 3, _, 7, cB8, g8, rfl, wk, by decide, rfl⟩) (en_ac (⟨2 + 3, _, 7, cB8, g8, rfl, wk, by decide, rfl⟩) (en_ac (⟨_, _, rfl, rfl, hne⟩) en_an)))))))) dlw_458 (fun u res H1 locs1 hrv hpo L1 => ?_)
        refine W.widen (k := cells + 8) (n := slots + 64) (Nat.add_le_add_left (Nat.le_of_ble_eq_true rfl) _) (Nat.add_le_add_left (Nat.le_of_ble_eq_true rfl) _) ?_
        obtain ⟨fs', I1⟩ := lw_rowA (k := 3) hLP (by decide) I L1.hD hpo rfl (show 0 < 7 by decide) (by decide +kernel) (by decide +kernel) (by decide +kernel) (by decide +kernel)
        exact k (lw_ul u.1, u.2) _ _ _ _ _ _ _ hrv I1 L1
    · have ha1 : (4 : Int) ≤ a1.toInt ∧ a1.toInt ≤ (4 : Int) := by omega
      have l16 : (5 : Int) ≤ x16.toInt := by omega
      have ec1 : a1.toNatClampNeg = 4 := by have := en_cN (x := a1) (by omega); omega
      obtain ⟨cA8, cB8, f8, g8, f0, w1, fk, wk, hne, b2, b3, b4, b5⟩ := lw_cup I (k := 4) (by decide) f16 (by omega)
      rcases hne with hne | hne
      · skip
        refine lw_mc (sh := lw_rl 4 sh) (lv' := 2) (ρp := [.ref (sh.2 0), .int a1, .int a2, .int a3, .int a4, .int a5, .int a6, .int x16, .int x21, .ref (sh.2 1), .ref (sh.2 (2 + 4)), .int (g8 2), .int (g8 4)]) (As := [.int a1, .int a2, .int a3, .int a4, .int a5, .int a6]) F L (ct_X7_area_0s4 hl9 (cx := cx) (cy := cy)) gm_X7_area I.hs.2.1 rfl rfl (Nat.le_of_ble_eq_true rfl) (by decide) ⟨Nat.le_trans (Nat.add_le_add_left (Nat.le_of_ble_eq_true rfl) _) hcs.1, Nat.le_trans (Nat.add_le_add_left (Nat.le_of_ble_eq_true rfl) _) hcs.2⟩ hls rfl (lw_toS (k := 4) (by decide) I.hsp.1 I.hsp.2.1 I.hsp.2.2.1 I.hsp.2.2.2.1 hw19 hf19 (lw_pre I.hs.1 (by decide) (Or.inr (by decide))) (by decide)) (lw_Om (lw_omr I.om I.hsp)) (lw_pa (env := k_X7_area_0s4.2.1.1) (fa := k_X7_area_0s4.2.1.2) ⟨⟨0, lw_r20 I.h20, rfl⟩, ⟨a1, rfl, ha1.1, ha1.2⟩, ⟨a2, rfl, hb2.1, hb2.2⟩, ⟨a3, rfl, en_lo a3, en_hi a3⟩, ⟨a4, rfl, en_lo a4, en_hi a4⟩, ⟨a5, rfl, en_lo a5, en_hi a5⟩, ⟨a6, rfl, en_lo a6, en_hi a6⟩, ⟨x16, rfl, l16, u16⟩, ⟨x21, rfl, l21, u21⟩, ⟨1, lw_r21 I.hsp.2.2.2.2, rfl⟩, ⟨2 + 4, lw_r22 (I.hsp.1 4 (by decide)), rfl⟩, ⟨g8 2, rfl, b2.1, b2.2⟩, ⟨g8 4, rfl, b4.1, b4.2⟩, trivial⟩ (en_ac (⟨0, _, 13, fs, _, rfl, I.hs.2.1, f16, rfl⟩) (en_ac (⟨0, _, 13, fs, _, rfl, I.hs.2.1, f21, rfl⟩) (en_ac (⟨0, _, 13, fs, _, rfl, I.hs.2.1, f0, rfl⟩) (en_ac (⟨1, _, 9, cA8, f8, a1, _, rfl, w1, rfl, by rw [ec1]; exact fk, rfl⟩) (en_ac (⟨2 + 4, _, 7, cB8, g8, rfl, wk, by decide, rfl⟩) (en_ac (⟨2 + 4, _, 7, cB8, g8, rfl, wk, by decide, rfl⟩) (en_ac (⟨_, _, rfl, rfl, hne⟩) en_an)))))))) dlw_458 (fun u res H1 locs1 hrv hpo L1 => ?_)
        refine W.widen (k := cells + 8) (n := slots + 64) (Nat.add_le_add_left (Nat.le_of_ble_eq_true rfl) _) (Nat.add_le_add_left (Nat.le_of_ble_eq_true rfl) _) ?_
        obtain ⟨fs', I1⟩ := lw_rowA (k := 4) hLP (by decide) I L1.hD hpo rfl (show 0 < 7 by decide) (by decide +kernel) (by decide +kernel) (by decide +kernel) (by decide +kernel)
        exact k (lw_ul u.1, u.2) _ _ _ _ _ _ _ hrv I1 L1
      · skip
        refine lw_mc (sh := lw_rl 4 sh) (lv' := 2) (ρp := [.ref (sh.2 0), .int a1, .int a2, .int a3, .int a4, .int a5, .int a6, .int x16, .int x21, .ref (sh.2 1), .ref (sh.2 (2 + 4)), .int (g8 3), .int (g8 5)]) (As := [.int a1, .int a2, .int a3, .int a4, .int a5, .int a6]) F L (ct_X7_area_1s4 hl9 (cx := cx) (cy := cy)) gm_X7_area I.hs.2.1 rfl rfl (Nat.le_of_ble_eq_true rfl) (by decide) ⟨Nat.le_trans (Nat.add_le_add_left (Nat.le_of_ble_eq_true rfl) _) hcs.1, Nat.le_trans (Nat.add_le_add_left (Nat.le_of_ble_eq_true rfl) _) hcs.2⟩ hls rfl (lw_toS (k := 4) (by decide) I.hsp.1 I.hsp.2.1 I.hsp.2.2.1 I.hsp.2.2.2.1 hw19 hf19 (lw_pre I.hs.1 (by decide) (Or.inr (by decide))) (by decide)) (lw_Om (lw_omr I.om I.hsp)) (lw_pa (env := k_X7_area_1s4.2.1.1) (fa := k_X7_area_1s4.2.1.2) ⟨⟨0, lw_r20 I.h20, rfl⟩, ⟨a1, rfl, ha1.1, ha1.2⟩, ⟨a2, rfl, hb2.1, hb2.2⟩, ⟨a3, rfl, en_lo a3, en_hi a3⟩, ⟨a4, rfl, en_lo a4, en_hi a4⟩, ⟨a5, rfl, en_lo a5, en_hi a5⟩, ⟨a6, rfl, en_lo a6, en_hi a6⟩, ⟨x16, rfl, l16, u16⟩, ⟨x21, rfl, l21, u21⟩, ⟨1, lw_r21 I.hsp.2.2.2.2, rfl⟩, ⟨2 + 4, lw_r22 (I.hsp.1 4 (by decide)), rfl⟩, ⟨g8 3, rfl, b3.1, b3.2⟩, ⟨g8 5, rfl, b5.1, b5.2⟩, trivial⟩ (en_ac (⟨0, _, 13, fs, _, rfl, I.hs.2.1, f16, rfl⟩) (en_ac (⟨0, _, 13, fs, _, rfl, I.hs.2.1, f21, rfl⟩) (en_ac (⟨0, _, 13, fs, _, rfl, I.hs.2.1, f0, rfl⟩) (en_ac (⟨1, _, 9, cA8, f8, a1, _, rfl, w1, rfl, by rw [ec1]; exact fk, rfl⟩) (en_ac (⟨2 + 4, _, 7, cB8, g8, rfl, wk, by decide, rfl⟩) (en_ac (⟨2 + 4, _, 7, cB8, g8, rfl, wk, by decide, rfl⟩) (en_ac (⟨_, _, rfl, rfl, hne⟩) en_an)))))))) dlw_458 (fun u res H1 locs1 hrv hpo L1 => ?_)
        refine W.widen (k := cells + 8) (n := slots + 64) (Nat.add_le_add_left (Nat.le_of_ble_eq_true rfl) _) (Nat.add_le_add_left (Nat.le_of_ble_eq_true rfl) _) ?_
        obtain ⟨fs', I1⟩ := lw_rowA (k := 4) hLP (by decide) I L1.hD hpo rfl (show 0 < 7 by decide) (by decide +kernel) (by decide +kernel) (by decide +kernel) (by decide +kernel)
        exact k (lw_ul u.1, u.2) _ _ _ _ _ _ _ hrv I1 L1
    · have ha1 : (5 : Int) ≤ a1.toInt ∧ a1.toInt ≤ (5 : Int) := by omega
      have l16 : (6 : Int) ≤ x16.toInt := by omega
      have ec1 : a1.toNatClampNeg = 5 := by have := en_cN (x := a1) (by omega); omega
      obtain ⟨cA8, cB8, f8, g8, f0, w1, fk, wk, hne, b2, b3, b4, b5⟩ := lw_cup I (k := 5) (by decide) f16 (by omega)
      rcases hne with hne | hne
      · skip
        refine lw_mc (sh := lw_rl 5 sh) (lv' := 2) (ρp := [.ref (sh.2 0), .int a1, .int a2, .int a3, .int a4, .int a5, .int a6, .int x16, .int x21, .ref (sh.2 1), .ref (sh.2 (2 + 5)), .int (g8 2), .int (g8 4)]) (As := [.int a1, .int a2, .int a3, .int a4, .int a5, .int a6]) F L (ct_X7_area_0s5 hl9 (cx := cx) (cy := cy)) gm_X7_area I.hs.2.1 rfl rfl (Nat.le_of_ble_eq_true rfl) (by decide) ⟨Nat.le_trans (Nat.add_le_add_left (Nat.le_of_ble_eq_true rfl) _) hcs.1, Nat.le_trans (Nat.add_le_add_left (Nat.le_of_ble_eq_true rfl) _) hcs.2⟩ hls rfl (lw_toS (k := 5) (by decide) I.hsp.1 I.hsp.2.1 I.hsp.2.2.1 I.hsp.2.2.2.1 hw19 hf19 (lw_pre I.hs.1 (by decide) (Or.inr (by decide))) (by decide)) (lw_Om (lw_omr I.om I.hsp)) (lw_pa (env := k_X7_area_0s5.2.1.1) (fa := k_X7_area_0s5.2.1.2) ⟨⟨0, lw_r20 I.h20, rfl⟩, ⟨a1, rfl, ha1.1, ha1.2⟩, ⟨a2, rfl, hb2.1, hb2.2⟩, ⟨a3, rfl, en_lo a3, en_hi a3⟩, ⟨a4, rfl, en_lo a4, en_hi a4⟩, ⟨a5, rfl, en_lo a5, en_hi a5⟩, ⟨a6, rfl, en_lo a6, en_hi a6⟩, ⟨x16, rfl, l16, u16⟩, ⟨x21, rfl, l21, u21⟩, ⟨1, lw_r21 I.hsp.2.2.2.2, rfl⟩, ⟨2 + 5, lw_r22 (I.hsp.1 5 (by decide)), rfl⟩, ⟨g8 2, rfl, b2.1, b2.2⟩, ⟨g8 4, rfl, b4.1, b4.2⟩, trivial⟩ (en_ac (⟨0, _, 13, fs, _, rfl, I.hs.2.1, f16, rfl⟩) (en_ac (⟨0, _, 13, fs, _, rfl, I.hs.2.1, f21, rfl⟩) (en_ac (⟨0, _, 13, fs, _, rfl, I.hs.2.1, f0, rfl⟩) (en_ac (⟨1, _, 9, cA8, f8, a1, _, rfl, w1, rfl, by rw [ec1]; exact fk, rfl⟩) (en_ac (⟨2 + 5, _, 7, cB8, g8, rfl, wk, by decide, rfl⟩) (en_ac (⟨2 + 5, _, 7, cB8, g8, rfl, wk, by decide, rfl⟩) (en_ac (⟨_, _, rfl, rfl, hne⟩) en_an)))))))) dlw_458 (fun u res H1 locs1 hrv hpo L1 => ?_)
        refine W.widen (k := cells + 8) (n := slots + 64) (Nat.add_le_add_left (Nat.le_of_ble_eq_true rfl) _) (Nat.add_le_add_left (Nat.le_of_ble_eq_true rfl) _) ?_
        obtain ⟨fs', I1⟩ := lw_rowA (k := 5) hLP (by decide) I L1.hD hpo rfl (show 0 < 7 by decide) (by decide +kernel) (by decide +kernel) (by decide +kernel) (by decide +kernel)
        exact k (lw_ul u.1, u.2) _ _ _ _ _ _ _ hrv I1 L1
      · skip
        refine lw_mc (sh := lw_rl 5 sh) (lv' := 2) (ρp := [.ref (sh.2 0), .int a1, .int a2, .int a3, .int a4, .int a5, .int a6, .int x16, .int x21, .ref (sh.2 1), .ref (sh.2 (2 + 5)), .int (g8 3), .int (g8 5)]) (As := [.int a1, .int a2, .int a3, .int a4, .int a5, .int a6]) F L (ct_X7_area_1s5 hl9 (cx := cx) (cy := cy)) gm_X7_area I.hs.2.1 rfl rfl (Nat.le_of_ble_eq_true rfl) (by decide) ⟨Nat.le_trans (Nat.add_le_add_left (Nat.le_of_ble_eq_true rfl) _) hcs.1, Nat.le_trans (Nat.add_le_add_left (Nat.le_of_ble_eq_true rfl) _) hcs.2⟩ hls rfl (lw_toS (k := 5) (by decide) I.hsp.1 I.hsp.2.1 I.hsp.2.2.1 I.hsp.2.2.2.1 hw19 hf19 (lw_pre I.hs.1 (by decide) (Or.inr (by decide))) (by decide)) (lw_Om (lw_omr I.om I.hsp)) (lw_pa (env := k_X7_area_1s5.2.1.1) (fa := k_X7_area_1s5.2.1.2) ⟨⟨0, lw_r20 I.h20, rfl⟩, ⟨a1, rfl, ha1.1, ha1.2⟩, ⟨a2, rfl, hb2.1, hb2.2⟩, ⟨a3, rfl, en_lo a3, en_hi a3⟩, ⟨a4, rfl, en_lo a4, en_hi a4⟩, ⟨a5, rfl, en_lo a5, en_hi a5⟩, ⟨a6, rfl, en_lo a6, en_hi a6⟩, ⟨x16, rfl, l16, u16⟩, ⟨x21, rfl, l21, u21⟩, ⟨1, lw_r21 I.hsp.2.2.2.2, rfl⟩, ⟨2 + 5, lw_r22 (I.hsp.1 5 (by decide)), rfl⟩, ⟨g8 3, rfl, b3.1, b3.2⟩, ⟨g8 5, rfl, b5.1, b5.2⟩, trivial⟩ (en_ac (⟨0, _, 13, fs, _, rfl, I.hs.2.1, f16, rfl⟩) (en_ac (⟨0, _, 13, fs, _, rfl, I.hs.2.1, f21, rfl⟩) (en_ac (⟨0, _, 13, fs, _, rfl, I.hs.2.1, f0, rfl⟩) (en_ac (⟨1, _, 9, cA8, f8, a1, _, rfl, w1, rfl, by rw [ec1]; exact fk, rfl⟩) (en_ac (⟨2 + 5, _, 7, cB8, g8, rfl, wk, by decide, rfl⟩) (en_ac (⟨2 + 5, _, 7, cB8, g8, rfl, wk, by decide, rfl⟩) (en_ac (⟨_, _, rfl, rfl, hne⟩) en_an)))))))) dlw_458 (fun u res H1 locs1 hrv hpo L1 => ?_)
        refine W.widen (k := cells + 8) (n := slots + 64) (Nat.add_le_add_left (Nat.le_of_ble_eq_true rfl) _) (Nat.add_le_add_left (Nat.le_of_ble_eq_true rfl) _) ?_
        obtain ⟨fs', I1⟩ := lw_rowA (k := 5) hLP (by decide) I L1.hD hpo rfl (show 0 < 7 by decide) (by decide +kernel) (by decide +kernel) (by decide +kernel) (by decide +kernel)
        exact k (lw_ul u.1, u.2) _ _ _ _ _ _ _ hrv I1 L1
    · have ha1 : (6 : Int) ≤ a1.toInt ∧ a1.toInt ≤ (6 : Int) := by omega
      have l16 : (7 : Int) ≤ x16.toInt := by omega
      have ec1 : a1.toNatClampNeg = 6 := by have := en_cN (x := a1) (by omega); omega
      obtain ⟨cA8, cB8, f8, g8, f0, w1, fk, wk, hne, b2, b3, b4, b5⟩ := lw_cup I (k := 6) (by decide) f16 (by omega)
      rcases hne with hne | hne
      · skip
        refine lw_mc (sh := lw_rl 6 sh) (lv' := 2) (ρp := [.ref (sh.2 0), .int a1, .int a2, .int a3, .int a4, .int a5, .int a6, .int x16, .int x21, .ref (sh.2 1), .ref (sh.2 (2 + 6)), .int (g8 2), .int (g8 4)]) (As := [.int a1, .int a2, .int a3, .int a4, .int a5, .int a6]) F L (ct_X7_area_0s6 hl9 (cx := cx) (cy := cy)) gm_X7_area I.hs.2.1 rfl rfl (Nat.le_of_ble_eq_true rfl) (by decide) ⟨Nat.le_trans (Nat.add_le_add_left (Nat.le_of_ble_eq_true rfl) _) hcs.1, Nat.le_trans (Nat.add_le_add_left (Nat.le_of_ble_eq_true rfl) _) hcs.2⟩ hls rfl (lw_toS (k := 6) (by decide) I.hsp.1 I.hsp.2.1 I.hsp.2.2.1 I.hsp.2.2.2.1 hw19 hf19 (lw_pre I.hs.1 (by decide) (Or.inr (by decide))) (by decide)) (lw_Om (lw_omr I.om I.hsp)) (lw_pa (env := k_X7_area_0s6.2.1.1) (fa := k_X7_area_0s6.2.1.2) ⟨⟨0, lw_r20 I.h20, rfl⟩, ⟨a1, rfl, ha1.1, ha1.2⟩, ⟨a2, rfl, hb2.1, hb2.2⟩, ⟨a3, rfl, en_lo a3, en_hi a3⟩, ⟨a4, rfl, en_lo a4, en_hi a4⟩, ⟨a5, rfl, en_lo a5, en_hi a5⟩, ⟨a6, rfl, en_lo a6, en_hi a6⟩, ⟨x16, rfl, l16, u16⟩, ⟨x21, rfl, l21, u21⟩, ⟨1, lw_r21 I.hsp.2.2.2.2, rfl⟩, ⟨2 + 6, lw_r22 (I.hsp.1 6 (by decide)), rfl⟩, ⟨g8 2, rfl, b2.1, b2.2⟩, ⟨g8 4, rfl, b4.1, b4.2⟩, trivial⟩ (en_ac (⟨0, _, 13, fs, _, rfl, I.hs.2.1, f16, rfl⟩) (en_ac (⟨0, _, 13, fs, _, rfl, I.hs.2.1, f21, rfl⟩) (en_ac (⟨0, _, 13, fs, _, rfl, I.hs.2.1, f0, rfl⟩) (en_ac (⟨1, _, 9, cA8, f8, a1, _, rfl, w1, rfl, by rw [ec1]; exact fk, rfl⟩) (en_ac (⟨2 + 6, _, 7, cB8, g8, rfl, wk, by decide, rfl⟩) (en_ac (⟨2 + 6, _, 7, cB8, g8, rfl, wk, by decide, rfl⟩) (en_ac (⟨_, _, rfl, rfl, hne⟩) en_an)))))))) dlw_458 (fun u res H1 locs1 hrv hpo L1 => ?_)
        refine W.widen (k := cells + 8) (n := slots + 64) (Nat.add_le_add_left (Nat.le_of_ble_eq_true rfl) _) (Nat.add_le_add_left (Nat.le_of_ble_eq_true rfl) _) ?_
        obtain ⟨fs', I1⟩ := lw_rowA (k := 6) hLP (by decide) I L1.hD hpo rfl (show 0 < 7 by decide) (by decide +kernel) (by decide +kernel) (by decide +kernel) (by decide +kernel)
        exact k (lw_ul u.1, u.2) _ _ _ _ _ _ _ hrv I1 L1
      · skip
        refine lw_mc (sh := lw_rl 6 sh) (lv' := 2) (ρp := [.ref (sh.2 0), .int a1, .int a2, .int a3, .int a4, .int a5, .int a6, .int x16, .int x21, .ref (sh.2 1), .ref (sh.2 (2 + 6)), .int (g8 3), .int (g8 5)]) (As := [.int a1, .int a2, .int a3, .int a4, .int a5, .int a6]) F L (ct_X7_area_1s6 hl9 (cx := cx) (cy := cy)) gm_X7_area I.hs.2.1 rfl rfl (Nat.le_of_ble_eq_true rfl) (by decide) ⟨Nat.le_trans (Nat.add_le_add_left (Nat.le_of_ble_eq_true rfl) _) hcs.1, Nat.le_trans (Nat.add_le_add_left (Nat.le_of_ble_eq_true rfl) _) hcs.2⟩ hls rfl (lw_toS (k := 6) (by decide) I.hsp.1 I.hsp.2.1 I.hsp.2.2.1 I.hsp.2.2.2.1 hw19 hf19 (lw_pre I.hs.1 (by decide) (Or.inr (by decide))) (by decide)) (lw_Om (lw_omr I.om I.hsp)) (lw_pa (env := k_X7_area_1s6.2.1.1) (fa := k_X7_area_1s6.2.1.2) ⟨⟨0, lw_r20 I.h20, rfl⟩, ⟨a1, rfl, ha1.1, ha1.2⟩, ⟨a2, rfl, hb2.1, hb2.2⟩, ⟨a3, rfl, en_lo a3, en_hi a3⟩, ⟨a4, rfl, en_lo a4, en_hi a4⟩, ⟨a5, rfl, en_lo a5, en_hi a5⟩, ⟨a6, rfl, en_lo a6, en_hi a6⟩, ⟨x16, rfl, l16, u16⟩, ⟨x21, rfl, l21, u21⟩, ⟨1, lw_r21 I.hsp.2.2.2.2, rfl⟩, ⟨2 + 6, lw_r22 (I.hsp.1 6 (by decide)), rfl⟩, ⟨g8 3, rfl, b3.1, b3.2⟩, ⟨g8 5, rfl, b5.1, b5.2⟩, trivial⟩ (en_ac (⟨0, _, 13, fs, _, rfl, I.hs.2.1, f16, rfl⟩) (en_ac (⟨0, _, 13, fs, _, rfl, I.hs.2.1, f21, rfl⟩) (en_ac (⟨0, _, 13, fs, _, rfl, I.hs.2.1, f0, rfl⟩) (en_ac (⟨1, _, 9, cA8, f8, a1, _, rfl, w1, rfl, by rw [ec1]; exact fk, rfl⟩) (en_ac (⟨2 + 6, _, 7, cB8, g8, rfl, wk, by decide, rfl⟩) (en_ac (⟨2 + 6, _, 7, cB8, g8, rfl, wk, by decide, rfl⟩) (en_ac (⟨_, _, rfl, rfl, hne⟩) en_an)))))))) dlw_458 (fun u res H1 locs1 hrv hpo L1 => ?_)
        refine W.widen (k := cells + 8) (n := slots + 64) (Nat.add_le_add_left (Nat.le_of_ble_eq_true rfl) _) (Nat.add_le_add_left (Nat.le_of_ble_eq_true rfl) _) ?_
        obtain ⟨fs', I1⟩ := lw_rowA (k := 6) hLP (by decide) I L1.hD hpo rfl (show 0 < 7 by decide) (by decide +kernel) (by decide +kernel) (by decide +kernel) (by decide +kernel)
        exact k (lw_ul u.1, u.2) _ _ _ _ _ _ _ hrv I1 L1
    · have ha1 : (7 : Int) ≤ a1.toInt ∧ a1.toInt ≤ (7 : Int) := by omega
      have l16 : (8 : Int) ≤ x16.toInt := by omega
      have ec1 : a1.toNatClampNeg = 7 := by have := en_cN (x := a1) (by omega); omega
      obtain ⟨cA8, cB8, f8, g8, f0, w1, fk, wk, hne, b2, b3, b4, b5⟩ := lw_cup I (k := 7) (by decide) f16 (by omega)
      rcases hne with hne | hne
      · skip
        refine lw_mc (sh := lw_rl 7 sh) (lv' := 2) (ρp := [.ref (sh.2 0), .int a1, .int a2, .int a3, .int a4, .int a5, .int a6, .int x16, .int x21, .ref (sh.2 1), .ref (sh.2 (2 + 7)), .int (g8 2), .int (g8 4)]) (As := [.int a1, .int a2, .int a3, .int a4, .int a5, .int a6]) F L (ct_X7_area_0s7 hl9 (cx := cx) (cy := cy)) gm_X7_area I.hs.2.1 rfl rfl (Nat.le_of_ble_eq_true rfl) (by decide) ⟨Nat.le_trans (Nat.add_le_add_left (Nat.le_of_ble_eq_true rfl) _) hcs.1, Nat.le_trans (Nat.add_le_add_left (Nat.le_of_ble_eq_true rfl) _) hcs.2⟩ hls rfl (lw_toS (k := 7) (by decide) I.hsp.1 I.hsp.2.1 I.hsp.2.2.1 I.hsp.2.2.2.1 hw19 hf19 (lw_pre I.hs.1 (by decide) (Or.inr (by decide))) (by decide)) (lw_Om (lw_omr I.om I.hsp)) (lw_pa (env := k_X7_area_0s7.2.1.1) (fa := k_X7_area_0s7.2.1.2) ⟨⟨0, lw_r20 I.h20, rfl⟩, ⟨a1, rfl, ha1.1, ha1.2⟩, ⟨a2, rfl, hb2.1, hb2.2⟩, ⟨a3, rfl, en_lo a3, en_hi a3⟩, ⟨a4, rfl, en_lo a4, en_hi a4⟩, ⟨a5, rfl, en_lo a5, en_hi a5⟩, ⟨a6, rfl, en_lo a6, en_hi a6⟩, ⟨x16, rfl, l16, u16⟩, ⟨x21, rfl, l21, u21⟩, ⟨1, lw_r21 I.hsp.2.2.2.2, rfl⟩, ⟨2 + 7, lw_r22 (I.hsp.1 7 (by decide)), rfl⟩, ⟨g8 2, rfl, b2.1, b2.2⟩, ⟨g8 4, rfl, b4.1, b4.2⟩, trivial⟩ (en_ac (⟨0, _, 13, fs, _, rfl, I.hs.2.1, f16, rfl⟩) (en_ac (⟨0, _, 13, fs, _, rfl, I.hs.2.1, f21, rfl⟩) (en_ac (⟨0, _, 13, fs, _, rfl, I.hs.2.1, f0, rfl⟩) (en_ac (⟨1, _, 9, cA8, f8, a1, _, rfl, w1, rfl, by rw [ec1]; exact fk, rfl⟩) (en_ac (⟨2 + 7, _, 7, cB8, g8, rfl, wk, by decide, rfl⟩) (en_ac (⟨2 + 7, _, 7, cB8, g8, rfl, wk, by decide, rfl⟩) (en_ac (⟨_, _, rfl, rfl, hne⟩) en_an)))))))) dlw_458 (fun u res H1 locs1 hrv hpo L1 => ?_)
        refine W.widen (k := cells + 8) (n := slots + 64) (Nat.add_le_add_left (Nat.le_of_ble_eq_true rfl) _) (Nat.add_le_add_left (Nat.le_of_ble_eq_true rfl) _) ?_
        obtain ⟨fs', I1⟩ := lw_rowA (k := 7) hLP (by decide) I L1.hD hpo rfl (show 0 < 7 by decide) (by decide +kernel) (by decide +kernel) (by decide +kernel) (by decide +kernel)
        exact k (lw_ul u.1, u.2) _ _ _ _ _ _ _ hrv I1 L1
      · skip
        refine lw_mc (sh := lw_rl 7 sh) (lv' := 2) (ρp := [.ref (sh.2 0), .int a1, .int a2, .int a3, .int a4, .int a5, .int a6, .int x16, .int x21, .ref (sh.2 1), .ref (sh.2 (2 + 7)), .int (g8 3), .int (g8 5)]) (As := [.int a1, .int a2, .int a3, .int a4, .int a5, .int a6]) F L (ct_X7_area_1s7 hl9 (cx := cx) (cy := cy)) gm_X7_area I.hs.2.1 rfl rfl (Nat.le_of_ble_eq_true rfl) (by decide) ⟨Nat.le_trans (Nat.add_le_add_left (Nat.le_of_ble_eq_true rfl) _) hcs.1, Nat.le_trans (Nat.add_le_add_left (Nat.le_of_ble_eq_true rfl) _) hcs.2⟩ hls rfl (lw_toS (k := 7) (by decide) I.hsp.1 I.hsp.2.1 I.hsp.2.2.1 I.hsp.2.2.2.1 hw19 hf19 (lw_pre I.hs.1 (by decide) (Or.inr (by decide))) (by decide)) (lw_Om (lw_omr I.om I.hsp)) (lw_pa (env := k_X7_area_1s7.2.1.1) (fa := k_X7_area_1s7.2.1.2) ⟨⟨0, lw_r20 I.h20, rfl⟩, ⟨a1, rfl, ha1.1, ha1.2⟩, ⟨a2, rfl, hb2.1, hb2.2⟩, ⟨a3, rfl, en_lo a3, en_hi a3⟩, ⟨a4, rfl, en_lo a4, en_hi a4⟩, ⟨a5, rfl, en_lo a5, en_hi a5⟩, ⟨a6, rfl, en_lo a6, en_hi a6⟩, ⟨x16, rfl, l16, u16⟩, ⟨x21, rfl, l21, u21⟩, ⟨1, lw_r21 I.hsp.2.2.2.2, rfl⟩, ⟨2 + 7, lw_r22 (I.hsp.1 7 (by decide)), rfl⟩, ⟨g8 3, rfl, b3.1, b3.2⟩, ⟨g8 5, rfl, b5.1, b5.2⟩, trivial⟩ (en_ac (⟨0, _, 13, fs, _, rfl, I.hs.2.1, f16, rfl⟩) (en_ac (⟨0, _, 13, fs, _, rfl, I.hs.2.1, f21, rfl⟩) (en_ac (⟨0, _, 13, fs, _, rfl, I.hs.2.1, f0, rfl⟩) (en_ac (⟨1, _, 9, cA8, f8, a1, _, rfl, w1, rfl, by rw [ec1]; exact fk, rfl⟩) (en_ac (⟨2 + 7, _, 7, cB8, g8, rfl, wk, by decide, rfl⟩) (en_ac (⟨2 + 7, _, 7, cB8, g8, rfl, wk, by decide, rfl⟩) (en_ac (⟨_, _, rfl, rfl, hne⟩) en_an)))))))) dlw_458 (fun u res H1 locs1 hrv hpo L1 => ?_)
        refine W.widen (k := cells + 8) (n := slots + 64) (Nat.add_le_add_left (Nat.le_of_ble_eq_true rfl) _) (Nat.add_le_add_left (Nat.le_of_ble_eq_true rfl) _) ?_
        obtain ⟨fs', I1⟩ := lw_rowA (k := 7) hLP (by decide) I L1.hD hpo rfl (show 0 < 7 by decide) (by decide +kernel) (by decide +kernel) (by decide +kernel) (by decide +kernel)
        exact k (lw_ul u.1, u.2) _ _ _ _ _ _ _ hrv I1 L1
    · have ha1 : (8 : Int) ≤ a1.toInt ∧ a1.toInt ≤ (8 : Int) := by omega
      have l16 : (9 : Int) ≤ x16.toInt := by omega
      have ec1 : a1.toNatClampNeg = 8 := by have := en_cN (x := a1) (by omega); omega
      obtain ⟨cA8, cB8, f8, g8, f0, w1, fk, wk, hne, b2, b3, b4, b5⟩ := lw_cup I (k := 8) (by decide) f16 (by omega)
      rcases hne with hne | hne
      · skip
        refine lw_mc (sh := lw_rl 8 sh) (lv' := 2) (ρp := [.ref (sh.2 0), .int a1, .int a2, .int a3, .int a4, .int a5, .int a6, .int x16, .int x21, .ref (sh.2 1), .ref (sh.2 (2 + 8)), .int (g8 2), .int (g8 4)]) (As := [.int a1, .int a2, .int a3, .int a4, .int a5, .int a6]) F L (ct_X7_area_0s8 hl9 (cx := cx) (cy := cy)) gm_X7_area I.hs.2.1 rfl rfl (Nat.le_of_ble_eq_true rfl) (by decide) ⟨Nat.le_trans (Nat.add_le_add_left (Nat.le_of_ble_eq_true rfl) _) hcs.1, Nat.le_trans (Nat.add_le_add_left (Nat.le_of_ble_eq_true rfl) _) hcs.2⟩ hls rfl (lw_toS (k := 8) (by decide) I.hsp.1 I.hsp.2.1 I.hsp.2.2.1 I.hsp.2.2.2.1 hw19 hf19 (lw_pre I.hs.1 (by decide) (Or.inr (by decide))) (by decide)) (lw_Om (lw_omr I.om I.hsp)) (lw_pa (env := k_X7_area_0s8.2.1.1) (fa := k_X7_area_0s8.2.1.2) ⟨⟨0, lw_r20 I.h20, rfl⟩, ⟨a1, rfl, ha1.1, ha1.2⟩, ⟨a2, rfl, hb2.1, hb2.2⟩, ⟨a3, rfl, en_lo a3, en_hi a3⟩, ⟨a4, rfl, en_lo a4, en_hi a4⟩, ⟨a5, rfl, en_lo a5, en_hi a5⟩, ⟨a6, rfl, en_lo a6, en_hi a6⟩, ⟨x16, rfl, l16, u16⟩, ⟨x21, rfl, l21, u21⟩, ⟨1, lw_r21 I.hsp.2.2.2.2, rfl⟩, ⟨2 + 8, lw_r22 (I.hsp.1 8 (by decide)), rfl⟩, ⟨g8 2, rfl, b2.1, b2.2⟩, ⟨g8 4, rfl, b4.1, b4.2⟩, trivial⟩ (en_ac (⟨0, _, 13, fs, _, rfl, I.hs.2.1, f16, rfl⟩) (en_ac (⟨0, _, 13, fs, _, rfl, I.hs.2.1, f21, rfl⟩) (en_ac (⟨0, _, 13, fs, _, rfl, I.hs.2.1, f0, rfl⟩) (en_ac (⟨1, _, 9, cA8, f8, a1, _, rfl, w1, rfl, by rw [ec1]; exact fk, rfl⟩) (en_ac (⟨2 + 8, _, 7, cB8, g8, rfl, wk, by decide, rfl⟩) (en_ac (⟨2 + 8, _, 7, cB8, g8, rfl, wk, by decide, rfl⟩) (en_ac (⟨_, _, rfl, rfl, hne⟩) en_an)))))))) dlw_458 (fun u res H1 locs1 hrv hpo L1 => ?_)
        refine W.widen (k := cells + 8) (n := slots + 64) (Nat.add_le_add_left (Nat.le_of_ble_eq_true rfl) _) (Nat.add_le_add_left (Nat.le_of_ble_eq_true rfl) _) ?_
        obtain ⟨fs', I1⟩ := lw_rowA (k := 8) hLP (by decide) I L1.hD hpo rfl (show 0 < 7 by decide) (by decide +kernel) (by decide +kernel) (by decide +kernel) (by decide +kernel)
        exact k (lw_ul u.1, u.2) _ _ _ _ _ _ _ hrv I1 L1
      · skip
        refine lw_mc (sh := lw_rl 8 sh) (lv' := 2) (ρp := [.ref (sh.2 0), .int a1, .int a2, .int a3, .int a4, .int a5, .int a6, .int x16, .int x21, .ref (sh.2 1), .ref (sh.2 (2 + 8)), .int (g8 3), .int (g8 5)]) (As := [.int a1, .int a2, .int a3, .int a4, .int a5, .int a6]) F L (ct_X7_area_1s8 hl9 (cx := cx) (cy := cy)) gm_X7_area I.hs.2.1 rfl rfl (Nat.le_of_ble_eq_true rfl) (by decide) ⟨Nat.le_trans (Nat.add_le_add_left (Nat.le_of_ble_eq_true rfl) _) hcs.1, Nat.le_trans (Nat.add_le_add_left (Nat.le_of_ble_eq_true rfl) _) hcs.2⟩ hls rfl (lw_toS (k := 8) (by decide) I.hsp.1 I.hsp.2.1 I.hsp.2.2.1 I.hsp.2.2.2.1 hw19 hf19 (lw_pre I.hs.1 (by decide) (Or.inr (by decide))) (by decide)) (lw_Om (lw_omr I.om I.hsp)) (lw_pa (env := k_X7_area_1s8.2.1.1) (fa := k_X7_area_1s8.2.1.2) ⟨⟨0, lw_r20 I.h20, rfl⟩, ⟨a1, rfl, ha1.1, ha1.2⟩, ⟨a2, rfl, hb2.1, hb2.2⟩, ⟨a3, rfl, en_lo a3, en_hi a3⟩, ⟨a4, rfl, en_lo a4, en_hi a4⟩, ⟨a5, rfl, en_lo a5, en_hi a5⟩, ⟨a6, rfl, en_lo a6, en_hi a6⟩, ⟨x16, rfl, l16, u16⟩, ⟨x21, rfl, l21, u21⟩, ⟨1, lw_r21 I.hsp.2.2.2.2, rfl⟩, ⟨2 + 8, lw_r22 (I.hsp.1 8 (by decide)), rfl⟩, ⟨g8 3, rfl, b3.1, b3.2⟩, ⟨g8 5, rfl, b5.1, b5.2⟩, trivial⟩ (en_ac (⟨0, _, 13, fs, _, rfl, I.hs.2.1, f16, rfl⟩) (en_ac (⟨0, _, 13, fs, _, rfl, I.hs.2.1, f21, rfl⟩) (en_ac (⟨0, _, 13, fs, _, rfl, I.hs.2.1, f0, rfl⟩) (en_ac (⟨1, _, 9, cA8, f8, a1, _, rfl, w1, rfl, by rw [ec1]; exact fk, rfl⟩) (en_ac (⟨2 + 8, _, 7, cB8, g8, rfl, wk, by decide, rfl⟩) (en_ac (⟨2 + 8, _, 7, cB8, g8, rfl, wk, by decide, rfl⟩) (en_ac (⟨_, _, rfl, rfl, hne⟩) en_an)))))))) dlw_458 (fun u res H1 locs1 hrv hpo L1 => ?_)
        refine W.widen (k := cells + 8) (n := slots + 64) (Nat.add_le_add_left (Nat.le_of_ble_eq_true rfl) _) (Nat.add_le_add_left (Nat.le_of_ble_eq_true rfl) _) ?_
        obtain ⟨fs', I1⟩ := lw_rowA (k := 8) hLP (by decide) I L1.hD hpo rfl (show 0 < 7 by decide) (by decide +kernel) (by decide +kernel) (by decide +kernel) (by decide +kernel)
        exact k (lw_ul u.1, u.2) _ _ _ _ _ _ _ hrv I1 L1
  · skip
    obtain ⟨x21, f21, l21, u21⟩ := lw_b21 h1 I.hst I.hs.2.2.1
    refine lw_mc (lv' := 2) (ρp := [.ref (sh.2 0), .int a1, .int a2, .int a3, .int a4, .int a5, .int a6, .int x21]) (As := [.int a1, .int a2, .int a3, .int a4, .int a5, .int a6]) F L (ct_X7_area_0 hl9 (cx := cx) (cy := cy)) gm_X7_area I.hs.2.1 rfl rfl (Nat.le_of_ble_eq_true rfl) (by decide) ⟨Nat.le_trans (Nat.add_le_add_left (Nat.le_of_ble_eq_true rfl) _) hcs.1, Nat.le_trans (Nat.add_le_add_left (Nat.le_of_ble_eq_true rfl) _) hcs.2⟩ hls rfl (lw_pre I.hs.1 (by decide) (Or.inr (by decide))) (I.hO cx cy) (lw_pa (env := k_X7_area_0.2.1.1) (fa := k_X7_area_0.2.1.2) ⟨⟨0, I.h20, rfl⟩, ⟨a1, rfl, en_lo a1, en_hi a1⟩, ⟨a2, rfl, hb2.1, hb2.2⟩, ⟨a3, rfl, en_lo a3, en_hi a3⟩, ⟨a4, rfl, en_lo a4, en_hi a4⟩, ⟨a5, rfl, en_lo a5, en_hi a5⟩, ⟨a6, rfl, en_lo a6, en_hi a6⟩, ⟨x21, rfl, l21, u21⟩, trivial⟩ (en_ac (lw_f0 I.hs.2.1 rfl f21 rfl) (en_an))) dlw_458 (fun u res H1 locs1 hrv hpo L1 => ?_)
    refine W.widen (k := cells + 8) (n := slots + 64) (Nat.add_le_add_left (Nat.le_of_ble_eq_true rfl) _) (Nat.add_le_add_left (Nat.le_of_ble_eq_true rfl) _) ?_
    obtain ⟨fs', I1⟩ := lw_Iqq hLP I hpo.1 (by decide +kernel) (lw_q1 h1 I.hst (by decide +kernel)) (by decide +kernel) (by decide +kernel) (lw_Io I hpo.1 (by decide +kernel)) (lw_Id I hpo.1 (by decide +kernel))
    exact k _ _ _ _ _ _ _ _ hrv I1 L1
set_option maxHeartbeats 4000000 in
theorem lm_X7_aside (hl9 : l.stackTraces = false) (a1 : Int32) (a2 : Int32) (a3 : Int32) (hLP : lw_st LP) (F : lw_Fm p R s m args c D tys cO cD A) (L : lw_H D A s w H locs) (I : lw_I E LP tys cO cD qx qo qd sh w st cx cy fs) (hls : ls.size = 9) (hcs : cells + 8 ≤ R.cells ∧ slots + 64 ≤ R.slots)
    (k : ∀ (u : en_H × va_W) (res : Option Value) (H1 : Heap) (locs1 : List Loc) (st' : Nat) (cx' cy' : Int32) (fs' : List Value), en_rv 0 res → lw_I E LP tys cO cD qx qo qd u.1 u.2 st' cx' cy' fs' → lw_H D A s u.2 H1 locs1 → W p l e R s m args below meth c H1 locs1 (cells + 8) (slots + 64) Q (F0 m 1044 ls (res.toList ++ []))) :
    W p l e R s m args below meth c H locs cells slots Q (F0 m 1041 ls (([.int a1, .int a2, .int a3] : List Value).reverse ++ [.ref (sh.2 0)])) := by
  by_cases h3 : 3 ≤ st
  · skip
    obtain ⟨⟨x22, f22, l22, u22⟩, ⟨x16, f16, l16, u16⟩, x25, f25, l25, u25⟩ := lw_bon h3 I.hs.2.2.1
    have hOc := (I.hs.2.2.2.2 h3).2.1
    have hAh := (I.hs.2.2.2.2 h3).2.2
    rcases hAh with hAl | f28
    · skip
      refine lw_mc (lv' := 3) (ρp := [.ref (sh.2 0), .int a1, .int a2, .int a3, .int x22, .int x25]) (As := [.int a1, .int a2, .int a3]) F L (ct_X7_aside_1 hl9 (cx := cx) (cy := cy)) gm_X7_aside I.hs.2.1 rfl rfl (Nat.le_of_ble_eq_true rfl) (by decide) ⟨Nat.le_trans (Nat.add_le_add_left (Nat.le_of_ble_eq_true rfl) _) hcs.1, Nat.le_trans (Nat.add_le_add_left (Nat.le_of_ble_eq_true rfl) _) hcs.2⟩ hls rfl (lw_pre I.hs.1 (by decide) (Or.inl h3)) (I.hO cx cy) (lw_pa (env := k_X7_aside_1.2.1.1) (fa := k_X7_aside_1.2.1.2) ⟨⟨0, I.h20, rfl⟩, ⟨a1, rfl, en_lo a1, en_hi a1⟩, ⟨a2, rfl, en_lo a2, en_hi a2⟩, ⟨a3, rfl, en_lo a3, en_hi a3⟩, ⟨x22, rfl, l22, u22⟩, ⟨x25, rfl, l25, u25⟩, trivial⟩ (en_ac (lw_f0 I.hs.2.1 rfl f22 rfl) (en_ac (lw_f0 I.hs.2.1 rfl f25 rfl) (en_ac (⟨I.had, hOc⟩) (en_an))))) dlw_1041 (fun u res H1 locs1 hrv hpo L1 => ?_)
      refine W.widen (k := cells + 8) (n := slots + 64) (Nat.add_le_add_left (Nat.le_of_ble_eq_true rfl) _) (Nat.add_le_add_left (Nat.le_of_ble_eq_true rfl) _) ?_
      obtain ⟨fs', g1, g2⟩ := lw_fs I.h20 I.hs.2.1 hpo.1
      have hA1 : lw_ah cx cy fs' u.2 := lw_ahA I hpo.1 g1 (by decide +kernel) hAl
      exact k _ _ _ _ _ _ _ _ hrv (lw_Iq hLP I hpo.1 (by decide +kernel) g1 I.hst (lw_Io I hpo.1 (by decide +kernel)) (lw_Id I hpo.1 (by decide +kernel)) (lw_q I.h20 I.hlen (I.hO cx cy) I.hs hpo.1 (lw_qon h3 (by decide +kernel)) g1 (fun _ => hA1))) L1
    · skip
      have l28 : (-1 : Int) ≤ (-1 : Int32).toInt := by decide
      have u28 : (-1 : Int32).toInt ≤ (-1 : Int) := by decide
      obtain ⟨x28, e28⟩ : ∃ x : Int32, x = -1 := ⟨_, rfl⟩
      rw [← e28] at f28 l28 u28
      refine lw_mc (lv' := 3) (ρp := [.ref (sh.2 0), .int a1, .int a2, .int a3, .int x22, .int x25, .int x28]) (As := [.int a1, .int a2, .int a3]) F L (ct_X7_aside_2 hl9 (cx := cx) (cy := cy)) gm_X7_aside I.hs.2.1 rfl rfl (Nat.le_of_ble_eq_true rfl) (by decide) ⟨Nat.le_trans (Nat.add_le_add_left (Nat.le_of_ble_eq_true rfl) _) hcs.1, Nat.le_trans (Nat.add_le_add_left (Nat.le_of_ble_eq_true rfl) _) hcs.2⟩ hls rfl (lw_pre I.hs.1 (by decide) (Or.inl h3)) (I.hO cx cy) (lw_pa (env := k_X7_aside_2.2.1.1) (fa := k_X7_aside_2.2.1.2) ⟨⟨0, I.h20, rfl⟩, ⟨a1, rfl, en_lo a1, en_hi a1⟩, ⟨a2, rfl, en_lo a2, en_hi a2⟩, ⟨a3, rfl, en_lo a3, en_hi a3⟩, ⟨x22, rfl, l22, u22⟩, ⟨x25, rfl, l25, u25⟩, ⟨x28, rfl, l28, u28⟩, trivial⟩ (en_ac (lw_f0 I.hs.2.1 rfl f22 rfl) (en_ac (lw_f0 I.hs.2.1 rfl f25 rfl) (en_ac (lw_f0 I.hs.2.1 rfl f28 rfl) (en_ac (⟨I.had, hOc⟩) (en_an)))))) dlw_1041 (fun u res H1 locs1 hrv hpo L1 => ?_)
      refine W.widen (k := cells + 8) (n := slots + 64) (Nat.add_le_add_left (Nat.le_of_ble_eq_true rfl) _) (Nat.add_le_add_left (Nat.le_of_ble_eq_true rfl) _) ?_
      obtain ⟨fs', g1, g2⟩ := lw_fs I.h20 I.hs.2.1 hpo.1
      have hA1 : lw_ah cx cy fs' u.2 := Or.inr (lw_last I (by decide +kernel) L1.hD g1 hpo (show 0 < 4 by decide) rfl)
      exact k _ _ _ _ _ _ _ _ hrv (lw_Iq hLP I hpo.1 (by decide +kernel) g1 I.hst (lw_Io I hpo.1 (by decide +kernel)) (lw_Id I hpo.1 (by decide +kernel)) (lw_q I.h20 I.hlen (I.hO cx cy) I.hs hpo.1 (lw_qon h3 (by decide +kernel)) g1 (fun _ => hA1))) L1
  · skip
    obtain ⟨x22, f22, l22, u22⟩ := lw_boff h3 I.hs.2.2.1
    refine lw_mc (lv' := 2) (ρp := [.ref (sh.2 0), .int a1, .int a2, .int a3, .int x22]) (As := [.int a1, .int a2, .int a3]) F L (ct_X7_aside_0 hl9 (cx := cx) (cy := cy)) gm_X7_aside I.hs.2.1 rfl rfl (Nat.le_of_ble_eq_true rfl) (by decide) ⟨Nat.le_trans (Nat.add_le_add_left (Nat.le_of_ble_eq_true rfl) _) hcs.1, Nat.le_trans (Nat.add_le_add_left (Nat.le_of_ble_eq_true rfl) _) hcs.2⟩ hls rfl (lw_pre I.hs.1 (by decide) (Or.inr (by decide))) (I.hO cx cy) (lw_pa (env := k_X7_aside_0.2.1.1) (fa := k_X7_aside_0.2.1.2) ⟨⟨0, I.h20, rfl⟩, ⟨a1, rfl, en_lo a1, en_hi a1⟩, ⟨a2, rfl, en_lo a2, en_hi a2⟩, ⟨a3, rfl, en_lo a3, en_hi a3⟩, ⟨x22, rfl, l22, u22⟩, trivial⟩ (en_ac (lw_f0 I.hs.2.1 rfl f22 rfl) (en_an))) dlw_1041 (fun u res H1 locs1 hrv hpo L1 => ?_)
    refine W.widen (k := cells + 8) (n := slots + 64) (Nat.add_le_add_left (Nat.le_of_ble_eq_true rfl) _) (Nat.add_le_add_left (Nat.le_of_ble_eq_true rfl) _) ?_
    obtain ⟨fs', I1⟩ := lw_Iqq hLP I hpo.1 (by decide +kernel) (lw_qoff h3 (by decide +kernel)) (by decide +kernel) (by decide +kernel) (lw_Io I hpo.1 (by decide +kernel)) (lw_Id I hpo.1 (by decide +kernel))
    exact k _ _ _ _ _ _ _ _ hrv I1 L1
set_option maxHeartbeats 4000000 in
theorem lm_X7_away (hl9 : l.stackTraces = false) (hLP : lw_st LP) (F : lw_Fm p R s m args c D tys cO cD A) (L : lw_H D A s w H locs) (I : lw_I E LP tys cO cD qx qo qd sh w st cx cy fs) (hls : ls.size = 9) (hcs : cells + 8 ≤ R.cells ∧ slots + 64 ≤ R.slots)
    (k : ∀ (u : en_H × va_W) (res : Option Value) (H1 : Heap) (locs1 : List Loc) (st' : Nat) (cx' cy' : Int32) (fs' : List Value), en_rv 0 res → lw_I E LP tys cO cD qx qo qd u.1 u.2 st' cx' cy' fs' → lw_H D A s u.2 H1 locs1 → W p l e R s m args below meth c H1 locs1 (cells + 8) (slots + 64) Q (F0 m 726 ls (res.toList ++ []))) :
    W p l e R s m args below meth c H locs cells slots Q (F0 m 723 ls (([] : List Value).reverse ++ [.ref (sh.2 0)])) := by
  by_cases h3 : 3 ≤ st
  · skip
    obtain ⟨⟨x22, f22, l22, u22⟩, ⟨x16, f16, l16, u16⟩, x25, f25, l25, u25⟩ := lw_bon h3 I.hs.2.2.1
    have hOc := (I.hs.2.2.2.2 h3).2.1
    have hAh := (I.hs.2.2.2.2 h3).2.2
    refine lw_mc (lv' := 3) (ρp := [.ref (sh.2 0), .int x22, .int x25]) (As := []) F L (ct_X7_away_1 hl9 (cx := cx) (cy := cy)) gm_X7_away I.hs.2.1 rfl rfl (Nat.le_of_ble_eq_true rfl) (by decide) ⟨Nat.le_trans (Nat.add_le_add_left (Nat.le_of_ble_eq_true rfl) _) hcs.1, Nat.le_trans (Nat.add_le_add_left (Nat.le_of_ble_eq_true rfl) _) hcs.2⟩ hls rfl (lw_pre I.hs.1 (by decide) (Or.inl h3)) (I.hO cx cy) (lw_pa (env := k_X7_away_1.2.1.1) (fa := k_X7_away_1.2.1.2) ⟨⟨0, I.h20, rfl⟩, ⟨x22, rfl, l22, u22⟩, ⟨x25, rfl, l25, u25⟩, trivial⟩ (en_ac (lw_f0 I.hs.2.1 rfl f22 rfl) (en_ac (lw_f0 I.hs.2.1 rfl f25 rfl) (en_ac (⟨I.had, hOc⟩) (en_an))))) dlw_723 (fun u res H1 locs1 hrv hpo L1 => ?_)
    refine W.widen (k := cells + 8) (n := slots + 64) (Nat.add_le_add_left (Nat.le_of_ble_eq_true rfl) _) (Nat.add_le_add_left (Nat.le_of_ble_eq_true rfl) _) ?_
    obtain ⟨fs', I1⟩ := lw_Iqq hLP I hpo.1 (by decide +kernel) (lw_qon h3 (by decide +kernel)) (by decide +kernel) (by decide +kernel) (lw_Io I hpo.1 (by decide +kernel)) (lw_Id I hpo.1 (by decide +kernel))
    exact k _ _ _ _ _ _ _ _ hrv I1 L1
  · skip
    obtain ⟨x22, f22, l22, u22⟩ := lw_boff h3 I.hs.2.2.1
    refine lw_mc (lv' := 1) (ρp := [.ref (sh.2 0), .int x22]) (As := []) F L (ct_X7_away_0 hl9 (cx := cx) (cy := cy)) gm_X7_away I.hs.2.1 rfl rfl (Nat.le_of_ble_eq_true rfl) (by decide) ⟨Nat.le_trans (Nat.add_le_add_left (Nat.le_of_ble_eq_true rfl) _) hcs.1, Nat.le_trans (Nat.add_le_add_left (Nat.le_of_ble_eq_true rfl) _) hcs.2⟩ hls rfl (lw_pre I.hs.1 (by decide) (Or.inr (by decide))) (I.hO cx cy) (lw_pa (env := k_X7_away_0.2.1.1) (fa := k_X7_away_0.2.1.2) ⟨⟨0, I.h20, rfl⟩, ⟨x22, rfl, l22, u22⟩, trivial⟩ (en_ac (lw_f0 I.hs.2.1 rfl f22 rfl) (en_an))) dlw_723 (fun u res H1 locs1 hrv hpo L1 => ?_)
    refine W.widen (k := cells + 8) (n := slots + 64) (Nat.add_le_add_left (Nat.le_of_ble_eq_true rfl) _) (Nat.add_le_add_left (Nat.le_of_ble_eq_true rfl) _) ?_
    obtain ⟨fs', I1⟩ := lw_Iqq hLP I hpo.1 (by decide +kernel) (lw_qoff h3 (by decide +kernel)) (by decide +kernel) (by decide +kernel) (lw_Io I hpo.1 (by decide +kernel)) (lw_Id I hpo.1 (by decide +kernel))
    exact k _ _ _ _ _ _ _ _ hrv I1 L1
set_option maxHeartbeats 4000000 in
theorem lm_X7_begin (hl9 : l.stackTraces = false) (a1 : Int32) (hb1 : 0 ≤ a1.toInt ∧ a1.toInt ≤ 65535) (hLP : lw_st LP) (F : lw_Fm p R s m args c D tys cO cD A) (L : lw_H D A s w H locs) (I : lw_I E LP tys cO cD qx qo qd sh w st cx cy fs) (hls : ls.size = 9) (hcs : cells + 8 ≤ R.cells ∧ slots + 64 ≤ R.slots)
    (k : ∀ (u : en_H × va_W) (res : Option Value) (H1 : Heap) (locs1 : List Loc) (st' : Nat) (cx' cy' : Int32) (fs' : List Value), en_rv 0 res → lw_I E LP tys cO cD qx qo qd u.1 u.2 st' cx' cy' fs' → lw_H D A s u.2 H1 locs1 → W p l e R s m args below meth c H1 locs1 (cells + 8) (slots + 64) Q (F0 m 694 ls (res.toList ++ []))) :
    W p l e R s m args below meth c H locs cells slots Q (F0 m 691 ls (([.int a1] : List Value).reverse ++ [.ref (sh.2 0)])) := by
  obtain rfl | rfl | rfl | rfl | rfl := lw_stc I.hst
  · skip
    obtain hb2 | hb2 | hb2 | hb2 | hb2 := lw_chr hb1
    · have hb1 := hb2
      obtain ⟨x20, f20, l20, u20⟩ := I.hs.2.2.1 (20, 0, 0) (by decide)
      have l20 : (0 : Int) ≤ x20.toInt := l20
      have u20 : x20.toInt ≤ (0 : Int) := u20
      obtain ⟨x21, f21, l21, u21⟩ := I.hs.2.2.1 (21, 0, 0) (by decide)
      have l21 : (0 : Int) ≤ x21.toInt := l21
      have u21 : x21.toInt ≤ (0 : Int) := u21
      obtain ⟨x22, f22, l22, u22⟩ := I.hs.2.2.1 (22, 0, 0) (by decide)
      have l22 : (0 : Int) ≤ x22.toInt := l22
      have u22 : x22.toInt ≤ (0 : Int) := u22
      have b22 := I.hs.2.2.1 (22, 0, 0) (by decide)
      have b21 := I.hs.2.2.1 (21, 0, 0) (by decide)
      have b20 := I.hs.2.2.1 (20, 0, 0) (by decide)
      have b16 := I.hs.2.2.1 (16, 0, 9) (by decide)
      refine lw_mc (lv' := 1) (ρp := [.ref (sh.2 0), .int a1, .int x20, .int x21, .int x22]) (As := [.int a1]) F L (ct_X7_begin_0pz hl9 (cx := cx) (cy := cy)) gm_X7_begin I.hs.2.1 rfl rfl (Nat.le_of_ble_eq_true rfl) (by decide) ⟨Nat.le_trans (Nat.add_le_add_left (Nat.le_of_ble_eq_true rfl) _) hcs.1, Nat.le_trans (Nat.add_le_add_left (Nat.le_of_ble_eq_true rfl) _) hcs.2⟩ hls rfl (lw_tk (I.hs.1) (by decide)) (I.hO cx cy) (lw_pa (env := k_X7_begin_0pz.2.1.1) (fa := k_X7_begin_0pz.2.1.2) ⟨⟨0, I.h20, rfl⟩, ⟨a1, rfl, hb1.1, hb1.2⟩, ⟨x20, rfl, l20, u20⟩, ⟨x21, rfl, l21, u21⟩, ⟨x22, rfl, l22, u22⟩, trivial⟩ (en_ac (lw_f0 I.hs.2.1 rfl f20 rfl) (en_ac (lw_f0 I.hs.2.1 rfl f21 rfl) (en_ac (lw_f0 I.hs.2.1 rfl f22 rfl) (en_ac (⟨I.had, I.hs.2.2.2.1⟩) (en_an)))))) dlw_691 (fun u res H1 locs1 hrv hpo L1 => ?_)
      refine W.widen (k := cells + 8) (n := slots + 64) (Nat.add_le_add_left (Nat.le_of_ble_eq_true rfl) _) (Nat.add_le_add_left (Nat.le_of_ble_eq_true rfl) _) ?_
      obtain ⟨hpx, o9, ho9, ρ9, hPa9, hi9, -⟩ := hpo
      obtain ⟨fs', g1, g2⟩ := lw_fs I.h20 I.hs.2.1 hpx
      have h09 : ρ9[0]? = some (.ref (u.1.2 0)) := by rw [hi9 0 (show 0 < 2 by decide), (hpx.1.at I.h20).2]; rfl
      have hWu := lw_wd (I.hs.1) hpx (fun z hz => Or.inl ((by decide +kernel : ∀ z ∈ k_X7_begin_0pz.2.2.2.1, z.1 ∈ k_X7_begin_0pz.2.2.2.2.1) z hz)) (fun _ => Or.inl rfl)
      rcases List.mem_cons.mp ho9 with ho8 | ho9
      · subst ho8
        have hB9 : ∀ b ∈ lw_B 0, lw_b fs' b := en_ac (lw_hb_ok (b := (22, 0, 0)) (by decide +kernel) L1.hD g1 h09 hPa9) (en_ac (lw_hb_ok (b := (21, 0, 0)) (by decide +kernel) L1.hD g1 h09 hPa9) (en_ac (lw_hb_ok (b := (20, 0, 0)) (by decide +kernel) L1.hD g1 h09 hPa9) (en_ac (lw_bk b16 (g2 16 (by decide +kernel)) (by decide) (by decide)) en_an)))
        have hO1 : en_O1 u.2 := (hPa9.2.2 (5, 1, 0, 0, 0, 0) (by decide +kernel)).2
        have hS9 := lw_off2 (st := 0) g1 hWu hO1 (by decide) hB9
        exact k _ _ _ _ _ _ _ _ hrv (lw_Iq hLP I hpx (by decide +kernel) g1 (by decide) (lw_Io I hpx (by decide +kernel)) (lw_Id I hpx (by decide +kernel)) hS9) L1
      have ho7 := List.mem_singleton.mp ho9
      subst ho7
      have hB9 : ∀ b ∈ lw_B 4, lw_b fs' b := en_ac (lw_hb_ok (b := (22, 1, 1)) (by decide +kernel) L1.hD g1 h09 hPa9) (en_ac (lw_hb_ok (b := (21, 1, 1)) (by decide +kernel) L1.hD g1 h09 hPa9) (en_ac (lw_hb_ok (b := (20, 109, 109)) (by decide +kernel) L1.hD g1 h09 hPa9) (en_ac (lw_hb_ok (b := (16, 1, 9)) (by decide +kernel) L1.hD g1 h09 hPa9) (en_ac (lw_hb_ok (b := (17, 2, 2)) (by decide +kernel) L1.hD g1 h09 hPa9) (en_ac (lw_hb_ok (b := (25, 0, 8)) (by decide +kernel) L1.hD g1 h09 hPa9) en_an)))))
      have hO1 : en_O1 u.2 := (hPa9.2.2 (5, 1, 0, 0, 0, 0) (by decide +kernel)).2
      have hO2 : en_O2 u.2 := (hPa9.2.2 (5, 2, 0, 0, 0, 0) (by decide +kernel)).2
      have hhn := lw_hh (fs := fs') (lo := 0) (hi := 0) (lo' := 1) (hi' := 9) (lw_hb_ok (by decide +kernel) L1.hD g1 h09 hPa9) (lw_hb_ok (b := (16, 1, 9)) (by decide +kernel) L1.hD g1 h09 hPa9) (by decide)
      obtain ⟨cx9, cy9, hS9⟩ := lw_on2 (st := 4) (fun q hq => I.h27 q (lw_new hpx.1 (by decide) hq)) g1 (lw_pzp hWu) hO1 hO2 (by decide) hB9 hhn
      exact k _ _ _ _ _ _ _ _ hrv (lw_Iq hLP I hpx (by decide +kernel) g1 (by decide) (lw_Io I hpx (by decide +kernel)) (lw_Id I hpx (by decide +kernel)) hS9) L1
    · have hb1 := hb2
      obtain ⟨x20, f20, l20, u20⟩ := I.hs.2.2.1 (20, 0, 0) (by decide)
      have l20 : (0 : Int) ≤ x20.toInt := l20
      have u20 : x20.toInt ≤ (0 : Int) := u20
      obtain ⟨x21, f21, l21, u21⟩ := I.hs.2.2.1 (21, 0, 0) (by decide)
      have l21 : (0 : Int) ≤ x21.toInt := l21
      have u21 : x21.toInt ≤ (0 : Int) := u21
      obtain ⟨x22, f22, l22, u22⟩ := I.hs.2.2.1 (22, 0, 0) (by decide)
      have l22 : (0 : Int) ≤ x22.toInt := l22
      have u22 : x22.toInt ≤ (0 : Int) := u22
      have b22 := I.hs.2.2.1 (22, 0, 0) (by decide)
      have b21 := I.hs.2.2.1 (21, 0, 0) (by decide)
      have b20 := I.hs.2.2.1 (20, 0, 0) (by decide)
      have b16 := I.hs.2.2.1 (16, 0, 9) (by decide)
      refine lw_mc (lv' := 1) (ρp := [.ref (sh.2 0), .int a1, .int x20, .int x21, .int x22]) (As := [.int a1]) F L (ct_X7_begin_1pz hl9 (cx := cx) (cy := cy)) gm_X7_begin I.hs.2.1 rfl rfl (Nat.le_of_ble_eq_true rfl) (by decide) ⟨Nat.le_trans (Nat.add_le_add_left (Nat.le_of_ble_eq_true rfl) _) hcs.1, Nat.le_trans (Nat.add_le_add_left (Nat.le_of_ble_eq_true rfl) _) hcs.2⟩ hls rfl (lw_tk (I.hs.1) (by decide)) (I.hO cx cy) (lw_pa (env := k_X7_begin_1pz.2.1.1) (fa := k_X7_begin_1pz.2.1.2) ⟨⟨0, I.h20, rfl⟩, ⟨a1, rfl, hb1.1, hb1.2⟩, ⟨x20, rfl, l20, u20⟩, ⟨x21, rfl, l21, u21⟩, ⟨x22, rfl, l22, u22⟩, trivial⟩ (en_ac (lw_f0 I.hs.2.1 rfl f20 rfl) (en_ac (lw_f0 I.hs.2.1 rfl f21 rfl) (en_ac (lw_f0 I.hs.2.1 rfl f22 rfl) (en_ac (⟨I.had, I.hs.2.2.2.1⟩) (en_an)))))) dlw_691 (fun u res H1 locs1 hrv hpo L1 => ?_)
      refine W.widen (k := cells + 8) (n := slots + 64) (Nat.add_le_add_left (Nat.le_of_ble_eq_true rfl) _) (Nat.add_le_add_left (Nat.le_of_ble_eq_true rfl) _) ?_
      obtain ⟨hpx, o9, ho9, ρ9, hPa9, hi9, -⟩ := hpo
      obtain ⟨fs', g1, g2⟩ := lw_fs I.h20 I.hs.2.1 hpx
      have h09 : ρ9[0]? = some (.ref (u.1.2 0)) := by rw [hi9 0 (show 0 < 2 by decide), (hpx.1.at I.h20).2]; rfl
      have hWu := lw_wd (I.hs.1) hpx (fun z hz => Or.inl ((by decide +kernel : ∀ z ∈ k_X7_begin_1pz.2.2.2.1, z.1 ∈ k_X7_begin_1pz.2.2.2.2.1) z hz)) (fun _ => Or.inl rfl)
      rcases List.mem_cons.mp ho9 with ho8 | ho9
      · subst ho8
        have hB9 : ∀ b ∈ lw_B 0, lw_b fs' b := en_ac (lw_hb_ok (b := (22, 0, 0)) (by decide +kernel) L1.hD g1 h09 hPa9) (en_ac (lw_hb_ok (b := (21, 0, 0)) (by decide +kernel) L1.hD g1 h09 hPa9) (en_ac (lw_hb_ok (b := (20, 0, 0)) (by decide +kernel) L1.hD g1 h09 hPa9) (en_ac (lw_bk b16 (g2 16 (by decide +kernel)) (by decide) (by decide)) en_an)))
        have hO1 : en_O1 u.2 := (hPa9.2.2 (5, 1, 0, 0, 0, 0) (by decide +kernel)).2
        have hS9 := lw_off2 (st := 0) g1 hWu hO1 (by decide) hB9
        exact k _ _ _ _ _ _ _ _ hrv (lw_Iq hLP I hpx (by decide +kernel) g1 (by decide) (lw_Io I hpx (by decide +kernel)) (lw_Id I hpx (by decide +kernel)) hS9) L1
      have ho7 := List.mem_singleton.mp ho9
      subst ho7
      have hB9 : ∀ b ∈ lw_B 3, lw_b fs' b := en_ac (lw_hb_ok (b := (22, 1, 1)) (by decide +kernel) L1.hD g1 h09 hPa9) (en_ac (lw_hb_ok (b := (21, 1, 1)) (by decide +kernel) L1.hD g1 h09 hPa9) (en_ac (lw_hb_ok (b := (20, 115, 115)) (by decide +kernel) L1.hD g1 h09 hPa9) (en_ac (lw_hb_ok (b := (16, 1, 9)) (by decide +kernel) L1.hD g1 h09 hPa9) (en_ac (lw_hb_ok (b := (25, 0, 8)) (by decide +kernel) L1.hD g1 h09 hPa9) en_an))))
      have hO1 : en_O1 u.2 := (hPa9.2.2 (5, 1, 0, 0, 0, 0) (by decide +kernel)).2
      have hO2 : en_O2 u.2 := (hPa9.2.2 (5, 2, 0, 0, 0, 0) (by decide +kernel)).2
      have hhn := lw_hh (fs := fs') (lo := 0) (hi := 0) (lo' := 1) (hi' := 9) (lw_hb_ok (by decide +kernel) L1.hD g1 h09 hPa9) (lw_hb_ok (b := (16, 1, 9)) (by decide +kernel) L1.hD g1 h09 hPa9) (by decide)
      obtain ⟨cx9, cy9, hS9⟩ := lw_on2 (st := 3) (fun q hq => I.h27 q (lw_new hpx.1 (by decide) hq)) g1 (lw_pzp hWu) hO1 hO2 (by decide) hB9 hhn
      exact k _ _ _ _ _ _ _ _ hrv (lw_Iq hLP I hpx (by decide +kernel) g1 (by decide) (lw_Io I hpx (by decide +kernel)) (lw_Id I hpx (by decide +kernel)) hS9) L1
    · have hb1 := hb2
      obtain ⟨x20, f20, l20, u20⟩ := I.hs.2.2.1 (20, 0, 0) (by decide)
      have l20 : (0 : Int) ≤ x20.toInt := l20
      have u20 : x20.toInt ≤ (0 : Int) := u20
      obtain ⟨x21, f21, l21, u21⟩ := I.hs.2.2.1 (21, 0, 0) (by decide)
      have l21 : (0 : Int) ≤ x21.toInt := l21
      have u21 : x21.toInt ≤ (0 : Int) := u21
      obtain ⟨x22, f22, l22, u22⟩ := I.hs.2.2.1 (22, 0, 0) (by decide)
      have l22 : (0 : Int) ≤ x22.toInt := l22
      have u22 : x22.toInt ≤ (0 : Int) := u22
      refine lw_mc (lv' := 1) (ρp := [.ref (sh.2 0), .int a1, .int x20, .int x21, .int x22]) (As := [.int a1]) F L (ct_X7_begin_1 hl9 (cx := cx) (cy := cy)) gm_X7_begin I.hs.2.1 rfl rfl (Nat.le_of_ble_eq_true rfl) (by decide) ⟨Nat.le_trans (Nat.add_le_add_left (Nat.le_of_ble_eq_true rfl) _) hcs.1, Nat.le_trans (Nat.add_le_add_left (Nat.le_of_ble_eq_true rfl) _) hcs.2⟩ hls rfl (lw_pre I.hs.1 (by decide) (Or.inr (by decide))) (I.hO cx cy) (lw_pa (env := k_X7_begin_1.2.1.1) (fa := k_X7_begin_1.2.1.2) ⟨⟨0, I.h20, rfl⟩, ⟨a1, rfl, hb1.1, hb1.2⟩, ⟨x20, rfl, l20, u20⟩, ⟨x21, rfl, l21, u21⟩, ⟨x22, rfl, l22, u22⟩, trivial⟩ (en_ac (lw_f0 I.hs.2.1 rfl f20 rfl) (en_ac (lw_f0 I.hs.2.1 rfl f21 rfl) (en_ac (lw_f0 I.hs.2.1 rfl f22 rfl) (en_ac (⟨I.had, I.hs.2.2.2.1⟩) (en_an)))))) dlw_691 (fun u res H1 locs1 hrv hpo L1 => ?_)
      refine W.widen (k := cells + 8) (n := slots + 64) (Nat.add_le_add_left (Nat.le_of_ble_eq_true rfl) _) (Nat.add_le_add_left (Nat.le_of_ble_eq_true rfl) _) ?_
      obtain ⟨fs', I1⟩ := lw_Iqq hLP I hpo.1 (by decide +kernel) (by decide +kernel) (by decide +kernel) (by decide +kernel) (lw_Io I hpo.1 (by decide +kernel)) (lw_Id I hpo.1 (by decide +kernel))
      exact k _ _ _ _ _ _ _ _ hrv I1 L1
    · have hb1 := hb2
      obtain ⟨x20, f20, l20, u20⟩ := I.hs.2.2.1 (20, 0, 0) (by decide)
      have l20 : (0 : Int) ≤ x20.toInt := l20
      have u20 : x20.toInt ≤ (0 : Int) := u20
      obtain ⟨x21, f21, l21, u21⟩ := I.hs.2.2.1 (21, 0, 0) (by decide)
      have l21 : (0 : Int) ≤ x21.toInt := l21
      have u21 : x21.toInt ≤ (0 : Int) := u21
      obtain ⟨x22, f22, l22, u22⟩ := I.hs.2.2.1 (22, 0, 0) (by decide)
      have l22 : (0 : Int) ≤ x22.toInt := l22
      have u22 : x22.toInt ≤ (0 : Int) := u22
      refine lw_mc (lv' := 1) (ρp := [.ref (sh.2 0), .int a1, .int x20, .int x21, .int x22]) (As := [.int a1]) F L (ct_X7_begin_4 hl9 (cx := cx) (cy := cy)) gm_X7_begin I.hs.2.1 rfl rfl (Nat.le_of_ble_eq_true rfl) (by decide) ⟨Nat.le_trans (Nat.add_le_add_left (Nat.le_of_ble_eq_true rfl) _) hcs.1, Nat.le_trans (Nat.add_le_add_left (Nat.le_of_ble_eq_true rfl) _) hcs.2⟩ hls rfl (lw_pre I.hs.1 (by decide) (Or.inr (by decide))) (I.hO cx cy) (lw_pa (env := k_X7_begin_4.2.1.1) (fa := k_X7_begin_4.2.1.2) ⟨⟨0, I.h20, rfl⟩, ⟨a1, rfl, hb1.1, hb1.2⟩, ⟨x20, rfl, l20, u20⟩, ⟨x21, rfl, l21, u21⟩, ⟨x22, rfl, l22, u22⟩, trivial⟩ (en_ac (lw_f0 I.hs.2.1 rfl f20 rfl) (en_ac (lw_f0 I.hs.2.1 rfl f21 rfl) (en_ac (lw_f0 I.hs.2.1 rfl f22 rfl) (en_ac (⟨I.had, I.hs.2.2.2.1⟩) (en_an)))))) dlw_691 (fun u res H1 locs1 hrv hpo L1 => ?_)
      refine W.widen (k := cells + 8) (n := slots + 64) (Nat.add_le_add_left (Nat.le_of_ble_eq_true rfl) _) (Nat.add_le_add_left (Nat.le_of_ble_eq_true rfl) _) ?_
      obtain ⟨fs', I1⟩ := lw_Iqq hLP I hpo.1 (by decide +kernel) (by decide +kernel) (by decide +kernel) (by decide +kernel) (lw_Io I hpo.1 (by decide +kernel)) (lw_Id I hpo.1 (by decide +kernel))
      exact k _ _ _ _ _ _ _ _ hrv I1 L1
    · have hb1 := hb2
      obtain ⟨x20, f20, l20, u20⟩ := I.hs.2.2.1 (20, 0, 0) (by decide)
      have l20 : (0 : Int) ≤ x20.toInt := l20
      have u20 : x20.toInt ≤ (0 : Int) := u20
      obtain ⟨x21, f21, l21, u21⟩ := I.hs.2.2.1 (21, 0, 0) (by decide)
      have l21 : (0 : Int) ≤ x21.toInt := l21
      have u21 : x21.toInt ≤ (0 : Int) := u21
      obtain ⟨x22, f22, l22, u22⟩ := I.hs.2.2.1 (22, 0, 0) (by decide)
      have l22 : (0 : Int) ≤ x22.toInt := l22
      have u22 : x22.toInt ≤ (0 : Int) := u22
      refine lw_mc (lv' := 1) (ρp := [.ref (sh.2 0), .int a1, .int x20, .int x21, .int x22]) (As := [.int a1]) F L (ct_X7_begin_7 hl9 (cx := cx) (cy := cy)) gm_X7_begin I.hs.2.1 rfl rfl (Nat.le_of_ble_eq_true rfl) (by decide) ⟨Nat.le_trans (Nat.add_le_add_left (Nat.le_of_ble_eq_true rfl) _) hcs.1, Nat.le_trans (Nat.add_le_add_left (Nat.le_of_ble_eq_true rfl) _) hcs.2⟩ hls rfl (lw_pre I.hs.1 (by decide) (Or.inr (by decide))) (I.hO cx cy) (lw_pa (env := k_X7_begin_7.2.1.1) (fa := k_X7_begin_7.2.1.2) ⟨⟨0, I.h20, rfl⟩, ⟨a1, rfl, hb1.1, hb1.2⟩, ⟨x20, rfl, l20, u20⟩, ⟨x21, rfl, l21, u21⟩, ⟨x22, rfl, l22, u22⟩, trivial⟩ (en_ac (lw_f0 I.hs.2.1 rfl f20 rfl) (en_ac (lw_f0 I.hs.2.1 rfl f21 rfl) (en_ac (lw_f0 I.hs.2.1 rfl f22 rfl) (en_ac (⟨I.had, I.hs.2.2.2.1⟩) (en_an)))))) dlw_691 (fun u res H1 locs1 hrv hpo L1 => ?_)
      refine W.widen (k := cells + 8) (n := slots + 64) (Nat.add_le_add_left (Nat.le_of_ble_eq_true rfl) _) (Nat.add_le_add_left (Nat.le_of_ble_eq_true rfl) _) ?_
      obtain ⟨fs', I1⟩ := lw_Iqq hLP I hpo.1 (by decide +kernel) (by decide +kernel) (by decide +kernel) (by decide +kernel) (lw_Io I hpo.1 (by decide +kernel)) (lw_Id I hpo.1 (by decide +kernel))
      exact k _ _ _ _ _ _ _ _ hrv I1 L1
  · skip
    obtain hb2 | hb2 | hb2 | hb2 | hb2 := lw_chr hb1
    · have hb1 := hb2
      obtain ⟨x16, f16, l16, u16⟩ := I.hs.2.2.1 (16, 1, 9) (by decide)
      have l16 : (1 : Int) ≤ x16.toInt := l16
      have u16 : x16.toInt ≤ (9 : Int) := u16
      obtain ⟨x20, f20, l20, u20⟩ := I.hs.2.2.1 (20, 115, 115) (by decide)
      have l20 : (115 : Int) ≤ x20.toInt := l20
      have u20 : x20.toInt ≤ (115 : Int) := u20
      obtain ⟨x21, f21, l21, u21⟩ := I.hs.2.2.1 (21, 1, 1) (by decide)
      have l21 : (1 : Int) ≤ x21.toInt := l21
      have u21 : x21.toInt ≤ (1 : Int) := u21
      obtain ⟨x22, f22, l22, u22⟩ := I.hs.2.2.1 (22, 0, 0) (by decide)
      have l22 : (0 : Int) ≤ x22.toInt := l22
      have u22 : x22.toInt ≤ (0 : Int) := u22
      have b22 := I.hs.2.2.1 (22, 0, 0) (by decide)
      have b21 := I.hs.2.2.1 (21, 1, 1) (by decide)
      have b20 := I.hs.2.2.1 (20, 115, 115) (by decide)
      have b16 := I.hs.2.2.1 (16, 1, 9) (by decide)
      refine lw_mc (lv' := 1) (ρp := [.ref (sh.2 0), .int a1, .int x16, .int x20, .int x21, .int x22]) (As := [.int a1]) F L (ct_X7_begin_0p hl9 (cx := cx) (cy := cy)) gm_X7_begin I.hs.2.1 rfl rfl (Nat.le_of_ble_eq_true rfl) (by decide) ⟨Nat.le_trans (Nat.add_le_add_left (Nat.le_of_ble_eq_true rfl) _) hcs.1, Nat.le_trans (Nat.add_le_add_left (Nat.le_of_ble_eq_true rfl) _) hcs.2⟩ hls rfl (lw_tk (I.hs.1) (by decide)) (I.hO cx cy) (lw_pa (env := k_X7_begin_0p.2.1.1) (fa := k_X7_begin_0p.2.1.2) ⟨⟨0, I.h20, rfl⟩, ⟨a1, rfl, hb1.1, hb1.2⟩, ⟨x16, rfl, l16, u16⟩, ⟨x20, rfl, l20, u20⟩, ⟨x21, rfl, l21, u21⟩, ⟨x22, rfl, l22, u22⟩, trivial⟩ (en_ac (lw_f0 I.hs.2.1 rfl f16 rfl) (en_ac (lw_f0 I.hs.2.1 rfl f20 rfl) (en_ac (lw_f0 I.hs.2.1 rfl f21 rfl) (en_ac (lw_f0 I.hs.2.1 rfl f22 rfl) (en_ac (⟨I.had, I.hs.2.2.2.1⟩) (en_an))))))) dlw_691 (fun u res H1 locs1 hrv hpo L1 => ?_)
      refine W.widen (k := cells + 8) (n := slots + 64) (Nat.add_le_add_left (Nat.le_of_ble_eq_true rfl) _) (Nat.add_le_add_left (Nat.le_of_ble_eq_true rfl) _) ?_
      obtain ⟨hpx, o9, ho9, ρ9, hPa9, hi9, -⟩ := hpo
      obtain ⟨fs', g1, g2⟩ := lw_fs I.h20 I.hs.2.1 hpx
      have h09 : ρ9[0]? = some (.ref (u.1.2 0)) := by rw [hi9 0 (show 0 < 2 by decide), (hpx.1.at I.h20).2]; rfl
      have hWu := lw_wd (I.hs.1) hpx (fun z hz => Or.inl ((by decide +kernel : ∀ z ∈ k_X7_begin_0p.2.2.2.1, z.1 ∈ k_X7_begin_0p.2.2.2.2.1) z hz)) (fun _ => Or.inl rfl)
      rcases List.mem_cons.mp ho9 with ho8 | ho9
      · subst ho8
        have hB9 : ∀ b ∈ lw_B 1, lw_b fs' b := en_ac (lw_hb_ok (b := (22, 0, 0)) (by decide +kernel) L1.hD g1 h09 hPa9) (en_ac (lw_hb_ok (b := (21, 1, 1)) (by decide +kernel) L1.hD g1 h09 hPa9) (en_ac (lw_hb_ok (b := (20, 115, 115)) (by decide +kernel) L1.hD g1 h09 hPa9) (en_ac (lw_bk b16 (g2 16 (by decide +kernel)) (by decide) (by decide)) en_an)))
        have hO1 : en_O1 u.2 := (hPa9.2.2 (5, 1, 0, 0, 0, 0) (by decide +kernel)).2
        have hS9 := lw_off2 (st := 1) g1 hWu hO1 (by decide) hB9
        exact k _ _ _ _ _ _ _ _ hrv (lw_Iq hLP I hpx (by decide +kernel) g1 (by decide) (lw_Io I hpx (by decide +kernel)) (lw_Id I hpx (by decide +kernel)) hS9) L1
      have ho7 := List.mem_singleton.mp ho9
      subst ho7
      have hB9 : ∀ b ∈ lw_B 4, lw_b fs' b := en_ac (lw_hb_ok (b := (22, 1, 1)) (by decide +kernel) L1.hD g1 h09 hPa9) (en_ac (lw_hb_ok (b := (21, 1, 1)) (by decide +kernel) L1.hD g1 h09 hPa9) (en_ac (lw_hb_ok (b := (20, 109, 109)) (by decide +kernel) L1.hD g1 h09 hPa9) (en_ac (lw_hb_ok (b := (16, 1, 9)) (by decide +kernel) L1.hD g1 h09 hPa9) (en_ac (lw_hb_ok (b := (17, 2, 2)) (by decide +kernel) L1.hD g1 h09 hPa9) (en_ac (lw_hb_ok (b := (25, 0, 8)) (by decide +kernel) L1.hD g1 h09 hPa9) en_an)))))
      have hO1 : en_O1 u.2 := (hPa9.2.2 (5, 1, 0, 0, 0, 0) (by decide +kernel)).2
      have hO2 : en_O2 u.2 := (hPa9.2.2 (5, 2, 0, 0, 0, 0) (by decide +kernel)).2
      have hhn := lw_hh (fs := fs') (lo := 0) (hi := 0) (lo' := 1) (hi' := 9) (lw_hb_ok (by decide +kernel) L1.hD g1 h09 hPa9) (lw_hb_ok (b := (16, 1, 9)) (by decide +kernel) L1.hD g1 h09 hPa9) (by decide)
      obtain ⟨cx9, cy9, hS9⟩ := lw_on2 (st := 4) (fun q hq => I.h27 q (lw_new hpx.1 (by decide) hq)) g1 hWu hO1 hO2 (by decide) hB9 hhn
      exact k _ _ _ _ _ _ _ _ hrv (lw_Iq hLP I hpx (by decide +kernel) g1 (by decide) (lw_Io I hpx (by decide +kernel)) (lw_Id I hpx (by decide +kernel)) hS9) L1
    · have hb1 := hb2
      obtain ⟨x16, f16, l16, u16⟩ := I.hs.2.2.1 (16, 1, 9) (by decide)
      have l16 : (1 : Int) ≤ x16.toInt := l16
      have u16 : x16.toInt ≤ (9 : Int) := u16
      obtain ⟨x20, f20, l20, u20⟩ := I.hs.2.2.1 (20, 115, 115) (by decide)
      have l20 : (115 : Int) ≤ x20.toInt := l20
      have u20 : x20.toInt ≤ (115 : Int) := u20
      obtain ⟨x21, f21, l21, u21⟩ := I.hs.2.2.1 (21, 1, 1) (by decide)
      have l21 : (1 : Int) ≤ x21.toInt := l21
      have u21 : x21.toInt ≤ (1 : Int) := u21
      obtain ⟨x22, f22, l22, u22⟩ := I.hs.2.2.1 (22, 0, 0) (by decide)
      have l22 : (0 : Int) ≤ x22.toInt := l22
      have u22 : x22.toInt ≤ (0 : Int) := u22
      have b22 := I.hs.2.2.1 (22, 0, 0) (by decide)
      have b21 := I.hs.2.2.1 (21, 1, 1) (by decide)
      have b20 := I.hs.2.2.1 (20, 115, 115) (by decide)
      have b16 := I.hs.2.2.1 (16, 1, 9) (by decide)
      refine lw_mc (lv' := 1) (ρp := [.ref (sh.2 0), .int a1, .int x16, .int x20, .int x21, .int x22]) (As := [.int a1]) F L (ct_X7_begin_2p hl9 (cx := cx) (cy := cy)) gm_X7_begin I.hs.2.1 rfl rfl (Nat.le_of_ble_eq_true rfl) (by decide) ⟨Nat.le_trans (Nat.add_le_add_left (Nat.le_of_ble_eq_true rfl) _) hcs.1, Nat.le_trans (Nat.add_le_add_left (Nat.le_of_ble_eq_true rfl) _) hcs.2⟩ hls rfl (lw_tk (I.hs.1) (by decide)) (I.hO cx cy) (lw_pa (env := k_X7_begin_2p.2.1.1) (fa := k_X7_begin_2p.2.1.2) ⟨⟨0, I.h20, rfl⟩, ⟨a1, rfl, hb1.1, hb1.2⟩, ⟨x16, rfl, l16, u16⟩, ⟨x20, rfl, l20, u20⟩, ⟨x21, rfl, l21, u21⟩, ⟨x22, rfl, l22, u22⟩, trivial⟩ (en_ac (lw_f0 I.hs.2.1 rfl f16 rfl) (en_ac (lw_f0 I.hs.2.1 rfl f20 rfl) (en_ac (lw_f0 I.hs.2.1 rfl f21 rfl) (en_ac (lw_f0 I.hs.2.1 rfl f22 rfl) (en_ac (⟨I.had, I.hs.2.2.2.1⟩) (en_an))))))) dlw_691 (fun u res H1 locs1 hrv hpo L1 => ?_)
      refine W.widen (k := cells + 8) (n := slots + 64) (Nat.add_le_add_left (Nat.le_of_ble_eq_true rfl) _) (Nat.add_le_add_left (Nat.le_of_ble_eq_true rfl) _) ?_
      obtain ⟨hpx, o9, ho9, ρ9, hPa9, hi9, -⟩ := hpo
      obtain ⟨fs', g1, g2⟩ := lw_fs I.h20 I.hs.2.1 hpx
      have h09 : ρ9[0]? = some (.ref (u.1.2 0)) := by rw [hi9 0 (show 0 < 2 by decide), (hpx.1.at I.h20).2]; rfl
      have hWu := lw_wd (I.hs.1) hpx (fun z hz => Or.inl ((by decide +kernel : ∀ z ∈ k_X7_begin_2p.2.2.2.1, z.1 ∈ k_X7_begin_2p.2.2.2.2.1) z hz)) (fun _ => Or.inl rfl)
      rcases List.mem_cons.mp ho9 with ho8 | ho9
      · subst ho8
        have hB9 : ∀ b ∈ lw_B 1, lw_b fs' b := en_ac (lw_hb_ok (b := (22, 0, 0)) (by decide +kernel) L1.hD g1 h09 hPa9) (en_ac (lw_hb_ok (b := (21, 1, 1)) (by decide +kernel) L1.hD g1 h09 hPa9) (en_ac (lw_hb_ok (b := (20, 115, 115)) (by decide +kernel) L1.hD g1 h09 hPa9) (en_ac (lw_bk b16 (g2 16 (by decide +kernel)) (by decide) (by decide)) en_an)))
        have hO1 : en_O1 u.2 := (hPa9.2.2 (5, 1, 0, 0, 0, 0) (by decide +kernel)).2
        have hS9 := lw_off2 (st := 1) g1 hWu hO1 (by decide) hB9
        exact k _ _ _ _ _ _ _ _ hrv (lw_Iq hLP I hpx (by decide +kernel) g1 (by decide) (lw_Io I hpx (by decide +kernel)) (lw_Id I hpx (by decide +kernel)) hS9) L1
      have ho7 := List.mem_singleton.mp ho9
      subst ho7
      have hB9 : ∀ b ∈ lw_B 3, lw_b fs' b := en_ac (lw_hb_ok (b := (22, 1, 1)) (by decide +kernel) L1.hD g1 h09 hPa9) (en_ac (lw_hb_ok (b := (21, 1, 1)) (by decide +kernel) L1.hD g1 h09 hPa9) (en_ac (lw_hb_ok (b := (20, 115, 115)) (by decide +kernel) L1.hD g1 h09 hPa9) (en_ac (lw_hb_ok (b := (16, 1, 9)) (by decide +kernel) L1.hD g1 h09 hPa9) (en_ac (lw_hb_ok (b := (25, 0, 8)) (by decide +kernel) L1.hD g1 h09 hPa9) en_an))))
      have hO1 : en_O1 u.2 := (hPa9.2.2 (5, 1, 0, 0, 0, 0) (by decide +kernel)).2
      have hO2 : en_O2 u.2 := (hPa9.2.2 (5, 2, 0, 0, 0, 0) (by decide +kernel)).2
      have hhn := lw_hh (fs := fs') (lo := 0) (hi := 0) (lo' := 1) (hi' := 9) (lw_hb_ok (by decide +kernel) L1.hD g1 h09 hPa9) (lw_hb_ok (b := (16, 1, 9)) (by decide +kernel) L1.hD g1 h09 hPa9) (by decide)
      obtain ⟨cx9, cy9, hS9⟩ := lw_on2 (st := 3) (fun q hq => I.h27 q (lw_new hpx.1 (by decide) hq)) g1 hWu hO1 hO2 (by decide) hB9 hhn
      exact k _ _ _ _ _ _ _ _ hrv (lw_Iq hLP I hpx (by decide +kernel) g1 (by decide) (lw_Io I hpx (by decide +kernel)) (lw_Id I hpx (by decide +kernel)) hS9) L1
    · have hb1 := hb2
      obtain ⟨x16, f16, l16, u16⟩ := I.hs.2.2.1 (16, 1, 9) (by decide)
      have l16 : (1 : Int) ≤ x16.toInt := l16
      have u16 : x16.toInt ≤ (9 : Int) := u16
      obtain ⟨x20, f20, l20, u20⟩ := I.hs.2.2.1 (20, 115, 115) (by decide)
      have l20 : (115 : Int) ≤ x20.toInt := l20
      have u20 : x20.toInt ≤ (115 : Int) := u20
      obtain ⟨x21, f21, l21, u21⟩ := I.hs.2.2.1 (21, 1, 1) (by decide)
      have l21 : (1 : Int) ≤ x21.toInt := l21
      have u21 : x21.toInt ≤ (1 : Int) := u21
      obtain ⟨x22, f22, l22, u22⟩ := I.hs.2.2.1 (22, 0, 0) (by decide)
      have l22 : (0 : Int) ≤ x22.toInt := l22
      have u22 : x22.toInt ≤ (0 : Int) := u22
      refine lw_mc (lv' := 1) (ρp := [.ref (sh.2 0), .int a1, .int x16, .int x20, .int x21, .int x22]) (As := [.int a1]) F L (ct_X7_begin_2 hl9 (cx := cx) (cy := cy)) gm_X7_begin I.hs.2.1 rfl rfl (Nat.le_of_ble_eq_true rfl) (by decide) ⟨Nat.le_trans (Nat.add_le_add_left (Nat.le_of_ble_eq_true rfl) _) hcs.1, Nat.le_trans (Nat.add_le_add_left (Nat.le_of_ble_eq_true rfl) _) hcs.2⟩ hls rfl (lw_pre I.hs.1 (by decide) (Or.inr (by decide))) (I.hO cx cy) (lw_pa (env := k_X7_begin_2.2.1.1) (fa := k_X7_begin_2.2.1.2) ⟨⟨0, I.h20, rfl⟩, ⟨a1, rfl, hb1.1, hb1.2⟩, ⟨x16, rfl, l16, u16⟩, ⟨x20, rfl, l20, u20⟩, ⟨x21, rfl, l21, u21⟩, ⟨x22, rfl, l22, u22⟩, trivial⟩ (en_ac (lw_f0 I.hs.2.1 rfl f16 rfl) (en_ac (lw_f0 I.hs.2.1 rfl f20 rfl) (en_ac (lw_f0 I.hs.2.1 rfl f21 rfl) (en_ac (lw_f0 I.hs.2.1 rfl f22 rfl) (en_ac (⟨I.had, I.hs.2.2.2.1⟩) (en_an))))))) dlw_691 (fun u res H1 locs1 hrv hpo L1 => ?_)
      refine W.widen (k := cells + 8) (n := slots + 64) (Nat.add_le_add_left (Nat.le_of_ble_eq_true rfl) _) (Nat.add_le_add_left (Nat.le_of_ble_eq_true rfl) _) ?_
      obtain ⟨fs', I1⟩ := lw_Iqq hLP I hpo.1 (by decide +kernel) (by decide +kernel) (by decide +kernel) (by decide +kernel) (lw_Io I hpo.1 (by decide +kernel)) (lw_Id I hpo.1 (by decide +kernel))
      exact k _ _ _ _ _ _ _ _ hrv I1 L1
    · have hb1 := hb2
      obtain ⟨x16, f16, l16, u16⟩ := I.hs.2.2.1 (16, 1, 9) (by decide)
      have l16 : (1 : Int) ≤ x16.toInt := l16
      have u16 : x16.toInt ≤ (9 : Int) := u16
      obtain ⟨x20, f20, l20, u20⟩ := I.hs.2.2.1 (20, 115, 115) (by decide)
      have l20 : (115 : Int) ≤ x20.toInt := l20
      have u20 : x20.toInt ≤ (115 : Int) := u20
      obtain ⟨x21, f21, l21, u21⟩ := I.hs.2.2.1 (21, 1, 1) (by decide)
      have l21 : (1 : Int) ≤ x21.toInt := l21
      have u21 : x21.toInt ≤ (1 : Int) := u21
      obtain ⟨x22, f22, l22, u22⟩ := I.hs.2.2.1 (22, 0, 0) (by decide)
      have l22 : (0 : Int) ≤ x22.toInt := l22
      have u22 : x22.toInt ≤ (0 : Int) := u22
      refine lw_mc (lv' := 1) (ρp := [.ref (sh.2 0), .int a1, .int x16, .int x20, .int x21, .int x22]) (As := [.int a1]) F L (ct_X7_begin_5 hl9 (cx := cx) (cy := cy)) gm_X7_begin I.hs.2.1 rfl rfl (Nat.le_of_ble_eq_true rfl) (by decide) ⟨Nat.le_trans (Nat.add_le_add_left (Nat.le_of_ble_eq_true rfl) _) hcs.1, Nat.le_trans (Nat.add_le_add_left (Nat.le_of_ble_eq_true rfl) _) hcs.2⟩ hls rfl (lw_pre I.hs.1 (by decide) (Or.inr (by decide))) (I.hO cx cy) (lw_pa (env := k_X7_begin_5.2.1.1) (fa := k_X7_begin_5.2.1.2) ⟨⟨0, I.h20, rfl⟩, ⟨a1, rfl, hb1.1, hb1.2⟩, ⟨x16, rfl, l16, u16⟩, ⟨x20, rfl, l20, u20⟩, ⟨x21, rfl, l21, u21⟩, ⟨x22, rfl, l22, u22⟩, trivial⟩ (en_ac (lw_f0 I.hs.2.1 rfl f16 rfl) (en_ac (lw_f0 I.hs.2.1 rfl f20 rfl) (en_ac (lw_f0 I.hs.2.1 rfl f21 rfl) (en_ac (lw_f0 I.hs.2.1 rfl f22 rfl) (en_ac (⟨I.had, I.hs.2.2.2.1⟩) (en_an))))))) dlw_691 (fun u res H1 locs1 hrv hpo L1 => ?_)
      refine W.widen (k := cells + 8) (n := slots + 64) (Nat.add_le_add_left (Nat.le_of_ble_eq_true rfl) _) (Nat.add_le_add_left (Nat.le_of_ble_eq_true rfl) _) ?_
      obtain ⟨fs', I1⟩ := lw_Iqq hLP I hpo.1 (by decide +kernel) (by decide +kernel) (by decide +kernel) (by decide +kernel) (lw_Io I hpo.1 (by decide +kernel)) (lw_Id I hpo.1 (by decide +kernel))
      exact k _ _ _ _ _ _ _ _ hrv I1 L1
    · have hb1 := hb2
      obtain ⟨x16, f16, l16, u16⟩ := I.hs.2.2.1 (16, 1, 9) (by decide)
      have l16 : (1 : Int) ≤ x16.toInt := l16
      have u16 : x16.toInt ≤ (9 : Int) := u16
      obtain ⟨x20, f20, l20, u20⟩ := I.hs.2.2.1 (20, 115, 115) (by decide)
      have l20 : (115 : Int) ≤ x20.toInt := l20
      have u20 : x20.toInt ≤ (115 : Int) := u20
      obtain ⟨x21, f21, l21, u21⟩ := I.hs.2.2.1 (21, 1, 1) (by decide)
      have l21 : (1 : Int) ≤ x21.toInt := l21
      have u21 : x21.toInt ≤ (1 : Int) := u21
      obtain ⟨x22, f22, l22, u22⟩ := I.hs.2.2.1 (22, 0, 0) (by decide)
      have l22 : (0 : Int) ≤ x22.toInt := l22
      have u22 : x22.toInt ≤ (0 : Int) := u22
      refine lw_mc (lv' := 1) (ρp := [.ref (sh.2 0), .int a1, .int x16, .int x20, .int x21, .int x22]) (As := [.int a1]) F L (ct_X7_begin_8 hl9 (cx := cx) (cy := cy)) gm_X7_begin I.hs.2.1 rfl rfl (Nat.le_of_ble_eq_true rfl) (by decide) ⟨Nat.le_trans (Nat.add_le_add_left (Nat.le_of_ble_eq_true rfl) _) hcs.1, Nat.le_trans (Nat.add_le_add_left (Nat.le_of_ble_eq_true rfl) _) hcs.2⟩ hls rfl (lw_pre I.hs.1 (by decide) (Or.inr (by decide))) (I.hO cx cy) (lw_pa (env := k_X7_begin_8.2.1.1) (fa := k_X7_begin_8.2.1.2) ⟨⟨0, I.h20, rfl⟩, ⟨a1, rfl, hb1.1, hb1.2⟩, ⟨x16, rfl, l16, u16⟩, ⟨x20, rfl, l20, u20⟩, ⟨x21, rfl, l21, u21⟩, ⟨x22, rfl, l22, u22⟩, trivial⟩ (en_ac (lw_f0 I.hs.2.1 rfl f16 rfl) (en_ac (lw_f0 I.hs.2.1 rfl f20 rfl) (en_ac (lw_f0 I.hs.2.1 rfl f21 rfl) (en_ac (lw_f0 I.hs.2.1 rfl f22 rfl) (en_ac (⟨I.had, I.hs.2.2.2.1⟩) (en_an))))))) dlw_691 (fun u res H1 locs1 hrv hpo L1 => ?_)
      refine W.widen (k := cells + 8) (n := slots + 64) (Nat.add_le_add_left (Nat.le_of_ble_eq_true rfl) _) (Nat.add_le_add_left (Nat.le_of_ble_eq_true rfl) _) ?_
      obtain ⟨fs', I1⟩ := lw_Iqq hLP I hpo.1 (by decide +kernel) (by decide +kernel) (by decide +kernel) (by decide +kernel) (lw_Io I hpo.1 (by decide +kernel)) (lw_Id I hpo.1 (by decide +kernel))
      exact k _ _ _ _ _ _ _ _ hrv I1 L1
  · skip
    obtain hb2 | hb2 | hb2 | hb2 | hb2 := lw_chr hb1
    · have hb1 := hb2
      obtain ⟨x16, f16, l16, u16⟩ := I.hs.2.2.1 (16, 1, 9) (by decide)
      have l16 : (1 : Int) ≤ x16.toInt := l16
      have u16 : x16.toInt ≤ (9 : Int) := u16
      obtain ⟨x17, f17, l17, u17⟩ := I.hs.2.2.1 (17, 2, 2) (by decide)
      have l17 : (2 : Int) ≤ x17.toInt := l17
      have u17 : x17.toInt ≤ (2 : Int) := u17
      obtain ⟨x20, f20, l20, u20⟩ := I.hs.2.2.1 (20, 109, 109) (by decide)
      have l20 : (109 : Int) ≤ x20.toInt := l20
      have u20 : x20.toInt ≤ (109 : Int) := u20
      obtain ⟨x21, f21, l21, u21⟩ := I.hs.2.2.1 (21, 1, 1) (by decide)
      have l21 : (1 : Int) ≤ x21.toInt := l21
      have u21 : x21.toInt ≤ (1 : Int) := u21
      obtain ⟨x22, f22, l22, u22⟩ := I.hs.2.2.1 (22, 0, 0) (by decide)
      have l22 : (0 : Int) ≤ x22.toInt := l22
      have u22 : x22.toInt ≤ (0 : Int) := u22
      have b22 := I.hs.2.2.1 (22, 0, 0) (by decide)
      have b21 := I.hs.2.2.1 (21, 1, 1) (by decide)
      have b20 := I.hs.2.2.1 (20, 109, 109) (by decide)
      have b16 := I.hs.2.2.1 (16, 1, 9) (by decide)
      have b17 := I.hs.2.2.1 (17, 2, 2) (by decide)
      refine lw_mc (lv' := 1) (ρp := [.ref (sh.2 0), .int a1, .int x16, .int x17, .int x20, .int x21, .int x22]) (As := [.int a1]) F L (ct_X7_begin_1p hl9 (cx := cx) (cy := cy)) gm_X7_begin I.hs.2.1 rfl rfl (Nat.le_of_ble_eq_true rfl) (by decide) ⟨Nat.le_trans (Nat.add_le_add_left (Nat.le_of_ble_eq_true rfl) _) hcs.1, Nat.le_trans (Nat.add_le_add_left (Nat.le_of_ble_eq_true rfl) _) hcs.2⟩ hls rfl (lw_tk (I.hs.1) (by decide)) (I.hO cx cy) (lw_pa (env := k_X7_begin_1p.2.1.1) (fa := k_X7_begin_1p.2.1.2) ⟨⟨0, I.h20, rfl⟩, ⟨a1, rfl, hb1.1, hb1.2⟩, ⟨x16, rfl, l16, u16⟩, ⟨x17, rfl, l17, u17⟩, ⟨x20, rfl, l20, u20⟩, ⟨x21, rfl, l21, u21⟩, ⟨x22, rfl, l22, u22⟩, trivial⟩ (en_ac (lw_f0 I.hs.2.1 rfl f16 rfl) (en_ac (lw_f0 I.hs.2.1 rfl f17 rfl) (en_ac (lw_f0 I.hs.2.1 rfl f20 rfl) (en_ac (lw_f0 I.hs.2.1 rfl f21 rfl) (en_ac (lw_f0 I.hs.2.1 rfl f22 rfl) (en_ac (⟨I.had, I.hs.2.2.2.1⟩) (en_an)))))))) dlw_691 (fun u res H1 locs1 hrv hpo L1 => ?_)
      refine W.widen (k := cells + 8) (n := slots + 64) (Nat.add_le_add_left (Nat.le_of_ble_eq_true rfl) _) (Nat.add_le_add_left (Nat.le_of_ble_eq_true rfl) _) ?_
      obtain ⟨hpx, o9, ho9, ρ9, hPa9, hi9, -⟩ := hpo
      obtain ⟨fs', g1, g2⟩ := lw_fs I.h20 I.hs.2.1 hpx
      have h09 : ρ9[0]? = some (.ref (u.1.2 0)) := by rw [hi9 0 (show 0 < 2 by decide), (hpx.1.at I.h20).2]; rfl
      have hWu := lw_wd (I.hs.1) hpx (fun z hz => Or.inl ((by decide +kernel : ∀ z ∈ k_X7_begin_1p.2.2.2.1, z.1 ∈ k_X7_begin_1p.2.2.2.2.1) z hz)) (fun _ => Or.inl rfl)
      have ho9 := List.mem_singleton.mp ho9
      subst ho9
      have hB9 : ∀ b ∈ lw_B 4, lw_b fs' b := en_ac (lw_hb_ok (b := (22, 1, 1)) (by decide +kernel) L1.hD g1 h09 hPa9) (en_ac (lw_hb_ok (b := (21, 1, 1)) (by decide +kernel) L1.hD g1 h09 hPa9) (en_ac (lw_hb_ok (b := (20, 109, 109)) (by decide +kernel) L1.hD g1 h09 hPa9) (en_ac (lw_hb_ok (b := (16, 1, 9)) (by decide +kernel) L1.hD g1 h09 hPa9) (en_ac (lw_bk b17 (g2 17 (by decide +kernel)) (by decide) (by decide)) (en_ac (lw_hb_ok (b := (25, 0, 8)) (by decide +kernel) L1.hD g1 h09 hPa9) en_an)))))
      have hO1 : en_O1 u.2 := (hPa9.2.2 (5, 1, 0, 0, 0, 0) (by decide +kernel)).2
      have hO2 : en_O2 u.2 := (hPa9.2.2 (5, 2, 0, 0, 0, 0) (by decide +kernel)).2
      have hhn := lw_hh (fs := fs') (lo := 0) (hi := 0) (lo' := 1) (hi' := 9) (lw_hb_ok (by decide +kernel) L1.hD g1 h09 hPa9) (lw_hb_ok (b := (16, 1, 9)) (by decide +kernel) L1.hD g1 h09 hPa9) (by decide)
      obtain ⟨cx9, cy9, hS9⟩ := lw_on2 (st := 4) (fun q hq => I.h27 q (lw_new hpx.1 (by decide) hq)) g1 hWu hO1 hO2 (by decide) hB9 hhn
      exact k _ _ _ _ _ _ _ _ hrv (lw_Iq hLP I hpx (by decide +kernel) g1 (by decide) (lw_Io I hpx (by decide +kernel)) (lw_Id I hpx (by decide +kernel)) hS9) L1
    · have hb1 := hb2
      obtain ⟨x16, f16, l16, u16⟩ := I.hs.2.2.1 (16, 1, 9) (by decide)
      have l16 : (1 : Int) ≤ x16.toInt := l16
      have u16 : x16.toInt ≤ (9 : Int) := u16
      obtain ⟨x17, f17, l17, u17⟩ := I.hs.2.2.1 (17, 2, 2) (by decide)
      have l17 : (2 : Int) ≤ x17.toInt := l17
      have u17 : x17.toInt ≤ (2 : Int) := u17
      obtain ⟨x20, f20, l20, u20⟩ := I.hs.2.2.1 (20, 109, 109) (by decide)
      have l20 : (109 : Int) ≤ x20.toInt := l20
      have u20 : x20.toInt ≤ (109 : Int) := u20
      obtain ⟨x21, f21, l21, u21⟩ := I.hs.2.2.1 (21, 1, 1) (by decide)
      have l21 : (1 : Int) ≤ x21.toInt := l21
      have u21 : x21.toInt ≤ (1 : Int) := u21
      obtain ⟨x22, f22, l22, u22⟩ := I.hs.2.2.1 (22, 0, 0) (by decide)
      have l22 : (0 : Int) ≤ x22.toInt := l22
      have u22 : x22.toInt ≤ (0 : Int) := u22
      have b22 := I.hs.2.2.1 (22, 0, 0) (by decide)
      have b21 := I.hs.2.2.1 (21, 1, 1) (by decide)
      have b20 := I.hs.2.2.1 (20, 109, 109) (by decide)
      have b16 := I.hs.2.2.1 (16, 1, 9) (by decide)
      have b17 := I.hs.2.2.1 (17, 2, 2) (by decide)
      refine lw_mc (lv' := 1) (ρp := [.ref (sh.2 0), .int a1, .int x16, .int x17, .int x20, .int x21, .int x22]) (As := [.int a1]) F L (ct_X7_begin_3p hl9 (cx := cx) (cy := cy)) gm_X7_begin I.hs.2.1 rfl rfl (Nat.le_of_ble_eq_true rfl) (by decide) ⟨Nat.le_trans (Nat.add_le_add_left (Nat.le_of_ble_eq_true rfl) _) hcs.1, Nat.le_trans (Nat.add_le_add_left (Nat.le_of_ble_eq_true rfl) _) hcs.2⟩ hls rfl (lw_tk (I.hs.1) (by decide)) (I.hO cx cy) (lw_pa (env := k_X7_begin_3p.2.1.1) (fa := k_X7_begin_3p.2.1.2) ⟨⟨0, I.h20, rfl⟩, ⟨a1, rfl, hb1.1, hb1.2⟩, ⟨x16, rfl, l16, u16⟩, ⟨x17, rfl, l17, u17⟩, ⟨x20, rfl, l20, u20⟩, ⟨x21, rfl, l21, u21⟩, ⟨x22, rfl, l22, u22⟩, trivial⟩ (en_ac (lw_f0 I.hs.2.1 rfl f16 rfl) (en_ac (lw_f0 I.hs.2.1 rfl f17 rfl) (en_ac (lw_f0 I.hs.2.1 rfl f20 rfl) (en_ac (lw_f0 I.hs.2.1 rfl f21 rfl) (en_ac (lw_f0 I.hs.2.1 rfl f22 rfl) (en_ac (⟨I.had, I.hs.2.2.2.1⟩) (en_an)))))))) dlw_691 (fun u res H1 locs1 hrv hpo L1 => ?_)
      refine W.widen (k := cells + 8) (n := slots + 64) (Nat.add_le_add_left (Nat.le_of_ble_eq_true rfl) _) (Nat.add_le_add_left (Nat.le_of_ble_eq_true rfl) _) ?_
      obtain ⟨hpx, o9, ho9, ρ9, hPa9, hi9, -⟩ := hpo
      obtain ⟨fs', g1, g2⟩ := lw_fs I.h20 I.hs.2.1 hpx
      have h09 : ρ9[0]? = some (.ref (u.1.2 0)) := by rw [hi9 0 (show 0 < 2 by decide), (hpx.1.at I.h20).2]; rfl
      have hWu := lw_wd (I.hs.1) hpx (fun z hz => Or.inl ((by decide +kernel : ∀ z ∈ k_X7_begin_3p.2.2.2.1, z.1 ∈ k_X7_begin_3p.2.2.2.2.1) z hz)) (fun _ => Or.inl rfl)
      have ho9 := List.mem_singleton.mp ho9
      subst ho9
      have hB9 : ∀ b ∈ lw_B 3, lw_b fs' b := en_ac (lw_hb_ok (b := (22, 1, 1)) (by decide +kernel) L1.hD g1 h09 hPa9) (en_ac (lw_hb_ok (b := (21, 1, 1)) (by decide +kernel) L1.hD g1 h09 hPa9) (en_ac (lw_hb_ok (b := (20, 115, 115)) (by decide +kernel) L1.hD g1 h09 hPa9) (en_ac (lw_hb_ok (b := (16, 1, 9)) (by decide +kernel) L1.hD g1 h09 hPa9) (en_ac (lw_hb_ok (b := (25, 0, 8)) (by decide +kernel) L1.hD g1 h09 hPa9) en_an))))
      have hO1 : en_O1 u.2 := (hPa9.2.2 (5, 1, 0, 0, 0, 0) (by decide +kernel)).2
      have hO2 : en_O2 u.2 := (hPa9.2.2 (5, 2, 0, 0, 0, 0) (by decide +kernel)).2
      have hhn := lw_hh (fs := fs') (lo := 0) (hi := 0) (lo' := 1) (hi' := 9) (lw_hb_ok (by decide +kernel) L1.hD g1 h09 hPa9) (lw_hb_ok (b := (16, 1, 9)) (by decide +kernel) L1.hD g1 h09 hPa9) (by decide)
      obtain ⟨cx9, cy9, hS9⟩ := lw_on2 (st := 3) (fun q hq => I.h27 q (lw_new hpx.1 (by decide) hq)) g1 hWu hO1 hO2 (by decide) hB9 hhn
      exact k _ _ _ _ _ _ _ _ hrv (lw_Iq hLP I hpx (by decide +kernel) g1 (by decide) (lw_Io I hpx (by decide +kernel)) (lw_Id I hpx (by decide +kernel)) hS9) L1
    · have hb1 := hb2
      obtain ⟨x16, f16, l16, u16⟩ := I.hs.2.2.1 (16, 1, 9) (by decide)
      have l16 : (1 : Int) ≤ x16.toInt := l16
      have u16 : x16.toInt ≤ (9 : Int) := u16
      obtain ⟨x17, f17, l17, u17⟩ := I.hs.2.2.1 (17, 2, 2) (by decide)
      have l17 : (2 : Int) ≤ x17.toInt := l17
      have u17 : x17.toInt ≤ (2 : Int) := u17
      obtain ⟨x20, f20, l20, u20⟩ := I.hs.2.2.1 (20, 109, 109) (by decide)
      have l20 : (109 : Int) ≤ x20.toInt := l20
      have u20 : x20.toInt ≤ (109 : Int) := u20
      obtain ⟨x21, f21, l21, u21⟩ := I.hs.2.2.1 (21, 1, 1) (by decide)
      have l21 : (1 : Int) ≤ x21.toInt := l21
      have u21 : x21.toInt ≤ (1 : Int) := u21
      obtain ⟨x22, f22, l22, u22⟩ := I.hs.2.2.1 (22, 0, 0) (by decide)
      have l22 : (0 : Int) ≤ x22.toInt := l22
      have u22 : x22.toInt ≤ (0 : Int) := u22
      refine lw_mc (lv' := 1) (ρp := [.ref (sh.2 0), .int a1, .int x16, .int x17, .int x20, .int x21, .int x22]) (As := [.int a1]) F L (ct_X7_begin_3 hl9 (cx := cx) (cy := cy)) gm_X7_begin I.hs.2.1 rfl rfl (Nat.le_of_ble_eq_true rfl) (by decide) ⟨Nat.le_trans (Nat.add_le_add_left (Nat.le_of_ble_eq_true rfl) _) hcs.1, Nat.le_trans (Nat.add_le_add_left (Nat.le_of_ble_eq_true rfl) _) hcs.2⟩ hls rfl (lw_pre I.hs.1 (by decide) (Or.inr (by decide))) (I.hO cx cy) (lw_pa (env := k_X7_begin_3.2.1.1) (fa := k_X7_begin_3.2.1.2) ⟨⟨0, I.h20, rfl⟩, ⟨a1, rfl, hb1.1, hb1.2⟩, ⟨x16, rfl, l16, u16⟩, ⟨x17, rfl, l17, u17⟩, ⟨x20, rfl, l20, u20⟩, ⟨x21, rfl, l21, u21⟩, ⟨x22, rfl, l22, u22⟩, trivial⟩ (en_ac (lw_f0 I.hs.2.1 rfl f16 rfl) (en_ac (lw_f0 I.hs.2.1 rfl f17 rfl) (en_ac (lw_f0 I.hs.2.1 rfl f20 rfl) (en_ac (lw_f0 I.hs.2.1 rfl f21 rfl) (en_ac (lw_f0 I.hs.2.1 rfl f22 rfl) (en_ac (⟨I.had, I.hs.2.2.2.1⟩) (en_an)))))))) dlw_691 (fun u res H1 locs1 hrv hpo L1 => ?_)
      refine W.widen (k := cells + 8) (n := slots + 64) (Nat.add_le_add_left (Nat.le_of_ble_eq_true rfl) _) (Nat.add_le_add_left (Nat.le_of_ble_eq_true rfl) _) ?_
      obtain ⟨fs', I1⟩ := lw_Iqq hLP I hpo.1 (by decide +kernel) (by decide +kernel) (by decide +kernel) (by decide +kernel) (lw_Io I hpo.1 (by decide +kernel)) (lw_Id I hpo.1 (by decide +kernel))
      exact k _ _ _ _ _ _ _ _ hrv I1 L1
    · have hb1 := hb2
      obtain ⟨x16, f16, l16, u16⟩ := I.hs.2.2.1 (16, 1, 9) (by decide)
      have l16 : (1 : Int) ≤ x16.toInt := l16
      have u16 : x16.toInt ≤ (9 : Int) := u16
      obtain ⟨x17, f17, l17, u17⟩ := I.hs.2.2.1 (17, 2, 2) (by decide)
      have l17 : (2 : Int) ≤ x17.toInt := l17
      have u17 : x17.toInt ≤ (2 : Int) := u17
      obtain ⟨x20, f20, l20, u20⟩ := I.hs.2.2.1 (20, 109, 109) (by decide)
      have l20 : (109 : Int) ≤ x20.toInt := l20
      have u20 : x20.toInt ≤ (109 : Int) := u20
      obtain ⟨x21, f21, l21, u21⟩ := I.hs.2.2.1 (21, 1, 1) (by decide)
      have l21 : (1 : Int) ≤ x21.toInt := l21
      have u21 : x21.toInt ≤ (1 : Int) := u21
      obtain ⟨x22, f22, l22, u22⟩ := I.hs.2.2.1 (22, 0, 0) (by decide)
      have l22 : (0 : Int) ≤ x22.toInt := l22
      have u22 : x22.toInt ≤ (0 : Int) := u22
      refine lw_mc (lv' := 1) (ρp := [.ref (sh.2 0), .int a1, .int x16, .int x17, .int x20, .int x21, .int x22]) (As := [.int a1]) F L (ct_X7_begin_6 hl9 (cx := cx) (cy := cy)) gm_X7_begin I.hs.2.1 rfl rfl (Nat.le_of_ble_eq_true rfl) (by decide) ⟨Nat.le_trans (Nat.add_le_add_left (Nat.le_of_ble_eq_true rfl) _) hcs.1, Nat.le_trans (Nat.add_le_add_left (Nat.le_of_ble_eq_true rfl) _) hcs.2⟩ hls rfl (lw_pre I.hs.1 (by decide) (Or.inr (by decide))) (I.hO cx cy) (lw_pa (env := k_X7_begin_6.2.1.1) (fa := k_X7_begin_6.2.1.2) ⟨⟨0, I.h20, rfl⟩, ⟨a1, rfl, hb1.1, hb1.2⟩, ⟨x16, rfl, l16, u16⟩, ⟨x17, rfl, l17, u17⟩, ⟨x20, rfl, l20, u20⟩, ⟨x21, rfl, l21, u21⟩, ⟨x22, rfl, l22, u22⟩, trivial⟩ (en_ac (lw_f0 I.hs.2.1 rfl f16 rfl) (en_ac (lw_f0 I.hs.2.1 rfl f17 rfl) (en_ac (lw_f0 I.hs.2.1 rfl f20 rfl) (en_ac (lw_f0 I.hs.2.1 rfl f21 rfl) (en_ac (lw_f0 I.hs.2.1 rfl f22 rfl) (en_ac (⟨I.had, I.hs.2.2.2.1⟩) (en_an)))))))) dlw_691 (fun u res H1 locs1 hrv hpo L1 => ?_)
      refine W.widen (k := cells + 8) (n := slots + 64) (Nat.add_le_add_left (Nat.le_of_ble_eq_true rfl) _) (Nat.add_le_add_left (Nat.le_of_ble_eq_true rfl) _) ?_
      obtain ⟨fs', I1⟩ := lw_Iqq hLP I hpo.1 (by decide +kernel) (by decide +kernel) (by decide +kernel) (by decide +kernel) (lw_Io I hpo.1 (by decide +kernel)) (lw_Id I hpo.1 (by decide +kernel))
      exact k _ _ _ _ _ _ _ _ hrv I1 L1
    · have hb1 := hb2
      obtain ⟨x16, f16, l16, u16⟩ := I.hs.2.2.1 (16, 1, 9) (by decide)
      have l16 : (1 : Int) ≤ x16.toInt := l16
      have u16 : x16.toInt ≤ (9 : Int) := u16
      obtain ⟨x17, f17, l17, u17⟩ := I.hs.2.2.1 (17, 2, 2) (by decide)
      have l17 : (2 : Int) ≤ x17.toInt := l17
      have u17 : x17.toInt ≤ (2 : Int) := u17
      obtain ⟨x20, f20, l20, u20⟩ := I.hs.2.2.1 (20, 109, 109) (by decide)
      have l20 : (109 : Int) ≤ x20.toInt := l20
      have u20 : x20.toInt ≤ (109 : Int) := u20
      obtain ⟨x21, f21, l21, u21⟩ := I.hs.2.2.1 (21, 1, 1) (by decide)
      have l21 : (1 : Int) ≤ x21.toInt := l21
      have u21 : x21.toInt ≤ (1 : Int) := u21
      obtain ⟨x22, f22, l22, u22⟩ := I.hs.2.2.1 (22, 0, 0) (by decide)
      have l22 : (0 : Int) ≤ x22.toInt := l22
      have u22 : x22.toInt ≤ (0 : Int) := u22
      refine lw_mc (lv' := 1) (ρp := [.ref (sh.2 0), .int a1, .int x16, .int x17, .int x20, .int x21, .int x22]) (As := [.int a1]) F L (ct_X7_begin_9 hl9 (cx := cx) (cy := cy)) gm_X7_begin I.hs.2.1 rfl rfl (Nat.le_of_ble_eq_true rfl) (by decide) ⟨Nat.le_trans (Nat.add_le_add_left (Nat.le_of_ble_eq_true rfl) _) hcs.1, Nat.le_trans (Nat.add_le_add_left (Nat.le_of_ble_eq_true rfl) _) hcs.2⟩ hls rfl (lw_pre I.hs.1 (by decide) (Or.inr (by decide))) (I.hO cx cy) (lw_pa (env := k_X7_begin_9.2.1.1) (fa := k_X7_begin_9.2.1.2) ⟨⟨0, I.h20, rfl⟩, ⟨a1, rfl, hb1.1, hb1.2⟩, ⟨x16, rfl, l16, u16⟩, ⟨x17, rfl, l17, u17⟩, ⟨x20, rfl, l20, u20⟩, ⟨x21, rfl, l21, u21⟩, ⟨x22, rfl, l22, u22⟩, trivial⟩ (en_ac (lw_f0 I.hs.2.1 rfl f16 rfl) (en_ac (lw_f0 I.hs.2.1 rfl f17 rfl) (en_ac (lw_f0 I.hs.2.1 rfl f20 rfl) (en_ac (lw_f0 I.hs.2.1 rfl f21 rfl) (en_ac (lw_f0 I.hs.2.1 rfl f22 rfl) (en_ac (⟨I.had, I.hs.2.2.2.1⟩) (en_an)))))))) dlw_691 (fun u res H1 locs1 hrv hpo L1 => ?_)
      refine W.widen (k := cells + 8) (n := slots + 64) (Nat.add_le_add_left (Nat.le_of_ble_eq_true rfl) _) (Nat.add_le_add_left (Nat.le_of_ble_eq_true rfl) _) ?_
      obtain ⟨fs', I1⟩ := lw_Iqq hLP I hpo.1 (by decide +kernel) (by decide +kernel) (by decide +kernel) (by decide +kernel) (lw_Io I hpo.1 (by decide +kernel)) (lw_Id I hpo.1 (by decide +kernel))
      exact k _ _ _ _ _ _ _ _ hrv I1 L1
  · skip
    obtain ⟨x16, f16, l16, u16⟩ := I.hs.2.2.1 (16, 1, 9) (by decide)
    have l16 : (1 : Int) ≤ x16.toInt := l16
    have u16 : x16.toInt ≤ (9 : Int) := u16
    obtain ⟨x22, f22, l22, u22⟩ := I.hs.2.2.1 (22, 1, 1) (by decide)
    have l22 : (1 : Int) ≤ x22.toInt := l22
    have u22 : x22.toInt ≤ (1 : Int) := u22
    obtain ⟨x25, f25, l25, u25⟩ := I.hs.2.2.1 (25, 0, 8) (by decide)
    have l25 : (0 : Int) ≤ x25.toInt := l25
    have u25 : x25.toInt ≤ (8 : Int) := u25
    have hOc := (I.hs.2.2.2.2 (by decide)).2.1
    refine lw_mc (lv' := 1) (ρp := [.ref (sh.2 0), .int a1, .int x16, .int x22, .int x25]) (As := [.int a1]) F L (ct_X7_begin_0 hl9 (cx := cx) (cy := cy)) gm_X7_begin I.hs.2.1 rfl rfl (Nat.le_of_ble_eq_true rfl) (by decide) ⟨Nat.le_trans (Nat.add_le_add_left (Nat.le_of_ble_eq_true rfl) _) hcs.1, Nat.le_trans (Nat.add_le_add_left (Nat.le_of_ble_eq_true rfl) _) hcs.2⟩ hls rfl (lw_pre I.hs.1 (by decide) (Or.inl (by decide))) (I.hO cx cy) (lw_pa (env := k_X7_begin_0.2.1.1) (fa := k_X7_begin_0.2.1.2) ⟨⟨0, I.h20, rfl⟩, ⟨a1, rfl, hb1.1, hb1.2⟩, ⟨x16, rfl, l16, u16⟩, ⟨x22, rfl, l22, u22⟩, ⟨x25, rfl, l25, u25⟩, trivial⟩ (en_ac (lw_f0 I.hs.2.1 rfl f16 rfl) (en_ac (lw_f0 I.hs.2.1 rfl f22 rfl) (en_ac (lw_f0 I.hs.2.1 rfl f25 rfl) (en_ac (⟨I.had, hOc⟩) (en_an)))))) dlw_691 (fun u res H1 locs1 hrv hpo L1 => ?_)
    refine W.widen (k := cells + 8) (n := slots + 64) (Nat.add_le_add_left (Nat.le_of_ble_eq_true rfl) _) (Nat.add_le_add_left (Nat.le_of_ble_eq_true rfl) _) ?_
    obtain ⟨fs', I1⟩ := lw_Iqq hLP I hpo.1 (by decide +kernel) (by decide +kernel) (by decide +kernel) (by decide +kernel) (lw_Io I hpo.1 (by decide +kernel)) (lw_Id I hpo.1 (by decide +kernel))
    exact k _ _ _ _ _ _ _ _ hrv I1 L1
  · skip
    obtain ⟨x16, f16, l16, u16⟩ := I.hs.2.2.1 (16, 1, 9) (by decide)
    have l16 : (1 : Int) ≤ x16.toInt := l16
    have u16 : x16.toInt ≤ (9 : Int) := u16
    obtain ⟨x22, f22, l22, u22⟩ := I.hs.2.2.1 (22, 1, 1) (by decide)
    have l22 : (1 : Int) ≤ x22.toInt := l22
    have u22 : x22.toInt ≤ (1 : Int) := u22
    obtain ⟨x25, f25, l25, u25⟩ := I.hs.2.2.1 (25, 0, 8) (by decide)
    have l25 : (0 : Int) ≤ x25.toInt := l25
    have u25 : x25.toInt ≤ (8 : Int) := u25
    have hOc := (I.hs.2.2.2.2 (by decide)).2.1
    refine lw_mc (lv' := 1) (ρp := [.ref (sh.2 0), .int a1, .int x16, .int x22, .int x25]) (As := [.int a1]) F L (ct_X7_begin_0 hl9 (cx := cx) (cy := cy)) gm_X7_begin I.hs.2.1 rfl rfl (Nat.le_of_ble_eq_true rfl) (by decide) ⟨Nat.le_trans (Nat.add_le_add_left (Nat.le_of_ble_eq_true rfl) _) hcs.1, Nat.le_trans (Nat.add_le_add_left (Nat.le_of_ble_eq_true rfl) _) hcs.2⟩ hls rfl (lw_pre I.hs.1 (by decide) (Or.inl (by decide))) (I.hO cx cy) (lw_pa (env := k_X7_begin_0.2.1.1) (fa := k_X7_begin_0.2.1.2) ⟨⟨0, I.h20, rfl⟩, ⟨a1, rfl, hb1.1, hb1.2⟩, ⟨x16, rfl, l16, u16⟩, ⟨x22, rfl, l22, u22⟩, ⟨x25, rfl, l25, u25⟩, trivial⟩ (en_ac (lw_f0 I.hs.2.1 rfl f16 rfl) (en_ac (lw_f0 I.hs.2.1 rfl f22 rfl) (en_ac (lw_f0 I.hs.2.1 rfl f25 rfl) (en_ac (⟨I.had, hOc⟩) (en_an)))))) dlw_691 (fun u res H1 locs1 hrv hpo L1 => ?_)
    refine W.widen (k := cells + 8) (n := slots + 64) (Nat.add_le_add_left (Nat.le_of_ble_eq_true rfl) _) (Nat.add_le_add_left (Nat.le_of_ble_eq_true rfl) _) ?_
    obtain ⟨fs', I1⟩ := lw_Iqq hLP I hpo.1 (by decide +kernel) (by decide +kernel) (by decide +kernel) (by decide +kernel) (lw_Io I hpo.1 (by decide +kernel)) (lw_Id I hpo.1 (by decide +kernel))
    exact k _ _ _ _ _ _ _ _ hrv I1 L1
set_option maxHeartbeats 4000000 in
theorem lm_X7_cancel (hl9 : l.stackTraces = false) (a1 : Int32) (hLP : lw_st LP) (F : lw_Fm p R s m args c D tys cO cD A) (L : lw_H D A s w H locs) (I : lw_I E LP tys cO cD qx qo qd sh w st cx cy fs) (hls : ls.size = 9) (hcs : cells + 8 ≤ R.cells ∧ slots + 64 ≤ R.slots)
    (k : ∀ (u : en_H × va_W) (res : Option Value) (H1 : Heap) (locs1 : List Loc) (st' : Nat) (cx' cy' : Int32) (fs' : List Value), en_rv 0 res → lw_I E LP tys cO cD qx qo qd u.1 u.2 st' cx' cy' fs' → lw_H D A s u.2 H1 locs1 → W p l e R s m args below meth c H1 locs1 (cells + 8) (slots + 64) Q (F0 m 1438 ls (res.toList ++ []))) :
    W p l e R s m args below meth c H locs cells slots Q (F0 m 1435 ls (([.int a1] : List Value).reverse ++ [.ref (sh.2 0)])) := by
  obtain rfl | rfl | rfl | rfl | rfl := lw_stc I.hst
  · skip
    obtain ⟨x22, f22, l22, u22⟩ := I.hs.2.2.1 (22, 0, 0) (by decide)
    refine lw_mc (lv' := 2) (ρp := [.ref (sh.2 0), .int a1, .int x22]) (As := [.int a1]) F L (ct_X7_cancel_0 hl9 (cx := cx) (cy := cy)) gm_X7_cancel I.hs.2.1 rfl rfl (Nat.le_of_ble_eq_true rfl) (by decide) ⟨Nat.le_trans (Nat.add_le_add_left (Nat.le_of_ble_eq_true rfl) _) hcs.1, Nat.le_trans (Nat.add_le_add_left (Nat.le_of_ble_eq_true rfl) _) hcs.2⟩ hls rfl (lw_pre I.hs.1 (by decide) (Or.inr (by decide))) (I.hO cx cy) (lw_pa (env := k_X7_cancel_0.2.1.1) (fa := k_X7_cancel_0.2.1.2) ⟨⟨0, I.h20, rfl⟩, ⟨a1, rfl, en_lo a1, en_hi a1⟩, ⟨x22, rfl, l22, u22⟩, trivial⟩ (en_ac (lw_f0 I.hs.2.1 rfl f22 rfl) (en_an))) dlw_1435 (fun u res H1 locs1 hrv hpo L1 => ?_)
    refine W.widen (k := cells + 8) (n := slots + 64) (Nat.add_le_add_left (Nat.le_of_ble_eq_true rfl) _) (Nat.add_le_add_left (Nat.le_of_ble_eq_true rfl) _) ?_
    obtain ⟨fs', I1⟩ := lw_Iqq hLP I hpo.1 (by decide +kernel) (by decide +kernel) (by decide +kernel) (by decide +kernel) (lw_Io I hpo.1 (by decide +kernel)) (lw_Id I hpo.1 (by decide +kernel))
    exact k _ _ _ _ _ _ _ _ hrv I1 L1
  · skip
    obtain ⟨x22, f22, l22, u22⟩ := I.hs.2.2.1 (22, 0, 0) (by decide)
    refine lw_mc (lv' := 2) (ρp := [.ref (sh.2 0), .int a1, .int x22]) (As := [.int a1]) F L (ct_X7_cancel_0 hl9 (cx := cx) (cy := cy)) gm_X7_cancel I.hs.2.1 rfl rfl (Nat.le_of_ble_eq_true rfl) (by decide) ⟨Nat.le_trans (Nat.add_le_add_left (Nat.le_of_ble_eq_true rfl) _) hcs.1, Nat.le_trans (Nat.add_le_add_left (Nat.le_of_ble_eq_true rfl) _) hcs.2⟩ hls rfl (lw_pre I.hs.1 (by decide) (Or.inr (by decide))) (I.hO cx cy) (lw_pa (env := k_X7_cancel_0.2.1.1) (fa := k_X7_cancel_0.2.1.2) ⟨⟨0, I.h20, rfl⟩, ⟨a1, rfl, en_lo a1, en_hi a1⟩, ⟨x22, rfl, l22, u22⟩, trivial⟩ (en_ac (lw_f0 I.hs.2.1 rfl f22 rfl) (en_an))) dlw_1435 (fun u res H1 locs1 hrv hpo L1 => ?_)
    refine W.widen (k := cells + 8) (n := slots + 64) (Nat.add_le_add_left (Nat.le_of_ble_eq_true rfl) _) (Nat.add_le_add_left (Nat.le_of_ble_eq_true rfl) _) ?_
    obtain ⟨fs', I1⟩ := lw_Iqq hLP I hpo.1 (by decide +kernel) (by decide +kernel) (by decide +kernel) (by decide +kernel) (lw_Io I hpo.1 (by decide +kernel)) (lw_Id I hpo.1 (by decide +kernel))
    exact k _ _ _ _ _ _ _ _ hrv I1 L1
  · skip
    obtain ⟨x22, f22, l22, u22⟩ := I.hs.2.2.1 (22, 0, 0) (by decide)
    refine lw_mc (lv' := 2) (ρp := [.ref (sh.2 0), .int a1, .int x22]) (As := [.int a1]) F L (ct_X7_cancel_0 hl9 (cx := cx) (cy := cy)) gm_X7_cancel I.hs.2.1 rfl rfl (Nat.le_of_ble_eq_true rfl) (by decide) ⟨Nat.le_trans (Nat.add_le_add_left (Nat.le_of_ble_eq_true rfl) _) hcs.1, Nat.le_trans (Nat.add_le_add_left (Nat.le_of_ble_eq_true rfl) _) hcs.2⟩ hls rfl (lw_pre I.hs.1 (by decide) (Or.inr (by decide))) (I.hO cx cy) (lw_pa (env := k_X7_cancel_0.2.1.1) (fa := k_X7_cancel_0.2.1.2) ⟨⟨0, I.h20, rfl⟩, ⟨a1, rfl, en_lo a1, en_hi a1⟩, ⟨x22, rfl, l22, u22⟩, trivial⟩ (en_ac (lw_f0 I.hs.2.1 rfl f22 rfl) (en_an))) dlw_1435 (fun u res H1 locs1 hrv hpo L1 => ?_)
    refine W.widen (k := cells + 8) (n := slots + 64) (Nat.add_le_add_left (Nat.le_of_ble_eq_true rfl) _) (Nat.add_le_add_left (Nat.le_of_ble_eq_true rfl) _) ?_
    obtain ⟨fs', I1⟩ := lw_Iqq hLP I hpo.1 (by decide +kernel) (by decide +kernel) (by decide +kernel) (by decide +kernel) (lw_Io I hpo.1 (by decide +kernel)) (lw_Id I hpo.1 (by decide +kernel))
    exact k _ _ _ _ _ _ _ _ hrv I1 L1
  · skip
    obtain ⟨x22, f22, l22, u22⟩ := I.hs.2.2.1 (22, 1, 1) (by decide)
    have hOc := (I.hs.2.2.2.2 (by decide)).2.1
    have hAh := (I.hs.2.2.2.2 (by decide)).2.2
    rcases hAh with hAl | f28
    · skip
      obtain ⟨a9, cA9, g9, f4, w18, hInv⟩ := lw_ah24 I hAl
      refine lw_mc (lv' := 2) (ρp := [.ref (sh.2 0), .int a1, .int x22, .ref (sh.2 18), .int (g9 0), .int (g9 1), .int (g9 2), .int (g9 3), .int (g9 4), .int (g9 5), .int (g9 6), .int (g9 7), .int (g9 8), .int (g9 9), .int (g9 10), .int (g9 11), .int (g9 12), .int (g9 13), .int (g9 14), .int (g9 15), .int (g9 16), .int (g9 17), .int (g9 18), .int (g9 19), .int (g9 20), .int (g9 21), .int (g9 22), .int (g9 23)]) (As := [.int a1]) F L (ct_X7_cancel_1 hl9 (cx := cx) (cy := cy)) gm_X7_cancel I.hs.2.1 rfl rfl (Nat.le_of_ble_eq_true rfl) (by decide) ⟨Nat.le_trans (Nat.add_le_add_left (Nat.le_of_ble_eq_true rfl) _) hcs.1, Nat.le_trans (Nat.add_le_add_left (Nat.le_of_ble_eq_true rfl) _) hcs.2⟩ hls rfl (lw_pre I.hs.1 (by decide) (Or.inl (by decide))) (I.hO cx cy) (lw_pa (env := k_X7_cancel_1.2.1.1) (fa := k_X7_cancel_1.2.1.2) ⟨⟨0, I.h20, rfl⟩, ⟨a1, rfl, en_lo a1, en_hi a1⟩, ⟨x22, rfl, l22, u22⟩, ⟨18, I.h28, rfl⟩, ⟨g9 0, rfl, hInv.1 0 _ rfl⟩, ⟨g9 1, rfl, hInv.1 1 _ rfl⟩, ⟨g9 2, rfl, hInv.1 2 _ rfl⟩, ⟨g9 3, rfl, hInv.1 3 _ rfl⟩, ⟨g9 4, rfl, hInv.1 4 _ rfl⟩, ⟨g9 5, rfl, hInv.1 5 _ rfl⟩, ⟨g9 6, rfl, hInv.1 6 _ rfl⟩, ⟨g9 7, rfl, hInv.1 7 _ rfl⟩, ⟨g9 8, rfl, hInv.1 8 _ rfl⟩, ⟨g9 9, rfl, hInv.1 9 _ rfl⟩, ⟨g9 10, rfl, hInv.1 10 _ rfl⟩, ⟨g9 11, rfl, hInv.1 11 _ rfl⟩, ⟨g9 12, rfl, hInv.1 12 _ rfl⟩, ⟨g9 13, rfl, hInv.1 13 _ rfl⟩, ⟨g9 14, rfl, hInv.1 14 _ rfl⟩, ⟨g9 15, rfl, hInv.1 15 _ rfl⟩, ⟨g9 16, rfl, hInv.1 16 _ rfl⟩, ⟨g9 17, rfl, hInv.1 17 _ rfl⟩, ⟨g9 18, rfl, hInv.1 18 _ rfl⟩, ⟨g9 19, rfl, hInv.1 19 _ rfl⟩, ⟨g9 20, rfl, hInv.1 20 _ rfl⟩, ⟨g9 21, rfl, hInv.1 21 _ rfl⟩, ⟨g9 22, rfl, hInv.1 22 _ rfl⟩, ⟨g9 23, rfl, hInv.1 23 _ rfl⟩, trivial⟩ (en_ac (lw_f0 I.hs.2.1 rfl f22 rfl) (en_ac (⟨0, _, 13, fs, _, rfl, I.hs.2.1, f4, rfl⟩) (en_ac (⟨18, _, 24, cA9, g9, rfl, w18, by decide, rfl⟩) (en_ac (⟨18, _, 24, cA9, g9, rfl, w18, by decide, rfl⟩) (en_ac (⟨18, _, 24, cA9, g9, rfl, w18, by decide, rfl⟩) (en_ac (⟨18, _, 24, cA9, g9, rfl, w18, by decide, rfl⟩) (en_ac (⟨18, _, 24, cA9, g9, rfl, w18, by decide, rfl⟩) (en_ac (⟨18, _, 24, cA9, g9, rfl, w18, by decide, rfl⟩) (en_ac (⟨18, _, 24, cA9, g9, rfl, w18, by decide, rfl⟩) (en_ac (⟨18, _, 24, cA9, g9, rfl, w18, by decide, rfl⟩) (en_ac (⟨18, _, 24, cA9, g9, rfl, w18, by decide, rfl⟩) (en_ac (⟨18, _, 24, cA9, g9, rfl, w18, by decide, rfl⟩) (en_ac (⟨18, _, 24, cA9, g9, rfl, w18, by decide, rfl⟩) (en_ac (⟨18, _, 24, cA9, g9, rfl, w18, by decide, rfl⟩) (en_ac (⟨18, _, 24, cA9, g9, rfl, w18, by decide, rfl⟩) (en_ac (⟨18, _, 24, cA9, g9, rfl, w18, by decide, rfl⟩) (en_ac (⟨18, _, 24, cA9, g9, rfl, w18, by decide, rfl⟩) (en_ac (⟨18, _, 24, cA9, g9, rfl, w18, by decide, rfl⟩) (en_ac (⟨18, _, 24, cA9, g9, rfl, w18, by decide, rfl⟩) (en_ac (⟨18, _, 24, cA9, g9, rfl, w18, by decide, rfl⟩) (en_ac (⟨18, _, 24, cA9, g9, rfl, w18, by decide, rfl⟩) (en_ac (⟨18, _, 24, cA9, g9, rfl, w18, by decide, rfl⟩) (en_ac (⟨18, _, 24, cA9, g9, rfl, w18, by decide, rfl⟩) (en_ac (⟨18, _, 24, cA9, g9, rfl, w18, by decide, rfl⟩) (en_ac (⟨18, _, 24, cA9, g9, rfl, w18, by decide, rfl⟩) (en_ac (⟨18, _, 24, cA9, g9, rfl, w18, by decide, rfl⟩) (en_ac (⟨_, _, _, rfl, rfl, rfl, fun a1 a2 => hInv.2 (0, 108, 110, 1, 2) (by decide) a1 a2 fun h => absurd h (by decide)⟩) (en_ac (⟨_, _, _, rfl, rfl, rfl, fun a1 a2 => hInv.2 (9, 1, 1, 4, 5) (by decide) a1 a2 fun h => absurd h (by decide)⟩) (en_ac (⟨_, _, _, rfl, rfl, rfl, fun a1 a2 => hInv.2 (0, 108, 108, 4, 5) (by decide) a1 a2 fun h => absurd h (by decide)⟩) (en_ac (⟨_, _, _, rfl, rfl, rfl, fun a1 a2 => hInv.2 (0, 115, 115, 4, 5) (by decide) a1 a2 fun h => absurd h (by decide)⟩) (en_ac (⟨_, _, _, rfl, rfl, rfl, fun a1 a2 => hInv.2 (16, 1, 1, 19, 20) (by decide) a1 a2 fun h => absurd h (by decide)⟩) (en_ac (⟨_, _, _, rfl, rfl, rfl, fun a1 a2 => hInv.2 (13, 1, 1, 14, 15) (by decide) a1 a2 fun h => absurd h (by decide)⟩) (en_ac (⟨_, _, _, rfl, rfl, rfl, fun a1 a2 => hInv.2 (16, 1, 1, 17, 18) (by decide) a1 a2 fun h => absurd h (by decide)⟩) (en_ac (⟨_, _, _, rfl, rfl, rfl, fun a1 a2 => hInv.2 (10, 108, 110, 11, 12) (by decide) a1 a2 fun h => absurd h (by decide)⟩) (en_ac (⟨_, _, _, rfl, rfl, rfl, fun a1 a2 hc => hInv.2 (0, 115, 115, 101, 2) (by decide) a1 a2 fun _ => hc⟩) (en_ac (⟨_, _, _, rfl, rfl, rfl, fun a1 a2 => hInv.2 (13, 1, 1, 4, 5) (by decide) a1 a2 fun h => absurd h (by decide)⟩) (en_ac (⟨I.had, hOc⟩) (en_an))))))))))))))))))))))))))))))))))))))) dlw_1435 (fun u res H1 locs1 hrv hpo L1 => ?_)
      refine W.widen (k := cells + 8) (n := slots + 64) (Nat.add_le_add_left (Nat.le_of_ble_eq_true rfl) _) (Nat.add_le_add_left (Nat.le_of_ble_eq_true rfl) _) ?_
      obtain ⟨fs', g1, g2⟩ := lw_fs I.h20 I.hs.2.1 hpo.1
      have hA1 : lw_ah cx cy fs' u.2 := lw_ahA I hpo.1 g1 (by decide +kernel) hAl
      exact k _ _ _ _ _ _ _ _ hrv (lw_Iq hLP I hpo.1 (by decide +kernel) g1 I.hst (lw_Io I hpo.1 (by decide +kernel)) (lw_Id I hpo.1 (by decide +kernel)) (lw_q I.h20 I.hlen (I.hO cx cy) I.hs hpo.1 (by decide +kernel) g1 (fun _ => hA1))) L1
    · skip
      have l28 : (-1 : Int) ≤ (-1 : Int32).toInt := by decide
      have u28 : (-1 : Int32).toInt ≤ (-1 : Int) := by decide
      obtain ⟨x28, e28⟩ : ∃ x : Int32, x = -1 := ⟨_, rfl⟩
      rw [← e28] at f28 l28 u28
      refine lw_mc (lv' := 2) (ρp := [.ref (sh.2 0), .int a1, .int x22, .int x28]) (As := [.int a1]) F L (ct_X7_cancel_2 hl9 (cx := cx) (cy := cy)) gm_X7_cancel I.hs.2.1 rfl rfl (Nat.le_of_ble_eq_true rfl) (by decide) ⟨Nat.le_trans (Nat.add_le_add_left (Nat.le_of_ble_eq_true rfl) _) hcs.1, Nat.le_trans (Nat.add_le_add_left (Nat.le_of_ble_eq_true rfl) _) hcs.2⟩ hls rfl (lw_pre I.hs.1 (by decide) (Or.inl (by decide))) (I.hO cx cy) (lw_pa (env := k_X7_cancel_2.2.1.1) (fa := k_X7_cancel_2.2.1.2) ⟨⟨0, I.h20, rfl⟩, ⟨a1, rfl, en_lo a1, en_hi a1⟩, ⟨x22, rfl, l22, u22⟩, ⟨x28, rfl, l28, u28⟩, trivial⟩ (en_ac (lw_f0 I.hs.2.1 rfl f22 rfl) (en_ac (lw_f0 I.hs.2.1 rfl f28 rfl) (en_ac (⟨I.had, hOc⟩) (en_an))))) dlw_1435 (fun u res H1 locs1 hrv hpo L1 => ?_)
      refine W.widen (k := cells + 8) (n := slots + 64) (Nat.add_le_add_left (Nat.le_of_ble_eq_true rfl) _) (Nat.add_le_add_left (Nat.le_of_ble_eq_true rfl) _) ?_
      obtain ⟨fs', I1⟩ := lw_Iqq hLP I hpo.1 (by decide +kernel) (by decide +kernel) (by decide +kernel) (by decide +kernel) (lw_Io I hpo.1 (by decide +kernel)) (lw_Id I hpo.1 (by decide +kernel))
      exact k _ _ _ _ _ _ _ _ hrv I1 L1
  · skip
    obtain ⟨x22, f22, l22, u22⟩ := I.hs.2.2.1 (22, 1, 1) (by decide)
    have hOc := (I.hs.2.2.2.2 (by decide)).2.1
    have hAh := (I.hs.2.2.2.2 (by decide)).2.2
    rcases hAh with hAl | f28
    · skip
      obtain ⟨a9, cA9, g9, f4, w18, hInv⟩ := lw_ah24 I hAl
      refine lw_mc (lv' := 2) (ρp := [.ref (sh.2 0), .int a1, .int x22, .ref (sh.2 18), .int (g9 0), .int (g9 1), .int (g9 2), .int (g9 3), .int (g9 4), .int (g9 5), .int (g9 6), .int (g9 7), .int (g9 8), .int (g9 9), .int (g9 10), .int (g9 11), .int (g9 12), .int (g9 13), .int (g9 14), .int (g9 15), .int (g9 16), .int (g9 17), .int (g9 18), .int (g9 19), .int (g9 20), .int (g9 21), .int (g9 22), .int (g9 23)]) (As := [.int a1]) F L (ct_X7_cancel_1 hl9 (cx := cx) (cy := cy)) gm_X7_cancel I.hs.2.1 rfl rfl (Nat.le_of_ble_eq_true rfl) (by decide) ⟨Nat.le_trans (Nat.add_le_add_left (Nat.le_of_ble_eq_true rfl) _) hcs.1, Nat.le_trans (Nat.add_le_add_left (Nat.le_of_ble_eq_true rfl) _) hcs.2⟩ hls rfl (lw_pre I.hs.1 (by decide) (Or.inl (by decide))) (I.hO cx cy) (lw_pa (env := k_X7_cancel_1.2.1.1) (fa := k_X7_cancel_1.2.1.2) ⟨⟨0, I.h20, rfl⟩, ⟨a1, rfl, en_lo a1, en_hi a1⟩, ⟨x22, rfl, l22, u22⟩, ⟨18, I.h28, rfl⟩, ⟨g9 0, rfl, hInv.1 0 _ rfl⟩, ⟨g9 1, rfl, hInv.1 1 _ rfl⟩, ⟨g9 2, rfl, hInv.1 2 _ rfl⟩, ⟨g9 3, rfl, hInv.1 3 _ rfl⟩, ⟨g9 4, rfl, hInv.1 4 _ rfl⟩, ⟨g9 5, rfl, hInv.1 5 _ rfl⟩, ⟨g9 6, rfl, hInv.1 6 _ rfl⟩, ⟨g9 7, rfl, hInv.1 7 _ rfl⟩, ⟨g9 8, rfl, hInv.1 8 _ rfl⟩, ⟨g9 9, rfl, hInv.1 9 _ rfl⟩, ⟨g9 10, rfl, hInv.1 10 _ rfl⟩, ⟨g9 11, rfl, hInv.1 11 _ rfl⟩, ⟨g9 12, rfl, hInv.1 12 _ rfl⟩, ⟨g9 13, rfl, hInv.1 13 _ rfl⟩, ⟨g9 14, rfl, hInv.1 14 _ rfl⟩, ⟨g9 15, rfl, hInv.1 15 _ rfl⟩, ⟨g9 16, rfl, hInv.1 16 _ rfl⟩, ⟨g9 17, rfl, hInv.1 17 _ rfl⟩, ⟨g9 18, rfl, hInv.1 18 _ rfl⟩, ⟨g9 19, rfl, hInv.1 19 _ rfl⟩, ⟨g9 20, rfl, hInv.1 20 _ rfl⟩, ⟨g9 21, rfl, hInv.1 21 _ rfl⟩, ⟨g9 22, rfl, hInv.1 22 _ rfl⟩, ⟨g9 23, rfl, hInv.1 23 _ rfl⟩, trivial⟩ (en_ac (lw_f0 I.hs.2.1 rfl f22 rfl) (en_ac (⟨0, _, 13, fs, _, rfl, I.hs.2.1, f4, rfl⟩) (en_ac (⟨18, _, 24, cA9, g9, rfl, w18, by decide, rfl⟩) (en_ac (⟨18, _, 24, cA9, g9, rfl, w18, by decide, rfl⟩) (en_ac (⟨18, _, 24, cA9, g9, rfl, w18, by decide, rfl⟩) (en_ac (⟨18, _, 24, cA9, g9, rfl, w18, by decide, rfl⟩) (en_ac (⟨18, _, 24, cA9, g9, rfl, w18, by decide, rfl⟩) (en_ac (⟨18, _, 24, cA9, g9, rfl, w18, by decide, rfl⟩) (en_ac (⟨18, _, 24, cA9, g9, rfl, w18, by decide, rfl⟩) (en_ac (⟨18, _, 24, cA9, g9, rfl, w18, by decide, rfl⟩) (en_ac (⟨18, _, 24, cA9, g9, rfl, w18, by decide, rfl⟩) (en_ac (⟨18, _, 24, cA9, g9, rfl, w18, by decide, rfl⟩) (en_ac (⟨18, _, 24, cA9, g9, rfl, w18, by decide, rfl⟩) (en_ac (⟨18, _, 24, cA9, g9, rfl, w18, by decide, rfl⟩) (en_ac (⟨18, _, 24, cA9, g9, rfl, w18, by decide, rfl⟩) (en_ac (⟨18, _, 24, cA9, g9, rfl, w18, by decide, rfl⟩) (en_ac (⟨18, _, 24, cA9, g9, rfl, w18, by decide, rfl⟩) (en_ac (⟨18, _, 24, cA9, g9, rfl, w18, by decide, rfl⟩) (en_ac (⟨18, _, 24, cA9, g9, rfl, w18, by decide, rfl⟩) (en_ac (⟨18, _, 24, cA9, g9, rfl, w18, by decide, rfl⟩) (en_ac (⟨18, _, 24, cA9, g9, rfl, w18, by decide, rfl⟩) (en_ac (⟨18, _, 24, cA9, g9, rfl, w18, by decide, rfl⟩) (en_ac (⟨18, _, 24, cA9, g9, rfl, w18, by decide, rfl⟩) (en_ac (⟨18, _, 24, cA9, g9, rfl, w18, by decide, rfl⟩) (en_ac (⟨18, _, 24, cA9, g9, rfl, w18, by decide, rfl⟩) (en_ac (⟨18, _, 24, cA9, g9, rfl, w18, by decide, rfl⟩) (en_ac (⟨_, _, _, rfl, rfl, rfl, fun a1 a2 => hInv.2 (0, 108, 110, 1, 2) (by decide) a1 a2 fun h => absurd h (by decide)⟩) (en_ac (⟨_, _, _, rfl, rfl, rfl, fun a1 a2 => hInv.2 (9, 1, 1, 4, 5) (by decide) a1 a2 fun h => absurd h (by decide)⟩) (en_ac (⟨_, _, _, rfl, rfl, rfl, fun a1 a2 => hInv.2 (0, 108, 108, 4, 5) (by decide) a1 a2 fun h => absurd h (by decide)⟩) (en_ac (⟨_, _, _, rfl, rfl, rfl, fun a1 a2 => hInv.2 (0, 115, 115, 4, 5) (by decide) a1 a2 fun h => absurd h (by decide)⟩) (en_ac (⟨_, _, _, rfl, rfl, rfl, fun a1 a2 => hInv.2 (16, 1, 1, 19, 20) (by decide) a1 a2 fun h => absurd h (by decide)⟩) (en_ac (⟨_, _, _, rfl, rfl, rfl, fun a1 a2 => hInv.2 (13, 1, 1, 14, 15) (by decide) a1 a2 fun h => absurd h (by decide)⟩) (en_ac (⟨_, _, _, rfl, rfl, rfl, fun a1 a2 => hInv.2 (16, 1, 1, 17, 18) (by decide) a1 a2 fun h => absurd h (by decide)⟩) (en_ac (⟨_, _, _, rfl, rfl, rfl, fun a1 a2 => hInv.2 (10, 108, 110, 11, 12) (by decide) a1 a2 fun h => absurd h (by decide)⟩) (en_ac (⟨_, _, _, rfl, rfl, rfl, fun a1 a2 hc => hInv.2 (0, 115, 115, 101, 2) (by decide) a1 a2 fun _ => hc⟩) (en_ac (⟨_, _, _, rfl, rfl, rfl, fun a1 a2 => hInv.2 (13, 1, 1, 4, 5) (by decide) a1 a2 fun h => absurd h (by decide)⟩) (en_ac (⟨I.had, hOc⟩) (en_an))))))))))))))))))))))))))))))))))))))) dlw_1435 (fun u res H1 locs1 hrv hpo L1 => ?_)
      refine W.widen (k := cells + 8) (n := slots + 64) (Nat.add_le_add_left (Nat.le_of_ble_eq_true rfl) _) (Nat.add_le_add_left (Nat.le_of_ble_eq_true rfl) _) ?_
      obtain ⟨fs', g1, g2⟩ := lw_fs I.h20 I.hs.2.1 hpo.1
      have hA1 : lw_ah cx cy fs' u.2 := lw_ahA I hpo.1 g1 (by decide +kernel) hAl
      exact k _ _ _ _ _ _ _ _ hrv (lw_Iq hLP I hpo.1 (by decide +kernel) g1 I.hst (lw_Io I hpo.1 (by decide +kernel)) (lw_Id I hpo.1 (by decide +kernel)) (lw_q I.h20 I.hlen (I.hO cx cy) I.hs hpo.1 (by decide +kernel) g1 (fun _ => hA1))) L1
    · skip
      have l28 : (-1 : Int) ≤ (-1 : Int32).toInt := by decide
      have u28 : (-1 : Int32).toInt ≤ (-1 : Int) := by decide
      obtain ⟨x28, e28⟩ : ∃ x : Int32, x = -1 := ⟨_, rfl⟩
      rw [← e28] at f28 l28 u28
      refine lw_mc (lv' := 2) (ρp := [.ref (sh.2 0), .int a1, .int x22, .int x28]) (As := [.int a1]) F L (ct_X7_cancel_2 hl9 (cx := cx) (cy := cy)) gm_X7_cancel I.hs.2.1 rfl rfl (Nat.le_of_ble_eq_true rfl) (by decide) ⟨Nat.le_trans (Nat.add_le_add_left (Nat.le_of_ble_eq_true rfl) _) hcs.1, Nat.le_trans (Nat.add_le_add_left (Nat.le_of_ble_eq_true rfl) _) hcs.2⟩ hls rfl (lw_pre I.hs.1 (by decide) (Or.inl (by decide))) (I.hO cx cy) (lw_pa (env := k_X7_cancel_2.2.1.1) (fa := k_X7_cancel_2.2.1.2) ⟨⟨0, I.h20, rfl⟩, ⟨a1, rfl, en_lo a1, en_hi a1⟩, ⟨x22, rfl, l22, u22⟩, ⟨x28, rfl, l28, u28⟩, trivial⟩ (en_ac (lw_f0 I.hs.2.1 rfl f22 rfl) (en_ac (lw_f0 I.hs.2.1 rfl f28 rfl) (en_ac (⟨I.had, hOc⟩) (en_an))))) dlw_1435 (fun u res H1 locs1 hrv hpo L1 => ?_)
      refine W.widen (k := cells + 8) (n := slots + 64) (Nat.add_le_add_left (Nat.le_of_ble_eq_true rfl) _) (Nat.add_le_add_left (Nat.le_of_ble_eq_true rfl) _) ?_
      obtain ⟨fs', I1⟩ := lw_Iqq hLP I hpo.1 (by decide +kernel) (by decide +kernel) (by decide +kernel) (by decide +kernel) (lw_Io I hpo.1 (by decide +kernel)) (lw_Id I hpo.1 (by decide +kernel))
      exact k _ _ _ _ _ _ _ _ hrv I1 L1
set_option maxHeartbeats 4000000 in
theorem lm_X7_checksum (hl9 : l.stackTraces = false) (hLP : lw_st LP) (F : lw_Fm p R s m args c D tys cO cD A) (L : lw_H D A s w H locs) (I : lw_I E LP tys cO cD qx qo qd sh w st cx cy fs) (hls : ls.size = 9) (hcs : cells + 8 ≤ R.cells ∧ slots + 64 ≤ R.slots)
    (k : ∀ (u : en_H × va_W) (res : Option Value) (H1 : Heap) (locs1 : List Loc) (st' : Nat) (cx' cy' : Int32) (fs' : List Value), en_rv 1 res → lw_I E LP tys cO cD qx qo qd u.1 u.2 st' cx' cy' fs' → lw_H D A s u.2 H1 locs1 → W p l e R s m args below meth c H1 locs1 (cells + 8) (slots + 64) Q (F0 m 2254 ls (res.toList ++ []))) :
    W p l e R s m args below meth c H locs cells slots Q (F0 m 2251 ls (([] : List Value).reverse ++ [.ref (sh.2 0)])) := by
  by_cases h3 : 3 ≤ st
  · skip
    obtain ⟨⟨x22, f22, l22, u22⟩, ⟨x16, f16, l16, u16⟩, x25, f25, l25, u25⟩ := lw_bon h3 I.hs.2.2.1
    have hOc := (I.hs.2.2.2.2 h3).2.1
    have hAh := (I.hs.2.2.2.2 h3).2.2
    refine lw_mc (lv' := 0) (ρp := [.ref (sh.2 0), .int x16]) (As := []) F L (ct_X7_checksum_1 hl9 (cx := cx) (cy := cy)) gm_X7_checksum I.hs.2.1 rfl rfl (Nat.le_of_ble_eq_true rfl) (by decide) ⟨Nat.le_trans (Nat.add_le_add_left (Nat.le_of_ble_eq_true rfl) _) hcs.1, Nat.le_trans (Nat.add_le_add_left (Nat.le_of_ble_eq_true rfl) _) hcs.2⟩ hls rfl (lw_pre I.hs.1 (by decide) (Or.inl h3)) (I.hO cx cy) (lw_pa (env := k_X7_checksum_1.2.1.1) (fa := k_X7_checksum_1.2.1.2) ⟨⟨0, I.h20, rfl⟩, ⟨x16, rfl, l16, u16⟩, trivial⟩ (en_ac (lw_f0 I.hs.2.1 rfl f16 rfl) (en_ac (⟨I.had, hOc⟩) (en_an)))) dlw_2251 (fun u res H1 locs1 hrv hpo L1 => ?_)
    refine W.widen (k := cells + 8) (n := slots + 64) (Nat.add_le_add_left (Nat.le_of_ble_eq_true rfl) _) (Nat.add_le_add_left (Nat.le_of_ble_eq_true rfl) _) ?_
    obtain ⟨fs', I1⟩ := lw_Iqq hLP I hpo.1 (by decide +kernel) (lw_qon h3 (by decide +kernel)) (by decide +kernel) (by decide +kernel) (lw_Io I hpo.1 (by decide +kernel)) (lw_Id I hpo.1 (by decide +kernel))
    exact k _ _ _ _ _ _ _ _ hrv I1 L1
  · skip
    obtain ⟨x22, f22, l22, u22⟩ := lw_boff h3 I.hs.2.2.1
    refine lw_mc (lv' := 0) (ρp := [.ref (sh.2 0)]) (As := []) F L (ct_X7_checksum_0 hl9 (cx := cx) (cy := cy)) gm_X7_checksum I.hs.2.1 rfl rfl (Nat.le_of_ble_eq_true rfl) (by decide) ⟨Nat.le_trans (Nat.add_le_add_left (Nat.le_of_ble_eq_true rfl) _) hcs.1, Nat.le_trans (Nat.add_le_add_left (Nat.le_of_ble_eq_true rfl) _) hcs.2⟩ hls rfl (lw_pre I.hs.1 (by decide) (Or.inr (by decide))) (I.hO cx cy) (lw_pa (env := k_X7_checksum_0.2.1.1) (fa := k_X7_checksum_0.2.1.2) ⟨⟨0, I.h20, rfl⟩, trivial⟩ (en_an)) dlw_2251 (fun u res H1 locs1 hrv hpo L1 => ?_)
    refine W.widen (k := cells + 8) (n := slots + 64) (Nat.add_le_add_left (Nat.le_of_ble_eq_true rfl) _) (Nat.add_le_add_left (Nat.le_of_ble_eq_true rfl) _) ?_
    obtain ⟨fs', I1⟩ := lw_Iqq hLP I hpo.1 (by decide +kernel) (lw_qoff h3 (by decide +kernel)) (by decide +kernel) (by decide +kernel) (lw_Io I hpo.1 (by decide +kernel)) (lw_Id I hpo.1 (by decide +kernel))
    exact k _ _ _ _ _ _ _ _ hrv I1 L1
set_option maxHeartbeats 4000000 in
theorem lm_X7_concede (hl9 : l.stackTraces = false) (a1 : Int32) (a2 : Int32) (hb2 : 0 ≤ a2.toInt ∧ a2.toInt ≤ 65535) (hLP : lw_st LP) (F : lw_Fm p R s m args c D tys cO cD A) (L : lw_H D A s w H locs) (I : lw_I E LP tys cO cD qx qo qd sh w st cx cy fs) (hls : ls.size = 9) (hcs : cells + 8 ≤ R.cells ∧ slots + 64 ≤ R.slots)
    (k : ∀ (u : en_H × va_W) (res : Option Value) (H1 : Heap) (locs1 : List Loc) (st' : Nat) (cx' cy' : Int32) (fs' : List Value), en_rv 0 res → lw_I E LP tys cO cD qx qo qd u.1 u.2 st' cx' cy' fs' → lw_H D A s u.2 H1 locs1 → W p l e R s m args below meth c H1 locs1 (cells + 8) (slots + 64) Q (F0 m 1480 ls (res.toList ++ []))) :
    W p l e R s m args below meth c H locs cells slots Q (F0 m 1477 ls (([.int a1, .int a2] : List Value).reverse ++ [.ref (sh.2 0)])) := by
  obtain rfl | rfl | rfl | rfl | rfl := lw_stc I.hst
  · skip
    obtain ⟨x22, f22, l22, u22⟩ := I.hs.2.2.1 (22, 0, 0) (by decide)
    refine lw_mc (lv' := 2) (ρp := [.ref (sh.2 0), .int a1, .int a2, .int x22]) (As := [.int a1, .int a2]) F L (ct_X7_concede_0 hl9 (cx := cx) (cy := cy)) gm_X7_concede I.hs.2.1 rfl rfl (Nat.le_of_ble_eq_true rfl) (by decide) ⟨Nat.le_trans (Nat.add_le_add_left (Nat.le_of_ble_eq_true rfl) _) hcs.1, Nat.le_trans (Nat.add_le_add_left (Nat.le_of_ble_eq_true rfl) _) hcs.2⟩ hls rfl (lw_pre I.hs.1 (by decide) (Or.inr (by decide))) (I.hO cx cy) (lw_pa (env := k_X7_concede_0.2.1.1) (fa := k_X7_concede_0.2.1.2) ⟨⟨0, I.h20, rfl⟩, ⟨a1, rfl, en_lo a1, en_hi a1⟩, ⟨a2, rfl, hb2.1, hb2.2⟩, ⟨x22, rfl, l22, u22⟩, trivial⟩ (en_ac (lw_f0 I.hs.2.1 rfl f22 rfl) (en_an))) dlw_1477 (fun u res H1 locs1 hrv hpo L1 => ?_)
    refine W.widen (k := cells + 8) (n := slots + 64) (Nat.add_le_add_left (Nat.le_of_ble_eq_true rfl) _) (Nat.add_le_add_left (Nat.le_of_ble_eq_true rfl) _) ?_
    obtain ⟨fs', I1⟩ := lw_Iqq hLP I hpo.1 (by decide +kernel) (by decide +kernel) (by decide +kernel) (by decide +kernel) (lw_Io I hpo.1 (by decide +kernel)) (lw_Id I hpo.1 (by decide +kernel))
    exact k _ _ _ _ _ _ _ _ hrv I1 L1
  · skip
    obtain ⟨x22, f22, l22, u22⟩ := I.hs.2.2.1 (22, 0, 0) (by decide)
    refine lw_mc (lv' := 2) (ρp := [.ref (sh.2 0), .int a1, .int a2, .int x22]) (As := [.int a1, .int a2]) F L (ct_X7_concede_0 hl9 (cx := cx) (cy := cy)) gm_X7_concede I.hs.2.1 rfl rfl (Nat.le_of_ble_eq_true rfl) (by decide) ⟨Nat.le_trans (Nat.add_le_add_left (Nat.le_of_ble_eq_true rfl) _) hcs.1, Nat.le_trans (Nat.add_le_add_left (Nat.le_of_ble_eq_true rfl) _) hcs.2⟩ hls rfl (lw_pre I.hs.1 (by decide) (Or.inr (by decide))) (I.hO cx cy) (lw_pa (env := k_X7_concede_0.2.1.1) (fa := k_X7_concede_0.2.1.2) ⟨⟨0, I.h20, rfl⟩, ⟨a1, rfl, en_lo a1, en_hi a1⟩, ⟨a2, rfl, hb2.1, hb2.2⟩, ⟨x22, rfl, l22, u22⟩, trivial⟩ (en_ac (lw_f0 I.hs.2.1 rfl f22 rfl) (en_an))) dlw_1477 (fun u res H1 locs1 hrv hpo L1 => ?_)
    refine W.widen (k := cells + 8) (n := slots + 64) (Nat.add_le_add_left (Nat.le_of_ble_eq_true rfl) _) (Nat.add_le_add_left (Nat.le_of_ble_eq_true rfl) _) ?_
    obtain ⟨fs', I1⟩ := lw_Iqq hLP I hpo.1 (by decide +kernel) (by decide +kernel) (by decide +kernel) (by decide +kernel) (lw_Io I hpo.1 (by decide +kernel)) (lw_Id I hpo.1 (by decide +kernel))
    exact k _ _ _ _ _ _ _ _ hrv I1 L1
  · skip
    obtain ⟨x22, f22, l22, u22⟩ := I.hs.2.2.1 (22, 0, 0) (by decide)
    refine lw_mc (lv' := 2) (ρp := [.ref (sh.2 0), .int a1, .int a2, .int x22]) (As := [.int a1, .int a2]) F L (ct_X7_concede_0 hl9 (cx := cx) (cy := cy)) gm_X7_concede I.hs.2.1 rfl rfl (Nat.le_of_ble_eq_true rfl) (by decide) ⟨Nat.le_trans (Nat.add_le_add_left (Nat.le_of_ble_eq_true rfl) _) hcs.1, Nat.le_trans (Nat.add_le_add_left (Nat.le_of_ble_eq_true rfl) _) hcs.2⟩ hls rfl (lw_pre I.hs.1 (by decide) (Or.inr (by decide))) (I.hO cx cy) (lw_pa (env := k_X7_concede_0.2.1.1) (fa := k_X7_concede_0.2.1.2) ⟨⟨0, I.h20, rfl⟩, ⟨a1, rfl, en_lo a1, en_hi a1⟩, ⟨a2, rfl, hb2.1, hb2.2⟩, ⟨x22, rfl, l22, u22⟩, trivial⟩ (en_ac (lw_f0 I.hs.2.1 rfl f22 rfl) (en_an))) dlw_1477 (fun u res H1 locs1 hrv hpo L1 => ?_)
    refine W.widen (k := cells + 8) (n := slots + 64) (Nat.add_le_add_left (Nat.le_of_ble_eq_true rfl) _) (Nat.add_le_add_left (Nat.le_of_ble_eq_true rfl) _) ?_
    obtain ⟨fs', I1⟩ := lw_Iqq hLP I hpo.1 (by decide +kernel) (by decide +kernel) (by decide +kernel) (by decide +kernel) (lw_Io I hpo.1 (by decide +kernel)) (lw_Id I hpo.1 (by decide +kernel))
    exact k _ _ _ _ _ _ _ _ hrv I1 L1
  · skip
    obtain ⟨x16, f16, l16, u16⟩ := I.hs.2.2.1 (16, 1, 9) (by decide)
    obtain ⟨x20, f20, l20, u20⟩ := I.hs.2.2.1 (20, 115, 115) (by decide)
    obtain ⟨x22, f22, l22, u22⟩ := I.hs.2.2.1 (22, 1, 1) (by decide)
    obtain ⟨x25, f25, l25, u25⟩ := I.hs.2.2.1 (25, 0, 8) (by decide)
    have hOc := (I.hs.2.2.2.2 (by decide)).2.1
    have hAh := (I.hs.2.2.2.2 (by decide)).2.2
    refine lw_mc (lv' := 2) (ρp := [.ref (sh.2 0), .int a1, .int a2, .int x16, .int x20, .int x22, .int x25]) (As := [.int a1, .int a2]) F L (ct_X7_concede_3 hl9 (cx := cx) (cy := cy)) gm_X7_concede I.hs.2.1 rfl rfl (Nat.le_of_ble_eq_true rfl) (by decide) ⟨Nat.le_trans (Nat.add_le_add_left (Nat.le_of_ble_eq_true rfl) _) hcs.1, Nat.le_trans (Nat.add_le_add_left (Nat.le_of_ble_eq_true rfl) _) hcs.2⟩ hls rfl (lw_pre I.hs.1 (by decide) (Or.inl (by decide))) (I.hO cx cy) (lw_pa (env := k_X7_concede_3.2.1.1) (fa := k_X7_concede_3.2.1.2) ⟨⟨0, I.h20, rfl⟩, ⟨a1, rfl, en_lo a1, en_hi a1⟩, ⟨a2, rfl, hb2.1, hb2.2⟩, ⟨x16, rfl, l16, u16⟩, ⟨x20, rfl, l20, u20⟩, ⟨x22, rfl, l22, u22⟩, ⟨x25, rfl, l25, u25⟩, trivial⟩ (en_ac (lw_f0 I.hs.2.1 rfl f16 rfl) (en_ac (lw_f0 I.hs.2.1 rfl f20 rfl) (en_ac (lw_f0 I.hs.2.1 rfl f22 rfl) (en_ac (lw_f0 I.hs.2.1 rfl f25 rfl) (en_ac (⟨I.had, hOc⟩) (en_an))))))) dlw_1477 (fun u res H1 locs1 hrv hpo L1 => ?_)
    refine W.widen (k := cells + 8) (n := slots + 64) (Nat.add_le_add_left (Nat.le_of_ble_eq_true rfl) _) (Nat.add_le_add_left (Nat.le_of_ble_eq_true rfl) _) ?_
    obtain ⟨fs', I1⟩ := lw_Iqq hLP I hpo.1 (by decide +kernel) (by decide +kernel) (by decide +kernel) (by decide +kernel) (lw_Io I hpo.1 (by decide +kernel)) (lw_Id I hpo.1 (by decide +kernel))
    exact k _ _ _ _ _ _ _ _ hrv I1 L1
  · skip
    obtain ⟨x16, f16, l16, u16⟩ := I.hs.2.2.1 (16, 1, 9) (by decide)
    obtain ⟨x17, f17, l17, u17⟩ := I.hs.2.2.1 (17, 2, 2) (by decide)
    obtain ⟨x20, f20, l20, u20⟩ := I.hs.2.2.1 (20, 109, 109) (by decide)
    obtain ⟨x22, f22, l22, u22⟩ := I.hs.2.2.1 (22, 1, 1) (by decide)
    obtain ⟨x25, f25, l25, u25⟩ := I.hs.2.2.1 (25, 0, 8) (by decide)
    have hOc := (I.hs.2.2.2.2 (by decide)).2.1
    have hAh := (I.hs.2.2.2.2 (by decide)).2.2
    rcases hAh with hAl | f28
    · skip
      refine lw_mc (lv' := 2) (ρp := [.ref (sh.2 0), .int a1, .int a2, .int x16, .int x17, .int x20, .int x22, .int x25]) (As := [.int a1, .int a2]) F L (ct_X7_concede_1 hl9 (cx := cx) (cy := cy)) gm_X7_concede I.hs.2.1 rfl rfl (Nat.le_of_ble_eq_true rfl) (by decide) ⟨Nat.le_trans (Nat.add_le_add_left (Nat.le_of_ble_eq_true rfl) _) hcs.1, Nat.le_trans (Nat.add_le_add_left (Nat.le_of_ble_eq_true rfl) _) hcs.2⟩ hls rfl (lw_pre I.hs.1 (by decide) (Or.inl (by decide))) (I.hO cx cy) (lw_pa (env := k_X7_concede_1.2.1.1) (fa := k_X7_concede_1.2.1.2) ⟨⟨0, I.h20, rfl⟩, ⟨a1, rfl, en_lo a1, en_hi a1⟩, ⟨a2, rfl, hb2.1, hb2.2⟩, ⟨x16, rfl, l16, u16⟩, ⟨x17, rfl, l17, u17⟩, ⟨x20, rfl, l20, u20⟩, ⟨x22, rfl, l22, u22⟩, ⟨x25, rfl, l25, u25⟩, trivial⟩ (en_ac (lw_f0 I.hs.2.1 rfl f16 rfl) (en_ac (lw_f0 I.hs.2.1 rfl f17 rfl) (en_ac (lw_f0 I.hs.2.1 rfl f20 rfl) (en_ac (lw_f0 I.hs.2.1 rfl f22 rfl) (en_ac (lw_f0 I.hs.2.1 rfl f25 rfl) (en_ac (⟨I.had, hOc⟩) (en_an)))))))) dlw_1477 (fun u res H1 locs1 hrv hpo L1 => ?_)
      refine W.widen (k := cells + 8) (n := slots + 64) (Nat.add_le_add_left (Nat.le_of_ble_eq_true rfl) _) (Nat.add_le_add_left (Nat.le_of_ble_eq_true rfl) _) ?_
      obtain ⟨fs', g1, g2⟩ := lw_fs I.h20 I.hs.2.1 hpo.1
      have hA1 : lw_ah cx cy fs' u.2 := lw_ahA I hpo.1 g1 (by decide +kernel) hAl
      exact k _ _ _ _ _ _ _ _ hrv (lw_Iq hLP I hpo.1 (by decide +kernel) g1 I.hst (lw_Io I hpo.1 (by decide +kernel)) (lw_Id I hpo.1 (by decide +kernel)) (lw_q I.h20 I.hlen (I.hO cx cy) I.hs hpo.1 (by decide +kernel) g1 (fun _ => hA1))) L1
    · skip
      have l28 : (-1 : Int) ≤ (-1 : Int32).toInt := by decide
      have u28 : (-1 : Int32).toInt ≤ (-1 : Int) := by decide
      obtain ⟨x28, e28⟩ : ∃ x : Int32, x = -1 := ⟨_, rfl⟩
      rw [← e28] at f28 l28 u28
      refine lw_mc (lv' := 2) (ρp := [.ref (sh.2 0), .int a1, .int a2, .int x16, .int x17, .int x20, .int x22, .int x25, .int x28]) (As := [.int a1, .int a2]) F L (ct_X7_concede_2 hl9 (cx := cx) (cy := cy)) gm_X7_concede I.hs.2.1 rfl rfl (Nat.le_of_ble_eq_true rfl) (by decide) ⟨Nat.le_trans (Nat.add_le_add_left (Nat.le_of_ble_eq_true rfl) _) hcs.1, Nat.le_trans (Nat.add_le_add_left (Nat.le_of_ble_eq_true rfl) _) hcs.2⟩ hls rfl (lw_pre I.hs.1 (by decide) (Or.inl (by decide))) (I.hO cx cy) (lw_pa (env := k_X7_concede_2.2.1.1) (fa := k_X7_concede_2.2.1.2) ⟨⟨0, I.h20, rfl⟩, ⟨a1, rfl, en_lo a1, en_hi a1⟩, ⟨a2, rfl, hb2.1, hb2.2⟩, ⟨x16, rfl, l16, u16⟩, ⟨x17, rfl, l17, u17⟩, ⟨x20, rfl, l20, u20⟩, ⟨x22, rfl, l22, u22⟩, ⟨x25, rfl, l25, u25⟩, ⟨x28, rfl, l28, u28⟩, trivial⟩ (en_ac (lw_f0 I.hs.2.1 rfl f16 rfl) (en_ac (lw_f0 I.hs.2.1 rfl f17 rfl) (en_ac (lw_f0 I.hs.2.1 rfl f20 rfl) (en_ac (lw_f0 I.hs.2.1 rfl f22 rfl) (en_ac (lw_f0 I.hs.2.1 rfl f25 rfl) (en_ac (lw_f0 I.hs.2.1 rfl f28 rfl) (en_ac (⟨I.had, hOc⟩) (en_an))))))))) dlw_1477 (fun u res H1 locs1 hrv hpo L1 => ?_)
      refine W.widen (k := cells + 8) (n := slots + 64) (Nat.add_le_add_left (Nat.le_of_ble_eq_true rfl) _) (Nat.add_le_add_left (Nat.le_of_ble_eq_true rfl) _) ?_
      obtain ⟨fs', g1, g2⟩ := lw_fs I.h20 I.hs.2.1 hpo.1
      have hA1 : lw_ah cx cy fs' u.2 := Or.inr (lw_last I (by decide +kernel) L1.hD g1 hpo (show 0 < 3 by decide) rfl)
      exact k _ _ _ _ _ _ _ _ hrv (lw_Iq hLP I hpo.1 (by decide +kernel) g1 I.hst (lw_Io I hpo.1 (by decide +kernel)) (lw_Id I hpo.1 (by decide +kernel)) (lw_q I.h20 I.hlen (I.hO cx cy) I.hs hpo.1 (by decide +kernel) g1 (fun _ => hA1))) L1
end
