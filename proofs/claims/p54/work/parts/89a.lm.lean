section
variable {p : Program} {l : Launch} {e : Env} {R : Room} {s : State} {m : MethodId} {args : Array Value} {below : List Frame} {meth : Method} {c : Code} {Q : State → Prop}
variable {D : va_G} {tys : List (ClassId × FieldType)} {cO cD : ClassId} {A : Nat → Prop} {sh : en_H} {w : va_W} {H : Heap} {locs : List Loc} {ls : Array Slot} {cells slots qx qo qd : Nat} {E : Int32 → Int32 → Prop} {LP : en_H → va_W → Prop} {st : Nat} {cx cy : Int32} {fs : List Value}
set_option maxHeartbeats 4000000 in
theorem lm_X7_again (hl9 : l.stackTraces = false) (a1 : Int32) (hLP : lw_st LP) (F : lw_Fm p R s m args c D tys cO cD A) (L : lw_H D A s w H locs) (I : lw_I E LP tys cO cD qx qo qd sh w st cx cy fs) (hls : ls.size = 9) (hcs : cells + 8 ≤ R.cells ∧ slots + 64 ≤ R.slots)
    (k : ∀ (u : en_H × va_W) (res : Option Value) (H1 : Heap) (locs1 : List Loc) (st' : Nat) (cx' cy' : Int32) (fs' : List Value), en_rv 0 res → lw_I E LP tys cO cD qx qo qd u.1 u.2 st' cx' cy' fs' → lw_H D A s u.2 H1 locs1 → W p l e R s m args below meth c H1 locs1 (cells + 8) (slots + 64) Q (F0 m 952 ls (res.toList ++ []))) :
    W p l e R s m args below meth c H locs cells slots Q (F0 m 949 ls (([.int a1] : List Value).reverse ++ [.ref (sh.2 0)])) := by
  by_cases h3 : 3 ≤ st
  · skip
    obtain ⟨⟨x22, f22, l22, u22⟩, ⟨x16, f16, l16, u16⟩, x25, f25, l25, u25⟩ := lw_bon h3 I.hs.2.2.1
    have hOc := (I.hs.2.2.2.2 h3).2.1
    have hAh := (I.hs.2.2.2.2 h3).2.2
    rcases hAh with hAl | f28
    · skip
      refine lw_mc (lv' := 2) (ρp := [.ref (sh.2 0), .int a1, .int x22]) (As := [.int a1]) F L (ct_X7_again_1 hl9 (cx := cx) (cy := cy)) gm_X7_again I.hs.2.1 rfl rfl (Nat.le_of_ble_eq_true rfl) (by decide) ⟨Nat.le_trans (Nat.add_le_add_left (Nat.le_of_ble_eq_true rfl) _) hcs.1, Nat.le_trans (Nat.add_le_add_left (Nat.le_of_ble_eq_true rfl) _) hcs.2⟩ hls rfl (lw_pre I.hs.1 (by decide) (Or.inl h3)) (I.hO cx cy) (lw_pa (env := k_X7_again_1.2.1.1) (fa := k_X7_again_1.2.1.2) ⟨⟨0, I.h20, rfl⟩, ⟨a1, rfl, en_lo a1, en_hi a1⟩, ⟨x22, rfl, l22, u22⟩, trivial⟩ (en_ac (lw_f0 I.hs.2.1 rfl f22 rfl) (en_ac (⟨I.had, hOc⟩) (en_an)))) dlw_949 (fun u res H1 locs1 hrv hpo L1 => ?_)
      refine W.widen (k := cells + 8) (n := slots + 64) (Nat.add_le_add_left (Nat.le_of_ble_eq_true rfl) _) (Nat.add_le_add_left (Nat.le_of_ble_eq_true rfl) _) ?_
      obtain ⟨fs', g1, g2⟩ := lw_fs I.h20 I.hs.2.1 hpo.1
      have hA1 : lw_ah cx cy fs' u.2 := lw_ahA I hpo.1 g1 (by decide +kernel) hAl
      exact k _ _ _ _ _ _ _ _ hrv (lw_Iq hLP I hpo.1 (by decide +kernel) g1 I.hst (lw_Io I hpo.1 (by decide +kernel)) (lw_Id I hpo.1 (by decide +kernel)) (lw_q I.h20 I.hlen (I.hO cx cy) I.hs hpo.1 (lw_qon h3 (by decide +kernel)) g1 (fun _ => hA1))) L1
    · skip
      have l28 : (-1 : Int) ≤ (-1 : Int32).toInt := by decide
      have u28 : (-1 : Int32).toInt ≤ (-1 : Int) := by decide
      obtain ⟨x28, e28⟩ : ∃ x : Int32, x = -1 := ⟨_, rfl⟩
      rw [← e28] at f28 l28 u28
      refine lw_mc (lv' := 2) (ρp := [.ref (sh.2 0), .int a1, .int x22, .int x28]) (As := [.int a1]) F L (ct_X7_again_2 hl9 (cx := cx) (cy := cy)) gm_X7_again I.hs.2.1 rfl rfl (Nat.le_of_ble_eq_true rfl) (by decide) ⟨Nat.le_trans (Nat.add_le_add_left (Nat.le_of_ble_eq_true rfl) _) hcs.1, Nat.le_trans (Nat.add_le_add_left (Nat.le_of_ble_eq_true rfl) _) hcs.2⟩ hls rfl (lw_pre I.hs.1 (by decide) (Or.inl h3)) (I.hO cx cy) (lw_pa (env := k_X7_again_2.2.1.1) (fa := k_X7_again_2.2.1.2) ⟨⟨0, I.h20, rfl⟩, ⟨a1, rfl, en_lo a1, en_hi a1⟩, ⟨x22, rfl, l22, u22⟩, ⟨x28, rfl, l28, u28⟩, trivial⟩ (en_ac (lw_f0 I.hs.2.1 rfl f22 rfl) (en_ac (lw_f0 I.hs.2.1 rfl f28 rfl) (en_ac (⟨I.had, hOc⟩) (en_an))))) dlw_949 (fun u res H1 locs1 hrv hpo L1 => ?_)
      refine W.widen (k := cells + 8) (n := slots + 64) (Nat.add_le_add_left (Nat.le_of_ble_eq_true rfl) _) (Nat.add_le_add_left (Nat.le_of_ble_eq_true rfl) _) ?_
      obtain ⟨fs', g1, g2⟩ := lw_fs I.h20 I.hs.2.1 hpo.1
      have hA1 : lw_ah cx cy fs' u.2 := Or.inr (lw_last I (by decide +kernel) L1.hD g1 hpo (show 0 < 2 by decide) rfl)
      exact k _ _ _ _ _ _ _ _ hrv (lw_Iq hLP I hpo.1 (by decide +kernel) g1 I.hst (lw_Io I hpo.1 (by decide +kernel)) (lw_Id I hpo.1 (by decide +kernel)) (lw_q I.h20 I.hlen (I.hO cx cy) I.hs hpo.1 (lw_qon h3 (by decide +kernel)) g1 (fun _ => hA1))) L1
  · skip
    obtain ⟨x22, f22, l22, u22⟩ := lw_boff h3 I.hs.2.2.1
    refine lw_mc (lv' := 2) (ρp := [.ref (sh.2 0), .int a1, .int x22]) (As := [.int a1]) F L (ct_X7_again_0 hl9 (cx := cx) (cy := cy)) gm_X7_again I.hs.2.1 rfl rfl (Nat.le_of_ble_eq_true rfl) (by decide) ⟨Nat.le_trans (Nat.add_le_add_left (Nat.le_of_ble_eq_true rfl) _) hcs.1, Nat.le_trans (Nat.add_le_add_left (Nat.le_of_ble_eq_true rfl) _) hcs.2⟩ hls rfl (lw_pre I.hs.1 (by decide) (Or.inr (by decide))) (I.hO cx cy) (lw_pa (env := k_X7_again_0.2.1.1) (fa := k_X7_again_0.2.1.2) ⟨⟨0, I.h20, rfl⟩, ⟨a1, rfl, en_lo a1, en_hi a1⟩, ⟨x22, rfl, l22, u22⟩, trivial⟩ (en_ac (lw_f0 I.hs.2.1 rfl f22 rfl) (en_an))) dlw_949 (fun u res H1 locs1 hrv hpo L1 => ?_)
    refine W.widen (k := cells + 8) (n := slots + 64) (Nat.add_le_add_left (Nat.le_of_ble_eq_true rfl) _) (Nat.add_le_add_left (Nat.le_of_ble_eq_true rfl) _) ?_
    obtain ⟨fs', I1⟩ := lw_Iqq hLP I hpo.1 (by decide +kernel) (lw_qoff h3 (by decide +kernel)) (by decide +kernel) (by decide +kernel) (lw_Io I hpo.1 (by decide +kernel)) (lw_Id I hpo.1 (by decide +kernel))
    exact k _ _ _ _ _ _ _ _ hrv I1 L1
set_option maxHeartbeats 4000000 in
theorem lm_X7_aside (hl9 : l.stackTraces = false) (a1 : Int32) (a2 : Int32) (a3 : Int32) (hLP : lw_st LP) (F : lw_Fm p R s m args c D tys cO cD A) (L : lw_H D A s w H locs) (I : lw_I E LP tys cO cD qx qo qd sh w st cx cy fs) (hls : ls.size = 9) (hcs : cells + 8 ≤ R.cells ∧ slots + 64 ≤ R.slots)
    (k : ∀ (u : en_H × va_W) (res : Option Value) (H1 : Heap) (locs1 : List Loc) (st' : Nat) (cx' cy' : Int32) (fs' : List Value), en_rv 0 res → lw_I E LP tys cO cD qx qo qd u.1 u.2 st' cx' cy' fs' → lw_H D A s u.2 H1 locs1 → W p l e R s m args below meth c H1 locs1 (cells + 8) (slots + 64) Q (F0 m 1044 ls (res.toList ++ []))) :
    W p l e R s m args below meth c H locs cells slots Q (F0 m 1041 ls (([.int a1, .int a2, .int a3] : List Value).reverse ++ [.ref (sh.2 0)])) := by
  by_cases h3 : 3 ≤ st
  · skip
    obtain ⟨⟨x22, f22, l22, u22⟩, ⟨x16, f16, l16, u16⟩, x25, f25, l25, u25⟩ := lw_bon h3 I.hs.2.2.1
    have hOc := (I.hs.2.2.2.2 h3).2.1
    have hAh := (I.hs.2.2.2.2 h3).2.2
    rcases hAh with hAl | f28
    · skip
      refine lw_mc (lv' := 3) (ρp := [.ref (sh.2 0), .int a1, .int a2, .int a3, .int x22, .int x25]) (As := [.int a1, .int a2, .int a3]) F L (ct_X7_aside_1 hl9 (cx := cx) (cy := cy)) gm_X7_aside I.hs.2.1 rfl rfl (Nat.le_of_ble_eq_true rfl) (by decide) ⟨Nat.le_trans (Nat.add_le_add_left (Nat.le_of_ble_eq_true rfl) _) hcs.1, Nat.le_trans (Nat.add_le_add_left (Nat.le_of_ble_eq_true rfl) _) hcs.2⟩ hls rfl (lw_pre I.hs.1 (by decide) (Or.inl h3)) (I.hO cx cy) (lw_pa (env := k_X7_aside_1.2.1.1) (fa := k_X7_aside_1.2.1.2) ⟨⟨0, I.h20, rfl⟩, ⟨a1, rfl, en_lo a1, en_hi a1⟩, ⟨a2, rfl, en_lo a2, en_hi a2⟩, ⟨a3, rfl, en_lo a3, en_hi a3⟩, ⟨x22, rfl, l22, u22⟩, ⟨x25, rfl, l25, u25⟩, trivial⟩ (en_ac (lw_f0 I.hs.2.1 rfl f22 rfl) (en_ac (lw_f0 I.hs.2.1 rfl f25 rfl) (en_ac (⟨I.had, hOc⟩) (en_an))))) dlw_1041 (fun u res H1 locs1 hrv hpo L1 => ?_)
      refine W.widen (k := cells + 8) (n := slots + 64) (Nat.add_le_add_left (Nat.le_of_ble_eq_true rfl) _) (Nat.add_le_add_left (Nat.le_of_ble_eq_true rfl) _) ?_
      obtain ⟨fs', g1, g2⟩ := lw_fs I.h20 I.hs.2.1 hpo.1
      have hA1 : lw_ah cx cy fs' u.2 := lw_ahA I hpo.1 g1 (by decide +kernel) hAl
      exact k _ _ _ _ _ _ _ _ hrv (lw_Iq hLP I hpo.1 (by decide +kernel) g1 I.hst (lw_Io I hpo.1 (by decide +kernel)) (lw_Id I hpo.1 (by decide +kernel)) (lw_q I.h20 I.hlen (I.hO cx cy) I.hs hpo.1 (lw_qon h3 (by decide +kernel)) g1 (fun _ => hA1))) L1
    · skip
      have l28 : (-1 : Int) ≤ (-1 : Int32).toInt := by decide
      have u28 : (-1 : Int32).toInt ≤ (-1 : Int) := by decide
      obtain ⟨x28, e28⟩ : ∃ x : Int32, x = -1 := ⟨_, rfl⟩
      rw [← e28] at f28 l28 u28
      refine lw_mc (lv' := 3) (ρp := [.ref (sh.2 0), .int a1, .int a2, .int a3, .int x22, .int x25, .int x28]) (As := [.int a1, .int a2, .int a3]) F L (ct_X7_aside_2 hl9 (cx := cx) (cy := cy)) gm_X7_aside I.hs.2.1 rfl rfl (Nat.le_of_ble_eq_true rfl) (by decide) ⟨Nat.le_trans (Nat.add_le_add_left (Nat.le_of_ble_eq_true rfl) _) hcs.1, Nat.le_trans (Nat.add_le_add_left (Nat.le_of_ble_eq_true rfl) _) hcs.2⟩ hls rfl (lw_pre I.hs.1 (by decide) (Or.inl h3)) (I.hO cx cy) (lw_pa (env := k_X7_aside_2.2.1.1) (fa := k_X7_aside_2.2.1.2) ⟨⟨0, I.h20, rfl⟩, ⟨a1, rfl, en_lo a1, en_hi a1⟩, ⟨a2, rfl, en_lo a2, en_hi a2⟩, ⟨a3, rfl, en_lo a3, en_hi a3⟩, ⟨x22, rfl, l22, u22⟩, ⟨x25, rfl, l25, u25⟩, ⟨x28, rfl, l28, u28⟩, trivial⟩ (en_ac (lw_f0 I.hs.2.1 rfl f22 rfl) (en_ac (lw_f0 I.hs.2.1 rfl f25 rfl) (en_ac (lw_f0 I.hs.2.1 rfl f28 rfl) (en_ac (⟨I.had, hOc⟩) (en_an)))))) dlw_1041 (fun u res H1 locs1 hrv hpo L1 => ?_)
      refine W.widen (k := cells + 8) (n := slots + 64) (Nat.add_le_add_left (Nat.le_of_ble_eq_true rfl) _) (Nat.add_le_add_left (Nat.le_of_ble_eq_true rfl) _) ?_
      obtain ⟨fs', g1, g2⟩ := lw_fs I.h20 I.hs.2.1 hpo.1
      have hA1 : lw_ah cx cy fs' u.2 := Or.inr (lw_last I (by decide +kernel) L1.hD g1 hpo (show 0 < 4 by decide) rfl)
      exact k _ _ _ _ _ _ _ _ hrv (lw_Iq hLP I hpo.1 (by decide +kernel) g1 I.hst (lw_Io I hpo.1 (by decide +kernel)) (lw_Id I hpo.1 (by decide +kernel)) (lw_q I.h20 I.hlen (I.hO cx cy) I.hs hpo.1 (lw_qon h3 (by decide +kernel)) g1 (fun _ => hA1))) L1
  · skip
    obtain ⟨x22, f22, l22, u22⟩ := lw_boff h3 I.hs.2.2.1
    refine lw_mc (lv' := 2) (ρp := [.ref (sh.2 0), .int a1, .int a2, .int a3, .int x22]) (As := [.int a1, .int a2, .int a3]) F L (ct_X7_aside_0 hl9 (cx := cx) (cy := cy)) gm_X7_aside I.hs.2.1 rfl rfl (Nat.le_of_ble_eq_true rfl) (by decide) ⟨Nat.le_trans (Nat.add_le_add_left (Nat.le_of_ble_eq_true rfl) _) hcs.1, Nat.le_trans (Nat.add_le_add_left (Nat.le_of_ble_eq_true rfl) _) hcs.2⟩ hls rfl (lw_pre I.hs.1 (by decide) (Or.inr (by decide))) (I.hO cx cy) (lw_pa (env := k_X7_aside_0.2.1.1) (fa := k_X7_aside_0.2.1.2) ⟨⟨0, I.h20, rfl⟩, ⟨a1, rfl, en_lo a1, en_hi a1⟩, ⟨a2, rfl, en_lo a2, en_hi a2⟩, ⟨a3, rfl, en_lo a3, en_hi a3⟩, ⟨x22, rfl, l22, u22⟩, trivial⟩ (en_ac (lw_f0 I.hs.2.1 rfl f22 rfl) (en_an))) dlw_1041 (fun u res H1 locs1 hrv hpo L1 => ?_)
    refine W.widen (k := cells + 8) (n := slots + 64) (Nat.add_le_add_left (Nat.le_of_ble_eq_true rfl) _) (Nat.add_le_add_left (Nat.le_of_ble_eq_true rfl) _) ?_
    obtain ⟨fs', I1⟩ := lw_Iqq hLP I hpo.1 (by decide +kernel) (lw_qoff h3 (by decide +kernel)) (by decide +kernel) (by decide +kernel) (lw_Io I hpo.1 (by decide +kernel)) (lw_Id I hpo.1 (by decide +kernel))
    exact k _ _ _ _ _ _ _ _ hrv I1 L1
set_option maxHeartbeats 4000000 in
theorem lm_X7_away (hl9 : l.stackTraces = false) (hLP : lw_st LP) (F : lw_Fm p R s m args c D tys cO cD A) (L : lw_H D A s w H locs) (I : lw_I E LP tys cO cD qx qo qd sh w st cx cy fs) (hls : ls.size = 9) (hcs : cells + 8 ≤ R.cells ∧ slots + 64 ≤ R.slots)
    (k : ∀ (u : en_H × va_W) (res : Option Value) (H1 : Heap) (locs1 : List Loc) (st' : Nat) (cx' cy' : Int32) (fs' : List Value), en_rv 0 res → lw_I E LP tys cO cD qx qo qd u.1 u.2 st' cx' cy' fs' → lw_H D A s u.2 H1 locs1 → W p l e R s m args below meth c H1 locs1 (cells + 8) (slots + 64) Q (F0 m 726 ls (res.toList ++ []))) :
    W p l e R s m args below meth c H locs cells slots Q (F0 m 723 ls (([] : List Value).reverse ++ [.ref (sh.2 0)])) := by
  by_cases h3 : 3 ≤ st
  · skip
    obtain ⟨⟨x22, f22, l22, u22⟩, ⟨x16, f16, l16, u16⟩, x25, f25, l25, u25⟩ := lw_bon h3 I.hs.2.2.1
    have hOc := (I.hs.2.2.2.2 h3).2.1
    have hAh := (I.hs.2.2.2.2 h3).2.2
    refine lw_mc (lv' := 3) (ρp := [.ref (sh.2 0), .int x22, .int x25]) (As := []) F L (ct_X7_away_1 hl9 (cx := cx) (cy := cy)) gm_X7_away I.hs.2.1 rfl rfl (Nat.le_of_ble_eq_true rfl) (by decide) ⟨Nat.le_trans (Nat.add_le_add_left (Nat.le_of_ble_eq_true rfl) _) hcs.1, Nat.le_trans (Nat.add_le_add_left (Nat.le_of_ble_eq_true rfl) _) hcs.2⟩ hls rfl (lw_pre I.hs.1 (by decide) (Or.inl h3)) (I.hO cx cy) (lw_pa (env := k_X7_away_1.2.1.1) (fa := k_X7_away_1.2.1.2) ⟨⟨0, I.h20, rfl⟩, ⟨x22, rfl, l22, u22⟩, ⟨x25, rfl, l25, u25⟩, trivial⟩ (en_ac (lw_f0 I.hs.2.1 rfl f22 rfl) (en_ac (lw_f0 I.hs.2.1 rfl f25 rfl) (en_ac (⟨I.had, hOc⟩) (en_an))))) dlw_723 (fun u res H1 locs1 hrv hpo L1 => ?_)
    refine W.widen (k := cells + 8) (n := slots + 64) (Nat.add_le_add_left (Nat.le_of_ble_eq_true rfl) _) (Nat.add_le_add_left (Nat.le_of_ble_eq_true rfl) _) ?_
    obtain ⟨fs', I1⟩ := lw_Iqq hLP I hpo.1 (by decide +kernel) (lw_qon h3 (by decide +kernel)) (by decide +kernel) (by decide +kernel) (lw_Io I hpo.1 (by decide +kernel)) (lw_Id I hpo.1 (by decide +kernel))
    exact k _ _ _ _ _ _ _ _ hrv I1 L1
  · skip
    obtain ⟨x22, f22, l22, u22⟩ := lw_boff h3 I.hs.2.2.1
    refine lw_mc (lv' := 1) (ρp := [.ref (sh.2 0), .int x22]) (As := []) F L (ct_X7_away_0 hl9 (cx := cx) (cy := cy)) gm_X7_away I.hs.2.1 rfl rfl (Nat.le_of_ble_eq_true rfl) (by decide) ⟨Nat.le_trans (Nat.add_le_add_left (Nat.le_of_ble_eq_true rfl) _) hcs.1, Nat.le_trans (Nat.add_le_add_left (Nat.le_of_ble_eq_true rfl) _) hcs.2⟩ hls rfl (lw_pre I.hs.1 (by decide) (Or.inr (by decide))) (I.hO cx cy) (lw_pa (env := k_X7_away_0.2.1.1) (fa := k_X7_away_0.2.1.2) ⟨⟨0, I.h20, rfl⟩, ⟨x22, rfl, l22, u22⟩, trivial⟩ (en_ac (lw_f0 I.hs.2.1 rfl f22 rfl) (en_an))) dlw_723 (fun u res H1 locs1 hrv hpo L1 => ?_)
    refine W.widen (k := cells + 8) (n := slots + 64) (Nat.add_le_add_left (Nat.le_of_ble_eq_true rfl) _) (Nat.add_le_add_left (Nat.le_of_ble_eq_true rfl) _) ?_
    obtain ⟨fs', I1⟩ := lw_Iqq hLP I hpo.1 (by decide +kernel) (lw_qoff h3 (by decide +kernel)) (by decide +kernel) (by decide +kernel) (lw_Io I hpo.1 (by decide +kernel)) (lw_Id I hpo.1 (by decide +kernel))
    exact k _ _ _ _ _ _ _ _ hrv I1 L1
set_option maxHeartbeats 4000000 in
theorem lm_X7_cancel (hl9 : l.stackTraces = false) (a1 : Int32) (hLP : lw_st LP) (F : lw_Fm p R s m args c D tys cO cD A) (L : lw_H D A s w H locs) (I : lw_I E LP tys cO cD qx qo qd sh w st cx cy fs) (hls : ls.size = 9) (hcs : cells + 8 ≤ R.cells ∧ slots + 64 ≤ R.slots)
    (k : ∀ (u : en_H × va_W) (res : Option Value) (H1 : Heap) (locs1 : List Loc) (st' : Nat) (cx' cy' : Int32) (fs' : List Value), en_rv 0 res → lw_I E LP tys cO cD qx qo qd u.1 u.2 st' cx' cy' fs' → lw_H D A s u.2 H1 locs1 → W p l e R s m args below meth c H1 locs1 (cells + 8) (slots + 64) Q (F0 m 1438 ls (res.toList ++ []))) :
    W p l e R s m args below meth c H locs cells slots Q (F0 m 1435 ls (([.int a1] : List Value).reverse ++ [.ref (sh.2 0)])) := by
  obtain rfl | rfl | rfl | rfl | rfl := lw_stc I.hst
  · skip
    obtain ⟨x22, f22, l22, u22⟩ := I.hs.2.2.1 (22, 0, 0) (by decide)
    refine lw_mc (lv' := 2) (ρp := [.ref (sh.2 0), .int a1, .int x22]) (As := [.int a1]) F L (ct_X7_cancel_0 hl9 (cx := cx) (cy := cy)) gm_X7_cancel I.hs.2.1 rfl rfl (Nat.le_of_ble_eq_true rfl) (by decide) ⟨Nat.le_trans (Nat.add_le_add_left (Nat.le_of_ble_eq_true rfl) _) hcs.1, Nat.le_trans (Nat.add_le_add_left (Nat.le_of_ble_eq_true rfl) _) hcs.2⟩ hls rfl (lw_pre I.hs.1 (by decide) (Or.inr (by decide))) (I.hO cx cy) (lw_pa (env := k_X7_cancel_0.2.1.1) (fa := k_X7_cancel_0.2.1.2) ⟨⟨0, I.h20, rfl⟩, ⟨a1, rfl, en_lo a1, en_hi a1⟩, ⟨x22, rfl, l22, u22⟩, trivial⟩ (en_ac (lw_f0 I.hs.2.1 rfl f22 rfl) (en_an))) dlw_1435 (fun u res H1 locs1 hrv hpo L1 => ?_)
    refine W.widen (k := cells + 8) (n := slots + 64) (Nat.add_le_add_left (Nat.le_of_ble_eq_true rfl) _) (Nat.add_le_add_left (Nat.le_of_ble_eq_true rfl) _) ?_
    obtain ⟨fs', I1⟩ := lw_Iqq hLP I hpo.1 (by decide +kernel) (by decide +kernel) (by decide +kernel) (by decide +kernel) (lw_Io I hpo.1 (by decide +kernel)) (lw_Id I hpo.1 (by decide +kernel))
    exact k _ _ _ _ _ _ _ _ hrv I1 L1
  · skip
    obtain ⟨x22, f22, l22, u22⟩ := I.hs.2.2.1 (22, 0, 0) (by decide)
    refine lw_mc (lv' := 2) (ρp := [.ref (sh.2 0), .int a1, .int x22]) (As := [.int a1]) F L (ct_X7_cancel_0 hl9 (cx := cx) (cy := cy)) gm_X7_cancel I.hs.2.1 rfl rfl (Nat.le_of_ble_eq_true rfl) (by decide) ⟨Nat.le_trans (Nat.add_le_add_left (Nat.le_of_ble_eq_true rfl) _) hcs.1, Nat.le_trans (Nat.add_le_add_left (Nat.le_of_ble_eq_true rfl) _) hcs.2⟩ hls rfl (lw_pre I.hs.1 (by decide) (Or.inr (by decide))) (I.hO cx cy) (lw_pa (env := k_X7_cancel_0.2.1.1) (fa := k_X7_cancel_0.2.1.2) ⟨⟨0, I.h20, rfl⟩, ⟨a1, rfl, en_lo a1, en_hi a1⟩, ⟨x22, rfl, l22, u22⟩, trivial⟩ (en_ac (lw_f0 I.hs.2.1 rfl f22 rfl) (en_an))) dlw_1435 (fun u res H1 locs1 hrv hpo L1 => ?_)
    refine W.widen (k := cells + 8) (n := slots + 64) (Nat.add_le_add_left (Nat.le_of_ble_eq_true rfl) _) (Nat.add_le_add_left (Nat.le_of_ble_eq_true rfl) _) ?_
    obtain ⟨fs', I1⟩ := lw_Iqq hLP I hpo.1 (by decide +kernel) (by decide +kernel) (by decide +kernel) (by decide +kernel) (lw_Io I hpo.1 (by decide +kernel)) (lw_Id I hpo.1 (by decide +kernel))
    exact k _ _ _ _ _ _ _ _ hrv I1 L1
  · skip
    obtain ⟨x22, f22, l22, u22⟩ := I.hs.2.2.1 (22, 0, 0) (by decide)
    refine lw_mc (lv' := 2) (ρp := [.ref (sh.2 0), .int a1, .int x22]) (As := [.int a1]) F L (ct_X7_cancel_0 hl9 (cx := cx) (cy := cy)) gm_X7_cancel I.hs.2.1 rfl rfl (Nat.le_of_ble_eq_true rfl) (by decide) ⟨Nat.le_trans (Nat.add_le_add_left (Nat.le_of_ble_eq_true rfl) _) hcs.1, Nat.le_trans (Nat.add_le_add_left (Nat.le_of_ble_eq_true rfl) _) hcs.2⟩ hls rfl (lw_pre I.hs.1 (by decide) (Or.inr (by decide))) (I.hO cx cy) (lw_pa (env := k_X7_cancel_0.2.1.1) (fa := k_X7_cancel_0.2.1.2) ⟨⟨0, I.h20, rfl⟩, ⟨a1, rfl, en_lo a1, en_hi a1⟩, ⟨x22, rfl, l22, u22⟩, trivial⟩ (en_ac (lw_f0 I.hs.2.1 rfl f22 rfl) (en_an))) dlw_1435 (fun u res H1 locs1 hrv hpo L1 => ?_)
    refine W.widen (k := cells + 8) (n := slots + 64) (Nat.add_le_add_left (Nat.le_of_ble_eq_true rfl) _) (Nat.add_le_add_left (Nat.le_of_ble_eq_true rfl) _) ?_
    obtain ⟨fs', I1⟩ := lw_Iqq hLP I hpo.1 (by decide +kernel) (by decide +kernel) (by decide +kernel) (by decide +kernel) (lw_Io I hpo.1 (by decide +kernel)) (lw_Id I hpo.1 (by decide +kernel))
    exact k _ _ _ _ _ _ _ _ hrv I1 L1
  · skip
    obtain ⟨x22, f22, l22, u22⟩ := I.hs.2.2.1 (22, 1, 1) (by decide)
    have hOc := (I.hs.2.2.2.2 (by decide)).2.1
    have hAh := (I.hs.2.2.2.2 (by decide)).2.2
    rcases hAh with hAl | f28
    · skip
      obtain ⟨a9, cA9, g9, f4, w18, hInv⟩ := lw_ah24 I hAl
      refine lw_mc (lv' := 2) (ρp := [.ref (sh.2 0), .int a1, .int x22, .ref (sh.2 18), .int (g9 0), .int (g9 1), .int (g9 2), .int (g9 3), .int (g9 4), .int (g9 5), .int (g9 6), .int (g9 7), .int (g9 8), .int (g9 9), .int (g9 10), .int (g9 11), .int (g9 12), .int (g9 13), .int (g9 14), .int (g9 15), .int (g9 16), .int (g9 17), .int (g9 18), .int (g9 19), .int (g9 20), .int (g9 21), .int (g9 22), .int (g9 23)]) (As := [.int a1]) F L (ct_X7_cancel_1 hl9 (cx := cx) (cy := cy)) gm_X7_cancel I.hs.2.1 rfl rfl (Nat.le_of_ble_eq_true rfl) (by decide) ⟨Nat.le_trans (Nat.add_le_add_left (Nat.le_of_ble_eq_true rfl) _) hcs.1, Nat.le_trans (Nat.add_le_add_left (Nat.le_of_ble_eq_true rfl) _) hcs.2⟩ hls rfl (lw_pre I.hs.1 (by decide) (Or.inl (by decide))) (I.hO cx cy) (lw_pa (env := k_X7_cancel_1.2.1.1) (fa := k_X7_cancel_1.2.1.2) ⟨⟨0, I.h20, rfl⟩, ⟨a1, rfl, en_lo a1, en_hi a1⟩, ⟨x22, rfl, l22, u22⟩, ⟨18, I.h28, rfl⟩, ⟨g9 0, rfl, hInv.1 0 _ rfl⟩, ⟨g9 1, rfl, hInv.1 1 _ rfl⟩, ⟨g9 2, rfl, hInv.1 2 _ rfl⟩, ⟨g9 3, rfl, hInv.1 3 _ rfl⟩, ⟨g9 4, rfl, hInv.1 4 _ rfl⟩, ⟨g9 5, rfl, hInv.1 5 _ rfl⟩, ⟨g9 6, rfl, hInv.1 6 _ rfl⟩, ⟨g9 7, rfl, hInv.1 7 _ rfl⟩, ⟨g9 8, rfl, hInv.1 8 _ rfl⟩, ⟨g9 9, rfl, hInv.1 9 _ rfl⟩, ⟨g9 10, rfl, hInv.1 10 _ rfl⟩, ⟨g9 11, rfl, hInv.1 11 _ rfl⟩, ⟨g9 12, rfl, hInv.1 12 _ rfl⟩, ⟨g9 13, rfl, hInv.1 13 _ rfl⟩, ⟨g9 14, rfl, hInv.1 14 _ rfl⟩, ⟨g9 15, rfl, hInv.1 15 _ rfl⟩, ⟨g9 16, rfl, hInv.1 16 _ rfl⟩, ⟨g9 17, rfl, hInv.1 17 _ rfl⟩, ⟨g9 18, rfl, hInv.1 18 _ rfl⟩, ⟨g9 19, rfl, hInv.1 19 _ rfl⟩, ⟨g9 20, rfl, hInv.1 20 _ rfl⟩, ⟨g9 21, rfl, hInv.1 21 _ rfl⟩, ⟨g9 22, rfl, hInv.1 22 _ rfl⟩, ⟨g9 23, rfl, hInv.1 23 _ rfl⟩, trivial⟩ (en_ac (lw_f0 I.hs.2.1 rfl f22 rfl) (en_ac (⟨0, _, 13, fs, _, rfl, I.hs.2.1, f4, rfl⟩) (en_ac (⟨18, _, 24, cA9, g9, rfl, w18, by decide, rfl⟩) (en_ac (⟨18, _, 24, cA9, g9, rfl, w18, by decide, rfl⟩) (en_ac (⟨18, _, 24, cA9, g9, rfl, w18, by decide, rfl⟩) (en_ac (⟨18, _, 24, cA9, g9, rfl, w18, by decide, rfl⟩) (en_ac (⟨18, _, 24, cA9, g9, rfl, w18, by decide, rfl⟩) (en_ac (⟨18, _, 24, cA9, g9, rfl, w18, by decide, rfl⟩) (en_ac (⟨18, _, 24, cA9, g9, rfl, w18, by decide, rfl⟩) (en_ac (⟨18, _, 24, cA9, g9, rfl, w18, by decide, rfl⟩) (en_ac (⟨18, _, 24, cA9, g9, rfl, w18, by decide, rfl⟩) (en_ac (⟨18, _, 24, cA9, g9, rfl, w18, by decide, rfl⟩) (en_ac (⟨18, _, 24, cA9, g9, rfl, w18, by decide, rfl⟩) (en_ac (⟨18, _, 24, cA9, g9, rfl, w18, by decide, rfl⟩) (en_ac (⟨18, _, 24, cA9, g9, rfl, w18, by decide, rfl⟩) (en_ac (⟨18, _, 24, cA9, g9, rfl, w18, by decide, rfl⟩) (en_ac (⟨18, _, 24, cA9, g9, rfl, w18, by decide, rfl⟩) (en_ac (⟨18, _, 24, cA9, g9, rfl, w18, by decide, rfl⟩) (en_ac (⟨18, _, 24, cA9, g9, rfl, w18, by decide, rfl⟩) (en_ac (⟨18, _, 24, cA9, g9, rfl, w18, by decide, rfl⟩) (en_ac (⟨18, _, 24, cA9, g9, rfl, w18, by decide, rfl⟩) (en_ac (⟨18, _, 24, cA9, g9, rfl, w18, by decide, rfl⟩) (en_ac (⟨18, _, 24, cA9, g9, rfl, w18, by decide, rfl⟩) (en_ac (⟨18, _, 24, cA9, g9, rfl, w18, by decide, rfl⟩) (en_ac (⟨18, _, 24, cA9, g9, rfl, w18, by decide, rfl⟩) (en_ac (⟨18, _, 24, cA9, g9, rfl, w18, by decide, rfl⟩) (en_ac (⟨_, _, _, rfl, rfl, rfl, fun a1 a2 => hInv.2 (0, 108, 110, 1, 2) (by decide) a1 a2 fun h => absurd h (by decide)⟩) (en_ac (⟨_, _, _, rfl, rfl, rfl, fun a1 a2 => hInv.2 (9, 1, 1, 4, 5) (by decide) a1 a2 fun h => absurd h (by decide)⟩) (en_ac (⟨_, _, _, rfl, rfl, rfl, fun a1 a2 => hInv.2 (0, 108, 108, 4, 5) (by decide) a1 a2 fun h => absurd h (by decide)⟩) (en_ac (⟨_, _, _, rfl, rfl, rfl, fun a1 a2 => hInv.2 (0, 115, 115, 4, 5) (by decide) a1 a2 fun h => absurd h (by decide)⟩) (en_ac (⟨_, _, _, rfl, rfl, rfl, fun a1 a2 => hInv.2 (16, 1, 1, 19, 20) (by decide) a1 a2 fun h => absurd h (by decide)⟩) (en_ac (⟨_, _, _, rfl, rfl, rfl, fun a1 a2 => hInv.2 (13, 1, 1, 14, 15) (by decide) a1 a2 fun h => absurd h (by decide)⟩) (en_ac (⟨_, _, _, rfl, rfl, rfl, fun a1 a2 => hInv.2 (16, 1, 1, 17, 18) (by decide) a1 a2 fun h => absurd h (by decide)⟩) (en_ac (⟨_, _, _, rfl, rfl, rfl, fun a1 a2 => hInv.2 (10, 108, 110, 11, 12) (by decide) a1 a2 fun h => absurd h (by decide)⟩) (en_ac (⟨_, _, _, rfl, rfl, rfl, fun a1 a2 hc => hInv.2 (0, 115, 115, 101, 2) (by decide) a1 a2 fun _ => hc⟩) (en_ac (⟨_, _, _, rfl, rfl, rfl, fun a1 a2 => hInv.2 (13, 1, 1, 4, 5) (by decide) a1 a2 fun h => absurd h (by decide)⟩) (en_ac (⟨I.had, hOc⟩) (en_an))))))))))))))))))))))))))))))))))))))) dlw_1435 (fun u res H1 locs1 hrv hpo L1 => ?_)
      refine W.widen (k := cells + 8) (n := slots + 64) (Nat.add_le_add_left (Nat.le_of_ble_eq_true rfl) _) (Nat.add_le_add_left (Nat.le_of_ble_eq_true rfl) _) ?_
      obtain ⟨fs', g1, g2⟩ := lw_fs I.h20 I.hs.2.1 hpo.1
      have hA1 : lw_ah cx cy fs' u.2 := lw_ahA I hpo.1 g1 (by decide +kernel) hAl
      exact k _ _ _ _ _ _ _ _ hrv (lw_Iq hLP I hpo.1 (by decide +kernel) g1 I.hst (lw_Io I hpo.1 (by decide +kernel)) (lw_Id I hpo.1 (by decide +kernel)) (lw_q I.h20 I.hlen (I.hO cx cy) I.hs hpo.1 (by decide +kernel) g1 (fun _ => hA1))) L1
    · skip
      have l28 : (-1 : Int) ≤ (-1 : Int32).toInt := by decide
      have u28 : (-1 : Int32).toInt ≤ (-1 : Int) := by decide
      obtain ⟨x28, e28⟩ : ∃ x : Int32, x = -1 := ⟨_, rfl⟩
      rw [← e28] at f28 l28 u28
      refine lw_mc (lv' := 2) (ρp := [.ref (sh.2 0), .int a1, .int x22, .int x28]) (As := [.int a1]) F L (ct_X7_cancel_2 hl9 (cx := cx) (cy := cy)) gm_X7_cancel I.hs.2.1 rfl rfl (Nat.le_of_ble_eq_true rfl) (by decide) ⟨Nat.le_trans (Nat.add_le_add_left (Nat.le_of_ble_eq_true rfl) _) hcs.1, Nat.le_trans (Nat.add_le_add_left (Nat.le_of_ble_eq_true rfl) _) hcs.2⟩ hls rfl (lw_pre I.hs.1 (by decide) (Or.inl (by decide))) (I.hO cx cy) (lw_pa (env := k_X7_cancel_2.2.1.1) (fa := k_X7_cancel_2.2.1.2) ⟨⟨0, I.h20, rfl⟩, ⟨a1, rfl, en_lo a1, en_hi a1⟩, ⟨x22, rfl, l22, u22⟩, ⟨x28, rfl, l28, u28⟩, trivial⟩ (en_ac (lw_f0 I.hs.2.1 rfl f22 rfl) (en_ac (lw_f0 I.hs.2.1 rfl f28 rfl) (en_ac (⟨I.had, hOc⟩) (en_an))))) dlw_1435 (fun u res H1 locs1 hrv hpo L1 => ?_)
      refine W.widen (k := cells + 8) (n := slots + 64) (Nat.add_le_add_left (Nat.le_of_ble_eq_true rfl) _) (Nat.add_le_add_left (Nat.le_of_ble_eq_true rfl) _) ?_
      obtain ⟨fs', I1⟩ := lw_Iqq hLP I hpo.1 (by decide +kernel) (by decide +kernel) (by decide +kernel) (by decide +kernel) (lw_Io I hpo.1 (by decide +kernel)) (lw_Id I hpo.1 (by decide +kernel))
      exact k _ _ _ _ _ _ _ _ hrv I1 L1
  · skip
    obtain ⟨x22, f22, l22, u22⟩ := I.hs.2.2.1 (22, 1, 1) (by decide)
    have hOc := (I.hs.2.2.2.2 (by decide)).2.1
    have hAh := (I.hs.2.2.2.2 (by decide)).2.2
    rcases hAh with hAl | f28
    · skip
      obtain ⟨a9, cA9, g9, f4, w18, hInv⟩ := lw_ah24 I hAl
      refine lw_mc (lv' := 2) (ρp := [.ref (sh.2 0), .int a1, .int x22, .ref (sh.2 18), .int (g9 0), .int (g9 1), .int (g9 2), .int (g9 3), .int (g9 4), .int (g9 5), .int (g9 6), .int (g9 7), .int (g9 8), .int (g9 9), .int (g9 10), .int (g9 11), .int (g9 12), .int (g9 13), .int (g9 14), .int (g9 15), .int (g9 16), .int (g9 17), .int (g9 18), .int (g9 19), .int (g9 20), .int (g9 21), .int (g9 22), .int (g9 23)]) (As := [.int a1]) F L (ct_X7_cancel_1 hl9 (cx := cx) (cy := cy)) gm_X7_cancel I.hs.2.1 rfl rfl (Nat.le_of_ble_eq_true rfl) (by decide) ⟨Nat.le_trans (Nat.add_le_add_left (Nat.le_of_ble_eq_true rfl) _) hcs.1, Nat.le_trans (Nat.add_le_add_left (Nat.le_of_ble_eq_true rfl) _) hcs.2⟩ hls rfl (lw_pre I.hs.1 (by decide) (Or.inl (by decide))) (I.hO cx cy) (lw_pa (env := k_X7_cancel_1.2.1.1) (fa := k_X7_cancel_1.2.1.2) ⟨⟨0, I.h20, rfl⟩, ⟨a1, rfl, en_lo a1, en_hi a1⟩, ⟨x22, rfl, l22, u22⟩, ⟨18, I.h28, rfl⟩, ⟨g9 0, rfl, hInv.1 0 _ rfl⟩, ⟨g9 1, rfl, hInv.1 1 _ rfl⟩, ⟨g9 2, rfl, hInv.1 2 _ rfl⟩, ⟨g9 3, rfl, hInv.1 3 _ rfl⟩, ⟨g9 4, rfl, hInv.1 4 _ rfl⟩, ⟨g9 5, rfl, hInv.1 5 _ rfl⟩, ⟨g9 6, rfl, hInv.1 6 _ rfl⟩, ⟨g9 7, rfl, hInv.1 7 _ rfl⟩, ⟨g9 8, rfl, hInv.1 8 _ rfl⟩, ⟨g9 9, rfl, hInv.1 9 _ rfl⟩, ⟨g9 10, rfl, hInv.1 10 _ rfl⟩, ⟨g9 11, rfl, hInv.1 11 _ rfl⟩, ⟨g9 12, rfl, hInv.1 12 _ rfl⟩, ⟨g9 13, rfl, hInv.1 13 _ rfl⟩, ⟨g9 14, rfl, hInv.1 14 _ rfl⟩, ⟨g9 15, rfl, hInv.1 15 _ rfl⟩, ⟨g9 16, rfl, hInv.1 16 _ rfl⟩, ⟨g9 17, rfl, hInv.1 17 _ rfl⟩, ⟨g9 18, rfl, hInv.1 18 _ rfl⟩, ⟨g9 19, rfl, hInv.1 19 _ rfl⟩, ⟨g9 20, rfl, hInv.1 20 _ rfl⟩, ⟨g9 21, rfl, hInv.1 21 _ rfl⟩, ⟨g9 22, rfl, hInv.1 22 _ rfl⟩, ⟨g9 23, rfl, hInv.1 23 _ rfl⟩, trivial⟩ (en_ac (lw_f0 I.hs.2.1 rfl f22 rfl) (en_ac (⟨0, _, 13, fs, _, rfl, I.hs.2.1, f4, rfl⟩) (en_ac (⟨18, _, 24, cA9, g9, rfl, w18, by decide, rfl⟩) (en_ac (⟨18, _, 24, cA9, g9, rfl, w18, by decide, rfl⟩) (en_ac (⟨18, _, 24, cA9, g9, rfl, w18, by decide, rfl⟩) (en_ac (⟨18, _, 24, cA9, g9, rfl, w18, by decide, rfl⟩) (en_ac (⟨18, _, 24, cA9, g9, rfl, w18, by decide, rfl⟩) (en_ac (⟨18, _, 24, cA9, g9, rfl, w18, by decide, rfl⟩) (en_ac (⟨18, _, 24, cA9, g9, rfl, w18, by decide, rfl⟩) (en_ac (⟨18, _, 24, cA9, g9, rfl, w18, by decide, rfl⟩) (en_ac (⟨18, _, 24, cA9, g9, rfl, w18, by decide, rfl⟩) (en_ac (⟨18, _, 24, cA9, g9, rfl, w18, by decide, rfl⟩) (en_ac (⟨18, _, 24, cA9, g9, rfl, w18, by decide, rfl⟩) (en_ac (⟨18, _, 24, cA9, g9, rfl, w18, by decide, rfl⟩) (en_ac (⟨18, _, 24, cA9, g9, rfl, w18, by decide, rfl⟩) (en_ac (⟨18, _, 24, cA9, g9, rfl, w18, by decide, rfl⟩) (en_ac (⟨18, _, 24, cA9, g9, rfl, w18, by decide, rfl⟩) (en_ac (⟨18, _, 24, cA9, g9, rfl, w18, by decide, rfl⟩) (en_ac (⟨18, _, 24, cA9, g9, rfl, w18, by decide, rfl⟩) (en_ac (⟨18, _, 24, cA9, g9, rfl, w18, by decide, rfl⟩) (en_ac (⟨18, _, 24, cA9, g9, rfl, w18, by decide, rfl⟩) (en_ac (⟨18, _, 24, cA9, g9, rfl, w18, by decide, rfl⟩) (en_ac (⟨18, _, 24, cA9, g9, rfl, w18, by decide, rfl⟩) (en_ac (⟨18, _, 24, cA9, g9, rfl, w18, by decide, rfl⟩) (en_ac (⟨18, _, 24, cA9, g9, rfl, w18, by decide, rfl⟩) (en_ac (⟨18, _, 24, cA9, g9, rfl, w18, by decide, rfl⟩) (en_ac (⟨_, _, _, rfl, rfl, rfl, fun a1 a2 => hInv.2 (0, 108, 110, 1, 2) (by decide) a1 a2 fun h => absurd h (by decide)⟩) (en_ac (⟨_, _, _, rfl, rfl, rfl, fun a1 a2 => hInv.2 (9, 1, 1, 4, 5) (by decide) a1 a2 fun h => absurd h (by decide)⟩) (en_ac (⟨_, _, _, rfl, rfl, rfl, fun a1 a2 => hInv.2 (0, 108, 108, 4, 5) (by decide) a1 a2 fun h => absurd h (by decide)⟩) (en_ac (⟨_, _, _, rfl, rfl, rfl, fun a1 a2 => hInv.2 (0, 115, 115, 4, 5) (by decide) a1 a2 fun h => absurd h (by decide)⟩) (en_ac (⟨_, _, _, rfl, rfl, rfl, fun a1 a2 => hInv.2 (16, 1, 1, 19, 20) (by decide) a1 a2 fun h => absurd h (by decide)⟩) (en_ac (⟨_, _, _, rfl, rfl, rfl, fun a1 a2 => hInv.2 (13, 1, 1, 14, 15) (by decide) a1 a2 fun h => absurd h (by decide)⟩) (en_ac (⟨_, _, _, rfl, rfl, rfl, fun a1 a2 => hInv.2 (16, 1, 1, 17, 18) (by decide) a1 a2 fun h => absurd h (by decide)⟩) (en_ac (⟨_, _, _, rfl, rfl, rfl, fun a1 a2 => hInv.2 (10, 108, 110, 11, 12) (by decide) a1 a2 fun h => absurd h (by decide)⟩) (en_ac (⟨_, _, _, rfl, rfl, rfl, fun a1 a2 hc => hInv.2 (0, 115, 115, 101, 2) (by decide) a1 a2 fun _ => hc⟩) (en_ac (⟨_, _, _, rfl, rfl, rfl, fun a1 a2 => hInv.2 (13, 1, 1, 4, 5) (by decide) a1 a2 fun h => absurd h (by decide)⟩) (en_ac (⟨I.had, hOc⟩) (en_an))))))))))))))))))))))))))))))))))))))) dlw_1435 (fun u res H1 locs1 hrv hpo L1 => ?_)
      refine W.widen (k := cells + 8) (n := slots + 64) (Nat.add_le_add_left (Nat.le_of_ble_eq_true rfl) _) (Nat.add_le_add_left (Nat.le_of_ble_eq_true rfl) _) ?_
      obtain ⟨fs', g1, g2⟩ := lw_fs I.h20 I.hs.2.1 hpo.1
      have hA1 : lw_ah cx cy fs' u.2 := lw_ahA I hpo.1 g1 (by decide +kernel) hAl
      exact k _ _ _ _ _ _ _ _ hrv (lw_Iq hLP I hpo.1 (by decide +kernel) g1 I.hst (lw_Io I hpo.1 (by decide +kernel)) (lw_Id I hpo.1 (by decide +kernel)) (lw_q I.h20 I.hlen (I.hO cx cy) I.hs hpo.1 (by decide +kernel) g1 (fun _ => hA1))) L1
    · skip
      have l28 : (-1 : Int) ≤ (-1 : Int32).toInt := by decide
      have u28 : (-1 : Int32).toInt ≤ (-1 : Int) := by decide
      obtain ⟨x28, e28⟩ : ∃ x : Int32, x = -1 := ⟨_, rfl⟩
      rw [← e28] at f28 l28 u28
      refine lw_mc (lv' := 2) (ρp := [.ref (sh.2 0), .int a1, .int x22, .int x28]) (As := [.int a1]) F L (ct_X7_cancel_2 hl9 (cx := cx) (cy := cy)) gm_X7_cancel I.hs.2.1 rfl rfl (Nat.le_of_ble_eq_true rfl) (by decide) ⟨Nat.le_trans (Nat.add_le_add_left (Nat.le_of_ble_eq_true rfl) _) hcs.1, Nat.le_trans (Nat.add_le_add_left (Nat.le_of_ble_eq_true rfl) _) hcs.2⟩ hls rfl (lw_pre I.hs.1 (by decide) (Or.inl (by decide))) (I.hO cx cy) (lw_pa (env := k_X7_cancel_2.2.1.1) (fa := k_X7_cancel_2.2.1.2) ⟨⟨0, I.h20, rfl⟩, ⟨a1, rfl, en_lo a1, en_hi a1⟩, ⟨x22, rfl, l22, u22⟩, ⟨x28, rfl, l28, u28⟩, trivial⟩ (en_ac (lw_f0 I.hs.2.1 rfl f22 rfl) (en_ac (lw_f0 I.hs.2.1 rfl f28 rfl) (en_ac (⟨I.had, hOc⟩) (en_an))))) dlw_1435 (fun u res H1 locs1 hrv hpo L1 => ?_)
      refine W.widen (k := cells + 8) (n := slots + 64) (Nat.add_le_add_left (Nat.le_of_ble_eq_true rfl) _) (Nat.add_le_add_left (Nat.le_of_ble_eq_true rfl) _) ?_
      obtain ⟨fs', I1⟩ := lw_Iqq hLP I hpo.1 (by decide +kernel) (by decide +kernel) (by decide +kernel) (by decide +kernel) (lw_Io I hpo.1 (by decide +kernel)) (lw_Id I hpo.1 (by decide +kernel))
      exact k _ _ _ _ _ _ _ _ hrv I1 L1
set_option maxHeartbeats 4000000 in
theorem lm_X7_checksum (hl9 : l.stackTraces = false) (hLP : lw_st LP) (F : lw_Fm p R s m args c D tys cO cD A) (L : lw_H D A s w H locs) (I : lw_I E LP tys cO cD qx qo qd sh w st cx cy fs) (hls : ls.size = 9) (hcs : cells + 8 ≤ R.cells ∧ slots + 64 ≤ R.slots)
    (k : ∀ (u : en_H × va_W) (res : Option Value) (H1 : Heap) (locs1 : List Loc) (st' : Nat) (cx' cy' : Int32) (fs' : List Value), en_rv 1 res → lw_I E LP tys cO cD qx qo qd u.1 u.2 st' cx' cy' fs' → lw_H D A s u.2 H1 locs1 → W p l e R s m args below meth c H1 locs1 (cells + 8) (slots + 64) Q (F0 m 2253 ls (res.toList ++ []))) :
    W p l e R s m args below meth c H locs cells slots Q (F0 m 2250 ls (([] : List Value).reverse ++ [.ref (sh.2 0)])) := by
  by_cases h3 : 3 ≤ st
  · skip
    obtain ⟨⟨x22, f22, l22, u22⟩, ⟨x16, f16, l16, u16⟩, x25, f25, l25, u25⟩ := lw_bon h3 I.hs.2.2.1
    have hOc := (I.hs.2.2.2.2 h3).2.1
    have hAh := (I.hs.2.2.2.2 h3).2.2
    refine lw_mc (lv' := 0) (ρp := [.ref (sh.2 0), .int x16]) (As := []) F L (ct_X7_checksum_1 hl9 (cx := cx) (cy := cy)) gm_X7_checksum I.hs.2.1 rfl rfl (Nat.le_of_ble_eq_true rfl) (by decide) ⟨Nat.le_trans (Nat.add_le_add_left (Nat.le_of_ble_eq_true rfl) _) hcs.1, Nat.le_trans (Nat.add_le_add_left (Nat.le_of_ble_eq_true rfl) _) hcs.2⟩ hls rfl (lw_pre I.hs.1 (by decide) (Or.inl h3)) (I.hO cx cy) (lw_pa (env := k_X7_checksum_1.2.1.1) (fa := k_X7_checksum_1.2.1.2) ⟨⟨0, I.h20, rfl⟩, ⟨x16, rfl, l16, u16⟩, trivial⟩ (en_ac (lw_f0 I.hs.2.1 rfl f16 rfl) (en_ac (⟨I.had, hOc⟩) (en_an)))) dlw_2250 (fun u res H1 locs1 hrv hpo L1 => ?_)
    refine W.widen (k := cells + 8) (n := slots + 64) (Nat.add_le_add_left (Nat.le_of_ble_eq_true rfl) _) (Nat.add_le_add_left (Nat.le_of_ble_eq_true rfl) _) ?_
    obtain ⟨fs', I1⟩ := lw_Iqq hLP I hpo.1 (by decide +kernel) (lw_qon h3 (by decide +kernel)) (by decide +kernel) (by decide +kernel) (lw_Io I hpo.1 (by decide +kernel)) (lw_Id I hpo.1 (by decide +kernel))
    exact k _ _ _ _ _ _ _ _ hrv I1 L1
  · skip
    obtain ⟨x22, f22, l22, u22⟩ := lw_boff h3 I.hs.2.2.1
    refine lw_mc (lv' := 0) (ρp := [.ref (sh.2 0)]) (As := []) F L (ct_X7_checksum_0 hl9 (cx := cx) (cy := cy)) gm_X7_checksum I.hs.2.1 rfl rfl (Nat.le_of_ble_eq_true rfl) (by decide) ⟨Nat.le_trans (Nat.add_le_add_left (Nat.le_of_ble_eq_true rfl) _) hcs.1, Nat.le_trans (Nat.add_le_add_left (Nat.le_of_ble_eq_true rfl) _) hcs.2⟩ hls rfl (lw_pre I.hs.1 (by decide) (Or.inr (by decide))) (I.hO cx cy) (lw_pa (env := k_X7_checksum_0.2.1.1) (fa := k_X7_checksum_0.2.1.2) ⟨⟨0, I.h20, rfl⟩, trivial⟩ (en_an)) dlw_2250 (fun u res H1 locs1 hrv hpo L1 => ?_)
    refine W.widen (k := cells + 8) (n := slots + 64) (Nat.add_le_add_left (Nat.le_of_ble_eq_true rfl) _) (Nat.add_le_add_left (Nat.le_of_ble_eq_true rfl) _) ?_
    obtain ⟨fs', I1⟩ := lw_Iqq hLP I hpo.1 (by decide +kernel) (lw_qoff h3 (by decide +kernel)) (by decide +kernel) (by decide +kernel) (lw_Io I hpo.1 (by decide +kernel)) (lw_Id I hpo.1 (by decide +kernel))
    exact k _ _ _ _ _ _ _ _ hrv I1 L1
set_option maxHeartbeats 4000000 in
theorem lm_X7_concede (hl9 : l.stackTraces = false) (a1 : Int32) (a2 : Int32) (hb2 : 0 ≤ a2.toInt ∧ a2.toInt ≤ 65535) (hLP : lw_st LP) (F : lw_Fm p R s m args c D tys cO cD A) (L : lw_H D A s w H locs) (I : lw_I E LP tys cO cD qx qo qd sh w st cx cy fs) (hls : ls.size = 9) (hcs : cells + 8 ≤ R.cells ∧ slots + 64 ≤ R.slots)
    (k : ∀ (u : en_H × va_W) (res : Option Value) (H1 : Heap) (locs1 : List Loc) (st' : Nat) (cx' cy' : Int32) (fs' : List Value), en_rv 0 res → lw_I E LP tys cO cD qx qo qd u.1 u.2 st' cx' cy' fs' → lw_H D A s u.2 H1 locs1 → W p l e R s m args below meth c H1 locs1 (cells + 8) (slots + 64) Q (F0 m 1480 ls (res.toList ++ []))) :
    W p l e R s m args below meth c H locs cells slots Q (F0 m 1477 ls (([.int a1, .int a2] : List Value).reverse ++ [.ref (sh.2 0)])) := by
  obtain rfl | rfl | rfl | rfl | rfl := lw_stc I.hst
  · skip
    obtain ⟨x22, f22, l22, u22⟩ := I.hs.2.2.1 (22, 0, 0) (by decide)
    refine lw_mc (lv' := 2) (ρp := [.ref (sh.2 0), .int a1, .int a2, .int x22]) (As := [.int a1, .int a2]) F L (ct_X7_concede_0 hl9 (cx := cx) (cy := cy)) gm_X7_concede I.hs.2.1 rfl rfl (Nat.le_of_ble_eq_true rfl) (by decide) ⟨Nat.le_trans (Nat.add_le_add_left (Nat.le_of_ble_eq_true rfl) _) hcs.1, Nat.le_trans (Nat.add_le_add_left (Nat.le_of_ble_eq_true rfl) _) hcs.2⟩ hls rfl (lw_pre I.hs.1 (by decide) (Or.inr (by decide))) (I.hO cx cy) (lw_pa (env := k_X7_concede_0.2.1.1) (fa := k_X7_concede_0.2.1.2) ⟨⟨0, I.h20, rfl⟩, ⟨a1, rfl, en_lo a1, en_hi a1⟩, ⟨a2, rfl, hb2.1, hb2.2⟩, ⟨x22, rfl, l22, u22⟩, trivial⟩ (en_ac (lw_f0 I.hs.2.1 rfl f22 rfl) (en_an))) dlw_1477 (fun u res H1 locs1 hrv hpo L1 => ?_)
    refine W.widen (k := cells + 8) (n := slots + 64) (Nat.add_le_add_left (Nat.le_of_ble_eq_true rfl) _) (Nat.add_le_add_left (Nat.le_of_ble_eq_true rfl) _) ?_
    obtain ⟨fs', I1⟩ := lw_Iqq hLP I hpo.1 (by decide +kernel) (by decide +kernel) (by decide +kernel) (by decide +kernel) (lw_Io I hpo.1 (by decide +kernel)) (lw_Id I hpo.1 (by decide +kernel))
    exact k _ _ _ _ _ _ _ _ hrv I1 L1
  · skip
    obtain ⟨x22, f22, l22, u22⟩ := I.hs.2.2.1 (22, 0, 0) (by decide)
    refine lw_mc (lv' := 2) (ρp := [.ref (sh.2 0), .int a1, .int a2, .int x22]) (As := [.int a1, .int a2]) F L (ct_X7_concede_0 hl9 (cx := cx) (cy := cy)) gm_X7_concede I.hs.2.1 rfl rfl (Nat.le_of_ble_eq_true rfl) (by decide) ⟨Nat.le_trans (Nat.add_le_add_left (Nat.le_of_ble_eq_true rfl) _) hcs.1, Nat.le_trans (Nat.add_le_add_left (Nat.le_of_ble_eq_true rfl) _) hcs.2⟩ hls rfl (lw_pre I.hs.1 (by decide) (Or.inr (by decide))) (I.hO cx cy) (lw_pa (env := k_X7_concede_0.2.1.1) (fa := k_X7_concede_0.2.1.2) ⟨⟨0, I.h20, rfl⟩, ⟨a1, rfl, en_lo a1, en_hi a1⟩, ⟨a2, rfl, hb2.1, hb2.2⟩, ⟨x22, rfl, l22, u22⟩, trivial⟩ (en_ac (lw_f0 I.hs.2.1 rfl f22 rfl) (en_an))) dlw_1477 (fun u res H1 locs1 hrv hpo L1 => ?_)
    refine W.widen (k := cells + 8) (n := slots + 64) (Nat.add_le_add_left (Nat.le_of_ble_eq_true rfl) _) (Nat.add_le_add_left (Nat.le_of_ble_eq_true rfl) _) ?_
    obtain ⟨fs', I1⟩ := lw_Iqq hLP I hpo.1 (by decide +kernel) (by decide +kernel) (by decide +kernel) (by decide +kernel) (lw_Io I hpo.1 (by decide +kernel)) (lw_Id I hpo.1 (by decide +kernel))
    exact k _ _ _ _ _ _ _ _ hrv I1 L1
  · skip
    obtain ⟨x22, f22, l22, u22⟩ := I.hs.2.2.1 (22, 0, 0) (by decide)
    refine lw_mc (lv' := 2) (ρp := [.ref (sh.2 0), .int a1, .int a2, .int x22]) (As := [.int a1, .int a2]) F L (ct_X7_concede_0 hl9 (cx := cx) (cy := cy)) gm_X7_concede I.hs.2.1 rfl rfl (Nat.le_of_ble_eq_true rfl) (by decide) ⟨Nat.le_trans (Nat.add_le_add_left (Nat.le_of_ble_eq_true rfl) _) hcs.1, Nat.le_trans (Nat.add_le_add_left (Nat.le_of_ble_eq_true rfl) _) hcs.2⟩ hls rfl (lw_pre I.hs.1 (by decide) (Or.inr (by decide))) (I.hO cx cy) (lw_pa (env := k_X7_concede_0.2.1.1) (fa := k_X7_concede_0.2.1.2) ⟨⟨0, I.h20, rfl⟩, ⟨a1, rfl, en_lo a1, en_hi a1⟩, ⟨a2, rfl, hb2.1, hb2.2⟩, ⟨x22, rfl, l22, u22⟩, trivial⟩ (en_ac (lw_f0 I.hs.2.1 rfl f22 rfl) (en_an))) dlw_1477 (fun u res H1 locs1 hrv hpo L1 => ?_)
    refine W.widen (k := cells + 8) (n := slots + 64) (Nat.add_le_add_left (Nat.le_of_ble_eq_true rfl) _) (Nat.add_le_add_left (Nat.le_of_ble_eq_true rfl) _) ?_
    obtain ⟨fs', I1⟩ := lw_Iqq hLP I hpo.1 (by decide +kernel) (by decide +kernel) (by decide +kernel) (by decide +kernel) (lw_Io I hpo.1 (by decide +kernel)) (lw_Id I hpo.1 (by decide +kernel))
    exact k _ _ _ _ _ _ _ _ hrv I1 L1
  · skip
    obtain ⟨x16, f16, l16, u16⟩ := I.hs.2.2.1 (16, 1, 9) (by decide)
    obtain ⟨x20, f20, l20, u20⟩ := I.hs.2.2.1 (20, 115, 115) (by decide)
    obtain ⟨x22, f22, l22, u22⟩ := I.hs.2.2.1 (22, 1, 1) (by decide)
    obtain ⟨x25, f25, l25, u25⟩ := I.hs.2.2.1 (25, 0, 8) (by decide)
    have hOc := (I.hs.2.2.2.2 (by decide)).2.1
    have hAh := (I.hs.2.2.2.2 (by decide)).2.2
    refine lw_mc (lv' := 2) (ρp := [.ref (sh.2 0), .int a1, .int a2, .int x16, .int x20, .int x22, .int x25]) (As := [.int a1, .int a2]) F L (ct_X7_concede_3 hl9 (cx := cx) (cy := cy)) gm_X7_concede I.hs.2.1 rfl rfl (Nat.le_of_ble_eq_true rfl) (by decide) ⟨Nat.le_trans (Nat.add_le_add_left (Nat.le_of_ble_eq_true rfl) _) hcs.1, Nat.le_trans (Nat.add_le_add_left (Nat.le_of_ble_eq_true rfl) _) hcs.2⟩ hls rfl (lw_pre I.hs.1 (by decide) (Or.inl (by decide))) (I.hO cx cy) (lw_pa (env := k_X7_concede_3.2.1.1) (fa := k_X7_concede_3.2.1.2) ⟨⟨0, I.h20, rfl⟩, ⟨a1, rfl, en_lo a1, en_hi a1⟩, ⟨a2, rfl, hb2.1, hb2.2⟩, ⟨x16, rfl, l16, u16⟩, ⟨x20, rfl, l20, u20⟩, ⟨x22, rfl, l22, u22⟩, ⟨x25, rfl, l25, u25⟩, trivial⟩ (en_ac (lw_f0 I.hs.2.1 rfl f16 rfl) (en_ac (lw_f0 I.hs.2.1 rfl f20 rfl) (en_ac (lw_f0 I.hs.2.1 rfl f22 rfl) (en_ac (lw_f0 I.hs.2.1 rfl f25 rfl) (en_ac (⟨I.had, hOc⟩) (en_an))))))) dlw_1477 (fun u res H1 locs1 hrv hpo L1 => ?_)
    refine W.widen (k := cells + 8) (n := slots + 64) (Nat.add_le_add_left (Nat.le_of_ble_eq_true rfl) _) (Nat.add_le_add_left (Nat.le_of_ble_eq_true rfl) _) ?_
    obtain ⟨fs', I1⟩ := lw_Iqq hLP I hpo.1 (by decide +kernel) (by decide +kernel) (by decide +kernel) (by decide +kernel) (lw_Io I hpo.1 (by decide +kernel)) (lw_Id I hpo.1 (by decide +kernel))
    exact k _ _ _ _ _ _ _ _ hrv I1 L1
  · skip
    obtain ⟨x16, f16, l16, u16⟩ := I.hs.2.2.1 (16, 1, 9) (by decide)
    obtain ⟨x17, f17, l17, u17⟩ := I.hs.2.2.1 (17, 2, 2) (by decide)
    obtain ⟨x20, f20, l20, u20⟩ := I.hs.2.2.1 (20, 109, 109) (by decide)
    obtain ⟨x22, f22, l22, u22⟩ := I.hs.2.2.1 (22, 1, 1) (by decide)
    obtain ⟨x25, f25, l25, u25⟩ := I.hs.2.2.1 (25, 0, 8) (by decide)
    have hOc := (I.hs.2.2.2.2 (by decide)).2.1
    have hAh := (I.hs.2.2.2.2 (by decide)).2.2
    rcases hAh with hAl | f28
    · skip
      refine lw_mc (lv' := 2) (ρp := [.ref (sh.2 0), .int a1, .int a2, .int x16, .int x17, .int x20, .int x22, .int x25]) (As := [.int a1, .int a2]) F L (ct_X7_concede_1 hl9 (cx := cx) (cy := cy)) gm_X7_concede I.hs.2.1 rfl rfl (Nat.le_of_ble_eq_true rfl) (by decide) ⟨Nat.le_trans (Nat.add_le_add_left (Nat.le_of_ble_eq_true rfl) _) hcs.1, Nat.le_trans (Nat.add_le_add_left (Nat.le_of_ble_eq_true rfl) _) hcs.2⟩ hls rfl (lw_pre I.hs.1 (by decide) (Or.inl (by decide))) (I.hO cx cy) (lw_pa (env := k_X7_concede_1.2.1.1) (fa := k_X7_concede_1.2.1.2) ⟨⟨0, I.h20, rfl⟩, ⟨a1, rfl, en_lo a1, en_hi a1⟩, ⟨a2, rfl, hb2.1, hb2.2⟩, ⟨x16, rfl, l16, u16⟩, ⟨x17, rfl, l17, u17⟩, ⟨x20, rfl, l20, u20⟩, ⟨x22, rfl, l22, u22⟩, ⟨x25, rfl, l25, u25⟩, trivial⟩ (en_ac (lw_f0 I.hs.2.1 rfl f16 rfl) (en_ac (lw_f0 I.hs.2.1 rfl f17 rfl) (en_ac (lw_f0 I.hs.2.1 rfl f20 rfl) (en_ac (lw_f0 I.hs.2.1 rfl f22 rfl) (en_ac (lw_f0 I.hs.2.1 rfl f25 rfl) (en_ac (⟨I.had, hOc⟩) (en_an)))))))) dlw_1477 (fun u res H1 locs1 hrv hpo L1 => ?_)
      refine W.widen (k := cells + 8) (n := slots + 64) (Nat.add_le_add_left (Nat.le_of_ble_eq_true rfl) _) (Nat.add_le_add_left (Nat.le_of_ble_eq_true rfl) _) ?_
      obtain ⟨fs', g1, g2⟩ := lw_fs I.h20 I.hs.2.1 hpo.1
      have hA1 : lw_ah cx cy fs' u.2 := lw_ahA I hpo.1 g1 (by decide +kernel) hAl
      exact k _ _ _ _ _ _ _ _ hrv (lw_Iq hLP I hpo.1 (by decide +kernel) g1 I.hst (lw_Io I hpo.1 (by decide +kernel)) (lw_Id I hpo.1 (by decide +kernel)) (lw_q I.h20 I.hlen (I.hO cx cy) I.hs hpo.1 (by decide +kernel) g1 (fun _ => hA1))) L1
    · skip
      have l28 : (-1 : Int) ≤ (-1 : Int32).toInt := by decide
      have u28 : (-1 : Int32).toInt ≤ (-1 : Int) := by decide
      obtain ⟨x28, e28⟩ : ∃ x : Int32, x = -1 := ⟨_, rfl⟩
      rw [← e28] at f28 l28 u28
      refine lw_mc (lv' := 2) (ρp := [.ref (sh.2 0), .int a1, .int a2, .int x16, .int x17, .int x20, .int x22, .int x25, .int x28]) (As := [.int a1, .int a2]) F L (ct_X7_concede_2 hl9 (cx := cx) (cy := cy)) gm_X7_concede I.hs.2.1 rfl rfl (Nat.le_of_ble_eq_true rfl) (by decide) ⟨Nat.le_trans (Nat.add_le_add_left (Nat.le_of_ble_eq_true rfl) _) hcs.1, Nat.le_trans (Nat.add_le_add_left (Nat.le_of_ble_eq_true rfl) _) hcs.2⟩ hls rfl (lw_pre I.hs.1 (by decide) (Or.inl (by decide))) (I.hO cx cy) (lw_pa (env := k_X7_concede_2.2.1.1) (fa := k_X7_concede_2.2.1.2) ⟨⟨0, I.h20, rfl⟩, ⟨a1, rfl, en_lo a1, en_hi a1⟩, ⟨a2, rfl, hb2.1, hb2.2⟩, ⟨x16, rfl, l16, u16⟩, ⟨x17, rfl, l17, u17⟩, ⟨x20, rfl, l20, u20⟩, ⟨x22, rfl, l22, u22⟩, ⟨x25, rfl, l25, u25⟩, ⟨x28, rfl, l28, u28⟩, trivial⟩ (en_ac (lw_f0 I.hs.2.1 rfl f16 rfl) (en_ac (lw_f0 I.hs.2.1 rfl f17 rfl) (en_ac (lw_f0 I.hs.2.1 rfl f20 rfl) (en_ac (lw_f0 I.hs.2.1 rfl f22 rfl) (en_ac (lw_f0 I.hs.2.1 rfl f25 rfl) (en_ac (lw_f0 I.hs.2.1 rfl f28 rfl) (en_ac (⟨I.had, hOc⟩) (en_an))))))))) dlw_1477 (fun u res H1 locs1 hrv hpo L1 => ?_)
      refine W.widen (k := cells + 8) (n := slots + 64) (Nat.add_le_add_left (Nat.le_of_ble_eq_true rfl) _) (Nat.add_le_add_left (Nat.le_of_ble_eq_true rfl) _) ?_
      obtain ⟨fs', g1, g2⟩ := lw_fs I.h20 I.hs.2.1 hpo.1
      have hA1 : lw_ah cx cy fs' u.2 := Or.inr (lw_last I (by decide +kernel) L1.hD g1 hpo (show 0 < 3 by decide) rfl)
      exact k _ _ _ _ _ _ _ _ hrv (lw_Iq hLP I hpo.1 (by decide +kernel) g1 I.hst (lw_Io I hpo.1 (by decide +kernel)) (lw_Id I hpo.1 (by decide +kernel)) (lw_q I.h20 I.hlen (I.hO cx cy) I.hs hpo.1 (by decide +kernel) g1 (fun _ => hA1))) L1
set_option maxHeartbeats 4000000 in
theorem lm_X7_conditions (hl9 : l.stackTraces = false) (a1 : Int32) (hLP : lw_st LP) (F : lw_Fm p R s m args c D tys cO cD A) (L : lw_H D A s w H locs) (I : lw_I E LP tys cO cD qx qo qd sh w st cx cy fs) (hls : ls.size = 9) (hcs : cells + 8 ≤ R.cells ∧ slots + 64 ≤ R.slots)
    (k : ∀ (u : en_H × va_W) (res : Option Value) (H1 : Heap) (locs1 : List Loc) (st' : Nat) (cx' cy' : Int32) (fs' : List Value), en_rv 0 res → lw_I E LP tys cO cD qx qo qd u.1 u.2 st' cx' cy' fs' → lw_H D A s u.2 H1 locs1 → W p l e R s m args below meth c H1 locs1 (cells + 8) (slots + 64) Q (F0 m 2092 ls (res.toList ++ []))) :
    W p l e R s m args below meth c H locs cells slots Q (F0 m 2089 ls (([.int a1] : List Value).reverse ++ [.ref (sh.2 0)])) := by
  by_cases h3 : 3 ≤ st
  · skip
    obtain ⟨⟨x22, f22, l22, u22⟩, ⟨x16, f16, l16, u16⟩, x25, f25, l25, u25⟩ := lw_bon h3 I.hs.2.2.1
    have hOc := (I.hs.2.2.2.2 h3).2.1
    have hAh := (I.hs.2.2.2.2 h3).2.2
    refine lw_mc (lv' := 1) (ρp := [.ref (sh.2 0), .int a1]) (As := [.int a1]) F L (ct_X7_conditions_1 hl9 (cx := cx) (cy := cy)) gm_X7_conditions I.hs.2.1 rfl rfl (Nat.le_of_ble_eq_true rfl) (by decide) ⟨Nat.le_trans (Nat.add_le_add_left (Nat.le_of_ble_eq_true rfl) _) hcs.1, Nat.le_trans (Nat.add_le_add_left (Nat.le_of_ble_eq_true rfl) _) hcs.2⟩ hls rfl (lw_pre I.hs.1 (by decide) (Or.inl h3)) (I.hO cx cy) (lw_pa (env := k_X7_conditions_1.2.1.1) (fa := k_X7_conditions_1.2.1.2) ⟨⟨0, I.h20, rfl⟩, ⟨a1, rfl, en_lo a1, en_hi a1⟩, trivial⟩ (en_ac (⟨I.had, hOc⟩) (en_an))) dlw_2089 (fun u res H1 locs1 hrv hpo L1 => ?_)
    refine W.widen (k := cells + 8) (n := slots + 64) (Nat.add_le_add_left (Nat.le_of_ble_eq_true rfl) _) (Nat.add_le_add_left (Nat.le_of_ble_eq_true rfl) _) ?_
    obtain ⟨fs', I1⟩ := lw_Iqq hLP I hpo.1 (by decide +kernel) (lw_qon h3 (by decide +kernel)) (by decide +kernel) (by decide +kernel) (lw_Io I hpo.1 (by decide +kernel)) (lw_Id I hpo.1 (by decide +kernel))
    exact k _ _ _ _ _ _ _ _ hrv I1 L1
  · skip
    obtain ⟨x22, f22, l22, u22⟩ := lw_boff h3 I.hs.2.2.1
    refine lw_mc (lv' := 1) (ρp := [.ref (sh.2 0), .int a1]) (As := [.int a1]) F L (ct_X7_conditions_0 hl9 (cx := cx) (cy := cy)) gm_X7_conditions I.hs.2.1 rfl rfl (Nat.le_of_ble_eq_true rfl) (by decide) ⟨Nat.le_trans (Nat.add_le_add_left (Nat.le_of_ble_eq_true rfl) _) hcs.1, Nat.le_trans (Nat.add_le_add_left (Nat.le_of_ble_eq_true rfl) _) hcs.2⟩ hls rfl (lw_pre I.hs.1 (by decide) (Or.inr (by decide))) (I.hO cx cy) (lw_pa (env := k_X7_conditions_0.2.1.1) (fa := k_X7_conditions_0.2.1.2) ⟨⟨0, I.h20, rfl⟩, ⟨a1, rfl, en_lo a1, en_hi a1⟩, trivial⟩ (en_an)) dlw_2089 (fun u res H1 locs1 hrv hpo L1 => ?_)
    refine W.widen (k := cells + 8) (n := slots + 64) (Nat.add_le_add_left (Nat.le_of_ble_eq_true rfl) _) (Nat.add_le_add_left (Nat.le_of_ble_eq_true rfl) _) ?_
    obtain ⟨fs', I1⟩ := lw_Iqq hLP I hpo.1 (by decide +kernel) (lw_qoff h3 (by decide +kernel)) (by decide +kernel) (by decide +kernel) (lw_Io I hpo.1 (by decide +kernel)) (lw_Id I hpo.1 (by decide +kernel))
    exact k _ _ _ _ _ _ _ _ hrv I1 L1
set_option maxHeartbeats 4000000 in
theorem lm_X7_correct (hl9 : l.stackTraces = false) (a1 : Int32) (hLP : lw_st LP) (F : lw_Fm p R s m args c D tys cO cD A) (L : lw_H D A s w H locs) (I : lw_I E LP tys cO cD qx qo qd sh w st cx cy fs) (hls : ls.size = 9) (hcs : cells + 8 ≤ R.cells ∧ slots + 64 ≤ R.slots)
    (k : ∀ (u : en_H × va_W) (res : Option Value) (H1 : Heap) (locs1 : List Loc) (st' : Nat) (cx' cy' : Int32) (fs' : List Value), en_rv 0 res → lw_I E LP tys cO cD qx qo qd u.1 u.2 st' cx' cy' fs' → lw_H D A s u.2 H1 locs1 → W p l e R s m args below meth c H1 locs1 (cells + 8) (slots + 64) Q (F0 m 1232 ls (res.toList ++ []))) :
    W p l e R s m args below meth c H locs cells slots Q (F0 m 1229 ls (([.int a1] : List Value).reverse ++ [.ref (sh.2 0)])) := by
  by_cases h3 : 3 ≤ st
  · skip
    obtain ⟨⟨x22, f22, l22, u22⟩, ⟨x16, f16, l16, u16⟩, x25, f25, l25, u25⟩ := lw_bon h3 I.hs.2.2.1
    have hOc := (I.hs.2.2.2.2 h3).2.1
    have hAh := (I.hs.2.2.2.2 h3).2.2
    rcases hAh with hAl | f28
    · skip
      refine lw_mc (lv' := 2) (ρp := [.ref (sh.2 0), .int a1, .int x22]) (As := [.int a1]) F L (ct_X7_correct_1 hl9 (cx := cx) (cy := cy)) gm_X7_correct I.hs.2.1 rfl rfl (Nat.le_of_ble_eq_true rfl) (by decide) ⟨Nat.le_trans (Nat.add_le_add_left (Nat.le_of_ble_eq_true rfl) _) hcs.1, Nat.le_trans (Nat.add_le_add_left (Nat.le_of_ble_eq_true rfl) _) hcs.2⟩ hls rfl (lw_pre I.hs.1 (by decide) (Or.inl h3)) (I.hO cx cy) (lw_pa (env := k_X7_correct_1.2.1.1) (fa := k_X7_correct_1.2.1.2) ⟨⟨0, I.h20, rfl⟩, ⟨a1, rfl, en_lo a1, en_hi a1⟩, ⟨x22, rfl, l22, u22⟩, trivial⟩ (en_ac (lw_f0 I.hs.2.1 rfl f22 rfl) (en_ac (⟨I.had, hOc⟩) (en_an)))) dlw_1229 (fun u res H1 locs1 hrv hpo L1 => ?_)
      refine W.widen (k := cells + 8) (n := slots + 64) (Nat.add_le_add_left (Nat.le_of_ble_eq_true rfl) _) (Nat.add_le_add_left (Nat.le_of_ble_eq_true rfl) _) ?_
      obtain ⟨fs', g1, g2⟩ := lw_fs I.h20 I.hs.2.1 hpo.1
      have hA1 : lw_ah cx cy fs' u.2 := lw_ahA I hpo.1 g1 (by decide +kernel) hAl
      exact k _ _ _ _ _ _ _ _ hrv (lw_Iq hLP I hpo.1 (by decide +kernel) g1 I.hst (lw_Io I hpo.1 (by decide +kernel)) (lw_Id I hpo.1 (by decide +kernel)) (lw_q I.h20 I.hlen (I.hO cx cy) I.hs hpo.1 (lw_qon h3 (by decide +kernel)) g1 (fun _ => hA1))) L1
    · skip
      have l28 : (-1 : Int) ≤ (-1 : Int32).toInt := by decide
      have u28 : (-1 : Int32).toInt ≤ (-1 : Int) := by decide
      obtain ⟨x28, e28⟩ : ∃ x : Int32, x = -1 := ⟨_, rfl⟩
      rw [← e28] at f28 l28 u28
      refine lw_mc (lv' := 2) (ρp := [.ref (sh.2 0), .int a1, .int x22, .int x28]) (As := [.int a1]) F L (ct_X7_correct_2 hl9 (cx := cx) (cy := cy)) gm_X7_correct I.hs.2.1 rfl rfl (Nat.le_of_ble_eq_true rfl) (by decide) ⟨Nat.le_trans (Nat.add_le_add_left (Nat.le_of_ble_eq_true rfl) _) hcs.1, Nat.le_trans (Nat.add_le_add_left (Nat.le_of_ble_eq_true rfl) _) hcs.2⟩ hls rfl (lw_pre I.hs.1 (by decide) (Or.inl h3)) (I.hO cx cy) (lw_pa (env := k_X7_correct_2.2.1.1) (fa := k_X7_correct_2.2.1.2) ⟨⟨0, I.h20, rfl⟩, ⟨a1, rfl, en_lo a1, en_hi a1⟩, ⟨x22, rfl, l22, u22⟩, ⟨x28, rfl, l28, u28⟩, trivial⟩ (en_ac (lw_f0 I.hs.2.1 rfl f22 rfl) (en_ac (lw_f0 I.hs.2.1 rfl f28 rfl) (en_ac (⟨I.had, hOc⟩) (en_an))))) dlw_1229 (fun u res H1 locs1 hrv hpo L1 => ?_)
      refine W.widen (k := cells + 8) (n := slots + 64) (Nat.add_le_add_left (Nat.le_of_ble_eq_true rfl) _) (Nat.add_le_add_left (Nat.le_of_ble_eq_true rfl) _) ?_
      obtain ⟨fs', g1, g2⟩ := lw_fs I.h20 I.hs.2.1 hpo.1
      have hA1 : lw_ah cx cy fs' u.2 := Or.inr (lw_last I (by decide +kernel) L1.hD g1 hpo (show 0 < 2 by decide) rfl)
      exact k _ _ _ _ _ _ _ _ hrv (lw_Iq hLP I hpo.1 (by decide +kernel) g1 I.hst (lw_Io I hpo.1 (by decide +kernel)) (lw_Id I hpo.1 (by decide +kernel)) (lw_q I.h20 I.hlen (I.hO cx cy) I.hs hpo.1 (lw_qon h3 (by decide +kernel)) g1 (fun _ => hA1))) L1
  · skip
    obtain ⟨x22, f22, l22, u22⟩ := lw_boff h3 I.hs.2.2.1
    refine lw_mc (lv' := 2) (ρp := [.ref (sh.2 0), .int a1, .int x22]) (As := [.int a1]) F L (ct_X7_correct_0 hl9 (cx := cx) (cy := cy)) gm_X7_correct I.hs.2.1 rfl rfl (Nat.le_of_ble_eq_true rfl) (by decide) ⟨Nat.le_trans (Nat.add_le_add_left (Nat.le_of_ble_eq_true rfl) _) hcs.1, Nat.le_trans (Nat.add_le_add_left (Nat.le_of_ble_eq_true rfl) _) hcs.2⟩ hls rfl (lw_pre I.hs.1 (by decide) (Or.inr (by decide))) (I.hO cx cy) (lw_pa (env := k_X7_correct_0.2.1.1) (fa := k_X7_correct_0.2.1.2) ⟨⟨0, I.h20, rfl⟩, ⟨a1, rfl, en_lo a1, en_hi a1⟩, ⟨x22, rfl, l22, u22⟩, trivial⟩ (en_ac (lw_f0 I.hs.2.1 rfl f22 rfl) (en_an))) dlw_1229 (fun u res H1 locs1 hrv hpo L1 => ?_)
    refine W.widen (k := cells + 8) (n := slots + 64) (Nat.add_le_add_left (Nat.le_of_ble_eq_true rfl) _) (Nat.add_le_add_left (Nat.le_of_ble_eq_true rfl) _) ?_
    obtain ⟨fs', I1⟩ := lw_Iqq hLP I hpo.1 (by decide +kernel) (lw_qoff h3 (by decide +kernel)) (by decide +kernel) (by decide +kernel) (lw_Io I hpo.1 (by decide +kernel)) (lw_Id I hpo.1 (by decide +kernel))
    exact k _ _ _ _ _ _ _ _ hrv I1 L1
end
