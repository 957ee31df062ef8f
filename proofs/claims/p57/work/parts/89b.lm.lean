section
variable {p : Program} {l : Launch} {e : Env} {R : Room} {s : State} {m : MethodId} {args : Array Value} {below : List Frame} {meth : Method} {c : Code} {Q : State → Prop}
variable {D : va_G} {tys : List (ClassId × FieldType)} {cO cD : ClassId} {A : Nat → Prop} {sh : en_H} {w : va_W} {H : Heap} {locs : List Loc} {ls : Array Slot} {cells slots qx qo qd : Nat} {E : Int32 → Int32 → Prop} {LP : en_H → va_W → Prop} {st : Nat} {cx cy : Int32} {fs : List Value}
set_option maxHeartbeats 4000000 in
theorem lm_X7_conditions (hl9 : l.stackTraces = false) (a1 : Int32) (hLP : lw_st LP) (F : lw_Fm p R s m args c D tys cO cD A) (L : lw_H D A s w H locs) (I : lw_I E LP tys cO cD qx qo qd sh w st cx cy fs) (hls : ls.size = 9) (hcs : cells + 8 ≤ R.cells ∧ slots + 64 ≤ R.slots)
    (k : ∀ (u : en_H × va_W) (res : Option Value) (H1 : Heap) (locs1 : List Loc) (st' : Nat) (cx' cy' : Int32) (fs' : List Value), en_rv 0 res → lw_I E LP tys cO cD qx qo qd u.1 u.2 st' cx' cy' fs' → lw_H D A s u.2 H1 locs1 → W p l e R s m args below meth c H1 locs1 (cells + 8) (slots + 64) Q (F0 m 2092 ls (res.toList ++ []))) :
    W p l e R s m args below meth c H locs cells slots Q (F0 m 2089 ls (([.int a1] : List Value).reverse ++ [.ref (sh.2 0)])) := by
  by_cases h3 : 3 ≤ st
  · skip
    obtain ⟨⟨x22, f22, l22, u22⟩, ⟨x16, f16, l16, u16⟩, x25, f25, l25, u25⟩ := lw_bon h3 I.hs.2.2.1
    have hOc := (I.hs.2.2.2.2 h3).2.1
    have hAh := (I.hs.2.2.2.2 h3).2.2
    refine lw_mc (lv' := 1) (ρp := [.ref (sh.2 0), .int a1]) (As := [.int a1]) F L (ct_X7_conditions_1 hl9 (cx := cx) (cy := cy)) gm_X7_conditions I.hs.2.1 rfl rfl (Nat.le_of_ble_eq_true rfl) (by decide) ⟨Nat.le_trans (Nat.add_le_add_left (Nat.le_of_ble_eq_true rfl) _) hcs.1, Nat.le_trans (Nat.add_le_add_left (Nat.le_of_ble_eq_true rfl) _) hcs.2⟩ hls rfl (lw_pre I.hs.1 (by decide) (Or.inl h3)) (I.hO cx cy) (lw_pa (env := k_X7_conditions_1.2.1.1) (fa := k_X7_conditions_1.2.1.2) ⟨⟨0, I.h20, rfl⟩, ⟨a1, rfl, en_lo a1, en_hi a1⟩, trivial⟩ (en_ac (⟨I.had, hOc⟩) (en_an))) dlw_2089 (fun u res H1 locs1 hrv hpo L1 => ?_)
    refine W.widen (k := cells + 8) (n := slots + 64) (Nat.add_le_add_left (Nat.le_of_ble_eq_true rfl) _) (Nat.add_le_add_left (Nat.le_of_ble_eq_true rfl) _) ?_
    obtain ⟨fs', I1⟩ := lw_Iqq hLP I hpo.1 (by decide +kernel) (lw_qon h3 (by decide +kernel)) (by decide +kernel) (by decide +kernel) (lw_Io I hpo.1 (by decide +kernel)) (lw_Id I hpo.1 (by decide +kernel))
    exact k _ _ _ _ _ _ _ _ hrv I1 L1
  · skip
    obtain ⟨x22, f22, l22, u22⟩ := lw_boff h3 I.hs.2.2.1
    refine lw_mc (lv' := 1) (ρp := [.ref (sh.2 0), .int a1]) (As := [.int a1]) F L (ct_X7_conditions_0 hl9 (cx := cx) (cy := cy)) gm_X7_conditions I.hs.2.1 rfl rfl (Nat.le_of_ble_eq_true rfl) (by decide) ⟨Nat.le_trans (Nat.add_le_add_left (Nat.le_of_ble_eq_true rfl) _) hcs.1, Nat.le_trans (Nat.add_le_add_left (Nat.le_of_ble_eq_true rfl) _) hcs.2⟩ hls rfl (lw_pre I.hs.1 (by decide) (Or.inr (by decide))) (I.hO cx cy) (lw_pa (env := k_X7_conditions_0.2.1.1) (fa := k_X7_conditions_0.2.1.2) ⟨⟨0, I.h20, rfl⟩, ⟨a1, rfl, en_lo a1, en_hi a1⟩, trivial⟩ (en_an)) dlw_2089 (fun u res H1 locs1 hrv hpo L1 => ?_)
    refine W.widen (k := cells + 8) (n := slots + 64) (Nat.add_le_add_left (Nat.le_of_ble_eq_true rfl) _) (Nat.add_le_add_left (Nat.le_of_ble_eq_true rfl) _) ?_
    obtain ⟨fs', I1⟩ := lw_Iqq hLP I hpo.1 (by decide +kernel) (lw_qoff h3 (by decide +kernel)) (by decide +kernel) (by decide +kernel) (lw_Io I hpo.1 (by decide +kernel)) (lw_Id I hpo.1 (by decide +kernel))
    exact k _ _ _ _ _ _ _ _ hrv I1 L1
set_option maxHeartbeats 4000000 in
theorem lm_X7_correct (hl9 : l.stackTraces = false) (a1 : Int32) (hLP : lw_st LP) (F : lw_Fm p R s m args c D tys cO cD A) (L : lw_H D A s w H locs) (I : lw_I E LP tys cO cD qx qo qd sh w st cx cy fs) (hls : ls.size = 9) (hcs : cells + 8 ≤ R.cells ∧ slots + 64 ≤ R.slots)
    (k : ∀ (u : en_H × va_W) (res : Option Value) (H1 : Heap) (locs1 : List Loc) (st' : Nat) (cx' cy' : Int32) (fs' : List Value), en_rv 0 res → lw_I E LP tys cO cD qx qo qd u.1 u.2 st' cx' cy' fs' → lw_H D A s u.2 H1 locs1 → W p l e R s m args below meth c H1 locs1 (cells + 8) (slots + 64) Q (F0 m 1232 ls (res.toList ++ []))) :
    W p l e R s m args below meth c H locs cells slots Q (F0 m 1229 ls (([.int a1] : List Value).reverse ++ [.ref (sh.2 0)])) := by
  by_cases h3 : 3 ≤ st
  · skip
    obtain ⟨⟨x22, f22, l22, u22⟩, ⟨x16, f16, l16, u16⟩, x25, f25, l25, u25⟩ := lw_bon h3 I.hs.2.2.1
    have hOc := (I.hs.2.2.2.2 h3).2.1
    have hAh := (I.hs.2.2.2.2 h3).2.2
    rcases hAh with hAl | f28
    · skip
      refine lw_mc (lv' := 2) (ρp := [.ref (sh.2 0), .int a1, .int x22]) (As := [.int a1]) F L (ct_X7_correct_1 hl9 (cx := cx) (cy := cy)) gm_X7_correct I.hs.2.1 rfl rfl (Nat.le_of_ble_eq_true rfl) (by decide) ⟨Nat.le_trans (Nat.add_le_add_left (Nat.le_of_ble_eq_true rfl) _) hcs.1, Nat.le_trans (Nat.add_le_add_left (Nat.le_of_ble_eq_true rfl) _) hcs.2⟩ hls rfl (lw_pre I.hs.1 (by decide) (Or.inl h3)) (I.hO cx cy) (lw_pa (env := k_X7_correct_1.2.1.1) (fa := k_X7_correct_1.2.1.2) ⟨⟨0, I.h20, rfl⟩, ⟨a1, rfl, en_lo a1, en_hi a1⟩, ⟨x22, rfl, l22, u22⟩, trivial⟩ (en_ac (lw_f0 I.hs.2.1 rfl f22 rfl) (en_ac (⟨I.had, hOc⟩) (en_an)))) dlw_1229 (fun u res H1 locs1 hrv hpo L1 => ?_)
      refine W.widen (k := cells + 8) (n := slots + 64) (Nat.add_le_add_left (Nat.le_of_ble_eq_true rfl) _) (Nat.add_le_add_left (Nat.le_of_ble_eq_true rfl) _) ?_
      obtain ⟨fs', g1, g2⟩ := lw_fs I.h20 I.hs.2.1 hpo.1
      have hA1 : lw_ah cx cy fs' u.2 := lw_ahA I hpo.1 g1 (by decide +kernel) hAl
      exact k _ _ _ _ _ _ _ _ hrv (lw_Iq hLP I hpo.1 (by decide +kernel) g1 I.hst (lw_Io I hpo.1 (by decide +kernel)) (lw_Id I hpo.1 (by decide +kernel)) (lw_q I.h20 I.hlen (I.hO cx cy) I.hs hpo.1 (lw_qon h3 (by decide +kernel)) g1 (fun _ => hA1))) L1
    · skip
      have l28 : (-1 : Int) ≤ (-1 : Int32).toInt := by decide
      have u28 : (-1 : Int32).toInt ≤ (-1 : Int) := by decide
      obtain ⟨x28, e28⟩ : ∃ x : Int32, x = -1 := ⟨_, rfl⟩
      rw [← e28] at f28 l28 u28
      refine lw_mc (lv' := 2) (ρp := [.ref (sh.2 0), .int a1, .int x22, .int x28]) (As := [.int a1]) F L (ct_X7_correct_2 hl9 (cx := cx) (cy := cy)) gm_X7_correct I.hs.2.1 rfl rfl (Nat.le_of_ble_eq_true rfl) (by decide) ⟨Nat.le_trans (Nat.add_le_add_left (Nat.le_of_ble_eq_true rfl) _) hcs.1, Nat.le_trans (Nat.add_le_add_left (Nat.le_of_ble_eq_true rfl) _) hcs.2⟩ hls rfl (lw_pre I.hs.1 (by decide) (Or.inl h3)) (I.hO cx cy) (lw_pa (env := k_X7_correct_2.2.1.1) (fa := k_X7_correct_2.2.1.2) ⟨⟨0, I.h20, rfl⟩, ⟨a1, rfl, en_lo a1, en_hi a1⟩, ⟨x22, rfl, l22, u22⟩, ⟨x28, rfl, l28, u28⟩, trivial⟩ (en_ac (lw_f0 I.hs.2.1 rfl f22 rfl) (en_ac (lw_f0 I.hs.2.1 rfl f28 rfl) (en_ac (⟨I.had, hOc⟩) (en_an))))) dlw_1229 (fun u res H1 locs1 hrv hpo L1 => ?_)
      refine W.widen (k := cells + 8) (n := slots + 64) (Nat.add_le_add_left (Nat.le_of_ble_eq_true rfl) _) (Nat.add_le_add_left (Nat.le_of_ble_eq_true rfl) _) ?_
      obtain ⟨fs', g1, g2⟩ := lw_fs I.h20 I.hs.2.1 hpo.1
      have hA1 : lw_ah cx cy fs' u.2 := Or.inr (lw_last I (by decide +kernel) L1.hD g1 hpo (show 0 < 2 by decide) rfl)
      exact k _ _ _ _ _ _ _ _ hrv (lw_Iq hLP I hpo.1 (by decide +kernel) g1 I.hst (lw_Io I hpo.1 (by decide +kernel)) (lw_Id I hpo.1 (by decide +kernel)) (lw_q I.h20 I.hlen (I.hO cx cy) I.hs hpo.1 (lw_qon h3 (by decide +kernel)) g1 (fun _ => hA1))) L1
  · skip
    obtain ⟨x22, f22, l22, u22⟩ := lw_boff h3 I.hs.2.2.1
    refine lw_mc (lv' := 2) (ρp := [.ref (sh.2 0), .int a1, .int x22]) (As := [.int a1]) F L (ct_X7_correct_0 hl9 (cx := cx) (cy := cy)) gm_X7_correct I.hs.2.1 rfl rfl (Nat.le_of_ble_eq_true rfl) (by decide) ⟨Nat.le_trans (Nat.add_le_add_left (Nat.le_of_ble_eq_true rfl) _) hcs.1, Nat.le_trans (Nat.add_le_add_left (Nat.le_of_ble_eq_true rfl) _) hcs.2⟩ hls rfl (lw_pre I.hs.1 (by decide) (Or.inr (by decide))) (I.hO cx cy) (lw_pa (env := k_X7_correct_0.2.1.1) (fa := k_X7_correct_0.2.1.2) ⟨⟨0, I.h20, rfl⟩, ⟨a1, rfl, en_lo a1, en_hi a1⟩, ⟨x22, rfl, l22, u22⟩, trivial⟩ (en_ac (lw_f0 I.hs.2.1 rfl f22 rfl) (en_an))) dlw_1229 (fun u res H1 locs1 hrv hpo L1 => ?_)
    refine W.widen (k := cells + 8) (n := slots + 64) (Nat.add_le_add_left (Nat.le_of_ble_eq_true rfl) _) (Nat.add_le_add_left (Nat.le_of_ble_eq_true rfl) _) ?_
    obtain ⟨fs', I1⟩ := lw_Iqq hLP I hpo.1 (by decide +kernel) (lw_qoff h3 (by decide +kernel)) (by decide +kernel) (by decide +kernel) (lw_Io I hpo.1 (by decide +kernel)) (lw_Id I hpo.1 (by decide +kernel))
    exact k _ _ _ _ _ _ _ _ hrv I1 L1
set_option maxHeartbeats 4000000 in
theorem lm_X7_cut (hl9 : l.stackTraces = false) (a1 : Int32) (hLP : lw_st LP) (F : lw_Fm p R s m args c D tys cO cD A) (L : lw_H D A s w H locs) (I : lw_I E LP tys cO cD qx qo qd sh w st cx cy fs) (hls : ls.size = 9) (hcs : cells + 8 ≤ R.cells ∧ slots + 64 ≤ R.slots)
    (k : ∀ (u : en_H × va_W) (res : Option Value) (H1 : Heap) (locs1 : List Loc) (st' : Nat) (cx' cy' : Int32) (fs' : List Value), en_rv 0 res → lw_I E LP tys cO cD qx qo qd u.1 u.2 st' cx' cy' fs' → lw_H D A s u.2 H1 locs1 → W p l e R s m args below meth c H1 locs1 (cells + 8) (slots + 64) Q (F0 m 2064 ls (res.toList ++ []))) :
    W p l e R s m args below meth c H locs cells slots Q (F0 m 2061 ls (([.int a1] : List Value).reverse ++ [.ref (sh.2 0)])) := by
  by_cases h3 : 3 ≤ st
  · skip
    obtain ⟨⟨x22, f22, l22, u22⟩, ⟨x16, f16, l16, u16⟩, x25, f25, l25, u25⟩ := lw_bon h3 I.hs.2.2.1
    have hOc := (I.hs.2.2.2.2 h3).2.1
    have hAh := (I.hs.2.2.2.2 h3).2.2
    refine lw_mc (lv' := 2) (ρp := [.ref (sh.2 0), .int a1, .int x16]) (As := [.int a1]) F L (ct_X7_cut_1 hl9 (cx := cx) (cy := cy)) gm_X7_cut I.hs.2.1 rfl rfl (Nat.le_of_ble_eq_true rfl) (by decide) ⟨Nat.le_trans (Nat.add_le_add_left (Nat.le_of_ble_eq_true rfl) _) hcs.1, Nat.le_trans (Nat.add_le_add_left (Nat.le_of_ble_eq_true rfl) _) hcs.2⟩ hls rfl (lw_pre I.hs.1 (by decide) (Or.inl h3)) (I.hO cx cy) (lw_pa (env := k_X7_cut_1.2.1.1) (fa := k_X7_cut_1.2.1.2) ⟨⟨0, I.h20, rfl⟩, ⟨a1, rfl, en_lo a1, en_hi a1⟩, ⟨x16, rfl, l16, u16⟩, trivial⟩ (en_ac (lw_f0 I.hs.2.1 rfl f16 rfl) (en_ac (⟨I.had, hOc⟩) (en_an)))) dlw_2061 (fun u res H1 locs1 hrv hpo L1 => ?_)
    refine W.widen (k := cells + 8) (n := slots + 64) (Nat.add_le_add_left (Nat.le_of_ble_eq_true rfl) _) (Nat.add_le_add_left (Nat.le_of_ble_eq_true rfl) _) ?_
    obtain ⟨fs', I1⟩ := lw_Iqq hLP I hpo.1 (by decide +kernel) (lw_qon h3 (by decide +kernel)) (by decide +kernel) (by decide +kernel) (lw_Io I hpo.1 (by decide +kernel)) (lw_Id I hpo.1 (by decide +kernel))
    exact k _ _ _ _ _ _ _ _ hrv I1 L1
  · skip
    obtain ⟨x22, f22, l22, u22⟩ := lw_boff h3 I.hs.2.2.1
    refine lw_mc (lv' := 2) (ρp := [.ref (sh.2 0), .int a1]) (As := [.int a1]) F L (ct_X7_cut_0 hl9 (cx := cx) (cy := cy)) gm_X7_cut I.hs.2.1 rfl rfl (Nat.le_of_ble_eq_true rfl) (by decide) ⟨Nat.le_trans (Nat.add_le_add_left (Nat.le_of_ble_eq_true rfl) _) hcs.1, Nat.le_trans (Nat.add_le_add_left (Nat.le_of_ble_eq_true rfl) _) hcs.2⟩ hls rfl (lw_pre I.hs.1 (by decide) (Or.inr (by decide))) (I.hO cx cy) (lw_pa (env := k_X7_cut_0.2.1.1) (fa := k_X7_cut_0.2.1.2) ⟨⟨0, I.h20, rfl⟩, ⟨a1, rfl, en_lo a1, en_hi a1⟩, trivial⟩ (en_an)) dlw_2061 (fun u res H1 locs1 hrv hpo L1 => ?_)
    refine W.widen (k := cells + 8) (n := slots + 64) (Nat.add_le_add_left (Nat.le_of_ble_eq_true rfl) _) (Nat.add_le_add_left (Nat.le_of_ble_eq_true rfl) _) ?_
    obtain ⟨fs', I1⟩ := lw_Iqq hLP I hpo.1 (by decide +kernel) (lw_qoff h3 (by decide +kernel)) (by decide +kernel) (by decide +kernel) (lw_Io I hpo.1 (by decide +kernel)) (lw_Id I hpo.1 (by decide +kernel))
    exact k _ _ _ _ _ _ _ _ hrv I1 L1
set_option maxHeartbeats 4000000 in
theorem lm_X7_edition (hl9 : l.stackTraces = false) (a1 : Int32) (hb1 : 0 ≤ a1.toInt ∧ a1.toInt ≤ 65535) (hLP : lw_st LP) (F : lw_Fm p R s m args c D tys cO cD A) (L : lw_H D A s w H locs) (I : lw_I E LP tys cO cD qx qo qd sh w st cx cy fs) (hls : ls.size = 9) (hcs : cells + 8 ≤ R.cells ∧ slots + 64 ≤ R.slots)
    (k : ∀ (u : en_H × va_W) (res : Option Value) (H1 : Heap) (locs1 : List Loc) (st' : Nat) (cx' cy' : Int32) (fs' : List Value), en_rv 0 res → lw_I E LP tys cO cD qx qo qd u.1 u.2 st' cx' cy' fs' → lw_H D A s u.2 H1 locs1 → W p l e R s m args below meth c H1 locs1 (cells + 8) (slots + 64) Q (F0 m 664 ls (res.toList ++ []))) :
    W p l e R s m args below meth c H locs cells slots Q (F0 m 661 ls (([.int a1] : List Value).reverse ++ [.ref (sh.2 0)])) := by
  by_cases h3 : 3 ≤ st
  · skip
    obtain ⟨⟨x22, f22, l22, u22⟩, ⟨x16, f16, l16, u16⟩, x25, f25, l25, u25⟩ := lw_bon h3 I.hs.2.2.1
    have hOc := (I.hs.2.2.2.2 h3).2.1
    have hAh := (I.hs.2.2.2.2 h3).2.2
    refine lw_mc (lv' := 1) (ρp := [.ref (sh.2 0), .int a1]) (As := [.int a1]) F L (ct_X7_edition_1 hl9 (cx := cx) (cy := cy)) gm_X7_edition I.hs.2.1 rfl rfl (Nat.le_of_ble_eq_true rfl) (by decide) ⟨Nat.le_trans (Nat.add_le_add_left (Nat.le_of_ble_eq_true rfl) _) hcs.1, Nat.le_trans (Nat.add_le_add_left (Nat.le_of_ble_eq_true rfl) _) hcs.2⟩ hls rfl (lw_pre I.hs.1 (by decide) (Or.inl h3)) (I.hO cx cy) (lw_pa (env := k_X7_edition_1.2.1.1) (fa := k_X7_edition_1.2.1.2) ⟨⟨0, I.h20, rfl⟩, ⟨a1, rfl, hb1.1, hb1.2⟩, trivial⟩ (en_ac (⟨I.had, hOc⟩) (en_an))) dlw_661 (fun u res H1 locs1 hrv hpo L1 => ?_)
    refine W.widen (k := cells + 8) (n := slots + 64) (Nat.add_le_add_left (Nat.le_of_ble_eq_true rfl) _) (Nat.add_le_add_left (Nat.le_of_ble_eq_true rfl) _) ?_
    obtain ⟨fs', I1⟩ := lw_Iqq hLP I hpo.1 (by decide +kernel) (lw_qon h3 (by decide +kernel)) (by decide +kernel) (by decide +kernel) (lw_Io I hpo.1 (by decide +kernel)) (lw_Id I hpo.1 (by decide +kernel))
    exact k _ _ _ _ _ _ _ _ hrv I1 L1
  · skip
    obtain ⟨x22, f22, l22, u22⟩ := lw_boff h3 I.hs.2.2.1
    refine lw_mc (lv' := 1) (ρp := [.ref (sh.2 0), .int a1]) (As := [.int a1]) F L (ct_X7_edition_0 hl9 (cx := cx) (cy := cy)) gm_X7_edition I.hs.2.1 rfl rfl (Nat.le_of_ble_eq_true rfl) (by decide) ⟨Nat.le_trans (Nat.add_le_add_left (Nat.le_of_ble_eq_true rfl) _) hcs.1, Nat.le_trans (Nat.add_le_add_left (Nat.le_of_ble_eq_true rfl) _) hcs.2⟩ hls rfl (lw_pre I.hs.1 (by decide) (Or.inr (by decide))) (I.hO cx cy) (lw_pa (env := k_X7_edition_0.2.1.1) (fa := k_X7_edition_0.2.1.2) ⟨⟨0, I.h20, rfl⟩, ⟨a1, rfl, hb1.1, hb1.2⟩, trivial⟩ (en_an)) dlw_661 (fun u res H1 locs1 hrv hpo L1 => ?_)
    refine W.widen (k := cells + 8) (n := slots + 64) (Nat.add_le_add_left (Nat.le_of_ble_eq_true rfl) _) (Nat.add_le_add_left (Nat.le_of_ble_eq_true rfl) _) ?_
    obtain ⟨fs', I1⟩ := lw_Iqq hLP I hpo.1 (by decide +kernel) (lw_qoff h3 (by decide +kernel)) (by decide +kernel) (by decide +kernel) (lw_Io I hpo.1 (by decide +kernel)) (lw_Id I hpo.1 (by decide +kernel))
    exact k _ _ _ _ _ _ _ _ hrv I1 L1
set_option maxHeartbeats 4000000 in
theorem lm_X7_free (hl9 : l.stackTraces = false) (a1 : Int32) (a2 : Int32) (a3 : Int32) (hLP : lw_st LP) (F : lw_Fm p R s m args c D tys cO cD A) (L : lw_H D A s w H locs) (I : lw_I E LP tys cO cD qx qo qd sh w st cx cy fs) (hls : ls.size = 9) (hcs : cells + 8 ≤ R.cells ∧ slots + 64 ≤ R.slots)
    (k : ∀ (u : en_H × va_W) (res : Option Value) (H1 : Heap) (locs1 : List Loc) (st' : Nat) (cx' cy' : Int32) (fs' : List Value), en_rv 0 res → lw_I E LP tys cO cD qx qo qd u.1 u.2 st' cx' cy' fs' → lw_H D A s u.2 H1 locs1 → W p l e R s m args below meth c H1 locs1 (cells + 8) (slots + 64) Q (F0 m 1152 ls (res.toList ++ []))) :
    W p l e R s m args below meth c H locs cells slots Q (F0 m 1149 ls (([.int a1, .int a2, .int a3] : List Value).reverse ++ [.ref (sh.2 0)])) := by
  by_cases h3 : 3 ≤ st
  · skip
    obtain ⟨⟨x22, f22, l22, u22⟩, ⟨x16, f16, l16, u16⟩, x25, f25, l25, u25⟩ := lw_bon h3 I.hs.2.2.1
    have hOc := (I.hs.2.2.2.2 h3).2.1
    have hAh := (I.hs.2.2.2.2 h3).2.2
    rcases hAh with hAl | f28
    · skip
      refine lw_mc (lv' := 3) (ρp := [.ref (sh.2 0), .int a1, .int a2, .int a3, .int x22, .int x25]) (As := [.int a1, .int a2, .int a3]) F L (ct_X7_free_1 hl9 (cx := cx) (cy := cy)) gm_X7_free I.hs.2.1 rfl rfl (Nat.le_of_ble_eq_true rfl) (by decide) ⟨Nat.le_trans (Nat.add_le_add_left (Nat.le_of_ble_eq_true rfl) _) hcs.1, Nat.le_trans (Nat.add_le_add_left (Nat.le_of_ble_eq_true rfl) _) hcs.2⟩ hls rfl (lw_pre I.hs.1 (by decide) (Or.inl h3)) (I.hO cx cy) (lw_pa (env := k_X7_free_1.2.1.1) (fa := k_X7_free_1.2.1.2) ⟨⟨0, I.h20, rfl⟩, ⟨a1, rfl, en_lo a1, en_hi a1⟩, ⟨a2, rfl, en_lo a2, en_hi a2⟩, ⟨a3, rfl, en_lo a3, en_hi a3⟩, ⟨x22, rfl, l22, u22⟩, ⟨x25, rfl, l25, u25⟩, trivial⟩ (en_ac (lw_f0 I.hs.2.1 rfl f22 rfl) (en_ac (lw_f0 I.hs.2.1 rfl f25 rfl) (en_ac (⟨I.had, hOc⟩) (en_an))))) dlw_1149 (fun u res H1 locs1 hrv hpo L1 => ?_)
      refine W.widen (k := cells + 8) (n := slots + 64) (Nat.add_le_add_left (Nat.le_of_ble_eq_true rfl) _) (Nat.add_le_add_left (Nat.le_of_ble_eq_true rfl) _) ?_
      obtain ⟨fs', g1, g2⟩ := lw_fs I.h20 I.hs.2.1 hpo.1
      have hA1 : lw_ah cx cy fs' u.2 := lw_ahA I hpo.1 g1 (by decide +kernel) hAl
      exact k _ _ _ _ _ _ _ _ hrv (lw_Iq hLP I hpo.1 (by decide +kernel) g1 I.hst (lw_Io I hpo.1 (by decide +kernel)) (lw_Id I hpo.1 (by decide +kernel)) (lw_q I.h20 I.hlen (I.hO cx cy) I.hs hpo.1 (lw_qon h3 (by decide +kernel)) g1 (fun _ => hA1))) L1
    · skip
      have l28 : (-1 : Int) ≤ (-1 : Int32).toInt := by decide
      have u28 : (-1 : Int32).toInt ≤ (-1 : Int) := by decide
      obtain ⟨x28, e28⟩ : ∃ x : Int32, x = -1 := ⟨_, rfl⟩
      rw [← e28] at f28 l28 u28
      refine lw_mc (lv' := 3) (ρp := [.ref (sh.2 0), .int a1, .int a2, .int a3, .int x22, .int x25, .int x28]) (As := [.int a1, .int a2, .int a3]) F L (ct_X7_free_2 hl9 (cx := cx) (cy := cy)) gm_X7_free I.hs.2.1 rfl rfl (Nat.le_of_ble_eq_true rfl) (by decide) ⟨Nat.le_trans (Nat.add_le_add_left (Nat.le_of_ble_eq_true rfl) _) hcs.1, Nat.le_trans (Nat.add_le_add_left (Nat.le_of_ble_eq_true rfl) _) hcs.2⟩ hls rfl (lw_pre I.hs.1 (by decide) (Or.inl h3)) (I.hO cx cy) (lw_pa (env := k_X7_free_2.2.1.1) (fa := k_X7_free_2.2.1.2) ⟨⟨0, I.h20, rfl⟩, ⟨a1, rfl, en_lo a1, en_hi a1⟩, ⟨a2, rfl, en_lo a2, en_hi a2⟩, ⟨a3, rfl, en_lo a3, en_hi a3⟩, ⟨x22, rfl, l22, u22⟩, ⟨x25, rfl, l25, u25⟩, ⟨x28, rfl, l28, u28⟩, trivial⟩ (en_ac (lw_f0 I.hs.2.1 rfl f22 rfl) (en_ac (lw_f0 I.hs.2.1 rfl f25 rfl) (en_ac (lw_f0 I.hs.2.1 rfl f28 rfl) (en_ac (⟨I.had, hOc⟩) (en_an)))))) dlw_1149 (fun u res H1 locs1 hrv hpo L1 => ?_)
      refine W.widen (k := cells + 8) (n := slots + 64) (Nat.add_le_add_left (Nat.le_of_ble_eq_true rfl) _) (Nat.add_le_add_left (Nat.le_of_ble_eq_true rfl) _) ?_
      obtain ⟨fs', g1, g2⟩ := lw_fs I.h20 I.hs.2.1 hpo.1
      have hA1 : lw_ah cx cy fs' u.2 := Or.inr (lw_last I (by decide +kernel) L1.hD g1 hpo (show 0 < 4 by decide) rfl)
      exact k _ _ _ _ _ _ _ _ hrv (lw_Iq hLP I hpo.1 (by decide +kernel) g1 I.hst (lw_Io I hpo.1 (by decide +kernel)) (lw_Id I hpo.1 (by decide +kernel)) (lw_q I.h20 I.hlen (I.hO cx cy) I.hs hpo.1 (lw_qon h3 (by decide +kernel)) g1 (fun _ => hA1))) L1
  · skip
    obtain ⟨x22, f22, l22, u22⟩ := lw_boff h3 I.hs.2.2.1
    refine lw_mc (lv' := 2) (ρp := [.ref (sh.2 0), .int a1, .int a2, .int a3, .int x22]) (As := [.int a1, .int a2, .int a3]) F L (ct_X7_free_0 hl9 (cx := cx) (cy := cy)) gm_X7_free I.hs.2.1 rfl rfl (Nat.le_of_ble_eq_true rfl) (by decide) ⟨Nat.le_trans (Nat.add_le_add_left (Nat.le_of_ble_eq_true rfl) _) hcs.1, Nat.le_trans (Nat.add_le_add_left (Nat.le_of_ble_eq_true rfl) _) hcs.2⟩ hls rfl (lw_pre I.hs.1 (by decide) (Or.inr (by decide))) (I.hO cx cy) (lw_pa (env := k_X7_free_0.2.1.1) (fa := k_X7_free_0.2.1.2) ⟨⟨0, I.h20, rfl⟩, ⟨a1, rfl, en_lo a1, en_hi a1⟩, ⟨a2, rfl, en_lo a2, en_hi a2⟩, ⟨a3, rfl, en_lo a3, en_hi a3⟩, ⟨x22, rfl, l22, u22⟩, trivial⟩ (en_ac (lw_f0 I.hs.2.1 rfl f22 rfl) (en_an))) dlw_1149 (fun u res H1 locs1 hrv hpo L1 => ?_)
    refine W.widen (k := cells + 8) (n := slots + 64) (Nat.add_le_add_left (Nat.le_of_ble_eq_true rfl) _) (Nat.add_le_add_left (Nat.le_of_ble_eq_true rfl) _) ?_
    obtain ⟨fs', I1⟩ := lw_Iqq hLP I hpo.1 (by decide +kernel) (lw_qoff h3 (by decide +kernel)) (by decide +kernel) (by decide +kernel) (lw_Io I hpo.1 (by decide +kernel)) (lw_Id I hpo.1 (by decide +kernel))
    exact k _ _ _ _ _ _ _ _ hrv I1 L1
set_option maxHeartbeats 4000000 in
theorem lm_X7_gets (hl9 : l.stackTraces = false) (a1 : Int32) (a2 : Int32) (hLP : lw_st LP) (F : lw_Fm p R s m args c D tys cO cD A) (L : lw_H D A s w H locs) (I : lw_I E LP tys cO cD qx qo qd sh w st cx cy fs) (hls : ls.size = 9) (hcs : cells + 8 ≤ R.cells ∧ slots + 64 ≤ R.slots)
    (k : ∀ (u : en_H × va_W) (res : Option Value) (H1 : Heap) (locs1 : List Loc) (st' : Nat) (cx' cy' : Int32) (fs' : List Value), en_rv 0 res → lw_I E LP tys cO cD qx qo qd u.1 u.2 st' cx' cy' fs' → lw_H D A s u.2 H1 locs1 → W p l e R s m args below meth c H1 locs1 (cells + 8) (slots + 64) Q (F0 m 609 ls (res.toList ++ []))) :
    W p l e R s m args below meth c H locs cells slots Q (F0 m 606 ls (([.int a1, .int a2] : List Value).reverse ++ [.ref (sh.2 0)])) := by
  by_cases h3 : 3 ≤ st
  · skip
    obtain ⟨⟨x22, f22, l22, u22⟩, ⟨x16, f16, l16, u16⟩, x25, f25, l25, u25⟩ := lw_bon h3 I.hs.2.2.1
    have hOc := (I.hs.2.2.2.2 h3).2.1
    have hAh := (I.hs.2.2.2.2 h3).2.2
    refine lw_mc (lv' := 2) (ρp := [.ref (sh.2 0), .int a1, .int a2, .int x16]) (As := [.int a1, .int a2]) F L (ct_X7_gets_1 hl9 (cx := cx) (cy := cy)) gm_X7_gets I.hs.2.1 rfl rfl (Nat.le_of_ble_eq_true rfl) (by decide) ⟨Nat.le_trans (Nat.add_le_add_left (Nat.le_of_ble_eq_true rfl) _) hcs.1, Nat.le_trans (Nat.add_le_add_left (Nat.le_of_ble_eq_true rfl) _) hcs.2⟩ hls rfl (lw_pre I.hs.1 (by decide) (Or.inl h3)) (I.hO cx cy) (lw_pa (env := k_X7_gets_1.2.1.1) (fa := k_X7_gets_1.2.1.2) ⟨⟨0, I.h20, rfl⟩, ⟨a1, rfl, en_lo a1, en_hi a1⟩, ⟨a2, rfl, en_lo a2, en_hi a2⟩, ⟨x16, rfl, l16, u16⟩, trivial⟩ (en_ac (lw_f0 I.hs.2.1 rfl f16 rfl) (en_ac (⟨I.had, hOc⟩) (en_an)))) dlw_606 (fun u res H1 locs1 hrv hpo L1 => ?_)
    refine W.widen (k := cells + 8) (n := slots + 64) (Nat.add_le_add_left (Nat.le_of_ble_eq_true rfl) _) (Nat.add_le_add_left (Nat.le_of_ble_eq_true rfl) _) ?_
    obtain ⟨fs', I1⟩ := lw_Iqq hLP I hpo.1 (by decide +kernel) (lw_qon h3 (by decide +kernel)) (by decide +kernel) (by decide +kernel) (lw_Io I hpo.1 (by decide +kernel)) (lw_Id I hpo.1 (by decide +kernel))
    exact k _ _ _ _ _ _ _ _ hrv I1 L1
  · skip
    obtain ⟨x22, f22, l22, u22⟩ := lw_boff h3 I.hs.2.2.1
    refine lw_mc (lv' := 2) (ρp := [.ref (sh.2 0), .int a1, .int a2]) (As := [.int a1, .int a2]) F L (ct_X7_gets_0 hl9 (cx := cx) (cy := cy)) gm_X7_gets I.hs.2.1 rfl rfl (Nat.le_of_ble_eq_true rfl) (by decide) ⟨Nat.le_trans (Nat.add_le_add_left (Nat.le_of_ble_eq_true rfl) _) hcs.1, Nat.le_trans (Nat.add_le_add_left (Nat.le_of_ble_eq_true rfl) _) hcs.2⟩ hls rfl (lw_pre I.hs.1 (by decide) (Or.inr (by decide))) (I.hO cx cy) (lw_pa (env := k_X7_gets_0.2.1.1) (fa := k_X7_gets_0.2.1.2) ⟨⟨0, I.h20, rfl⟩, ⟨a1, rfl, en_lo a1, en_hi a1⟩, ⟨a2, rfl, en_lo a2, en_hi a2⟩, trivial⟩ (en_an)) dlw_606 (fun u res H1 locs1 hrv hpo L1 => ?_)
    refine W.widen (k := cells + 8) (n := slots + 64) (Nat.add_le_add_left (Nat.le_of_ble_eq_true rfl) _) (Nat.add_le_add_left (Nat.le_of_ble_eq_true rfl) _) ?_
    obtain ⟨fs', I1⟩ := lw_Iqq hLP I hpo.1 (by decide +kernel) (lw_qoff h3 (by decide +kernel)) (by decide +kernel) (by decide +kernel) (lw_Io I hpo.1 (by decide +kernel)) (lw_Id I hpo.1 (by decide +kernel))
    exact k _ _ _ _ _ _ _ _ hrv I1 L1
set_option maxHeartbeats 4000000 in
theorem lm_X7_hole (hl9 : l.stackTraces = false) (a1 : Int32) (a2 : Int32) (a3 : Int32) (a4 : Int32) (a5 : Int32) (a6 : Int32) (hLP : lw_st LP) (F : lw_Fm p R s m args c D tys cO cD A) (L : lw_H D A s w H locs) (I : lw_I E LP tys cO cD qx qo qd sh w st cx cy fs) (hls : ls.size = 9) (hcs : cells + 8 ≤ R.cells ∧ slots + 64 ≤ R.slots)
    (k : ∀ (u : en_H × va_W) (res : Option Value) (H1 : Heap) (locs1 : List Loc) (st' : Nat) (cx' cy' : Int32) (fs' : List Value), en_rv 0 res → lw_I E LP tys cO cD qx qo qd u.1 u.2 st' cx' cy' fs' → lw_H D A s u.2 H1 locs1 → W p l e R s m args below meth c H1 locs1 (cells + 8) (slots + 64) Q (F0 m 369 ls (res.toList ++ []))) :
    W p l e R s m args below meth c H locs cells slots Q (F0 m 366 ls (([.int a1, .int a2, .int a3, .int a4, .int a5, .int a6] : List Value).reverse ++ [.ref (sh.2 0)])) := by
  obtain rfl | h1 : st = 0 ∨ 1 ≤ st := by omega
  · skip
    obtain ⟨x21, f21, l21, u21⟩ := I.hs.2.2.1 (21, 0, 0) (by decide)
    have l21 : (0 : Int) ≤ x21.toInt := l21
    have u21 : x21.toInt ≤ (0 : Int) := u21
    obtain ⟨x16, f16, l16, u16⟩ := I.hs.2.2.1 (16, 0, 9) (by decide)
    have l16 : (0 : Int) ≤ x16.toInt := l16
    have u16 : x16.toInt ≤ (9 : Int) := u16
    obtain ⟨cA9, f9, hw19, hf19⟩ := I.hcr
    obtain h16 | h16 | h16 | h16 | h16 | h16 | h16 | h16 | h16 | h16 := lw_k09 l16 u16
    · have l16 : (0 : Int) ≤ x16.toInt := by omega
      have u16 : x16.toInt ≤ (0 : Int) := by omega
      refine lw_mc (sh := lw_rl 0 sh) (lv' := 2) (ρp := [.ref (sh.2 0), .int a1, .int a2, .int a3, .int a4, .int a5, .int a6, .int x16, .int x21]) (As := [.int a1, .int a2, .int a3, .int a4, .int a5, .int a6]) F L (ct_X7_hole_0s0 hl9 (cx := cx) (cy := cy)) gm_X7_hole I.hs.2.1 rfl rfl (Nat.le_of_ble_eq_true rfl) (by decide) ⟨Nat.le_trans (Nat.add_le_add_left (Nat.le_of_ble_eq_true rfl) _) hcs.1, Nat.le_trans (Nat.add_le_add_left (Nat.le_of_ble_eq_true rfl) _) hcs.2⟩ hls rfl (lw_toS (k := 0) (by decide) I.hsp.1 I.hsp.2.1 I.hsp.2.2.1 I.hsp.2.2.2.1 hw19 hf19 (lw_pre I.hs.1 (by decide) (Or.inr (by decide))) (by decide)) (lw_Om (lw_omr I.om I.hsp)) (lw_pa (env := k_X7_hole_0s0.2.1.1) (fa := k_X7_hole_0s0.2.1.2) ⟨⟨0, lw_r20 I.h20, rfl⟩, ⟨a1, rfl, en_lo a1, en_hi a1⟩, ⟨a2, rfl, en_lo a2, en_hi a2⟩, ⟨a3, rfl, en_lo a3, en_hi a3⟩, ⟨a4, rfl, en_lo a4, en_hi a4⟩, ⟨a5, rfl, en_lo a5, en_hi a5⟩, ⟨a6, rfl, en_lo a6, en_hi a6⟩, ⟨x16, rfl, l16, u16⟩, ⟨x21, rfl, l21, u21⟩, trivial⟩ (en_ac (lw_f0 I.hs.2.1 rfl f16 rfl) (en_ac (lw_f0 I.hs.2.1 rfl f21 rfl) (en_an)))) dlw_366 (fun u res H1 locs1 hrv hpo L1 => ?_)
      refine W.widen (k := cells + 8) (n := slots + 64) (Nat.add_le_add_left (Nat.le_of_ble_eq_true rfl) _) (Nat.add_le_add_left (Nat.le_of_ble_eq_true rfl) _) ?_
      obtain ⟨fs', I1⟩ := lw_rowH (k := 0) hLP (by decide) I L1.hD hpo rfl (show 0 < 7 by decide) (by decide +kernel) (by decide +kernel) f16 h16 (by decide +kernel)
      exact k (lw_ul u.1, u.2) _ _ _ _ _ _ _ hrv I1 L1
    · have l16 : (1 : Int) ≤ x16.toInt := by omega
      have u16 : x16.toInt ≤ (1 : Int) := by omega
      refine lw_mc (sh := lw_rl 1 sh) (lv' := 2) (ρp := [.ref (sh.2 0), .int a1, .int a2, .int a3, .int a4, .int a5, .int a6, .int x16, .int x21]) (As := [.int a1, .int a2, .int a3, .int a4, .int a5, .int a6]) F L (ct_X7_hole_0s1 hl9 (cx := cx) (cy := cy)) gm_X7_hole I.hs.2.1 rfl rfl (Nat.le_of_ble_eq_true rfl) (by decide) ⟨Nat.le_trans (Nat.add_le_add_left (Nat.le_of_ble_eq_true rfl) _) hcs.1, Nat.le_trans (Nat.add_le_add_left (Nat.le_of_ble_eq_true rfl) _) hcs.2⟩ hls rfl (lw_toS (k := 1) (by decide) I.hsp.1 I.hsp.2.1 I.hsp.2.2.1 I.hsp.2.2.2.1 hw19 hf19 (lw_pre I.hs.1 (by decide) (Or.inr (by decide))) (by decide)) (lw_Om (lw_omr I.om I.hsp)) (lw_pa (env := k_X7_hole_0s1.2.1.1) (fa := k_X7_hole_0s1.2.1.2) ⟨⟨0, lw_r20 I.h20, rfl⟩, ⟨a1, rfl, en_lo a1, en_hi a1⟩, ⟨a2, rfl, en_lo a2, en_hi a2⟩, ⟨a3, rfl, en_lo a3, en_hi a3⟩, ⟨a4, rfl, en_lo a4, en_hi a4⟩, ⟨a5, rfl, en_lo a5, en_hi a5⟩, ⟨a6, rfl, en_lo a6, en_hi a6⟩, ⟨x16, rfl, l16, u16⟩, ⟨x21, rfl, l21, u21⟩, trivial⟩ (en_ac (lw_f0 I.hs.2.1 rfl f16 rfl) (en_ac (lw_f0 I.hs.2.1 rfl f21 rfl) (en_an)))) dlw_366 (fun u res H1 locs1 hrv hpo L1 => ?_)
      refine W.widen (k := cells + 8) (n := slots + 64) (Nat.add_le_add_left (Nat.le_of_ble_eq_true rfl) _) (Nat.add_le_add_left (Nat.le_of_ble_eq_true rfl) _) ?_
      obtain ⟨fs', I1⟩ := lw_rowH (k := 1) hLP (by decide) I L1.hD hpo rfl (show 0 < 7 by decide) (by decide +kernel) (by decide +kernel) f16 h16 (by decide +kernel)
      exact k (lw_ul u.1, u.2) _ _ _ _ _ _ _ hrv I1 L1
    · have l16 : (2 : Int) ≤ x16.toInt := by omega
      have u16 : x16.toInt ≤ (2 : Int) := by omega
      refine lw_mc (sh := lw_rl 2 sh) (lv' := 2) (ρp := [.ref (sh.2 0), .int a1, .int a2, .int a3, .int a4, .int a5, .int a6, .int x16, .int x21]) (As := [.int a1, .int a2, .int a3, .int a4, .int a5, .int a6]) F L (ct_X7_hole_0s2 hl9 (cx := cx) (cy := cy)) gm_X7_hole I.hs.2.1 rfl rfl (Nat.le_of_ble_eq_true rfl) (by decide) ⟨Nat.le_trans (Nat.add_le_add_left (Nat.le_of_ble_eq_true rfl) _) hcs.1, Nat.le_trans (Nat.add_le_add_left (Nat.le_of_ble_eq_true rfl) _) hcs.2⟩ hls rfl (lw_toS (k := 2) (by decide) I.hsp.1 I.hsp.2.1 I.hsp.2.2.1 I.hsp.2.2.2.1 hw19 hf19 (lw_pre I.hs.1 (by decide) (Or.inr (by decide))) (by decide)) (lw_Om (lw_omr I.om I.hsp)) (lw_pa (env := k_X7_hole_0s2.2.1.1) (fa := k_X7_hole_0s2.2.1.2) ⟨⟨0, lw_r20 I.h20, rfl⟩, ⟨a1, rfl, en_lo a1, en_hi a1⟩, ⟨a2, rfl, en_lo a2, en_hi a2⟩, ⟨a3, rfl, en_lo a3, en_hi a3⟩, ⟨a4, rfl, en_lo a4, en_hi a4⟩, ⟨a5, rfl, en_lo a5, en_hi a5⟩, ⟨a6, rfl, en_lo a6, en_hi a6⟩, ⟨x16, rfl, l16, u16⟩, ⟨x21, rfl, l21, u21⟩, trivial⟩ (en_ac (lw_f0 I.hs.2.1 rfl f16 rfl) (en_ac (lw_f0 I.hs.2.1 rfl f21 rfl) (en_an)))) dlw_366 (fun u res H1 locs1 hrv hpo L1 => ?_)
      refine W.widen (k := cells + 8) (n := slots + 64) (Nat.add_le_add_left (Nat.le_of_ble_eq_true rfl) _) (Nat.add_le_add_left (Nat.le_of_ble_eq_true rfl) _) ?_
      obtain ⟨fs', I1⟩ := lw_rowH (k := 2) hLP (by decide) I L1.hD hpo rfl (show 0 < 7 by decide) (by decide +kernel) (by decide +kernel) f16 h16 (by decide +kernel)
      exact k (lw_ul u.1, u.2) _ _ _ _ _ _ _ hrv I1 L1
    · have l16 : (3 : Int) ≤ x16.toInt := by omega
      have u16 : x16.toInt ≤ (3 : Int) := by omega
      refine lw_mc (sh := lw_rl 3 sh) (lv' := 2) (ρp := [.ref (sh.2 0), .int a1, .int a2, .int a3, .int a4, .int a5, .int a6, .int x16, .int x21]) (As := [.int a1, .int a2, .int a3, .int a4, .int a5, .int a6]) F L (ct_X7_hole_0s3 hl9 (cx := cx) (cy := cy)) gm_X7_hole I.hs.2.1 rfl rfl (Nat.le_of_ble_eq_true rfl) (by decide) ⟨Nat.le_trans (Nat.add_le_add_left (Nat.le_of_ble_eq_true rfl) _) hcs.1, Nat.le_trans (Nat.add_le_add_left (Nat.le_of_ble_eq_true rfl) _) hcs.2⟩ hls rfl (lw_toS (k := 3) (by decide) I.hsp.1 I.hsp.2.1 I.hsp.2.2.1 I.hsp.2.2.2.1 hw19 hf19 (lw_pre I.hs.1 (by decide) (Or.inr (by decide))) (by decide)) (lw_Om (lw_omr I.om I.hsp)) (lw_pa (env := k_X7_hole_0s3.2.1.1) (fa := k_X7_hole_0s3.2.1.2) ⟨⟨0, lw_r20 I.h20, rfl⟩, ⟨a1, rfl, en_lo a1, en_hi a1⟩, ⟨a2, rfl, en_lo a2, en_hi a2⟩, ⟨a3, rfl, en_lo a3, en_hi a3⟩, ⟨a4, rfl, en_lo a4, en_hi a4⟩, ⟨a5, rfl, en_lo a5, en_hi a5⟩, ⟨a6, rfl, en_lo a6, en_hi a6⟩, ⟨x16, rfl, l16, u16⟩, ⟨x21, rfl, l21, u21⟩, trivial⟩ (en_ac (lw_f0 I.hs.2.1 rfl f16 rfl) (en_ac (lw_f0 I.hs.2.1 rfl f21 rfl) (en_an)))) dlw_366 (fun u res H1 locs1 hrv hpo L1 => ?_)
      refine W.widen (k := cells + 8) (n := slots + 64) (Nat.add_le_add_left (Nat.le_of_ble_eq_true rfl) _) (Nat.add_le_add_left (Nat.le_of_ble_eq_true rfl) _) ?_
      obtain ⟨fs', I1⟩ := lw_rowH (k := 3) hLP (by decide) I L1.hD hpo rfl (show 0 < 7 by decide) (by decide +kernel) (by decide +kernel) f16 h16 (by decide +kernel)
      exact k (lw_ul u.1, u.2) _ _ _ _ _ _ _ hrv I1 L1
    · have l16 : (4 : Int) ≤ x16.toInt := by omega
      have u16 : x16.toInt ≤ (4 : Int) := by omega
      refine lw_mc (sh := lw_rl 4 sh) (lv' := 2) (ρp := [.ref (sh.2 0), .int a1, .int a2, .int a3, .int a4, .int a5, .int a6, .int x16, .int x21]) (As := [.int a1, .int a2, .int a3, .int a4, .int a5, .int a6]) F L (ct_X7_hole_0s4 hl9 (cx := cx) (cy := cy)) gm_X7_hole I.hs.2.1 rfl rfl (Nat.le_of_ble_eq_true rfl) (by decide) ⟨Nat.le_trans (Nat.add_le_add_left (Nat.le_of_ble_eq_true rfl) _) hcs.1, Nat.le_trans (Nat.add_le_add_left (Nat.le_of_ble_eq_true rfl) _) hcs.2⟩ hls rfl (lw_toS (k := 4) (by decide) I.hsp.1 I.hsp.2.1 I.hsp.2.2.1 I.hsp.2.2.2.1 hw19 hf19 (lw_pre I.hs.1 (by decide) (Or.inr (by decide))) (by decide)) (lw_Om (lw_omr I.om I.hsp)) (lw_pa (env := k_X7_hole_0s4.2.1.1) (fa := k_X7_hole_0s4.2.1.2) ⟨⟨0, lw_r20 I.h20, rfl⟩, ⟨a1, rfl, en_lo a1, en_hi a1⟩, ⟨a2, rfl, en_lo a2, en_hi a2⟩, ⟨a3, rfl, en_lo a3, en_hi a3⟩, ⟨a4, rfl, en_lo a4, en_hi a4⟩, ⟨a5, rfl, en_lo a5, en_hi a5⟩, ⟨a6, rfl, en_lo a6, en_hi a6⟩, ⟨x16, rfl, l16, u16⟩, ⟨x21, rfl, l21, u21⟩, trivial⟩ (en_ac (lw_f0 I.hs.2.1 rfl f16 rfl) (en_ac (lw_f0 I.hs.2.1 rfl f21 rfl) (en_an)))) dlw_366 (fun u res H1 locs1 hrv hpo L1 => ?_)
      refine W.widen (k := cells + 8) (n := slots + 64) (Nat.add_le_add_left (Nat.le_of_ble_eq_true rfl) _) (Nat.add_le_add_left (Nat.le_of_ble_eq_true rfl) _) ?_
      obtain ⟨fs', I1⟩ := lw_rowH (k := 4) hLP (by decide) I L1.hD hpo rfl (show 0 < 7 by decide) (by decide +kernel) (by decide +kernel) f16 h16 (by decide +kernel)
      exact k (lw_ul u.1, u.2) _ _ _ _ _ _ _ hrv I1 L1
    · have l16 : (5 : Int) ≤ x16.toInt := by omega
      have u16 : x16.toInt ≤ (5 : Int) := by omega
      refine lw_mc (sh := lw_rl 5 sh) (lv' := 2) (ρp := [.ref (sh.2 0), .int a1, .int a2, .int a3, .int a4, .int a5, .int a6, .int x16, .int x21]) (As := [.int a1, .int a2, .int a3, .int a4, .int a5, .int a6]) F L (ct_X7_hole_0s5 hl9 (cx := cx) (cy := cy)) gm_X7_hole I.hs.2.1 rfl rfl (Nat.le_of_ble_eq_true rfl) (by decide) ⟨Nat.le_trans (Nat.add_le_add_left (Nat.le_of_ble_eq_true rfl) _) hcs.1, Nat.le_trans (Nat.add_le_add_left (Nat.le_of_ble_eq_true rfl) _) hcs.2⟩ hls rfl (lw_toS (k := 5) (by decide) I.hsp.1 I.hsp.2.1 I.hsp.2.2.1 I.hsp.2.2.2.1 hw19 hf19 (lw_pre I.hs.1 (by decide) (Or.inr (by decide))) (by decide)) (lw_Om (lw_omr I.om I.hsp)) (lw_pa (env := k_X7_hole_0s5.2.1.1) (fa := k_X7_hole_0s5.2.1.2) ⟨⟨0, lw_r20 I.h20, rfl⟩, ⟨a1, rfl, en_lo a1, en_hi a1⟩, ⟨a2, rfl, en_lo a2, en_hi a2⟩, ⟨a3, rfl, en_lo a3, en_hi a3⟩, ⟨a4, rfl, en_lo a4, en_hi a4⟩, ⟨a5, rfl, en_lo a5, en_hi a5⟩, ⟨a6, rfl, en_lo a6, en_hi a6⟩, ⟨x16, rfl, l16, u16⟩, ⟨x21, rfl, l21, u21⟩, trivial⟩ (en_ac (lw_f0 I.hs.2.1 rfl f16 rfl) (en_ac (lw_f0 I.hs.2.1 rfl f21 rfl) (en_an)))) dlw_366 (fun u res H1 locs1 hrv hpo L1 => ?_)
      refine W.widen (k := cells + 8) (n := slots + 64) (Nat.add_le_add_left (Nat.le_of_ble_eq_true rfl) _) (Nat.add_le_add_left (Nat.le_of_ble_eq_true rfl) _) ?_
      obtain ⟨fs', I1⟩ := lw_rowH (k := 5) hLP (by decide) I L1.hD hpo rfl (show 0 < 7 by decide) (by decide +kernel) (by decide +kernel) f16 h16 (by decide +kernel)
      exact k (lw_ul u.1, u.2) _ _ _ _ _ _ _ hrv I1 L1
    · have l16 : (6 : Int) ≤ x16.toInt := by omega
      have u16 : x16.toInt ≤ (6 : Int) := by omega
      refine lw_mc (sh := lw_rl 6 sh) (lv' := 2) (ρp := [.ref (sh.2 0), .int a1, .int a2, .int a3, .int a4, .int a5, .int a6, .int x16, .int x21]) (As := [.int a1, .int a2, .int a3, .int a4, .int a5, .int a6]) F L (ct_X7_hole_0s6 hl9 (cx := cx) (cy := cy)) gm_X7_hole I.hs.2.1 rfl rfl (Nat.le_of_ble_eq_true rfl) (by decide) ⟨Nat.le_trans (Nat.add_le_add_left (Nat.le_of_ble_eq_true rfl) _) hcs.1, Nat.le_trans (Nat.add_le_add_left (Nat.le_of_ble_eq_true rfl) _) hcs.2⟩ hls rfl (lw_toS (k := 6) (by decide) I.hsp.1 I.hsp.2.1 I.hsp.2.2.1 I.hsp.2.2.2.1 hw19 hf19 (lw_pre I.hs.1 (by decide) (Or.inr (by decide))) (by decide)) (lw_Om (lw_omr I.om I.hsp)) (lw_pa (env := k_X7_hole_0s6.2.1.1) (fa := k_X7_hole_0s6.2.1.2) ⟨⟨0, lw_r20 I.h20, rfl⟩, ⟨a1, rfl, en_lo a1, en_hi a1⟩, ⟨a2, rfl, en_lo a2, en_hi a2⟩, ⟨a3, rfl, en_lo a3, en_hi a3⟩, ⟨a4, rfl, en_lo a4, en_hi a4⟩, ⟨a5, rfl, en_lo a5, en_hi a5⟩, ⟨a6, rfl, en_lo a6, en_hi a6⟩, ⟨x16, rfl, l16, u16⟩, ⟨x21, rfl, l21, u21⟩, trivial⟩ (en_ac (lw_f0 I.hs.2.1 rfl f16 rfl) (en_ac (lw_f0 I.hs.2.1 rfl f21 rfl) (en_an)))) dlw_366 (fun u res H1 locs1 hrv hpo L1 => ?_)
      refine W.widen (k := cells + 8) (n := slots + 64) (Nat.add_le_add_left (Nat.le_of_ble_eq_true rfl) _) (Nat.add_le_add_left (Nat.le_of_ble_eq_true rfl) _) ?_
      obtain ⟨fs', I1⟩ := lw_rowH (k := 6) hLP (by decide) I L1.hD hpo rfl (show 0 < 7 by decide) (by decide +kernel) (by decide +kernel) f16 h16 (by decide +kernel)
      exact k (lw_ul u.1, u.2) _ _ _ _ _ _ _ hrv I1 L1
    · have l16 : (7 : Int) ≤ x16.toInt := by omega
      have u16 : x16.toInt ≤ (7 : Int) := by omega
      refine lw_mc (sh := lw_rl 7 sh) (lv' := 2) (ρp := [.ref (sh.2 0), .int a1, .int a2, .int a3, .int a4, .int a5, .int a6, .int x16, .int x21]) (As := [.int a1, .int a2, .int a3, .int a4, .int a5, .int a6]) F L (ct_X7_hole_0s7 hl9 (cx := cx) (cy := cy)) gm_X7_hole I.hs.2.1 rfl rfl (Nat.le_of_ble_eq_true rfl) (by decide) ⟨Nat.le_trans (Nat.add_le_add_left (Nat.le_of_ble_eq_true rfl) _) hcs.1, Nat.le_trans (Nat.add_le_add_left (Nat.le_of_ble_eq_true rfl) _) hcs.2⟩ hls rfl (lw_toS (k := 7) (by decide) I.hsp.1 I.hsp.2.1 I.hsp.2.2.1 I.hsp.2.2.2.1 hw19 hf19 (lw_pre I.hs.1 (by decide) (Or.inr (by decide))) (by decide)) (lw_Om (lw_omr I.om I.hsp)) (lw_pa (env := k_X7_hole_0s7.2.1.1) (fa := k_X7_hole_0s7.2.1.2) ⟨⟨0, lw_r20 I.h20, rfl⟩, ⟨a1, rfl, en_lo a1, en_hi a1⟩, ⟨a2, rfl, en_lo a2, en_hi a2⟩, ⟨a3, rfl, en_lo a3, en_hi a3⟩, ⟨a4, rfl, en_lo a4, en_hi a4⟩, ⟨a5, rfl, en_lo a5, en_hi a5⟩, ⟨a6, rfl, en_lo a6, en_hi a6⟩, ⟨x16, rfl, l16, u16⟩, ⟨x21, rfl, l21, u21⟩, trivial⟩ (en_ac (lw_f0 I.hs.2.1 rfl f16 rfl) (en_ac (lw_f0 I.hs.2.1 rfl f21 rfl) (en_an)))) dlw_366 (fun u res H1 locs1 hrv hpo L1 => ?_)
      refine W.widen (k := cells + 8) (n := slots + 64) (Nat.add_le_add_left (Nat.le_of_ble_eq_true rfl) _) (Nat.add_le_add_left (Nat.le_of_ble_eq_true rfl) _) ?_
      obtain ⟨fs', I1⟩ := lw_rowH (k := 7) hLP (by decide) I L1.hD hpo rfl (show 0 < 7 by decide) (by decide +kernel) (by decide +kernel) f16 h16 (by decide +kernel)
      exact k (lw_ul u.1, u.2) _ _ _ _ _ _ _ hrv I1 L1
    · have l16 : (8 : Int) ≤ x16.toInt := by omega
      have u16 : x16.toInt ≤ (8 : Int) := by omega
      refine lw_mc (sh := lw_rl 8 sh) (lv' := 2) (ρp := [.ref (sh.2 0), .int a1, .int a2, .int a3, .int a4, .int a5, .int a6, .int x16, .int x21]) (As := [.int a1, .int a2, .int a3, .int a4, .int a5, .int a6]) F L (ct_X7_hole_0s8 hl9 (cx := cx) (cy := cy)) gm_X7_hole I.hs.2.1 rfl rfl (Nat.le_of_ble_eq_true rfl) (by decide) ⟨Nat.le_trans (Nat.add_le_add_left (Nat.le_of_ble_eq_true rfl) _) hcs.1, Nat.le_trans (Nat.add_le_add_left (Nat.le_of_ble_eq_true rfl) _) hcs.2⟩ hls rfl (lw_toS (k := 8) (by decide) I.hsp.1 I.hsp.2.1 I.hsp.2.2.1 I.hsp.2.2.2.1 hw19 hf19 (lw_pre I.hs.1 (by decide) (Or.inr (by decide))) (by decide)) (lw_Om (lw_omr I.om I.hsp)) (lw_pa (env := k_X7_hole_0s8.2.1.1) (fa := k_X7_hole_0s8.2.1.2) ⟨⟨0, lw_r20 I.h20, rfl⟩, ⟨a1, rfl, en_lo a1, en_hi a1⟩, ⟨a2, rfl, en_lo a2, en_hi a2⟩, ⟨a3, rfl, en_lo a3, en_hi a3⟩, ⟨a4, rfl, en_lo a4, en_hi a4⟩, ⟨a5, rfl, en_lo a5, en_hi a5⟩, ⟨a6, rfl, en_lo a6, en_hi a6⟩, ⟨x16, rfl, l16, u16⟩, ⟨x21, rfl, l21, u21⟩, trivial⟩ (en_ac (lw_f0 I.hs.2.1 rfl f16 rfl) (en_ac (lw_f0 I.hs.2.1 rfl f21 rfl) (en_an)))) dlw_366 (fun u res H1 locs1 hrv hpo L1 => ?_)
      refine W.widen (k := cells + 8) (n := slots + 64) (Nat.add_le_add_left (Nat.le_of_ble_eq_true rfl) _) (Nat.add_le_add_left (Nat.le_of_ble_eq_true rfl) _) ?_
      obtain ⟨fs', I1⟩ := lw_rowH (k := 8) hLP (by decide) I L1.hD hpo rfl (show 0 < 7 by decide) (by decide +kernel) (by decide +kernel) f16 h16 (by decide +kernel)
      exact k (lw_ul u.1, u.2) _ _ _ _ _ _ _ hrv I1 L1
    · have l16 : (9 : Int) ≤ x16.toInt := by omega
      have u16 : x16.toInt ≤ (9 : Int) := by omega
      refine lw_mc (lv' := 2) (ρp := [.ref (sh.2 0), .int a1, .int a2, .int a3, .int a4, .int a5, .int a6, .int x16, .int x21]) (As := [.int a1, .int a2, .int a3, .int a4, .int a5, .int a6]) F L (ct_X7_hole_1 hl9 (cx := cx) (cy := cy)) gm_X7_hole I.hs.2.1 rfl rfl (Nat.le_of_ble_eq_true rfl) (by decide) ⟨Nat.le_trans (Nat.add_le_add_left (Nat.le_of_ble_eq_true rfl) _) hcs.1, Nat.le_trans (Nat.add_le_add_left (Nat.le_of_ble_eq_true rfl) _) hcs.2⟩ hls rfl (lw_pre I.hs.1 (by decide) (Or.inr (by decide))) (I.hO cx cy) (lw_pa (env := k_X7_hole_1.2.1.1) (fa := k_X7_hole_1.2.1.2) ⟨⟨0, I.h20, rfl⟩, ⟨a1, rfl, en_lo a1, en_hi a1⟩, ⟨a2, rfl, en_lo a2, en_hi a2⟩, ⟨a3, rfl, en_lo a3, en_hi a3⟩, ⟨a4, rfl, en_lo a4, en_hi a4⟩, ⟨a5, rfl, en_lo a5, en_hi a5⟩, ⟨a6, rfl, en_lo a6, en_hi a6⟩, ⟨x16, rfl, l16, u16⟩, ⟨x21, rfl, l21, u21⟩, trivial⟩ (en_ac (lw_f0 I.hs.2.1 rfl f16 rfl) (en_ac (lw_f0 I.hs.2.1 rfl f21 rfl) (en_an)))) dlw_366 (fun u res H1 locs1 hrv hpo L1 => ?_)
      refine W.widen (k := cells + 8) (n := slots + 64) (Nat.add_le_add_left (Nat.le_of_ble_eq_true rfl) _) (Nat.add_le_add_left (Nat.le_of_ble_eq_true rfl) _) ?_
      obtain ⟨fs', I1⟩ := lw_Iqq hLP I hpo.1 (by decide +kernel) (by decide +kernel) (by decide +kernel) (by decide +kernel) (lw_Io I hpo.1 (by decide +kernel)) (lw_Id I hpo.1 (by decide +kernel))
      exact k _ _ _ _ _ _ _ _ hrv I1 L1
  · skip
    obtain ⟨x21, f21, l21, u21⟩ := lw_b21 h1 I.hst I.hs.2.2.1
    refine lw_mc (lv' := 2) (ρp := [.ref (sh.2 0), .int a1, .int a2, .int a3, .int a4, .int a5, .int a6, .int x21]) (As := [.int a1, .int a2, .int a3, .int a4, .int a5, .int a6]) F L (ct_X7_hole_0 hl9 (cx := cx) (cy := cy)) gm_X7_hole I.hs.2.1 rfl rfl (Nat.le_of_ble_eq_true rfl) (by decide) ⟨Nat.le_trans (Nat.add_le_add_left (Nat.le_of_ble_eq_true rfl) _) hcs.1, Nat.le_trans (Nat.add_le_add_left (Nat.le_of_ble_eq_true rfl) _) hcs.2⟩ hls rfl (lw_pre I.hs.1 (by decide) (Or.inr (by decide))) (I.hO cx cy) (lw_pa (env := k_X7_hole_0.2.1.1) (fa := k_X7_hole_0.2.1.2) ⟨⟨0, I.h20, rfl⟩, ⟨a1, rfl, en_lo a1, en_hi a1⟩, ⟨a2, rfl, en_lo a2, en_hi a2⟩, ⟨a3, rfl, en_lo a3, en_hi a3⟩, ⟨a4, rfl, en_lo a4, en_hi a4⟩, ⟨a5, rfl, en_lo a5, en_hi a5⟩, ⟨a6, rfl, en_lo a6, en_hi a6⟩, ⟨x21, rfl, l21, u21⟩, trivial⟩ (en_ac (lw_f0 I.hs.2.1 rfl f21 rfl) (en_an))) dlw_366 (fun u res H1 locs1 hrv hpo L1 => ?_)
    refine W.widen (k := cells + 8) (n := slots + 64) (Nat.add_le_add_left (Nat.le_of_ble_eq_true rfl) _) (Nat.add_le_add_left (Nat.le_of_ble_eq_true rfl) _) ?_
    obtain ⟨fs', I1⟩ := lw_Iqq hLP I hpo.1 (by decide +kernel) (lw_q1 h1 I.hst (by decide +kernel)) (by decide +kernel) (by decide +kernel) (lw_Io I hpo.1 (by decide +kernel)) (lw_Id I hpo.1 (by decide +kernel))
    exact k _ _ _ _ _ _ _ _ hrv I1 L1
set_option maxHeartbeats 4000000 in
theorem lm_X7_holeOn (hl9 : l.stackTraces = false) (hLP : lw_st LP) (F : lw_Fm p R s m args c D tys cO cD A) (L : lw_H D A s w H locs) (I : lw_I E LP tys cO cD qx qo qd sh w st cx cy fs) (hls : ls.size = 9) (hcs : cells + 8 ≤ R.cells ∧ slots + 64 ≤ R.slots)
    (k : ∀ (u : en_H × va_W) (res : Option Value) (H1 : Heap) (locs1 : List Loc) (st' : Nat) (cx' cy' : Int32) (fs' : List Value), en_rv 0 res → lw_I E LP tys cO cD qx qo qd u.1 u.2 st' cx' cy' fs' → lw_H D A s u.2 H1 locs1 → W p l e R s m args below meth c H1 locs1 (cells + 8) (slots + 64) Q (F0 m 710 ls (res.toList ++ []))) :
    W p l e R s m args below meth c H locs cells slots Q (F0 m 707 ls (([] : List Value).reverse ++ [.ref (sh.2 0)])) := by
  by_cases h3 : 3 ≤ st
  · skip
    obtain ⟨⟨x22, f22, l22, u22⟩, ⟨x16, f16, l16, u16⟩, x25, f25, l25, u25⟩ := lw_bon h3 I.hs.2.2.1
    have hOc := (I.hs.2.2.2.2 h3).2.1
    have hAh := (I.hs.2.2.2.2 h3).2.2
    refine lw_mc (lv' := 1) (ρp := [.ref (sh.2 0), .int x22, .int x25]) (As := []) F L (ct_X7_holeOn_1 hl9 (cx := cx) (cy := cy)) gm_X7_holeOn I.hs.2.1 rfl rfl (Nat.le_of_ble_eq_true rfl) (by decide) ⟨Nat.le_trans (Nat.add_le_add_left (Nat.le_of_ble_eq_true rfl) _) hcs.1, Nat.le_trans (Nat.add_le_add_left (Nat.le_of_ble_eq_true rfl) _) hcs.2⟩ hls rfl (lw_pre I.hs.1 (by decide) (Or.inl h3)) (I.hO cx cy) (lw_pa (env := k_X7_holeOn_1.2.1.1) (fa := k_X7_holeOn_1.2.1.2) ⟨⟨0, I.h20, rfl⟩, ⟨x22, rfl, l22, u22⟩, ⟨x25, rfl, l25, u25⟩, trivial⟩ (en_ac (lw_f0 I.hs.2.1 rfl f22 rfl) (en_ac (lw_f0 I.hs.2.1 rfl f25 rfl) (en_ac (⟨I.had, hOc⟩) (en_an))))) dlw_707 (fun u res H1 locs1 hrv hpo L1 => ?_)
    refine W.widen (k := cells + 8) (n := slots + 64) (Nat.add_le_add_left (Nat.le_of_ble_eq_true rfl) _) (Nat.add_le_add_left (Nat.le_of_ble_eq_true rfl) _) ?_
    obtain ⟨fs', I1⟩ := lw_Iqq hLP I hpo.1 (by decide +kernel) (lw_qon h3 (by decide +kernel)) (by decide +kernel) (by decide +kernel) (lw_Io I hpo.1 (by decide +kernel)) (lw_Id I hpo.1 (by decide +kernel))
    exact k _ _ _ _ _ _ _ _ hrv I1 L1
  · skip
    obtain ⟨x22, f22, l22, u22⟩ := lw_boff h3 I.hs.2.2.1
    refine lw_mc (lv' := 1) (ρp := [.ref (sh.2 0), .int x22]) (As := []) F L (ct_X7_holeOn_0 hl9 (cx := cx) (cy := cy)) gm_X7_holeOn I.hs.2.1 rfl rfl (Nat.le_of_ble_eq_true rfl) (by decide) ⟨Nat.le_trans (Nat.add_le_add_left (Nat.le_of_ble_eq_true rfl) _) hcs.1, Nat.le_trans (Nat.add_le_add_left (Nat.le_of_ble_eq_true rfl) _) hcs.2⟩ hls rfl (lw_pre I.hs.1 (by decide) (Or.inr (by decide))) (I.hO cx cy) (lw_pa (env := k_X7_holeOn_0.2.1.1) (fa := k_X7_holeOn_0.2.1.2) ⟨⟨0, I.h20, rfl⟩, ⟨x22, rfl, l22, u22⟩, trivial⟩ (en_ac (lw_f0 I.hs.2.1 rfl f22 rfl) (en_an))) dlw_707 (fun u res H1 locs1 hrv hpo L1 => ?_)
    refine W.widen (k := cells + 8) (n := slots + 64) (Nat.add_le_add_left (Nat.le_of_ble_eq_true rfl) _) (Nat.add_le_add_left (Nat.le_of_ble_eq_true rfl) _) ?_
    obtain ⟨fs', I1⟩ := lw_Iqq hLP I hpo.1 (by decide +kernel) (lw_qoff h3 (by decide +kernel)) (by decide +kernel) (by decide +kernel) (lw_Io I hpo.1 (by decide +kernel)) (lw_Id I hpo.1 (by decide +kernel))
    exact k _ _ _ _ _ _ _ _ hrv I1 L1
end
