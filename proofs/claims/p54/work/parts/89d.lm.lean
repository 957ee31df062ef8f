section
variable {p : Program} {l : Launch} {e : Env} {R : Room} {s : State} {m : MethodId} {args : Array Value} {below : List Frame} {meth : Method} {c : Code} {Q : State → Prop}
variable {D : va_G} {tys : List (ClassId × FieldType)} {cO cD : ClassId} {A : Nat → Prop} {sh : en_H} {w : va_W} {H : Heap} {locs : List Loc} {ls : Array Slot} {cells slots qx qo qd : Nat} {E : Int32 → Int32 → Prop} {LP : en_H → va_W → Prop} {st : Nat} {cx cy : Int32} {fs : List Value}
set_option maxHeartbeats 4000000 in
theorem lm_X7_parPlay (hl9 : l.stackTraces = false) (a1 : Int32) (hLP : lw_st LP) (F : lw_Fm p R s m args c D tys cO cD A) (L : lw_H D A s w H locs) (I : lw_I E LP tys cO cD qx qo qd sh w st cx cy fs) (hls : ls.size = 9) (hcs : cells + 8 ≤ R.cells ∧ slots + 64 ≤ R.slots)
    (k : ∀ (u : en_H × va_W) (res : Option Value) (H1 : Heap) (locs1 : List Loc) (st' : Nat) (cx' cy' : Int32) (fs' : List Value), en_rv 0 res → lw_I E LP tys cO cD qx qo qd u.1 u.2 st' cx' cy' fs' → lw_H D A s u.2 H1 locs1 → W p l e R s m args below meth c H1 locs1 (cells + 8) (slots + 64) Q (F0 m 1900 ls (res.toList ++ []))) :
    W p l e R s m args below meth c H locs cells slots Q (F0 m 1897 ls (([.int a1] : List Value).reverse ++ [.ref (sh.2 0)])) := by
  by_cases h3 : 3 ≤ st
  · skip
    obtain ⟨⟨x22, f22, l22, u22⟩, ⟨x16, f16, l16, u16⟩, x25, f25, l25, u25⟩ := lw_bon h3 I.hs.2.2.1
    have hOc := (I.hs.2.2.2.2 h3).2.1
    have hAh := (I.hs.2.2.2.2 h3).2.2
    refine lw_mc (lv' := 2) (ρp := [.ref (sh.2 0), .int a1, .int x16, .int x22]) (As := [.int a1]) F L (ct_X7_parPlay_1 hl9 (cx := cx) (cy := cy)) gm_X7_parPlay I.hs.2.1 rfl rfl (Nat.le_of_ble_eq_true rfl) (by decide) ⟨Nat.le_trans (Nat.add_le_add_left (Nat.le_of_ble_eq_true rfl) _) hcs.1, Nat.le_trans (Nat.add_le_add_left (Nat.le_of_ble_eq_true rfl) _) hcs.2⟩ hls rfl (lw_pre I.hs.1 (by decide) (Or.inl h3)) (I.hO cx cy) (lw_pa (env := k_X7_parPlay_1.2.1.1) (fa := k_X7_parPlay_1.2.1.2) ⟨⟨0, I.h20, rfl⟩, ⟨a1, rfl, en_lo a1, en_hi a1⟩, ⟨x16, rfl, l16, u16⟩, ⟨x22, rfl, l22, u22⟩, trivial⟩ (en_ac (lw_f0 I.hs.2.1 rfl f16 rfl) (en_ac (lw_f0 I.hs.2.1 rfl f22 rfl) (en_ac (⟨I.had, hOc⟩) (en_an))))) dlw_1897 (fun u res H1 locs1 hrv hpo L1 => ?_)
    refine W.widen (k := cells + 8) (n := slots + 64) (Nat.add_le_add_left (Nat.le_of_ble_eq_true rfl) _) (Nat.add_le_add_left (Nat.le_of_ble_eq_true rfl) _) ?_
    obtain ⟨fs', I1⟩ := lw_Iqq hLP I hpo.1 (by decide +kernel) (lw_qon h3 (by decide +kernel)) (by decide +kernel) (by decide +kernel) (lw_Io I hpo.1 (by decide +kernel)) (lw_Id I hpo.1 (by decide +kernel))
    exact k _ _ _ _ _ _ _ _ hrv I1 L1
  · skip
    obtain ⟨x22, f22, l22, u22⟩ := lw_boff h3 I.hs.2.2.1
    refine lw_mc (lv' := 2) (ρp := [.ref (sh.2 0), .int a1, .int x22]) (As := [.int a1]) F L (ct_X7_parPlay_0 hl9 (cx := cx) (cy := cy)) gm_X7_parPlay I.hs.2.1 rfl rfl (Nat.le_of_ble_eq_true rfl) (by decide) ⟨Nat.le_trans (Nat.add_le_add_left (Nat.le_of_ble_eq_true rfl) _) hcs.1, Nat.le_trans (Nat.add_le_add_left (Nat.le_of_ble_eq_true rfl) _) hcs.2⟩ hls rfl (lw_pre I.hs.1 (by decide) (Or.inr (by decide))) (I.hO cx cy) (lw_pa (env := k_X7_parPlay_0.2.1.1) (fa := k_X7_parPlay_0.2.1.2) ⟨⟨0, I.h20, rfl⟩, ⟨a1, rfl, en_lo a1, en_hi a1⟩, ⟨x22, rfl, l22, u22⟩, trivial⟩ (en_ac (lw_f0 I.hs.2.1 rfl f22 rfl) (en_an))) dlw_1897 (fun u res H1 locs1 hrv hpo L1 => ?_)
    refine W.widen (k := cells + 8) (n := slots + 64) (Nat.add_le_add_left (Nat.le_of_ble_eq_true rfl) _) (Nat.add_le_add_left (Nat.le_of_ble_eq_true rfl) _) ?_
    obtain ⟨fs', I1⟩ := lw_Iqq hLP I hpo.1 (by decide +kernel) (lw_qoff h3 (by decide +kernel)) (by decide +kernel) (by decide +kernel) (lw_Io I hpo.1 (by decide +kernel)) (lw_Id I hpo.1 (by decide +kernel))
    exact k _ _ _ _ _ _ _ _ hrv I1 L1
set_option maxHeartbeats 4000000 in
theorem lm_X7_penalties (hl9 : l.stackTraces = false) (a1 : Int32) (hLP : lw_st LP) (F : lw_Fm p R s m args c D tys cO cD A) (L : lw_H D A s w H locs) (I : lw_I E LP tys cO cD qx qo qd sh w st cx cy fs) (hls : ls.size = 9) (hcs : cells + 8 ≤ R.cells ∧ slots + 64 ≤ R.slots)
    (k : ∀ (u : en_H × va_W) (res : Option Value) (H1 : Heap) (locs1 : List Loc) (st' : Nat) (cx' cy' : Int32) (fs' : List Value), en_rv 0 res → lw_I E LP tys cO cD qx qo qd u.1 u.2 st' cx' cy' fs' → lw_H D A s u.2 H1 locs1 → W p l e R s m args below meth c H1 locs1 (cells + 8) (slots + 64) Q (F0 m 1636 ls (res.toList ++ []))) :
    W p l e R s m args below meth c H locs cells slots Q (F0 m 1633 ls (([.int a1] : List Value).reverse ++ [.ref (sh.2 0)])) := by
  by_cases h3 : 3 ≤ st
  · skip
    obtain ⟨⟨x22, f22, l22, u22⟩, ⟨x16, f16, l16, u16⟩, x25, f25, l25, u25⟩ := lw_bon h3 I.hs.2.2.1
    have hOc := (I.hs.2.2.2.2 h3).2.1
    have hAh := (I.hs.2.2.2.2 h3).2.2
    refine lw_mc (lv' := 3) (ρp := [.ref (sh.2 0), .int a1, .int x22]) (As := [.int a1]) F L (ct_X7_penalties_1 hl9 (cx := cx) (cy := cy)) gm_X7_penalties I.hs.2.1 rfl rfl (Nat.le_of_ble_eq_true rfl) (by decide) ⟨Nat.le_trans (Nat.add_le_add_left (Nat.le_of_ble_eq_true rfl) _) hcs.1, Nat.le_trans (Nat.add_le_add_left (Nat.le_of_ble_eq_true rfl) _) hcs.2⟩ hls rfl (lw_pre I.hs.1 (by decide) (Or.inl h3)) (I.hO cx cy) (lw_pa (env := k_X7_penalties_1.2.1.1) (fa := k_X7_penalties_1.2.1.2) ⟨⟨0, I.h20, rfl⟩, ⟨a1, rfl, en_lo a1, en_hi a1⟩, ⟨x22, rfl, l22, u22⟩, trivial⟩ (en_ac (lw_f0 I.hs.2.1 rfl f22 rfl) (en_ac (⟨I.had, hOc⟩) (en_an)))) dlw_1633 (fun u res H1 locs1 hrv hpo L1 => ?_)
    refine W.widen (k := cells + 8) (n := slots + 64) (Nat.add_le_add_left (Nat.le_of_ble_eq_true rfl) _) (Nat.add_le_add_left (Nat.le_of_ble_eq_true rfl) _) ?_
    obtain ⟨fs', I1⟩ := lw_Iqq hLP I hpo.1 (by decide +kernel) (lw_qon h3 (by decide +kernel)) (by decide +kernel) (by decide +kernel) (lw_Io I hpo.1 (by decide +kernel)) (lw_Id I hpo.1 (by decide +kernel))
    exact k _ _ _ _ _ _ _ _ hrv I1 L1
  · skip
    obtain ⟨x22, f22, l22, u22⟩ := lw_boff h3 I.hs.2.2.1
    refine lw_mc (lv' := 3) (ρp := [.ref (sh.2 0), .int a1, .int x22]) (As := [.int a1]) F L (ct_X7_penalties_0 hl9 (cx := cx) (cy := cy)) gm_X7_penalties I.hs.2.1 rfl rfl (Nat.le_of_ble_eq_true rfl) (by decide) ⟨Nat.le_trans (Nat.add_le_add_left (Nat.le_of_ble_eq_true rfl) _) hcs.1, Nat.le_trans (Nat.add_le_add_left (Nat.le_of_ble_eq_true rfl) _) hcs.2⟩ hls rfl (lw_pre I.hs.1 (by decide) (Or.inr (by decide))) (I.hO cx cy) (lw_pa (env := k_X7_penalties_0.2.1.1) (fa := k_X7_penalties_0.2.1.2) ⟨⟨0, I.h20, rfl⟩, ⟨a1, rfl, en_lo a1, en_hi a1⟩, ⟨x22, rfl, l22, u22⟩, trivial⟩ (en_ac (lw_f0 I.hs.2.1 rfl f22 rfl) (en_an))) dlw_1633 (fun u res H1 locs1 hrv hpo L1 => ?_)
    refine W.widen (k := cells + 8) (n := slots + 64) (Nat.add_le_add_left (Nat.le_of_ble_eq_true rfl) _) (Nat.add_le_add_left (Nat.le_of_ble_eq_true rfl) _) ?_
    obtain ⟨fs', I1⟩ := lw_Iqq hLP I hpo.1 (by decide +kernel) (lw_qoff h3 (by decide +kernel)) (by decide +kernel) (by decide +kernel) (lw_Io I hpo.1 (by decide +kernel)) (lw_Id I hpo.1 (by decide +kernel))
    exact k _ _ _ _ _ _ _ _ hrv I1 L1
set_option maxHeartbeats 4000000 in
theorem lm_X7_penaltyShare (hl9 : l.stackTraces = false) (a1 : Int32) (hLP : lw_st LP) (F : lw_Fm p R s m args c D tys cO cD A) (L : lw_H D A s w H locs) (I : lw_I E LP tys cO cD qx qo qd sh w st cx cy fs) (hls : ls.size = 9) (hcs : cells + 8 ≤ R.cells ∧ slots + 64 ≤ R.slots)
    (k : ∀ (u : en_H × va_W) (res : Option Value) (H1 : Heap) (locs1 : List Loc) (st' : Nat) (cx' cy' : Int32) (fs' : List Value), en_rv 2 res → lw_I E LP tys cO cD qx qo qd u.1 u.2 st' cx' cy' fs' → lw_H D A s u.2 H1 locs1 → W p l e R s m args below meth c H1 locs1 (cells + 8) (slots + 64) Q (F0 m 2283 ls (res.toList ++ []))) :
    W p l e R s m args below meth c H locs cells slots Q (F0 m 2280 ls (([.int a1] : List Value).reverse ++ [.ref (sh.2 0)])) := by
  by_cases h3 : 3 ≤ st
  · skip
    obtain ⟨⟨x22, f22, l22, u22⟩, ⟨x16, f16, l16, u16⟩, x25, f25, l25, u25⟩ := lw_bon h3 I.hs.2.2.1
    have hOc := (I.hs.2.2.2.2 h3).2.1
    have hAh := (I.hs.2.2.2.2 h3).2.2
    refine lw_mc (lv' := 2) (ρp := [.ref (sh.2 0), .int a1]) (As := [.int a1]) F L (ct_X7_penaltyShare_1 hl9 (cx := cx) (cy := cy)) gm_X7_penaltyShare I.hs.2.1 rfl rfl (Nat.le_of_ble_eq_true rfl) (by decide) ⟨Nat.le_trans (Nat.add_le_add_left (Nat.le_of_ble_eq_true rfl) _) hcs.1, Nat.le_trans (Nat.add_le_add_left (Nat.le_of_ble_eq_true rfl) _) hcs.2⟩ hls rfl (lw_pre I.hs.1 (by decide) (Or.inl h3)) (I.hO cx cy) (lw_pa (env := k_X7_penaltyShare_1.2.1.1) (fa := k_X7_penaltyShare_1.2.1.2) ⟨⟨0, I.h20, rfl⟩, ⟨a1, rfl, en_lo a1, en_hi a1⟩, trivial⟩ (en_ac (⟨I.had, hOc⟩) (en_an))) dlw_2280 (fun u res H1 locs1 hrv hpo L1 => ?_)
    refine W.widen (k := cells + 8) (n := slots + 64) (Nat.add_le_add_left (Nat.le_of_ble_eq_true rfl) _) (Nat.add_le_add_left (Nat.le_of_ble_eq_true rfl) _) ?_
    obtain ⟨fs', I1⟩ := lw_Iqq hLP I hpo.1 (by decide +kernel) (lw_qon h3 (by decide +kernel)) (by decide +kernel) (by decide +kernel) (lw_Io I hpo.1 (by decide +kernel)) (lw_Id I hpo.1 (by decide +kernel))
    exact k _ _ _ _ _ _ _ _ hrv I1 L1
  · skip
    obtain ⟨x22, f22, l22, u22⟩ := lw_boff h3 I.hs.2.2.1
    refine lw_mc (lv' := 2) (ρp := [.ref (sh.2 0), .int a1]) (As := [.int a1]) F L (ct_X7_penaltyShare_0 hl9 (cx := cx) (cy := cy)) gm_X7_penaltyShare I.hs.2.1 rfl rfl (Nat.le_of_ble_eq_true rfl) (by decide) ⟨Nat.le_trans (Nat.add_le_add_left (Nat.le_of_ble_eq_true rfl) _) hcs.1, Nat.le_trans (Nat.add_le_add_left (Nat.le_of_ble_eq_true rfl) _) hcs.2⟩ hls rfl (lw_pre I.hs.1 (by decide) (Or.inr (by decide))) (I.hO cx cy) (lw_pa (env := k_X7_penaltyShare_0.2.1.1) (fa := k_X7_penaltyShare_0.2.1.2) ⟨⟨0, I.h20, rfl⟩, ⟨a1, rfl, en_lo a1, en_hi a1⟩, trivial⟩ (en_an)) dlw_2280 (fun u res H1 locs1 hrv hpo L1 => ?_)
    refine W.widen (k := cells + 8) (n := slots + 64) (Nat.add_le_add_left (Nat.le_of_ble_eq_true rfl) _) (Nat.add_le_add_left (Nat.le_of_ble_eq_true rfl) _) ?_
    obtain ⟨fs', I1⟩ := lw_Iqq hLP I hpo.1 (by decide +kernel) (lw_qoff h3 (by decide +kernel)) (by decide +kernel) (by decide +kernel) (lw_Io I hpo.1 (by decide +kernel)) (lw_Id I hpo.1 (by decide +kernel))
    exact k _ _ _ _ _ _ _ _ hrv I1 L1
set_option maxHeartbeats 4000000 in
theorem lm_X7_pickUp (hl9 : l.stackTraces = false) (a1 : Int32) (hLP : lw_st LP) (F : lw_Fm p R s m args c D tys cO cD A) (L : lw_H D A s w H locs) (I : lw_I E LP tys cO cD qx qo qd sh w st cx cy fs) (hls : ls.size = 9) (hcs : cells + 8 ≤ R.cells ∧ slots + 64 ≤ R.slots)
    (k : ∀ (u : en_H × va_W) (res : Option Value) (H1 : Heap) (locs1 : List Loc) (st' : Nat) (cx' cy' : Int32) (fs' : List Value), en_rv 0 res → lw_I E LP tys cO cD qx qo qd u.1 u.2 st' cx' cy' fs' → lw_H D A s u.2 H1 locs1 → W p l e R s m args below meth c H1 locs1 (cells + 8) (slots + 64) Q (F0 m 1366 ls (res.toList ++ []))) :
    W p l e R s m args below meth c H locs cells slots Q (F0 m 1363 ls (([.int a1] : List Value).reverse ++ [.ref (sh.2 0)])) := by
  by_cases h3 : 3 ≤ st
  · skip
    obtain ⟨⟨x22, f22, l22, u22⟩, ⟨x16, f16, l16, u16⟩, x25, f25, l25, u25⟩ := lw_bon h3 I.hs.2.2.1
    have hOc := (I.hs.2.2.2.2 h3).2.1
    have hAh := (I.hs.2.2.2.2 h3).2.2
    rcases hAh with hAl | f28
    · skip
      refine lw_mc (lv' := 2) (ρp := [.ref (sh.2 0), .int a1, .int x22]) (As := [.int a1]) F L (ct_X7_pickUp_1 hl9 (cx := cx) (cy := cy)) gm_X7_pickUp I.hs.2.1 rfl rfl (Nat.le_of_ble_eq_true rfl) (by decide) ⟨Nat.le_trans (Nat.add_le_add_left (Nat.le_of_ble_eq_true rfl) _) hcs.1, Nat.le_trans (Nat.add_le_add_left (Nat.le_of_ble_eq_true rfl) _) hcs.2⟩ hls rfl (lw_pre I.hs.1 (by decide) (Or.inl h3)) (I.hO cx cy) (lw_pa (env := k_X7_pickUp_1.2.1.1) (fa := k_X7_pickUp_1.2.1.2) ⟨⟨0, I.h20, rfl⟩, ⟨a1, rfl, en_lo a1, en_hi a1⟩, ⟨x22, rfl, l22, u22⟩, trivial⟩ (en_ac (lw_f0 I.hs.2.1 rfl f22 rfl) (en_ac (⟨I.had, hOc⟩) (en_an)))) dlw_1363 (fun u res H1 locs1 hrv hpo L1 => ?_)
      refine W.widen (k := cells + 8) (n := slots + 64) (Nat.add_le_add_left (Nat.le_of_ble_eq_true rfl) _) (Nat.add_le_add_left (Nat.le_of_ble_eq_true rfl) _) ?_
      obtain ⟨fs', g1, g2⟩ := lw_fs I.h20 I.hs.2.1 hpo.1
      have hA1 : lw_ah cx cy fs' u.2 := lw_ahA I hpo.1 g1 (by decide +kernel) hAl
      exact k _ _ _ _ _ _ _ _ hrv (lw_Iq hLP I hpo.1 (by decide +kernel) g1 I.hst (lw_Io I hpo.1 (by decide +kernel)) (lw_Id I hpo.1 (by decide +kernel)) (lw_q I.h20 I.hlen (I.hO cx cy) I.hs hpo.1 (lw_qon h3 (by decide +kernel)) g1 (fun _ => hA1))) L1
    · skip
      have l28 : (-1 : Int) ≤ (-1 : Int32).toInt := by decide
      have u28 : (-1 : Int32).toInt ≤ (-1 : Int) := by decide
      obtain ⟨x28, e28⟩ : ∃ x : Int32, x = -1 := ⟨_, rfl⟩
      rw [← e28] at f28 l28 u28
      refine lw_mc (lv' := 2) (ρp := [.ref (sh.2 0), .int a1, .int x22, .int x28]) (As := [.int a1]) F L (ct_X7_pickUp_2 hl9 (cx := cx) (cy := cy)) gm_X7_pickUp I.hs.2.1 rfl rfl (Nat.le_of_ble_eq_true rfl) (by decide) ⟨Nat.le_trans (Nat.add_le_add_left (Nat.le_of_ble_eq_true rfl) _) hcs.1, Nat.le_trans (Nat.add_le_add_left (Nat.le_of_ble_eq_true rfl) _) hcs.2⟩ hls rfl (lw_pre I.hs.1 (by decide) (Or.inl h3)) (I.hO cx cy) (lw_pa (env := k_X7_pickUp_2.2.1.1) (fa := k_X7_pickUp_2.2.1.2) ⟨⟨0, I.h20, rfl⟩, ⟨a1, rfl, en_lo a1, en_hi a1⟩, ⟨x22, rfl, l22, u22⟩, ⟨x28, rfl, l28, u28⟩, trivial⟩ (en_ac (lw_f0 I.hs.2.1 rfl f22 rfl) (en_ac (lw_f0 I.hs.2.1 rfl f28 rfl) (en_ac (⟨I.had, hOc⟩) (en_an))))) dlw_1363 (fun u res H1 locs1 hrv hpo L1 => ?_)
      refine W.widen (k := cells + 8) (n := slots + 64) (Nat.add_le_add_left (Nat.le_of_ble_eq_true rfl) _) (Nat.add_le_add_left (Nat.le_of_ble_eq_true rfl) _) ?_
      obtain ⟨fs', g1, g2⟩ := lw_fs I.h20 I.hs.2.1 hpo.1
      have hA1 : lw_ah cx cy fs' u.2 := Or.inr (lw_last I (by decide +kernel) L1.hD g1 hpo (show 0 < 2 by decide) rfl)
      exact k _ _ _ _ _ _ _ _ hrv (lw_Iq hLP I hpo.1 (by decide +kernel) g1 I.hst (lw_Io I hpo.1 (by decide +kernel)) (lw_Id I hpo.1 (by decide +kernel)) (lw_q I.h20 I.hlen (I.hO cx cy) I.hs hpo.1 (lw_qon h3 (by decide +kernel)) g1 (fun _ => hA1))) L1
  · skip
    obtain ⟨x22, f22, l22, u22⟩ := lw_boff h3 I.hs.2.2.1
    refine lw_mc (lv' := 2) (ρp := [.ref (sh.2 0), .int a1, .int x22]) (As := [.int a1]) F L (ct_X7_pickUp_0 hl9 (cx := cx) (cy := cy)) gm_X7_pickUp I.hs.2.1 rfl rfl (Nat.le_of_ble_eq_true rfl) (by decide) ⟨Nat.le_trans (Nat.add_le_add_left (Nat.le_of_ble_eq_true rfl) _) hcs.1, Nat.le_trans (Nat.add_le_add_left (Nat.le_of_ble_eq_true rfl) _) hcs.2⟩ hls rfl (lw_pre I.hs.1 (by decide) (Or.inr (by decide))) (I.hO cx cy) (lw_pa (env := k_X7_pickUp_0.2.1.1) (fa := k_X7_pickUp_0.2.1.2) ⟨⟨0, I.h20, rfl⟩, ⟨a1, rfl, en_lo a1, en_hi a1⟩, ⟨x22, rfl, l22, u22⟩, trivial⟩ (en_ac (lw_f0 I.hs.2.1 rfl f22 rfl) (en_an))) dlw_1363 (fun u res H1 locs1 hrv hpo L1 => ?_)
    refine W.widen (k := cells + 8) (n := slots + 64) (Nat.add_le_add_left (Nat.le_of_ble_eq_true rfl) _) (Nat.add_le_add_left (Nat.le_of_ble_eq_true rfl) _) ?_
    obtain ⟨fs', I1⟩ := lw_Iqq hLP I hpo.1 (by decide +kernel) (lw_qoff h3 (by decide +kernel)) (by decide +kernel) (by decide +kernel) (lw_Io I hpo.1 (by decide +kernel)) (lw_Id I hpo.1 (by decide +kernel))
    exact k _ _ _ _ _ _ _ _ hrv I1 L1
set_option maxHeartbeats 4000000 in
theorem lm_X7_point (hl9 : l.stackTraces = false) (a1 : Int32) (a2 : Int32) (hb2 : 0 ≤ a2.toInt ∧ a2.toInt ≤ 1) (hLP : lw_st LP) (F : lw_Fm p R s m args c D tys cO cD A) (L : lw_H D A s w H locs) (I : lw_I E LP tys cO cD qx qo qd sh w st cx cy fs) (hls : ls.size = 9) (hcs : cells + 8 ≤ R.cells ∧ slots + 64 ≤ R.slots)
    (k : ∀ (u : en_H × va_W) (res : Option Value) (H1 : Heap) (locs1 : List Loc) (st' : Nat) (cx' cy' : Int32) (fs' : List Value), en_rv 0 res → lw_I E LP tys cO cD qx qo qd u.1 u.2 st' cx' cy' fs' → lw_H D A s u.2 H1 locs1 → W p l e R s m args below meth c H1 locs1 (cells + 8) (slots + 64) Q (F0 m 1100 ls (res.toList ++ []))) :
    W p l e R s m args below meth c H locs cells slots Q (F0 m 1097 ls (([.int a1, .int a2] : List Value).reverse ++ [.ref (sh.2 0)])) := by
  by_cases h3 : 3 ≤ st
  · skip
    obtain ⟨⟨x22, f22, l22, u22⟩, ⟨x16, f16, l16, u16⟩, x25, f25, l25, u25⟩ := lw_bon h3 I.hs.2.2.1
    have hOc := (I.hs.2.2.2.2 h3).2.1
    have hAh := (I.hs.2.2.2.2 h3).2.2
    refine lw_mc (lv' := 3) (ρp := [.ref (sh.2 0), .int a1, .int a2, .int x22, .int x25]) (As := [.int a1, .int a2]) F L (ct_X7_point_1 hl9 (cx := cx) (cy := cy)) gm_X7_point I.hs.2.1 rfl rfl (Nat.le_of_ble_eq_true rfl) (by decide) ⟨Nat.le_trans (Nat.add_le_add_left (Nat.le_of_ble_eq_true rfl) _) hcs.1, Nat.le_trans (Nat.add_le_add_left (Nat.le_of_ble_eq_true rfl) _) hcs.2⟩ hls rfl (lw_pre I.hs.1 (by decide) (Or.inl h3)) (I.hO cx cy) (lw_pa (env := k_X7_point_1.2.1.1) (fa := k_X7_point_1.2.1.2) ⟨⟨0, I.h20, rfl⟩, ⟨a1, rfl, en_lo a1, en_hi a1⟩, ⟨a2, rfl, hb2.1, hb2.2⟩, ⟨x22, rfl, l22, u22⟩, ⟨x25, rfl, l25, u25⟩, trivial⟩ (en_ac (lw_f0 I.hs.2.1 rfl f22 rfl) (en_ac (lw_f0 I.hs.2.1 rfl f25 rfl) (en_ac (⟨I.had, hOc⟩) (en_an))))) dlw_1097 (fun u res H1 locs1 hrv hpo L1 => ?_)
    refine W.widen (k := cells + 8) (n := slots + 64) (Nat.add_le_add_left (Nat.le_of_ble_eq_true rfl) _) (Nat.add_le_add_left (Nat.le_of_ble_eq_true rfl) _) ?_
    obtain ⟨fs', I1⟩ := lw_Iqq hLP I hpo.1 (by decide +kernel) (lw_qon h3 (by decide +kernel)) (by decide +kernel) (by decide +kernel) (lw_Io I hpo.1 (by decide +kernel)) (lw_Id I hpo.1 (by decide +kernel))
    exact k _ _ _ _ _ _ _ _ hrv I1 L1
  · skip
    obtain ⟨x22, f22, l22, u22⟩ := lw_boff h3 I.hs.2.2.1
    refine lw_mc (lv' := 2) (ρp := [.ref (sh.2 0), .int a1, .int a2, .int x22]) (As := [.int a1, .int a2]) F L (ct_X7_point_0 hl9 (cx := cx) (cy := cy)) gm_X7_point I.hs.2.1 rfl rfl (Nat.le_of_ble_eq_true rfl) (by decide) ⟨Nat.le_trans (Nat.add_le_add_left (Nat.le_of_ble_eq_true rfl) _) hcs.1, Nat.le_trans (Nat.add_le_add_left (Nat.le_of_ble_eq_true rfl) _) hcs.2⟩ hls rfl (lw_pre I.hs.1 (by decide) (Or.inr (by decide))) (I.hO cx cy) (lw_pa (env := k_X7_point_0.2.1.1) (fa := k_X7_point_0.2.1.2) ⟨⟨0, I.h20, rfl⟩, ⟨a1, rfl, en_lo a1, en_hi a1⟩, ⟨a2, rfl, hb2.1, hb2.2⟩, ⟨x22, rfl, l22, u22⟩, trivial⟩ (en_ac (lw_f0 I.hs.2.1 rfl f22 rfl) (en_an))) dlw_1097 (fun u res H1 locs1 hrv hpo L1 => ?_)
    refine W.widen (k := cells + 8) (n := slots + 64) (Nat.add_le_add_left (Nat.le_of_ble_eq_true rfl) _) (Nat.add_le_add_left (Nat.le_of_ble_eq_true rfl) _) ?_
    obtain ⟨fs', I1⟩ := lw_Iqq hLP I hpo.1 (by decide +kernel) (lw_qoff h3 (by decide +kernel)) (by decide +kernel) (by decide +kernel) (lw_Io I hpo.1 (by decide +kernel)) (lw_Id I hpo.1 (by decide +kernel))
    exact k _ _ _ _ _ _ _ _ hrv I1 L1
set_option maxHeartbeats 4000000 in
theorem lm_X7_provisional (hl9 : l.stackTraces = false) (a1 : Int32) (a2 : Int32) (a3 : Int32) (hLP : lw_st LP) (F : lw_Fm p R s m args c D tys cO cD A) (L : lw_H D A s w H locs) (I : lw_I E LP tys cO cD qx qo qd sh w st cx cy fs) (hls : ls.size = 9) (hcs : cells + 8 ≤ R.cells ∧ slots + 64 ≤ R.slots)
    (k : ∀ (u : en_H × va_W) (res : Option Value) (H1 : Heap) (locs1 : List Loc) (st' : Nat) (cx' cy' : Int32) (fs' : List Value), en_rv 0 res → lw_I E LP tys cO cD qx qo qd u.1 u.2 st' cx' cy' fs' → lw_H D A s u.2 H1 locs1 → W p l e R s m args below meth c H1 locs1 (cells + 8) (slots + 64) Q (F0 m 896 ls (res.toList ++ []))) :
    W p l e R s m args below meth c H locs cells slots Q (F0 m 893 ls (([.int a1, .int a2, .int a3] : List Value).reverse ++ [.ref (sh.2 0)])) := by
  by_cases h3 : 3 ≤ st
  · skip
    obtain ⟨⟨x22, f22, l22, u22⟩, ⟨x16, f16, l16, u16⟩, x25, f25, l25, u25⟩ := lw_bon h3 I.hs.2.2.1
    have hOc := (I.hs.2.2.2.2 h3).2.1
    have hAh := (I.hs.2.2.2.2 h3).2.2
    rcases hAh with hAl | f28
    · skip
      refine lw_mc (lv' := 3) (ρp := [.ref (sh.2 0), .int a1, .int a2, .int a3, .int x22, .int x25]) (As := [.int a1, .int a2, .int a3]) F L (ct_X7_provisional_1 hl9 (cx := cx) (cy := cy)) gm_X7_provisional I.hs.2.1 rfl rfl (Nat.le_of_ble_eq_true rfl) (by decide) ⟨Nat.le_trans (Nat.add_le_add_left (Nat.le_of_ble_eq_true rfl) _) hcs.1, Nat.le_trans (Nat.add_le_add_left (Nat.le_of_ble_eq_true rfl) _) hcs.2⟩ hls rfl (lw_pre I.hs.1 (by decide) (Or.inl h3)) (I.hO cx cy) (lw_pa (env := k_X7_provisional_1.2.1.1) (fa := k_X7_provisional_1.2.1.2) ⟨⟨0, I.h20, rfl⟩, ⟨a1, rfl, en_lo a1, en_hi a1⟩, ⟨a2, rfl, en_lo a2, en_hi a2⟩, ⟨a3, rfl, en_lo a3, en_hi a3⟩, ⟨x22, rfl, l22, u22⟩, ⟨x25, rfl, l25, u25⟩, trivial⟩ (en_ac (lw_f0 I.hs.2.1 rfl f22 rfl) (en_ac (lw_f0 I.hs.2.1 rfl f25 rfl) (en_ac (⟨I.had, hOc⟩) (en_an))))) dlw_893 (fun u res H1 locs1 hrv hpo L1 => ?_)
      refine W.widen (k := cells + 8) (n := slots + 64) (Nat.add_le_add_left (Nat.le_of_ble_eq_true rfl) _) (Nat.add_le_add_left (Nat.le_of_ble_eq_true rfl) _) ?_
      obtain ⟨fs', g1, g2⟩ := lw_fs I.h20 I.hs.2.1 hpo.1
      have hA1 : lw_ah cx cy fs' u.2 := lw_ahA I hpo.1 g1 (by decide +kernel) hAl
      exact k _ _ _ _ _ _ _ _ hrv (lw_Iq hLP I hpo.1 (by decide +kernel) g1 I.hst (lw_Io I hpo.1 (by decide +kernel)) (lw_Id I hpo.1 (by decide +kernel)) (lw_q I.h20 I.hlen (I.hO cx cy) I.hs hpo.1 (lw_qon h3 (by decide +kernel)) g1 (fun _ => hA1))) L1
    · skip
      have l28 : (-1 : Int) ≤ (-1 : Int32).toInt := by decide
      have u28 : (-1 : Int32).toInt ≤ (-1 : Int) := by decide
      obtain ⟨x28, e28⟩ : ∃ x : Int32, x = -1 := ⟨_, rfl⟩
      rw [← e28] at f28 l28 u28
      refine lw_mc (lv' := 3) (ρp := [.ref (sh.2 0), .int a1, .int a2, .int a3, .int x22, .int x25, .int x28]) (As := [.int a1, .int a2, .int a3]) F L (ct_X7_provisional_2 hl9 (cx := cx) (cy := cy)) gm_X7_provisional I.hs.2.1 rfl rfl (Nat.le_of_ble_eq_true rfl) (by decide) ⟨Nat.le_trans (Nat.add_le_add_left (Nat.le_of_ble_eq_true rfl) _) hcs.1, Nat.le_trans (Nat.add_le_add_left (Nat.le_of_ble_eq_true rfl) _) hcs.2⟩ hls rfl (lw_pre I.hs.1 (by decide) (Or.inl h3)) (I.hO cx cy) (lw_pa (env := k_X7_provisional_2.2.1.1) (fa := k_X7_provisional_2.2.1.2) ⟨⟨0, I.h20, rfl⟩, ⟨a1, rfl, en_lo a1, en_hi a1⟩, ⟨a2, rfl, en_lo a2, en_hi a2⟩, ⟨a3, rfl, en_lo a3, en_hi a3⟩, ⟨x22, rfl, l22, u22⟩, ⟨x25, rfl, l25, u25⟩, ⟨x28, rfl, l28, u28⟩, trivial⟩ (en_ac (lw_f0 I.hs.2.1 rfl f22 rfl) (en_ac (lw_f0 I.hs.2.1 rfl f25 rfl) (en_ac (lw_f0 I.hs.2.1 rfl f28 rfl) (en_ac (⟨I.had, hOc⟩) (en_an)))))) dlw_893 (fun u res H1 locs1 hrv hpo L1 => ?_)
      refine W.widen (k := cells + 8) (n := slots + 64) (Nat.add_le_add_left (Nat.le_of_ble_eq_true rfl) _) (Nat.add_le_add_left (Nat.le_of_ble_eq_true rfl) _) ?_
      obtain ⟨fs', g1, g2⟩ := lw_fs I.h20 I.hs.2.1 hpo.1
      have hA1 : lw_ah cx cy fs' u.2 := Or.inr (lw_last I (by decide +kernel) L1.hD g1 hpo (show 0 < 4 by decide) rfl)
      exact k _ _ _ _ _ _ _ _ hrv (lw_Iq hLP I hpo.1 (by decide +kernel) g1 I.hst (lw_Io I hpo.1 (by decide +kernel)) (lw_Id I hpo.1 (by decide +kernel)) (lw_q I.h20 I.hlen (I.hO cx cy) I.hs hpo.1 (lw_qon h3 (by decide +kernel)) g1 (fun _ => hA1))) L1
  · skip
    obtain ⟨x22, f22, l22, u22⟩ := lw_boff h3 I.hs.2.2.1
    refine lw_mc (lv' := 2) (ρp := [.ref (sh.2 0), .int a1, .int a2, .int a3, .int x22]) (As := [.int a1, .int a2, .int a3]) F L (ct_X7_provisional_0 hl9 (cx := cx) (cy := cy)) gm_X7_provisional I.hs.2.1 rfl rfl (Nat.le_of_ble_eq_true rfl) (by decide) ⟨Nat.le_trans (Nat.add_le_add_left (Nat.le_of_ble_eq_true rfl) _) hcs.1, Nat.le_trans (Nat.add_le_add_left (Nat.le_of_ble_eq_true rfl) _) hcs.2⟩ hls rfl (lw_pre I.hs.1 (by decide) (Or.inr (by decide))) (I.hO cx cy) (lw_pa (env := k_X7_provisional_0.2.1.1) (fa := k_X7_provisional_0.2.1.2) ⟨⟨0, I.h20, rfl⟩, ⟨a1, rfl, en_lo a1, en_hi a1⟩, ⟨a2, rfl, en_lo a2, en_hi a2⟩, ⟨a3, rfl, en_lo a3, en_hi a3⟩, ⟨x22, rfl, l22, u22⟩, trivial⟩ (en_ac (lw_f0 I.hs.2.1 rfl f22 rfl) (en_an))) dlw_893 (fun u res H1 locs1 hrv hpo L1 => ?_)
    refine W.widen (k := cells + 8) (n := slots + 64) (Nat.add_le_add_left (Nat.le_of_ble_eq_true rfl) _) (Nat.add_le_add_left (Nat.le_of_ble_eq_true rfl) _) ?_
    obtain ⟨fs', I1⟩ := lw_Iqq hLP I hpo.1 (by decide +kernel) (lw_qoff h3 (by decide +kernel)) (by decide +kernel) (by decide +kernel) (lw_Io I hpo.1 (by decide +kernel)) (lw_Id I hpo.1 (by decide +kernel))
    exact k _ _ _ _ _ _ _ _ hrv I1 L1
set_option maxHeartbeats 4000000 in
theorem lm_X7_rank (hl9 : l.stackTraces = false) (a1 : Int32) (hLP : lw_st LP) (F : lw_Fm p R s m args c D tys cO cD A) (L : lw_H D A s w H locs) (I : lw_I E LP tys cO cD qx qo qd sh w st cx cy fs) (hls : ls.size = 9) (hcs : cells + 8 ≤ R.cells ∧ slots + 64 ≤ R.slots)
    (k : ∀ (u : en_H × va_W) (res : Option Value) (H1 : Heap) (locs1 : List Loc) (st' : Nat) (cx' cy' : Int32) (fs' : List Value), en_rv 0 res → lw_I E LP tys cO cD qx qo qd u.1 u.2 st' cx' cy' fs' → lw_H D A s u.2 H1 locs1 → W p l e R s m args below meth c H1 locs1 (cells + 8) (slots + 64) Q (F0 m 1996 ls (res.toList ++ []))) :
    W p l e R s m args below meth c H locs cells slots Q (F0 m 1993 ls (([.int a1] : List Value).reverse ++ [.ref (sh.2 0)])) := by
  by_cases h3 : 3 ≤ st
  · skip
    obtain ⟨⟨x22, f22, l22, u22⟩, ⟨x16, f16, l16, u16⟩, x25, f25, l25, u25⟩ := lw_bon h3 I.hs.2.2.1
    have hOc := (I.hs.2.2.2.2 h3).2.1
    have hAh := (I.hs.2.2.2.2 h3).2.2
    refine lw_mc (lv' := 2) (ρp := [.ref (sh.2 0), .int a1, .int x16]) (As := [.int a1]) F L (ct_X7_rank_1 hl9 (cx := cx) (cy := cy)) gm_X7_rank I.hs.2.1 rfl rfl (Nat.le_of_ble_eq_true rfl) (by decide) ⟨Nat.le_trans (Nat.add_le_add_left (Nat.le_of_ble_eq_true rfl) _) hcs.1, Nat.le_trans (Nat.add_le_add_left (Nat.le_of_ble_eq_true rfl) _) hcs.2⟩ hls rfl (lw_pre I.hs.1 (by decide) (Or.inl h3)) (I.hO cx cy) (lw_pa (env := k_X7_rank_1.2.1.1) (fa := k_X7_rank_1.2.1.2) ⟨⟨0, I.h20, rfl⟩, ⟨a1, rfl, en_lo a1, en_hi a1⟩, ⟨x16, rfl, l16, u16⟩, trivial⟩ (en_ac (lw_f0 I.hs.2.1 rfl f16 rfl) (en_ac (⟨I.had, hOc⟩) (en_an)))) dlw_1993 (fun u res H1 locs1 hrv hpo L1 => ?_)
    refine W.widen (k := cells + 8) (n := slots + 64) (Nat.add_le_add_left (Nat.le_of_ble_eq_true rfl) _) (Nat.add_le_add_left (Nat.le_of_ble_eq_true rfl) _) ?_
    obtain ⟨fs', I1⟩ := lw_Iqq hLP I hpo.1 (by decide +kernel) (lw_qon h3 (by decide +kernel)) (by decide +kernel) (by decide +kernel) (lw_Io I hpo.1 (by decide +kernel)) (lw_Id I hpo.1 (by decide +kernel))
    exact k _ _ _ _ _ _ _ _ hrv I1 L1
  · skip
    obtain ⟨x22, f22, l22, u22⟩ := lw_boff h3 I.hs.2.2.1
    refine lw_mc (lv' := 2) (ρp := [.ref (sh.2 0), .int a1]) (As := [.int a1]) F L (ct_X7_rank_0 hl9 (cx := cx) (cy := cy)) gm_X7_rank I.hs.2.1 rfl rfl (Nat.le_of_ble_eq_true rfl) (by decide) ⟨Nat.le_trans (Nat.add_le_add_left (Nat.le_of_ble_eq_true rfl) _) hcs.1, Nat.le_trans (Nat.add_le_add_left (Nat.le_of_ble_eq_true rfl) _) hcs.2⟩ hls rfl (lw_pre I.hs.1 (by decide) (Or.inr (by decide))) (I.hO cx cy) (lw_pa (env := k_X7_rank_0.2.1.1) (fa := k_X7_rank_0.2.1.2) ⟨⟨0, I.h20, rfl⟩, ⟨a1, rfl, en_lo a1, en_hi a1⟩, trivial⟩ (en_an)) dlw_1993 (fun u res H1 locs1 hrv hpo L1 => ?_)
    refine W.widen (k := cells + 8) (n := slots + 64) (Nat.add_le_add_left (Nat.le_of_ble_eq_true rfl) _) (Nat.add_le_add_left (Nat.le_of_ble_eq_true rfl) _) ?_
    obtain ⟨fs', I1⟩ := lw_Iqq hLP I hpo.1 (by decide +kernel) (lw_qoff h3 (by decide +kernel)) (by decide +kernel) (by decide +kernel) (lw_Io I hpo.1 (by decide +kernel)) (lw_Id I hpo.1 (by decide +kernel))
    exact k _ _ _ _ _ _ _ _ hrv I1 L1
set_option maxHeartbeats 4000000 in
theorem lm_X7_score (hl9 : l.stackTraces = false) (a1 : Int32) (a2 : Int32) (hLP : lw_st LP) (F : lw_Fm p R s m args c D tys cO cD A) (L : lw_H D A s w H locs) (I : lw_I E LP tys cO cD qx qo qd sh w st cx cy fs) (hls : ls.size = 9) (hcs : cells + 8 ≤ R.cells ∧ slots + 64 ≤ R.slots)
    (k : ∀ (u : en_H × va_W) (res : Option Value) (H1 : Heap) (locs1 : List Loc) (st' : Nat) (cx' cy' : Int32) (fs' : List Value), en_rv 0 res → lw_I E LP tys cO cD qx qo qd u.1 u.2 st' cx' cy' fs' → lw_H D A s u.2 H1 locs1 → W p l e R s m args below meth c H1 locs1 (cells + 8) (slots + 64) Q (F0 m 1704 ls (res.toList ++ []))) :
    W p l e R s m args below meth c H locs cells slots Q (F0 m 1701 ls (([.int a1, .int a2] : List Value).reverse ++ [.ref (sh.2 0)])) := by
  by_cases h3 : 3 ≤ st
  · skip
    obtain ⟨⟨x22, f22, l22, u22⟩, ⟨x16, f16, l16, u16⟩, x25, f25, l25, u25⟩ := lw_bon h3 I.hs.2.2.1
    have hOc := (I.hs.2.2.2.2 h3).2.1
    have hAh := (I.hs.2.2.2.2 h3).2.2
    refine lw_mc (lv' := 2) (ρp := [.ref (sh.2 0), .int a1, .int a2, .int x16]) (As := [.int a1, .int a2]) F L (ct_X7_score_1 hl9 (cx := cx) (cy := cy)) gm_X7_score I.hs.2.1 rfl rfl (Nat.le_of_ble_eq_true rfl) (by decide) ⟨Nat.le_trans (Nat.add_le_add_left (Nat.le_of_ble_eq_true rfl) _) hcs.1, Nat.le_trans (Nat.add_le_add_left (Nat.le_of_ble_eq_true rfl) _) hcs.2⟩ hls rfl (lw_pre I.hs.1 (by decide) (Or.inl h3)) (I.hO cx cy) (lw_pa (env := k_X7_score_1.2.1.1) (fa := k_X7_score_1.2.1.2) ⟨⟨0, I.h20, rfl⟩, ⟨a1, rfl, en_lo a1, en_hi a1⟩, ⟨a2, rfl, en_lo a2, en_hi a2⟩, ⟨x16, rfl, l16, u16⟩, trivial⟩ (en_ac (lw_f0 I.hs.2.1 rfl f16 rfl) (en_ac (⟨I.had, hOc⟩) (en_an)))) dlw_1701 (fun u res H1 locs1 hrv hpo L1 => ?_)
    refine W.widen (k := cells + 8) (n := slots + 64) (Nat.add_le_add_left (Nat.le_of_ble_eq_true rfl) _) (Nat.add_le_add_left (Nat.le_of_ble_eq_true rfl) _) ?_
    obtain ⟨fs', I1⟩ := lw_Iqq hLP I hpo.1 (by decide +kernel) (lw_qon h3 (by decide +kernel)) (by decide +kernel) (by decide +kernel) (lw_Io I hpo.1 (by decide +kernel)) (lw_Id I hpo.1 (by decide +kernel))
    exact k _ _ _ _ _ _ _ _ hrv I1 L1
  · skip
    obtain ⟨x22, f22, l22, u22⟩ := lw_boff h3 I.hs.2.2.1
    refine lw_mc (lv' := 2) (ρp := [.ref (sh.2 0), .int a1, .int a2]) (As := [.int a1, .int a2]) F L (ct_X7_score_0 hl9 (cx := cx) (cy := cy)) gm_X7_score I.hs.2.1 rfl rfl (Nat.le_of_ble_eq_true rfl) (by decide) ⟨Nat.le_trans (Nat.add_le_add_left (Nat.le_of_ble_eq_true rfl) _) hcs.1, Nat.le_trans (Nat.add_le_add_left (Nat.le_of_ble_eq_true rfl) _) hcs.2⟩ hls rfl (lw_pre I.hs.1 (by decide) (Or.inr (by decide))) (I.hO cx cy) (lw_pa (env := k_X7_score_0.2.1.1) (fa := k_X7_score_0.2.1.2) ⟨⟨0, I.h20, rfl⟩, ⟨a1, rfl, en_lo a1, en_hi a1⟩, ⟨a2, rfl, en_lo a2, en_hi a2⟩, trivial⟩ (en_an)) dlw_1701 (fun u res H1 locs1 hrv hpo L1 => ?_)
    refine W.widen (k := cells + 8) (n := slots + 64) (Nat.add_le_add_left (Nat.le_of_ble_eq_true rfl) _) (Nat.add_le_add_left (Nat.le_of_ble_eq_true rfl) _) ?_
    obtain ⟨fs', I1⟩ := lw_Iqq hLP I hpo.1 (by decide +kernel) (lw_qoff h3 (by decide +kernel)) (by decide +kernel) (by decide +kernel) (lw_Io I hpo.1 (by decide +kernel)) (lw_Id I hpo.1 (by decide +kernel))
    exact k _ _ _ _ _ _ _ _ hrv I1 L1
end
