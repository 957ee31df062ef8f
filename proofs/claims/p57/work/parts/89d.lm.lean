section
variable {p : Program} {l : Launch} {e : Env} {R : Room} {s : State} {m : MethodId} {args : Array Value} {below : List Frame} {meth : Method} {c : Code} {Q : State → Prop}
variable {D : va_G} {tys : List (ClassId × FieldType)} {cO cD : ClassId} {A : Nat → Prop} {sh : en_H} {w : va_W} {H : Heap} {locs : List Loc} {ls : Array Slot} {cells slots qx qo qd : Nat} {E : Int32 → Int32 → Prop} {LP : en_H → va_W → Prop} {st : Nat} {cx cy : Int32} {fs : List Value}
set_option maxHeartbeats 4000000 in
theorem lm_X7_move (hl9 : l.stackTraces = false) (a1 : Int32) (a2 : Int32) (a3 : Int32) (a4 : Int32) (hb2 : 0 ≤ a2.toInt ∧ a2.toInt ≤ 65535) (hLP : lw_st LP) (F : lw_Fm p R s m args c D tys cO cD A) (L : lw_H D A s w H locs) (I : lw_I E LP tys cO cD qx qo qd sh w st cx cy fs) (hls : ls.size = 9) (hcs : cells + 8 ≤ R.cells ∧ slots + 64 ≤ R.slots)
    (k : ∀ (u : en_H × va_W) (res : Option Value) (H1 : Heap) (locs1 : List Loc) (st' : Nat) (cx' cy' : Int32) (fs' : List Value), en_rv 0 res → lw_I E LP tys cO cD qx qo qd u.1 u.2 st' cx' cy' fs' → lw_H D A s u.2 H1 locs1 → W p l e R s m args below meth c H1 locs1 (cells + 8) (slots + 64) Q (F0 m 1298 ls (res.toList ++ []))) :
    W p l e R s m args below meth c H locs cells slots Q (F0 m 1295 ls (([.int a1, .int a2, .int a3, .int a4] : List Value).reverse ++ [.ref (sh.2 0)])) := by
  by_cases h3 : 3 ≤ st
  · skip
    obtain ⟨⟨x22, f22, l22, u22⟩, ⟨x16, f16, l16, u16⟩, x25, f25, l25, u25⟩ := lw_bon h3 I.hs.2.2.1
    have hOc := (I.hs.2.2.2.2 h3).2.1
    have hAh := (I.hs.2.2.2.2 h3).2.2
    rcases hAh with hAl | f28
    · skip
      refine lw_mc (lv' := 2) (ρp := [.ref (sh.2 0), .int a1, .int a2, .int a3, .int a4, .int x22, .int x25]) (As := [.int a1, .int a2, .int a3, .int a4]) F L (ct_X7_move_1 hl9 (cx := cx) (cy := cy)) gm_X7_move I.hs.2.1 rfl rfl (Nat.le_of_ble_eq_true rfl) (by decide) ⟨Nat.le_trans (Nat.add_le_add_left (Nat.le_of_ble_eq_true rfl) _) hcs.1, Nat.le_trans (Nat.add_le_add_left (Nat.le_of_ble_eq_true rfl) _) hcs.2⟩ hls rfl (lw_pre I.hs.1 (by decide) (Or.inl h3)) (I.hO cx cy) (lw_pa (env := k_X7_move_1.2.1.1) (fa := k_X7_move_1.2.1.2) ⟨⟨0, I.h20, rfl⟩, ⟨a1, rfl, en_lo a1, en_hi a1⟩, ⟨a2, rfl, hb2.1, hb2.2⟩, ⟨a3, rfl, en_lo a3, en_hi a3⟩, ⟨a4, rfl, en_lo a4, en_hi a4⟩, ⟨x22, rfl, l22, u22⟩, ⟨x25, rfl, l25, u25⟩, trivial⟩ (en_ac (lw_f0 I.hs.2.1 rfl f22 rfl) (en_ac (lw_f0 I.hs.2.1 rfl f25 rfl) (en_ac (⟨I.had, hOc⟩) (en_an))))) dlw_1295 (fun u res H1 locs1 hrv hpo L1 => ?_)
      refine W.widen (k := cells + 8) (n := slots + 64) (Nat.add_le_add_left (Nat.le_of_ble_eq_true rfl) _) (Nat.add_le_add_left (Nat.le_of_ble_eq_true rfl) _) ?_
      obtain ⟨fs', g1, g2⟩ := lw_fs I.h20 I.hs.2.1 hpo.1
      have hA1 : lw_ah cx cy fs' u.2 := lw_ahA I hpo.1 g1 (by decide +kernel) hAl
      exact k _ _ _ _ _ _ _ _ hrv (lw_Iq hLP I hpo.1 (by decide +kernel) g1 I.hst (lw_Io I hpo.1 (by decide +kernel)) (lw_Id I hpo.1 (by decide +kernel)) (lw_q I.h20 I.hlen (I.hO cx cy) I.hs hpo.1 (lw_qon h3 (by decide +kernel)) g1 (fun _ => hA1))) L1
    · skip
      have l28 : (-1 : Int) ≤ (-1 : Int32).toInt := by decide
      have u28 : (-1 : Int32).toInt ≤ (-1 : Int) := by decide
      obtain ⟨x28, e28⟩ : ∃ x : Int32, x = -1 := ⟨_, rfl⟩
      rw [← e28] at f28 l28 u28
      refine lw_mc (lv' := 2) (ρp := [.ref (sh.2 0), .int a1, .int a2, .int a3, .int a4, .int x22, .int x25, .int x28]) (As := [.int a1, .int a2, .int a3, .int a4]) F L (ct_X7_move_2 hl9 (cx := cx) (cy := cy)) gm_X7_move I.hs.2.1 rfl rfl (Nat.le_of_ble_eq_true rfl) (by decide) ⟨Nat.le_trans (Nat.add_le_add_left (Nat.le_of_ble_eq_true rfl) _) hcs.1, Nat.le_trans (Nat.add_le_add_left (Nat.le_of_ble_eq_true rfl) _) hcs.2⟩ hls rfl (lw_pre I.hs.1 (by decide) (Or.inl h3)) (I.hO cx cy) (lw_pa (env := k_X7_move_2.2.1.1) (fa := k_X7_move_2.2.1.2) ⟨⟨0, I.h20, rfl⟩, ⟨a1, rfl, en_lo a1, en_hi a1⟩, ⟨a2, rfl, hb2.1, hb2.2⟩, ⟨a3, rfl, en_lo a3, en_hi a3⟩, ⟨a4, rfl, en_lo a4, en_hi a4⟩, ⟨x22, rfl, l22, u22⟩, ⟨x25, rfl, l25, u25⟩, ⟨x28, rfl, l28, u28⟩, trivial⟩ (en_ac (lw_f0 I.hs.2.1 rfl f22 rfl) (en_ac (lw_f0 I.hs.2.1 rfl f25 rfl) (en_ac (lw_f0 I.hs.2.1 rfl f28 rfl) (en_ac (⟨I.had, hOc⟩) (en_an)))))) dlw_1295 (fun u res H1 locs1 hrv hpo L1 => ?_)
      refine W.widen (k := cells + 8) (n := slots + 64) (Nat.add_le_add_left (Nat.le_of_ble_eq_true rfl) _) (Nat.add_le_add_left (Nat.le_of_ble_eq_true rfl) _) ?_
      obtain ⟨fs', g1, g2⟩ := lw_fs I.h20 I.hs.2.1 hpo.1
      have hA1 : lw_ah cx cy fs' u.2 := Or.inr (lw_last I (by decide +kernel) L1.hD g1 hpo (show 0 < 5 by decide) rfl)
      exact k _ _ _ _ _ _ _ _ hrv (lw_Iq hLP I hpo.1 (by decide +kernel) g1 I.hst (lw_Io I hpo.1 (by decide +kernel)) (lw_Id I hpo.1 (by decide +kernel)) (lw_q I.h20 I.hlen (I.hO cx cy) I.hs hpo.1 (lw_qon h3 (by decide +kernel)) g1 (fun _ => hA1))) L1
  · skip
    obtain ⟨x22, f22, l22, u22⟩ := lw_boff h3 I.hs.2.2.1
    refine lw_mc (lv' := 2) (ρp := [.ref (sh.2 0), .int a1, .int a2, .int a3, .int a4, .int x22]) (As := [.int a1, .int a2, .int a3, .int a4]) F L (ct_X7_move_0 hl9 (cx := cx) (cy := cy)) gm_X7_move I.hs.2.1 rfl rfl (Nat.le_of_ble_eq_true rfl) (by decide) ⟨Nat.le_trans (Nat.add_le_add_left (Nat.le_of_ble_eq_true rfl) _) hcs.1, Nat.le_trans (Nat.add_le_add_left (Nat.le_of_ble_eq_true rfl) _) hcs.2⟩ hls rfl (lw_pre I.hs.1 (by decide) (Or.inr (by decide))) (I.hO cx cy) (lw_pa (env := k_X7_move_0.2.1.1) (fa := k_X7_move_0.2.1.2) ⟨⟨0, I.h20, rfl⟩, ⟨a1, rfl, en_lo a1, en_hi a1⟩, ⟨a2, rfl, hb2.1, hb2.2⟩, ⟨a3, rfl, en_lo a3, en_hi a3⟩, ⟨a4, rfl, en_lo a4, en_hi a4⟩, ⟨x22, rfl, l22, u22⟩, trivial⟩ (en_ac (lw_f0 I.hs.2.1 rfl f22 rfl) (en_an))) dlw_1295 (fun u res H1 locs1 hrv hpo L1 => ?_)
    refine W.widen (k := cells + 8) (n := slots + 64) (Nat.add_le_add_left (Nat.le_of_ble_eq_true rfl) _) (Nat.add_le_add_left (Nat.le_of_ble_eq_true rfl) _) ?_
    obtain ⟨fs', I1⟩ := lw_Iqq hLP I hpo.1 (by decide +kernel) (lw_qoff h3 (by decide +kernel)) (by decide +kernel) (by decide +kernel) (lw_Io I hpo.1 (by decide +kernel)) (lw_Id I hpo.1 (by decide +kernel))
    exact k _ _ _ _ _ _ _ _ hrv I1 L1
set_option maxHeartbeats 4000000 in
theorem lm_X7_nextHole (hl9 : l.stackTraces = false) (hLP : lw_st LP) (F : lw_Fm p R s m args c D tys cO cD A) (L : lw_H D A s w H locs) (I : lw_I E LP tys cO cD qx qo qd sh w st cx cy fs) (hls : ls.size = 9) (hcs : cells + 8 ≤ R.cells ∧ slots + 64 ≤ R.slots)
    (k : ∀ (u : en_H × va_W) (res : Option Value) (H1 : Heap) (locs1 : List Loc) (st' : Nat) (cx' cy' : Int32) (fs' : List Value), en_rv 0 res → lw_I E LP tys cO cD qx qo qd u.1 u.2 st' cx' cy' fs' → lw_H D A s u.2 H1 locs1 → W p l e R s m args below meth c H1 locs1 (cells + 8) (slots + 64) Q (F0 m 1496 ls (res.toList ++ []))) :
    W p l e R s m args below meth c H locs cells slots Q (F0 m 1493 ls (([] : List Value).reverse ++ [.ref (sh.2 0)])) := by
  obtain rfl | rfl | rfl | rfl | rfl := lw_stc I.hst
  · skip
    obtain ⟨x22, f22, l22, u22⟩ := I.hs.2.2.1 (22, 0, 0) (by decide)
    have l22 : (0 : Int) ≤ x22.toInt := l22
    have u22 : x22.toInt ≤ (0 : Int) := u22
    refine lw_mc (lv' := 1) (ρp := [.ref (sh.2 0), .int x22]) (As := []) F L (ct_X7_nextHole_0 hl9 (cx := cx) (cy := cy)) gm_X7_nextHole I.hs.2.1 rfl rfl (Nat.le_of_ble_eq_true rfl) (by decide) ⟨Nat.le_trans (Nat.add_le_add_left (Nat.le_of_ble_eq_true rfl) _) hcs.1, Nat.le_trans (Nat.add_le_add_left (Nat.le_of_ble_eq_true rfl) _) hcs.2⟩ hls rfl (lw_pre I.hs.1 (by decide) (Or.inr (by decide))) (I.hO cx cy) (lw_pa (env := k_X7_nextHole_0.2.1.1) (fa := k_X7_nextHole_0.2.1.2) ⟨⟨0, I.h20, rfl⟩, ⟨x22, rfl, l22, u22⟩, trivial⟩ (en_ac (lw_f0 I.hs.2.1 rfl f22 rfl) (en_an))) dlw_1493 (fun u res H1 locs1 hrv hpo L1 => ?_)
    refine W.widen (k := cells + 8) (n := slots + 64) (Nat.add_le_add_left (Nat.le_of_ble_eq_true rfl) _) (Nat.add_le_add_left (Nat.le_of_ble_eq_true rfl) _) ?_
    obtain ⟨fs', I1⟩ := lw_Iqq hLP I hpo.1 (by decide +kernel) (by decide +kernel) (by decide +kernel) (by decide +kernel) (lw_Io I hpo.1 (by decide +kernel)) (lw_Id I hpo.1 (by decide +kernel))
    exact k _ _ _ _ _ _ _ _ hrv I1 L1
  · skip
    obtain ⟨x22, f22, l22, u22⟩ := I.hs.2.2.1 (22, 0, 0) (by decide)
    have l22 : (0 : Int) ≤ x22.toInt := l22
    have u22 : x22.toInt ≤ (0 : Int) := u22
    refine lw_mc (lv' := 1) (ρp := [.ref (sh.2 0), .int x22]) (As := []) F L (ct_X7_nextHole_0 hl9 (cx := cx) (cy := cy)) gm_X7_nextHole I.hs.2.1 rfl rfl (Nat.le_of_ble_eq_true rfl) (by decide) ⟨Nat.le_trans (Nat.add_le_add_left (Nat.le_of_ble_eq_true rfl) _) hcs.1, Nat.le_trans (Nat.add_le_add_left (Nat.le_of_ble_eq_true rfl) _) hcs.2⟩ hls rfl (lw_pre I.hs.1 (by decide) (Or.inr (by decide))) (I.hO cx cy) (lw_pa (env := k_X7_nextHole_0.2.1.1) (fa := k_X7_nextHole_0.2.1.2) ⟨⟨0, I.h20, rfl⟩, ⟨x22, rfl, l22, u22⟩, trivial⟩ (en_ac (lw_f0 I.hs.2.1 rfl f22 rfl) (en_an))) dlw_1493 (fun u res H1 locs1 hrv hpo L1 => ?_)
    refine W.widen (k := cells + 8) (n := slots + 64) (Nat.add_le_add_left (Nat.le_of_ble_eq_true rfl) _) (Nat.add_le_add_left (Nat.le_of_ble_eq_true rfl) _) ?_
    obtain ⟨fs', I1⟩ := lw_Iqq hLP I hpo.1 (by decide +kernel) (by decide +kernel) (by decide +kernel) (by decide +kernel) (lw_Io I hpo.1 (by decide +kernel)) (lw_Id I hpo.1 (by decide +kernel))
    exact k _ _ _ _ _ _ _ _ hrv I1 L1
  · skip
    obtain ⟨x22, f22, l22, u22⟩ := I.hs.2.2.1 (22, 0, 0) (by decide)
    have l22 : (0 : Int) ≤ x22.toInt := l22
    have u22 : x22.toInt ≤ (0 : Int) := u22
    refine lw_mc (lv' := 1) (ρp := [.ref (sh.2 0), .int x22]) (As := []) F L (ct_X7_nextHole_0 hl9 (cx := cx) (cy := cy)) gm_X7_nextHole I.hs.2.1 rfl rfl (Nat.le_of_ble_eq_true rfl) (by decide) ⟨Nat.le_trans (Nat.add_le_add_left (Nat.le_of_ble_eq_true rfl) _) hcs.1, Nat.le_trans (Nat.add_le_add_left (Nat.le_of_ble_eq_true rfl) _) hcs.2⟩ hls rfl (lw_pre I.hs.1 (by decide) (Or.inr (by decide))) (I.hO cx cy) (lw_pa (env := k_X7_nextHole_0.2.1.1) (fa := k_X7_nextHole_0.2.1.2) ⟨⟨0, I.h20, rfl⟩, ⟨x22, rfl, l22, u22⟩, trivial⟩ (en_ac (lw_f0 I.hs.2.1 rfl f22 rfl) (en_an))) dlw_1493 (fun u res H1 locs1 hrv hpo L1 => ?_)
    refine W.widen (k := cells + 8) (n := slots + 64) (Nat.add_le_add_left (Nat.le_of_ble_eq_true rfl) _) (Nat.add_le_add_left (Nat.le_of_ble_eq_true rfl) _) ?_
    obtain ⟨fs', I1⟩ := lw_Iqq hLP I hpo.1 (by decide +kernel) (by decide +kernel) (by decide +kernel) (by decide +kernel) (lw_Io I hpo.1 (by decide +kernel)) (lw_Id I hpo.1 (by decide +kernel))
    exact k _ _ _ _ _ _ _ _ hrv I1 L1
  · skip
    obtain ⟨x16, f16, l16, u16⟩ := I.hs.2.2.1 (16, 1, 9) (by decide)
    have l16 : (1 : Int) ≤ x16.toInt := l16
    have u16 : x16.toInt ≤ (9 : Int) := u16
    obtain ⟨x20, f20, l20, u20⟩ := I.hs.2.2.1 (20, 115, 115) (by decide)
    have l20 : (115 : Int) ≤ x20.toInt := l20
    have u20 : x20.toInt ≤ (115 : Int) := u20
    obtain ⟨x22, f22, l22, u22⟩ := I.hs.2.2.1 (22, 1, 1) (by decide)
    have l22 : (1 : Int) ≤ x22.toInt := l22
    have u22 : x22.toInt ≤ (1 : Int) := u22
    obtain ⟨⟨x25, y16, f25, f16n, hlt⟩, -, -⟩ := I.hs.2.2.2.2 (by decide)
    have e16 : y16 = x16 := Value.int.inj (Option.some.inj (f16n.symm.trans f16))
    rw [e16] at hlt
    have l25 : (0 : Int) ≤ x25.toInt := by obtain ⟨z9, z1, z2, z3⟩ := I.hs.2.2.1 (25, 0, 8) (by decide); rw [Value.int.inj (Option.some.inj (f25.symm.trans z1))]; exact z2
    have b22 := I.hs.2.2.1 (22, 1, 1) (by decide)
    have b21 := I.hs.2.2.1 (21, 1, 1) (by decide)
    have b20 := I.hs.2.2.1 (20, 115, 115) (by decide)
    obtain h16 | h16 | h16 | h16 | h16 | h16 | h16 | h16 | h16 := lw_k16 l16 u16
    · have l16 : (1 : Int) ≤ x16.toInt := by omega
      have u16 : x16.toInt ≤ (1 : Int) := by omega
      have u25 : x25.toInt ≤ (0 : Int) := by omega
      have b16 : lw_b fs (16, 1, 1) := ⟨x16, f16, l16, u16⟩
      refine lw_mc (lv' := 2) (ρp := [.ref (sh.2 0), .int x16, .int x20, .int x22, .int x25]) (As := []) F L (ct_X7_nextHole_1p hl9 (cx := cx) (cy := cy)) gm_X7_nextHole I.hs.2.1 rfl rfl (Nat.le_of_ble_eq_true rfl) (by decide) ⟨Nat.le_trans (Nat.add_le_add_left (Nat.le_of_ble_eq_true rfl) _) hcs.1, Nat.le_trans (Nat.add_le_add_left (Nat.le_of_ble_eq_true rfl) _) hcs.2⟩ hls rfl (lw_tk (lw_plain I.hs.1) (by decide)) (I.hO cx cy) (lw_pa (env := k_X7_nextHole_1p.2.1.1) (fa := k_X7_nextHole_1p.2.1.2) ⟨⟨0, I.h20, rfl⟩, ⟨x16, rfl, l16, u16⟩, ⟨x20, rfl, l20, u20⟩, ⟨x22, rfl, l22, u22⟩, ⟨x25, rfl, l25, u25⟩, trivial⟩ (en_ac (lw_f0 I.hs.2.1 rfl f16 rfl) (en_ac (lw_f0 I.hs.2.1 rfl f20 rfl) (en_ac (lw_f0 I.hs.2.1 rfl f22 rfl) (en_ac (lw_f0 I.hs.2.1 rfl f25 rfl) (en_ac (⟨I.had, I.hs.2.2.2.1⟩) (en_ac (⟨I.had, lw_O2 I (by decide)⟩) (en_an)))))))) dlw_1493 (fun u res H1 locs1 hrv hpo L1 => ?_)
      refine W.widen (k := cells + 8) (n := slots + 64) (Nat.add_le_add_left (Nat.le_of_ble_eq_true rfl) _) (Nat.add_le_add_left (Nat.le_of_ble_eq_true rfl) _) ?_
      obtain ⟨hpx, o9, ho9, ρ9, hPa9, hi9, -⟩ := hpo
      obtain ⟨fs', g1, g2⟩ := lw_fs I.h20 I.hs.2.1 hpx
      have h09 : ρ9[0]? = some (.ref (u.1.2 0)) := by rw [hi9 0 (show 0 < 1 by decide), (hpx.1.at I.h20).2]; rfl
      have hWu := lw_wd (lw_plain I.hs.1) hpx (fun z hz => Or.inl ((by decide +kernel : ∀ z ∈ k_X7_nextHole_1p.2.2.2.1, z.1 ∈ k_X7_nextHole_1p.2.2.2.2.1) z hz)) (fun _ => Or.inl rfl)
      rcases List.mem_cons.mp ho9 with ho8 | ho9
      · subst ho8
        have hB9 : ∀ b ∈ lw_B 3, lw_b fs' b := en_ac (lw_hb_ok (b := (22, 1, 1)) (by decide +kernel) L1.hD g1 h09 hPa9) (en_ac (lw_bk b21 (g2 21 (by decide +kernel)) (by decide) (by decide)) (en_ac (lw_bk b20 (g2 20 (by decide +kernel)) (by decide) (by decide)) (en_ac (lw_bk b16 (g2 16 (by decide +kernel)) (by decide) (by decide)) (en_ac (lw_hb_ok (b := (25, 0, 8)) (by decide +kernel) L1.hD g1 h09 hPa9) en_an))))
        have hO1 : en_O1 u.2 := (hPa9.2.2 (5, 1, 0, 0, 0, 0) (by decide +kernel)).2
        have hO2 : en_O2 u.2 := (hPa9.2.2 (5, 2, 0, 0, 0, 0) (by decide +kernel)).2
        have hhn := lw_hh (fs := fs') (lo := 0) (hi := 0) (lo' := 1) (hi' := 1) (lw_hb_ok (by decide +kernel) L1.hD g1 h09 hPa9) (lw_bk b16 (g2 16 (by decide +kernel)) (Int.le_refl _) (Int.le_refl _)) (by decide)
        obtain ⟨cx9, cy9, hS9⟩ := lw_on2 (st := 3) (fun q hq => I.h27 q (lw_new hpx.1 (by decide) hq)) g1 hWu hO1 hO2 (by decide) hB9 hhn
        exact k _ _ _ _ _ _ _ _ hrv (lw_Iq hLP I hpx (by decide +kernel) g1 (by decide) (lw_Io I hpx (by decide +kernel)) (lw_Id I hpx (by decide +kernel)) hS9) L1
      have ho7 := List.mem_singleton.mp ho9
      subst ho7
      have hB9 : ∀ b ∈ lw_B 1, lw_b fs' b := en_ac (lw_hb_ok (b := (22, 0, 0)) (by decide +kernel) L1.hD g1 h09 hPa9) (en_ac (lw_bk b21 (g2 21 (by decide +kernel)) (by decide) (by decide)) (en_ac (lw_bk b20 (g2 20 (by decide +kernel)) (by decide) (by decide)) (en_ac (lw_hb_ok (b := (16, 1, 9)) (by decide +kernel) L1.hD g1 h09 hPa9) en_an)))
      have hO1 : en_O1 u.2 := (hPa9.2.2 (5, 1, 0, 0, 0, 0) (by decide +kernel)).2
      have hS9 := lw_off2 (st := 1) g1 hWu hO1 (by decide) hB9
      exact k _ _ _ _ _ _ _ _ hrv (lw_Iq hLP I hpx (by decide +kernel) g1 (by decide) (lw_Io I hpx (by decide +kernel)) (lw_Id I hpx (by decide +kernel)) hS9) L1
    · have l16 : (2 : Int) ≤ x16.toInt := by omega
      have u16 : x16.toInt ≤ (2 : Int) := by omega
      have u25 : x25.toInt ≤ (1 : Int) := by omega
      have b16 : lw_b fs (16, 2, 2) := ⟨x16, f16, l16, u16⟩
      refine lw_mc (lv' := 2) (ρp := [.ref (sh.2 0), .int x16, .int x20, .int x22, .int x25]) (As := []) F L (ct_X7_nextHole_3p hl9 (cx := cx) (cy := cy)) gm_X7_nextHole I.hs.2.1 rfl rfl (Nat.le_of_ble_eq_true rfl) (by decide) ⟨Nat.le_trans (Nat.add_le_add_left (Nat.le_of_ble_eq_true rfl) _) hcs.1, Nat.le_trans (Nat.add_le_add_left (Nat.le_of_ble_eq_true rfl) _) hcs.2⟩ hls rfl (lw_tk (lw_plain I.hs.1) (by decide)) (I.hO cx cy) (lw_pa (env := k_X7_nextHole_3p.2.1.1) (fa := k_X7_nextHole_3p.2.1.2) ⟨⟨0, I.h20, rfl⟩, ⟨x16, rfl, l16, u16⟩, ⟨x20, rfl, l20, u20⟩, ⟨x22, rfl, l22, u22⟩, ⟨x25, rfl, l25, u25⟩, trivial⟩ (en_ac (lw_f0 I.hs.2.1 rfl f16 rfl) (en_ac (lw_f0 I.hs.2.1 rfl f20 rfl) (en_ac (lw_f0 I.hs.2.1 rfl f22 rfl) (en_ac (lw_f0 I.hs.2.1 rfl f25 rfl) (en_ac (⟨I.had, I.hs.2.2.2.1⟩) (en_ac (⟨I.had, lw_O2 I (by decide)⟩) (en_an)))))))) dlw_1493 (fun u res H1 locs1 hrv hpo L1 => ?_)
      refine W.widen (k := cells + 8) (n := slots + 64) (Nat.add_le_add_left (Nat.le_of_ble_eq_true rfl) _) (Nat.add_le_add_left (Nat.le_of_ble_eq_true rfl) _) ?_
      obtain ⟨hpx, o9, ho9, ρ9, hPa9, hi9, -⟩ := hpo
      obtain ⟨fs', g1, g2⟩ := lw_fs I.h20 I.hs.2.1 hpx
      have h09 : ρ9[0]? = some (.ref (u.1.2 0)) := by rw [hi9 0 (show 0 < 1 by decide), (hpx.1.at I.h20).2]; rfl
      have hWu := lw_wd (lw_plain I.hs.1) hpx (fun z hz => Or.inl ((by decide +kernel : ∀ z ∈ k_X7_nextHole_3p.2.2.2.1, z.1 ∈ k_X7_nextHole_3p.2.2.2.2.1) z hz)) (fun _ => Or.inl rfl)
      rcases List.mem_cons.mp ho9 with ho8 | ho9
      · subst ho8
        have hB9 : ∀ b ∈ lw_B 3, lw_b fs' b := en_ac (lw_hb_ok (b := (22, 1, 1)) (by decide +kernel) L1.hD g1 h09 hPa9) (en_ac (lw_bk b21 (g2 21 (by decide +kernel)) (by decide) (by decide)) (en_ac (lw_bk b20 (g2 20 (by decide +kernel)) (by decide) (by decide)) (en_ac (lw_bk b16 (g2 16 (by decide +kernel)) (by decide) (by decide)) (en_ac (lw_hb_ok (b := (25, 0, 8)) (by decide +kernel) L1.hD g1 h09 hPa9) en_an))))
        have hO1 : en_O1 u.2 := (hPa9.2.2 (5, 1, 0, 0, 0, 0) (by decide +kernel)).2
        have hO2 : en_O2 u.2 := (hPa9.2.2 (5, 2, 0, 0, 0, 0) (by decide +kernel)).2
        have hhn := lw_hh (fs := fs') (lo := 0) (hi := 1) (lo' := 2) (hi' := 2) (lw_hb_ok (by decide +kernel) L1.hD g1 h09 hPa9) (lw_bk b16 (g2 16 (by decide +kernel)) (Int.le_refl _) (Int.le_refl _)) (by decide)
        obtain ⟨cx9, cy9, hS9⟩ := lw_on2 (st := 3) (fun q hq => I.h27 q (lw_new hpx.1 (by decide) hq)) g1 hWu hO1 hO2 (by decide) hB9 hhn
        exact k _ _ _ _ _ _ _ _ hrv (lw_Iq hLP I hpx (by decide +kernel) g1 (by decide) (lw_Io I hpx (by decide +kernel)) (lw_Id I hpx (by decide +kernel)) hS9) L1
      rcases List.mem_cons.mp ho9 with ho8 | ho9
      · subst ho8
        have hB9 : ∀ b ∈ lw_B 3, lw_b fs' b := en_ac (lw_hb_ok (b := (22, 1, 1)) (by decide +kernel) L1.hD g1 h09 hPa9) (en_ac (lw_bk b21 (g2 21 (by decide +kernel)) (by decide) (by decide)) (en_ac (lw_bk b20 (g2 20 (by decide +kernel)) (by decide) (by decide)) (en_ac (lw_bk b16 (g2 16 (by decide +kernel)) (by decide) (by decide)) (en_ac (lw_hb_ok (b := (25, 0, 8)) (by decide +kernel) L1.hD g1 h09 hPa9) en_an))))
        have hO1 : en_O1 u.2 := (hPa9.2.2 (5, 1, 0, 0, 0, 0) (by decide +kernel)).2
        have hO2 : en_O2 u.2 := (hPa9.2.2 (5, 2, 0, 0, 0, 0) (by decide +kernel)).2
        have hhn := lw_hh (fs := fs') (lo := 1) (hi := 1) (lo' := 2) (hi' := 2) (lw_hb_ok (by decide +kernel) L1.hD g1 h09 hPa9) (lw_bk b16 (g2 16 (by decide +kernel)) (Int.le_refl _) (Int.le_refl _)) (by decide)
        obtain ⟨cx9, cy9, hS9⟩ := lw_on2 (st := 3) (fun q hq => I.h27 q (lw_new hpx.1 (by decide) hq)) g1 hWu hO1 hO2 (by decide) hB9 hhn
        exact k _ _ _ _ _ _ _ _ hrv (lw_Iq hLP I hpx (by decide +kernel) g1 (by decide) (lw_Io I hpx (by decide +kernel)) (lw_Id I hpx (by decide +kernel)) hS9) L1
      have ho7 := List.mem_singleton.mp ho9
      subst ho7
      have hB9 : ∀ b ∈ lw_B 1, lw_b fs' b := en_ac (lw_hb_ok (b := (22, 0, 0)) (by decide +kernel) L1.hD g1 h09 hPa9) (en_ac (lw_bk b21 (g2 21 (by decide +kernel)) (by decide) (by decide)) (en_ac (lw_bk b20 (g2 20 (by decide +kernel)) (by decide) (by decide)) (en_ac (lw_hb_ok (b := (16, 1, 9)) (by decide +kernel) L1.hD g1 h09 hPa9) en_an)))
      have hO1 : en_O1 u.2 := (hPa9.2.2 (5, 1, 0, 0, 0, 0) (by decide +kernel)).2
      have hS9 := lw_off2 (st := 1) g1 hWu hO1 (by decide) hB9
      exact k _ _ _ _ _ _ _ _ hrv (lw_Iq hLP I hpx (by decide +kernel) g1 (by decide) (lw_Io I hpx (by decide +kernel)) (lw_Id I hpx (by decide +kernel)) hS9) L1
    · have l16 : (3 : Int) ≤ x16.toInt := by omega
      have u16 : x16.toInt ≤ (3 : Int) := by omega
      have u25 : x25.toInt ≤ (2 : Int) := by omega
      have b16 : lw_b fs (16, 3, 3) := ⟨x16, f16, l16, u16⟩
      refine lw_mc (lv' := 2) (ρp := [.ref (sh.2 0), .int x16, .int x20, .int x22, .int x25]) (As := []) F L (ct_X7_nextHole_5p hl9 (cx := cx) (cy := cy)) gm_X7_nextHole I.hs.2.1 rfl rfl (Nat.le_of_ble_eq_true rfl) (by decide) ⟨Nat.le_trans (Nat.add_le_add_left (Nat.le_of_ble_eq_true rfl) _) hcs.1, Nat.le_trans (Nat.add_le_add_left (Nat.le_of_ble_eq_true rfl) _) hcs.2⟩ hls rfl (lw_tk (lw_plain I.hs.1) (by decide)) (I.hO cx cy) (lw_pa (env := k_X7_nextHole_5p.2.1.1) (fa := k_X7_nextHole_5p.2.1.2) ⟨⟨0, I.h20, rfl⟩, ⟨x16, rfl, l16, u16⟩, ⟨x20, rfl, l20, u20⟩, ⟨x22, rfl, l22, u22⟩, ⟨x25, rfl, l25, u25⟩, trivial⟩ (en_ac (lw_f0 I.hs.2.1 rfl f16 rfl) (en_ac (lw_f0 I.hs.2.1 rfl f20 rfl) (en_ac (lw_f0 I.hs.2.1 rfl f22 rfl) (en_ac (lw_f0 I.hs.2.1 rfl f25 rfl) (en_ac (⟨I.had, I.hs.2.2.2.1⟩) (en_ac (⟨I.had, lw_O2 I (by decide)⟩) (en_an)))))))) dlw_1493 (fun u res H1 locs1 hrv hpo L1 => ?_)
      refine W.widen (k := cells + 8) (n := slots + 64) (Nat.add_le_add_left (Nat.le_of_ble_eq_true rfl) _) (Nat.add_le_add_left (Nat.le_of_ble_eq_true rfl) _) ?_
      obtain ⟨hpx, o9, ho9, ρ9, hPa9, hi9, -⟩ := hpo
      obtain ⟨fs', g1, g2⟩ := lw_fs I.h20 I.hs.2.1 hpx
      have h09 : ρ9[0]? = some (.ref (u.1.2 0)) := by rw [hi9 0 (show 0 < 1 by decide), (hpx.1.at I.h20).2]; rfl
      have hWu := lw_wd (lw_plain I.hs.1) hpx (fun z hz => Or.inl ((by decide +kernel : ∀ z ∈ k_X7_nextHole_5p.2.2.2.1, z.1 ∈ k_X7_nextHole_5p.2.2.2.2.1) z hz)) (fun _ => Or.inl rfl)
      rcases List.mem_cons.mp ho9 with ho8 | ho9
      · subst ho8
        have hB9 : ∀ b ∈ lw_B 1, lw_b fs' b := en_ac (lw_hb_ok (b := (22, 0, 0)) (by decide +kernel) L1.hD g1 h09 hPa9) (en_ac (lw_bk b21 (g2 21 (by decide +kernel)) (by decide) (by decide)) (en_ac (lw_bk b20 (g2 20 (by decide +kernel)) (by decide) (by decide)) (en_ac (lw_hb_ok (b := (16, 1, 9)) (by decide +kernel) L1.hD g1 h09 hPa9) en_an)))
        have hO1 : en_O1 u.2 := (hPa9.2.2 (5, 1, 0, 0, 0, 0) (by decide +kernel)).2
        have hS9 := lw_off2 (st := 1) g1 hWu hO1 (by decide) hB9
        exact k _ _ _ _ _ _ _ _ hrv (lw_Iq hLP I hpx (by decide +kernel) g1 (by decide) (lw_Io I hpx (by decide +kernel)) (lw_Id I hpx (by decide +kernel)) hS9) L1
      have ho7 := List.mem_singleton.mp ho9
      subst ho7
      have hB9 : ∀ b ∈ lw_B 3, lw_b fs' b := en_ac (lw_hb_ok (b := (22, 1, 1)) (by decide +kernel) L1.hD g1 h09 hPa9) (en_ac (lw_bk b21 (g2 21 (by decide +kernel)) (by decide) (by decide)) (en_ac (lw_bk b20 (g2 20 (by decide +kernel)) (by decide) (by decide)) (en_ac (lw_bk b16 (g2 16 (by decide +kernel)) (by decide) (by decide)) (en_ac (lw_hb_ok (b := (25, 0, 8)) (by decide +kernel) L1.hD g1 h09 hPa9) en_an))))
      have hO1 : en_O1 u.2 := (hPa9.2.2 (5, 1, 0, 0, 0, 0) (by decide +kernel)).2
      have hO2 : en_O2 u.2 := (hPa9.2.2 (5, 2, 0, 0, 0, 0) (by decide +kernel)).2
      have hhn := lw_hh (fs := fs') (lo := 0) (hi := 2) (lo' := 3) (hi' := 3) (lw_hb_ok (by decide +kernel) L1.hD g1 h09 hPa9) (lw_bk b16 (g2 16 (by decide +kernel)) (Int.le_refl _) (Int.le_refl _)) (by decide)
      obtain ⟨cx9, cy9, hS9⟩ := lw_on2 (st := 3) (fun q hq => I.h27 q (lw_new hpx.1 (by decide) hq)) g1 hWu hO1 hO2 (by decide) hB9 hhn
      exact k _ _ _ _ _ _ _ _ hrv (lw_Iq hLP I hpx (by decide +kernel) g1 (by decide) (lw_Io I hpx (by decide +kernel)) (lw_Id I hpx (by decide +kernel)) hS9) L1
    · have l16 : (4 : Int) ≤ x16.toInt := by omega
      have u16 : x16.toInt ≤ (4 : Int) := by omega
      have u25 : x25.toInt ≤ (3 : Int) := by omega
      have b16 : lw_b fs (16, 4, 4) := ⟨x16, f16, l16, u16⟩
      refine lw_mc (lv' := 2) (ρp := [.ref (sh.2 0), .int x16, .int x20, .int x22, .int x25]) (As := []) F L (ct_X7_nextHole_7p hl9 (cx := cx) (cy := cy)) gm_X7_nextHole I.hs.2.1 rfl rfl (Nat.le_of_ble_eq_true rfl) (by decide) ⟨Nat.le_trans (Nat.add_le_add_left (Nat.le_of_ble_eq_true rfl) _) hcs.1, Nat.le_trans (Nat.add_le_add_left (Nat.le_of_ble_eq_true rfl) _) hcs.2⟩ hls rfl (lw_tk (lw_plain I.hs.1) (by decide)) (I.hO cx cy) (lw_pa (env := k_X7_nextHole_7p.2.1.1) (fa := k_X7_nextHole_7p.2.1.2) ⟨⟨0, I.h20, rfl⟩, ⟨x16, rfl, l16, u16⟩, ⟨x20, rfl, l20, u20⟩, ⟨x22, rfl, l22, u22⟩, ⟨x25, rfl, l25, u25⟩, trivial⟩ (en_ac (lw_f0 I.hs.2.1 rfl f16 rfl) (en_ac (lw_f0 I.hs.2.1 rfl f20 rfl) (en_ac (lw_f0 I.hs.2.1 rfl f22 rfl) (en_ac (lw_f0 I.hs.2.1 rfl f25 rfl) (en_ac (⟨I.had, I.hs.2.2.2.1⟩) (en_ac (⟨I.had, lw_O2 I (by decide)⟩) (en_an)))))))) dlw_1493 (fun u res H1 locs1 hrv hpo L1 => ?_)
      refine W.widen (k := cells + 8) (n := slots + 64) (Nat.add_le_add_left (Nat.le_of_ble_eq_true rfl) _) (Nat.add_le_add_left (Nat.le_of_ble_eq_true rfl) _) ?_
      obtain ⟨hpx, o9, ho9, ρ9, hPa9, hi9, -⟩ := hpo
      obtain ⟨fs', g1, g2⟩ := lw_fs I.h20 I.hs.2.1 hpx
      have h09 : ρ9[0]? = some (.ref (u.1.2 0)) := by rw [hi9 0 (show 0 < 1 by decide), (hpx.1.at I.h20).2]; rfl
      have hWu := lw_wd (lw_plain I.hs.1) hpx (fun z hz => Or.inl ((by decide +kernel : ∀ z ∈ k_X7_nextHole_7p.2.2.2.1, z.1 ∈ k_X7_nextHole_7p.2.2.2.2.1) z hz)) (fun _ => Or.inl rfl)
      rcases List.mem_cons.mp ho9 with ho8 | ho9
      · subst ho8
        have hB9 : ∀ b ∈ lw_B 1, lw_b fs' b := en_ac (lw_hb_ok (b := (22, 0, 0)) (by decide +kernel) L1.hD g1 h09 hPa9) (en_ac (lw_bk b21 (g2 21 (by decide +kernel)) (by decide) (by decide)) (en_ac (lw_bk b20 (g2 20 (by decide +kernel)) (by decide) (by decide)) (en_ac (lw_hb_ok (b := (16, 1, 9)) (by decide +kernel) L1.hD g1 h09 hPa9) en_an)))
        have hO1 : en_O1 u.2 := (hPa9.2.2 (5, 1, 0, 0, 0, 0) (by decide +kernel)).2
        have hS9 := lw_off2 (st := 1) g1 hWu hO1 (by decide) hB9
        exact k _ _ _ _ _ _ _ _ hrv (lw_Iq hLP I hpx (by decide +kernel) g1 (by decide) (lw_Io I hpx (by decide +kernel)) (lw_Id I hpx (by decide +kernel)) hS9) L1
      have ho7 := List.mem_singleton.mp ho9
      subst ho7
      have hB9 : ∀ b ∈ lw_B 3, lw_b fs' b := en_ac (lw_hb_ok (b := (22, 1, 1)) (by decide +kernel) L1.hD g1 h09 hPa9) (en_ac (lw_bk b21 (g2 21 (by decide +kernel)) (by decide) (by decide)) (en_ac (lw_bk b20 (g2 20 (by decide +kernel)) (by decide) (by decide)) (en_ac (lw_bk b16 (g2 16 (by decide +kernel)) (by decide) (by decide)) (en_ac (lw_hb_ok (b := (25, 0, 8)) (by decide +kernel) L1.hD g1 h09 hPa9) en_an))))
      have hO1 : en_O1 u.2 := (hPa9.2.2 (5, 1, 0, 0, 0, 0) (by decide +kernel)).2
      have hO2 : en_O2 u.2 := (hPa9.2.2 (5, 2, 0, 0, 0, 0) (by decide +kernel)).2
      have hhn := lw_hh (fs := fs') (lo := 0) (hi := 3) (lo' := 4) (hi' := 4) (lw_hb_ok (by decide +kernel) L1.hD g1 h09 hPa9) (lw_bk b16 (g2 16 (by decide +kernel)) (Int.le_refl _) (Int.le_refl _)) (by decide)
      obtain ⟨cx9, cy9, hS9⟩ := lw_on2 (st := 3) (fun q hq => I.h27 q (lw_new hpx.1 (by decide) hq)) g1 hWu hO1 hO2 (by decide) hB9 hhn
      exact k _ _ _ _ _ _ _ _ hrv (lw_Iq hLP I hpx (by decide +kernel) g1 (by decide) (lw_Io I hpx (by decide +kernel)) (lw_Id I hpx (by decide +kernel)) hS9) L1
    · have l16 : (5 : Int) ≤ x16.toInt := by omega
      have u16 : x16.toInt ≤ (5 : Int) := by omega
      have u25 : x25.toInt ≤ (4 : Int) := by omega
      have b16 : lw_b fs (16, 5, 5) := ⟨x16, f16, l16, u16⟩
      refine lw_mc (lv' := 2) (ρp := [.ref (sh.2 0), .int x16, .int x20, .int x22, .int x25]) (As := []) F L (ct_X7_nextHole_9p hl9 (cx := cx) (cy := cy)) gm_X7_nextHole I.hs.2.1 rfl rfl (Nat.le_of_ble_eq_true rfl) (by decide) ⟨Nat.le_trans (Nat.add_le_add_left (Nat.le_of_ble_eq_true rfl) _) hcs.1, Nat.le_trans (Nat.add_le_add_left (Nat.le_of_ble_eq_true rfl) _) hcs.2⟩ hls rfl (lw_tk (lw_plain I.hs.1) (by decide)) (I.hO cx cy) (lw_pa (env := k_X7_nextHole_9p.2.1.1) (fa := k_X7_nextHole_9p.2.1.2) ⟨⟨0, I.h20, rfl⟩, ⟨x16, rfl, l16, u16⟩, ⟨x20, rfl, l20, u20⟩, ⟨x22, rfl, l22, u22⟩, ⟨x25, rfl, l25, u25⟩, trivial⟩ (en_ac (lw_f0 I.hs.2.1 rfl f16 rfl) (en_ac (lw_f0 I.hs.2.1 rfl f20 rfl) (en_ac (lw_f0 I.hs.2.1 rfl f22 rfl) (en_ac (lw_f0 I.hs.2.1 rfl f25 rfl) (en_ac (⟨I.had, I.hs.2.2.2.1⟩) (en_ac (⟨I.had, lw_O2 I (by decide)⟩) (en_an)))))))) dlw_1493 (fun u res H1 locs1 hrv hpo L1 => ?_)
      refine W.widen (k := cells + 8) (n := slots + 64) (Nat.add_le_add_left (Nat.le_of_ble_eq_true rfl) _) (Nat.add_le_add_left (Nat.le_of_ble_eq_true rfl) _) ?_
      obtain ⟨hpx, o9, ho9, ρ9, hPa9, hi9, -⟩ := hpo
      obtain ⟨fs', g1, g2⟩ := lw_fs I.h20 I.hs.2.1 hpx
      have h09 : ρ9[0]? = some (.ref (u.1.2 0)) := by rw [hi9 0 (show 0 < 1 by decide), (hpx.1.at I.h20).2]; rfl
      have hWu := lw_wd (lw_plain I.hs.1) hpx (fun z hz => Or.inl ((by decide +kernel : ∀ z ∈ k_X7_nextHole_9p.2.2.2.1, z.1 ∈ k_X7_nextHole_9p.2.2.2.2.1) z hz)) (fun _ => Or.inl rfl)
      rcases List.mem_cons.mp ho9 with ho8 | ho9
      · subst ho8
        have hB9 : ∀ b ∈ lw_B 1, lw_b fs' b := en_ac (lw_hb_ok (b := (22, 0, 0)) (by decide +kernel) L1.hD g1 h09 hPa9) (en_ac (lw_bk b21 (g2 21 (by decide +kernel)) (by decide) (by decide)) (en_ac (lw_bk b20 (g2 20 (by decide +kernel)) (by decide) (by decide)) (en_ac (lw_hb_ok (b := (16, 1, 9)) (by decide +kernel) L1.hD g1 h09 hPa9) en_an)))
        have hO1 : en_O1 u.2 := (hPa9.2.2 (5, 1, 0, 0, 0, 0) (by decide +kernel)).2
        have hS9 := lw_off2 (st := 1) g1 hWu hO1 (by decide) hB9
        exact k _ _ _ _ _ _ _ _ hrv (lw_Iq hLP I hpx (by decide +kernel) g1 (by decide) (lw_Io I hpx (by decide +kernel)) (lw_Id I hpx (by decide +kernel)) hS9) L1
      have ho7 := List.mem_singleton.mp ho9
      subst ho7
      have hB9 : ∀ b ∈ lw_B 3, lw_b fs' b := en_ac (lw_hb_ok (b := (22, 1, 1)) (by decide +kernel) L1.hD g1 h09 hPa9) (en_ac (lw_bk b21 (g2 21 (by decide +kernel)) (by decide) (by decide)) (en_ac (lw_bk b20 (g2 20 (by decide +kernel)) (by decide) (by decide)) (en_ac (lw_bk b16 (g2 16 (by decide +kernel)) (by decide) (by decide)) (en_ac (lw_hb_ok (b := (25, 0, 8)) (by decide +kernel) L1.hD g1 h09 hPa9) en_an))))
      have hO1 : en_O1 u.2 := (hPa9.2.2 (5, 1, 0, 0, 0, 0) (by decide +kernel)).2
      have hO2 : en_O2 u.2 := (hPa9.2.2 (5, 2, 0, 0, 0, 0) (by decide +kernel)).2
      have hhn := lw_hh (fs := fs') (lo := 0) (hi := 4) (lo' := 5) (hi' := 5) (lw_hb_ok (by decide +kernel) L1.hD g1 h09 hPa9) (lw_bk b16 (g2 16 (by decide +kernel)) (Int.le_refl _) (Int.le_refl _)) (by decide)
      obtain ⟨cx9, cy9, hS9⟩ := lw_on2 (st := 3) (fun q hq => I.h27 q (lw_new hpx.1 (by decide) hq)) g1 hWu hO1 hO2 (by decide) hB9 hhn
      exact k _ _ _ _ _ _ _ _ hrv (lw_Iq hLP I hpx (by decide +kernel) g1 (by decide) (lw_Io I hpx (by decide +kernel)) (lw_Id I hpx (by decide +kernel)) hS9) L1
    · have l16 : (6 : Int) ≤ x16.toInt := by omega
      have u16 : x16.toInt ≤ (6 : Int) := by omega
      have u25 : x25.toInt ≤ (5 : Int) := by omega
      have b16 : lw_b fs (16, 6, 6) := ⟨x16, f16, l16, u16⟩
      refine lw_mc (lv' := 2) (ρp := [.ref (sh.2 0), .int x16, .int x20, .int x22, .int x25]) (As := []) F L (ct_X7_nextHole_11p hl9 (cx := cx) (cy := cy)) gm_X7_nextHole I.hs.2.1 rfl rfl (Nat.le_of_ble_eq_true rfl) (by decide) ⟨Nat.le_trans (Nat.add_le_add_left (Nat.le_of_ble_eq_true rfl) _) hcs.1, Nat.le_trans (Nat.add_le_add_left (Nat.le_of_ble_eq_true rfl) _) hcs.2⟩ hls rfl (lw_tk (lw_plain I.hs.1) (by decide)) (I.hO cx cy) (lw_pa (env := k_X7_nextHole_11p.2.1.1) (fa := k_X7_nextHole_11p.2.1.2) ⟨⟨0, I.h20, rfl⟩, ⟨x16, rfl, l16, u16⟩, ⟨x20, rfl, l20, u20⟩, ⟨x22, rfl, l22, u22⟩, ⟨x25, rfl, l25, u25⟩, trivial⟩ (en_ac (lw_f0 I.hs.2.1 rfl f16 rfl) (en_ac (lw_f0 I.hs.2.1 rfl f20 rfl) (en_ac (lw_f0 I.hs.2.1 rfl f22 rfl) (en_ac (lw_f0 I.hs.2.1 rfl f25 rfl) (en_ac (⟨I.had, I.hs.2.2.2.1⟩) (en_ac (⟨I.had, lw_O2 I (by decide)⟩) (en_an)))))))) dlw_1493 (fun u res H1 locs1 hrv hpo L1 => ?_)
      refine W.widen (k := cells + 8) (n := slots + 64) (Nat.add_le_add_left (Nat.le_of_ble_eq_true rfl) _) (Nat.add_le_add_left (Nat.le_of_ble_eq_true rfl) _) ?_
      obtain ⟨hpx, o9, ho9, ρ9, hPa9, hi9, -⟩ := hpo
      obtain ⟨fs', g1, g2⟩ := lw_fs I.h20 I.hs.2.1 hpx
      have h09 : ρ9[0]? = some (.ref (u.1.2 0)) := by rw [hi9 0 (show 0 < 1 by decide), (hpx.1.at I.h20).2]; rfl
      have hWu := lw_wd (lw_plain I.hs.1) hpx (fun z hz => Or.inl ((by decide +kernel : ∀ z ∈ k_X7_nextHole_11p.2.2.2.1, z.1 ∈ k_X7_nextHole_11p.2.2.2.2.1) z hz)) (fun _ => Or.inl rfl)
      rcases List.mem_cons.mp ho9 with ho8 | ho9
      · subst ho8
        have hB9 : ∀ b ∈ lw_B 1, lw_b fs' b := en_ac (lw_hb_ok (b := (22, 0, 0)) (by decide +kernel) L1.hD g1 h09 hPa9) (en_ac (lw_bk b21 (g2 21 (by decide +kernel)) (by decide) (by decide)) (en_ac (lw_bk b20 (g2 20 (by decide +kernel)) (by decide) (by decide)) (en_ac (lw_hb_ok (b := (16, 1, 9)) (by decide +kernel) L1.hD g1 h09 hPa9) en_an)))
        have hO1 : en_O1 u.2 := (hPa9.2.2 (5, 1, 0, 0, 0, 0) (by decide +kernel)).2
        have hS9 := lw_off2 (st := 1) g1 hWu hO1 (by decide) hB9
        exact k _ _ _ _ _ _ _ _ hrv (lw_Iq hLP I hpx (by decide +kernel) g1 (by decide) (lw_Io I hpx (by decide +kernel)) (lw_Id I hpx (by decide +kernel)) hS9) L1
      have ho7 := List.mem_singleton.mp ho9
      subst ho7
      have hB9 : ∀ b ∈ lw_B 3, lw_b fs' b := en_ac (lw_hb_ok (b := (22, 1, 1)) (by decide +kernel) L1.hD g1 h09 hPa9) (en_ac (lw_bk b21 (g2 21 (by decide +kernel)) (by decide) (by decide)) (en_ac (lw_bk b20 (g2 20 (by decide +kernel)) (by decide) (by decide)) (en_ac (lw_bk b16 (g2 16 (by decide +kernel)) (by decide) (by decide)) (en_ac (lw_hb_ok (b := (25, 0, 8)) (by decide +kernel) L1.hD g1 h09 hPa9) en_an))))
      have hO1 : en_O1 u.2 := (hPa9.2.2 (5, 1, 0, 0, 0, 0) (by decide +kernel)).2
      have hO2 : en_O2 u.2 := (hPa9.2.2 (5, 2, 0, 0, 0, 0) (by decide +kernel)).2
      have hhn := lw_hh (fs := fs') (lo := 0) (hi := 5) (lo' := 6) (hi' := 6) (lw_hb_ok (by decide +kernel) L1.hD g1 h09 hPa9) (lw_bk b16 (g2 16 (by decide +kernel)) (Int.le_refl _) (Int.le_refl _)) (by decide)
      obtain ⟨cx9, cy9, hS9⟩ := lw_on2 (st := 3) (fun q hq => I.h27 q (lw_new hpx.1 (by decide) hq)) g1 hWu hO1 hO2 (by decide) hB9 hhn
      exact k _ _ _ _ _ _ _ _ hrv (lw_Iq hLP I hpx (by decide +kernel) g1 (by decide) (lw_Io I hpx (by decide +kernel)) (lw_Id I hpx (by decide +kernel)) hS9) L1
    · have l16 : (7 : Int) ≤ x16.toInt := by omega
      have u16 : x16.toInt ≤ (7 : Int) := by omega
      have u25 : x25.toInt ≤ (6 : Int) := by omega
      have b16 : lw_b fs (16, 7, 7) := ⟨x16, f16, l16, u16⟩
      refine lw_mc (lv' := 2) (ρp := [.ref (sh.2 0), .int x16, .int x20, .int x22, .int x25]) (As := []) F L (ct_X7_nextHole_13p hl9 (cx := cx) (cy := cy)) gm_X7_nextHole I.hs.2.1 rfl rfl (Nat.le_of_ble_eq_true rfl) (by decide) ⟨Nat.le_trans (Nat.add_le_add_left (Nat.le_of_ble_eq_true rfl) _) hcs.1, Nat.le_trans (Nat.add_le_add_left (Nat.le_of_ble_eq_true rfl) _) hcs.2⟩ hls rfl (lw_tk (lw_plain I.hs.1) (by decide)) (I.hO cx cy) (lw_pa (env := k_X7_nextHole_13p.2.1.1) (fa := k_X7_nextHole_13p.2.1.2) ⟨⟨0, I.h20, rfl⟩, ⟨x16, rfl, l16, u16⟩, ⟨x20, rfl, l20, u20⟩, ⟨x22, rfl, l22, u22⟩, ⟨x25, rfl, l25, u25⟩, trivial⟩ (en_ac (lw_f0 I.hs.2.1 rfl f16 rfl) (en_ac (lw_f0 I.hs.2.1 rfl f20 rfl) (en_ac (lw_f0 I.hs.2.1 rfl f22 rfl) (en_ac (lw_f0 I.hs.2.1 rfl f25 rfl) (en_ac (⟨I.had, I.hs.2.2.2.1⟩) (en_ac (⟨I.had, lw_O2 I (by decide)⟩) (en_an)))))))) dlw_1493 (fun u res H1 locs1 hrv hpo L1 => ?_)
      refine W.widen (k := cells + 8) (n := slots + 64) (Nat.add_le_add_left (Nat.le_of_ble_eq_true rfl) _) (Nat.add_le_add_left (Nat.le_of_ble_eq_true rfl) _) ?_
      obtain ⟨hpx, o9, ho9, ρ9, hPa9, hi9, -⟩ := hpo
      obtain ⟨fs', g1, g2⟩ := lw_fs I.h20 I.hs.2.1 hpx
      have h09 : ρ9[0]? = some (.ref (u.1.2 0)) := by rw [hi9 0 (show 0 < 1 by decide), (hpx.1.at I.h20).2]; rfl
      have hWu := lw_wd (lw_plain I.hs.1) hpx (fun z hz => Or.inl ((by decide +kernel : ∀ z ∈ k_X7_nextHole_13p.2.2.2.1, z.1 ∈ k_X7_nextHole_13p.2.2.2.2.1) z hz)) (fun _ => Or.inl rfl)
      rcases List.mem_cons.mp ho9 with ho8 | ho9
      · subst ho8
        have hB9 : ∀ b ∈ lw_B 1, lw_b fs' b := en_ac (lw_hb_ok (b := (22, 0, 0)) (by decide +kernel) L1.hD g1 h09 hPa9) (en_ac (lw_bk b21 (g2 21 (by decide +kernel)) (by decide) (by decide)) (en_ac (lw_bk b20 (g2 20 (by decide +kernel)) (by decide) (by decide)) (en_ac (lw_hb_ok (b := (16, 1, 9)) (by decide +kernel) L1.hD g1 h09 hPa9) en_an)))
        have hO1 : en_O1 u.2 := (hPa9.2.2 (5, 1, 0, 0, 0, 0) (by decide +kernel)).2
        have hS9 := lw_off2 (st := 1) g1 hWu hO1 (by decide) hB9
        exact k _ _ _ _ _ _ _ _ hrv (lw_Iq hLP I hpx (by decide +kernel) g1 (by decide) (lw_Io I hpx (by decide +kernel)) (lw_Id I hpx (by decide +kernel)) hS9) L1
      have ho7 := List.mem_singleton.mp ho9
      subst ho7
      have hB9 : ∀ b ∈ lw_B 3, lw_b fs' b := en_ac (lw_hb_ok (b := (22, 1, 1)) (by decide +kernel) L1.hD g1 h09 hPa9) (en_ac (lw_bk b21 (g2 21 (by decide +kernel)) (by decide) (by decide)) (en_ac (lw_bk b20 (g2 20 (by decide +kernel)) (by decide) (by decide)) (en_ac (lw_bk b16 (g2 16 (by decide +kernel)) (by decide) (by decide)) (en_ac (lw_hb_ok (b := (25, 0, 8)) (by decide +kernel) L1.hD g1 h09 hPa9) en_an))))
      have hO1 : en_O1 u.2 := (hPa9.2.2 (5, 1, 0, 0, 0, 0) (by decide +kernel)).2
      have hO2 : en_O2 u.2 := (hPa9.2.2 (5, 2, 0, 0, 0, 0) (by decide +kernel)).2
      have hhn := lw_hh (fs := fs') (lo := 0) (hi := 6) (lo' := 7) (hi' := 7) (lw_hb_ok (by decide +kernel) L1.hD g1 h09 hPa9) (lw_bk b16 (g2 16 (by decide +kernel)) (Int.le_refl _) (Int.le_refl _)) (by decide)
      obtain ⟨cx9, cy9, hS9⟩ := lw_on2 (st := 3) (fun q hq => I.h27 q (lw_new hpx.1 (by decide) hq)) g1 hWu hO1 hO2 (by decide) hB9 hhn
      exact k _ _ _ _ _ _ _ _ hrv (lw_Iq hLP I hpx (by decide +kernel) g1 (by decide) (lw_Io I hpx (by decide +kernel)) (lw_Id I hpx (by decide +kernel)) hS9) L1
    · have l16 : (8 : Int) ≤ x16.toInt := by omega
      have u16 : x16.toInt ≤ (8 : Int) := by omega
      have u25 : x25.toInt ≤ (7 : Int) := by omega
      have b16 : lw_b fs (16, 8, 8) := ⟨x16, f16, l16, u16⟩
      refine lw_mc (lv' := 2) (ρp := [.ref (sh.2 0), .int x16, .int x20, .int x22, .int x25]) (As := []) F L (ct_X7_nextHole_15p hl9 (cx := cx) (cy := cy)) gm_X7_nextHole I.hs.2.1 rfl rfl (Nat.le_of_ble_eq_true rfl) (by decide) ⟨Nat.le_trans (Nat.add_le_add_left (Nat.le_of_ble_eq_true rfl) _) hcs.1, Nat.le_trans (Nat.add_le_add_left (Nat.le_of_ble_eq_true rfl) _) hcs.2⟩ hls rfl (lw_tk (lw_plain I.hs.1) (by decide)) (I.hO cx cy) (lw_pa (env := k_X7_nextHole_15p.2.1.1) (fa := k_X7_nextHole_15p.2.1.2) ⟨⟨0, I.h20, rfl⟩, ⟨x16, rfl, l16, u16⟩, ⟨x20, rfl, l20, u20⟩, ⟨x22, rfl, l22, u22⟩, ⟨x25, rfl, l25, u25⟩, trivial⟩ (en_ac (lw_f0 I.hs.2.1 rfl f16 rfl) (en_ac (lw_f0 I.hs.2.1 rfl f20 rfl) (en_ac (lw_f0 I.hs.2.1 rfl f22 rfl) (en_ac (lw_f0 I.hs.2.1 rfl f25 rfl) (en_ac (⟨I.had, I.hs.2.2.2.1⟩) (en_ac (⟨I.had, lw_O2 I (by decide)⟩) (en_an)))))))) dlw_1493 (fun u res H1 locs1 hrv hpo L1 => ?_)
      refine W.widen (k := cells + 8) (n := slots + 64) (Nat.add_le_add_left (Nat.le_of_ble_eq_true rfl) _) (Nat.add_le_add_left (Nat.le_of_ble_eq_true rfl) _) ?_
      obtain ⟨hpx, o9, ho9, ρ9, hPa9, hi9, -⟩ := hpo
      obtain ⟨fs', g1, g2⟩ := lw_fs I.h20 I.hs.2.1 hpx
      have h09 : ρ9[0]? = some (.ref (u.1.2 0)) := by rw [hi9 0 (show 0 < 1 by decide), (hpx.1.at I.h20).2]; rfl
      have hWu := lw_wd (lw_plain I.hs.1) hpx (fun z hz => Or.inl ((by decide +kernel : ∀ z ∈ k_X7_nextHole_15p.2.2.2.1, z.1 ∈ k_X7_nextHole_15p.2.2.2.2.1) z hz)) (fun _ => Or.inl rfl)
      rcases List.mem_cons.mp ho9 with ho8 | ho9
      · subst ho8
        have hB9 : ∀ b ∈ lw_B 1, lw_b fs' b := en_ac (lw_hb_ok (b := (22, 0, 0)) (by decide +kernel) L1.hD g1 h09 hPa9) (en_ac (lw_bk b21 (g2 21 (by decide +kernel)) (by decide) (by decide)) (en_ac (lw_bk b20 (g2 20 (by decide +kernel)) (by decide) (by decide)) (en_ac (lw_hb_ok (b := (16, 1, 9)) (by decide +kernel) L1.hD g1 h09 hPa9) en_an)))
        have hO1 : en_O1 u.2 := (hPa9.2.2 (5, 1, 0, 0, 0, 0) (by decide +kernel)).2
        have hS9 := lw_off2 (st := 1) g1 hWu hO1 (by decide) hB9
        exact k _ _ _ _ _ _ _ _ hrv (lw_Iq hLP I hpx (by decide +kernel) g1 (by decide) (lw_Io I hpx (by decide +kernel)) (lw_Id I hpx (by decide +kernel)) hS9) L1
      have ho7 := List.mem_singleton.mp ho9
      subst ho7
      have hB9 : ∀ b ∈ lw_B 3, lw_b fs' b := en_ac (lw_hb_ok (b := (22, 1, 1)) (by decide +kernel) L1.hD g1 h09 hPa9) (en_ac (lw_bk b21 (g2 21 (by decide +kernel)) (by decide) (by decide)) (en_ac (lw_bk b20 (g2 20 (by decide +kernel)) (by decide) (by decide)) (en_ac (lw_bk b16 (g2 16 (by decide +kernel)) (by decide) (by decide)) (en_ac (lw_hb_ok (b := (25, 0, 8)) (by decide +kernel) L1.hD g1 h09 hPa9) en_an))))
      have hO1 : en_O1 u.2 := (hPa9.2.2 (5, 1, 0, 0, 0, 0) (by decide +kernel)).2
      have hO2 : en_O2 u.2 := (hPa9.2.2 (5, 2, 0, 0, 0, 0) (by decide +kernel)).2
      have hhn := lw_hh (fs := fs') (lo := 0) (hi := 7) (lo' := 8) (hi' := 8) (lw_hb_ok (by decide +kernel) L1.hD g1 h09 hPa9) (lw_bk b16 (g2 16 (by decide +kernel)) (Int.le_refl _) (Int.le_refl _)) (by decide)
      obtain ⟨cx9, cy9, hS9⟩ := lw_on2 (st := 3) (fun q hq => I.h27 q (lw_new hpx.1 (by decide) hq)) g1 hWu hO1 hO2 (by decide) hB9 hhn
      exact k _ _ _ _ _ _ _ _ hrv (lw_Iq hLP I hpx (by decide +kernel) g1 (by decide) (lw_Io I hpx (by decide +kernel)) (lw_Id I hpx (by decide +kernel)) hS9) L1
    · have l16 : (9 : Int) ≤ x16.toInt := by omega
      have u16 : x16.toInt ≤ (9 : Int) := by omega
      have u25 : x25.toInt ≤ (8 : Int) := by omega
      have b16 : lw_b fs (16, 9, 9) := ⟨x16, f16, l16, u16⟩
      refine lw_mc (lv' := 2) (ρp := [.ref (sh.2 0), .int x16, .int x20, .int x22, .int x25]) (As := []) F L (ct_X7_nextHole_17p hl9 (cx := cx) (cy := cy)) gm_X7_nextHole I.hs.2.1 rfl rfl (Nat.le_of_ble_eq_true rfl) (by decide) ⟨Nat.le_trans (Nat.add_le_add_left (Nat.le_of_ble_eq_true rfl) _) hcs.1, Nat.le_trans (Nat.add_le_add_left (Nat.le_of_ble_eq_true rfl) _) hcs.2⟩ hls rfl (lw_tk (lw_plain I.hs.1) (by decide)) (I.hO cx cy) (lw_pa (env := k_X7_nextHole_17p.2.1.1) (fa := k_X7_nextHole_17p.2.1.2) ⟨⟨0, I.h20, rfl⟩, ⟨x16, rfl, l16, u16⟩, ⟨x20, rfl, l20, u20⟩, ⟨x22, rfl, l22, u22⟩, ⟨x25, rfl, l25, u25⟩, trivial⟩ (en_ac (lw_f0 I.hs.2.1 rfl f16 rfl) (en_ac (lw_f0 I.hs.2.1 rfl f20 rfl) (en_ac (lw_f0 I.hs.2.1 rfl f22 rfl) (en_ac (lw_f0 I.hs.2.1 rfl f25 rfl) (en_ac (⟨I.had, I.hs.2.2.2.1⟩) (en_ac (⟨I.had, lw_O2 I (by decide)⟩) (en_an)))))))) dlw_1493 (fun u res H1 locs1 hrv hpo L1 => ?_)
      refine W.widen (k := cells + 8) (n := slots + 64) (Nat.add_le_add_left (Nat.le_of_ble_eq_true rfl) _) (Nat.add_le_add_left (Nat.le_of_ble_eq_true rfl) _) ?_
      obtain ⟨hpx, o9, ho9, ρ9, hPa9, hi9, -⟩ := hpo
      obtain ⟨fs', g1, g2⟩ := lw_fs I.h20 I.hs.2.1 hpx
      have h09 : ρ9[0]? = some (.ref (u.1.2 0)) := by rw [hi9 0 (show 0 < 1 by decide), (hpx.1.at I.h20).2]; rfl
      have hWu := lw_wd (lw_plain I.hs.1) hpx (fun z hz => Or.inl ((by decide +kernel : ∀ z ∈ k_X7_nextHole_17p.2.2.2.1, z.1 ∈ k_X7_nextHole_17p.2.2.2.2.1) z hz)) (fun _ => Or.inl rfl)
      rcases List.mem_cons.mp ho9 with ho8 | ho9
      · subst ho8
        have hB9 : ∀ b ∈ lw_B 1, lw_b fs' b := en_ac (lw_hb_ok (b := (22, 0, 0)) (by decide +kernel) L1.hD g1 h09 hPa9) (en_ac (lw_bk b21 (g2 21 (by decide +kernel)) (by decide) (by decide)) (en_ac (lw_bk b20 (g2 20 (by decide +kernel)) (by decide) (by decide)) (en_ac (lw_hb_ok (b := (16, 1, 9)) (by decide +kernel) L1.hD g1 h09 hPa9) en_an)))
        have hO1 : en_O1 u.2 := (hPa9.2.2 (5, 1, 0, 0, 0, 0) (by decide +kernel)).2
        have hS9 := lw_off2 (st := 1) g1 hWu hO1 (by decide) hB9
        exact k _ _ _ _ _ _ _ _ hrv (lw_Iq hLP I hpx (by decide +kernel) g1 (by decide) (lw_Io I hpx (by decide +kernel)) (lw_Id I hpx (by decide +kernel)) hS9) L1
      have ho7 := List.mem_singleton.mp ho9
      subst ho7
      have hB9 : ∀ b ∈ lw_B 3, lw_b fs' b := en_ac (lw_hb_ok (b := (22, 1, 1)) (by decide +kernel) L1.hD g1 h09 hPa9) (en_ac (lw_bk b21 (g2 21 (by decide +kernel)) (by decide) (by decide)) (en_ac (lw_bk b20 (g2 20 (by decide +kernel)) (by decide) (by decide)) (en_ac (lw_bk b16 (g2 16 (by decide +kernel)) (by decide) (by decide)) (en_ac (lw_hb_ok (b := (25, 0, 8)) (by decide +kernel) L1.hD g1 h09 hPa9) en_an))))
      have hO1 : en_O1 u.2 := (hPa9.2.2 (5, 1, 0, 0, 0, 0) (by decide +kernel)).2
      have hO2 : en_O2 u.2 := (hPa9.2.2 (5, 2, 0, 0, 0, 0) (by decide +kernel)).2
      have hhn := lw_hh (fs := fs') (lo := 0) (hi := 8) (lo' := 9) (hi' := 9) (lw_hb_ok (by decide +kernel) L1.hD g1 h09 hPa9) (lw_bk b16 (g2 16 (by decide +kernel)) (Int.le_refl _) (Int.le_refl _)) (by decide)
      obtain ⟨cx9, cy9, hS9⟩ := lw_on2 (st := 3) (fun q hq => I.h27 q (lw_new hpx.1 (by decide) hq)) g1 hWu hO1 hO2 (by decide) hB9 hhn
      exact k _ _ _ _ _ _ _ _ hrv (lw_Iq hLP I hpx (by decide +kernel) g1 (by decide) (lw_Io I hpx (by decide +kernel)) (lw_Id I hpx (by decide +kernel)) hS9) L1
  · skip
    obtain ⟨x16, f16, l16, u16⟩ := I.hs.2.2.1 (16, 1, 9) (by decide)
    have l16 : (1 : Int) ≤ x16.toInt := l16
    have u16 : x16.toInt ≤ (9 : Int) := u16
    obtain ⟨x17, f17, l17, u17⟩ := I.hs.2.2.1 (17, 2, 2) (by decide)
    have l17 : (2 : Int) ≤ x17.toInt := l17
    have u17 : x17.toInt ≤ (2 : Int) := u17
    obtain ⟨x20, f20, l20, u20⟩ := I.hs.2.2.1 (20, 109, 109) (by decide)
    have l20 : (109 : Int) ≤ x20.toInt := l20
    have u20 : x20.toInt ≤ (109 : Int) := u20
    obtain ⟨x22, f22, l22, u22⟩ := I.hs.2.2.1 (22, 1, 1) (by decide)
    have l22 : (1 : Int) ≤ x22.toInt := l22
    have u22 : x22.toInt ≤ (1 : Int) := u22
    obtain ⟨⟨x25, y16, f25, f16n, hlt⟩, -, -⟩ := I.hs.2.2.2.2 (by decide)
    have e16 : y16 = x16 := Value.int.inj (Option.some.inj (f16n.symm.trans f16))
    rw [e16] at hlt
    have l25 : (0 : Int) ≤ x25.toInt := by obtain ⟨z9, z1, z2, z3⟩ := I.hs.2.2.1 (25, 0, 8) (by decide); rw [Value.int.inj (Option.some.inj (f25.symm.trans z1))]; exact z2
    have b22 := I.hs.2.2.1 (22, 1, 1) (by decide)
    have b21 := I.hs.2.2.1 (21, 1, 1) (by decide)
    have b20 := I.hs.2.2.1 (20, 109, 109) (by decide)
    have b17 := I.hs.2.2.1 (17, 2, 2) (by decide)
    obtain h16 | h16 | h16 | h16 | h16 | h16 | h16 | h16 | h16 := lw_k16 l16 u16
    · have l16 : (1 : Int) ≤ x16.toInt := by omega
      have u16 : x16.toInt ≤ (1 : Int) := by omega
      have u25 : x25.toInt ≤ (0 : Int) := by omega
      have b16 : lw_b fs (16, 1, 1) := ⟨x16, f16, l16, u16⟩
      refine lw_mc (lv' := 2) (ρp := [.ref (sh.2 0), .int x16, .int x17, .int x20, .int x22, .int x25]) (As := []) F L (ct_X7_nextHole_0p hl9 (cx := cx) (cy := cy)) gm_X7_nextHole I.hs.2.1 rfl rfl (Nat.le_of_ble_eq_true rfl) (by decide) ⟨Nat.le_trans (Nat.add_le_add_left (Nat.le_of_ble_eq_true rfl) _) hcs.1, Nat.le_trans (Nat.add_le_add_left (Nat.le_of_ble_eq_true rfl) _) hcs.2⟩ hls rfl (lw_tk (lw_plain I.hs.1) (by decide)) (I.hO cx cy) (lw_pa (env := k_X7_nextHole_0p.2.1.1) (fa := k_X7_nextHole_0p.2.1.2) ⟨⟨0, I.h20, rfl⟩, ⟨x16, rfl, l16, u16⟩, ⟨x17, rfl, l17, u17⟩, ⟨x20, rfl, l20, u20⟩, ⟨x22, rfl, l22, u22⟩, ⟨x25, rfl, l25, u25⟩, trivial⟩ (en_ac (lw_f0 I.hs.2.1 rfl f16 rfl) (en_ac (lw_f0 I.hs.2.1 rfl f17 rfl) (en_ac (lw_f0 I.hs.2.1 rfl f20 rfl) (en_ac (lw_f0 I.hs.2.1 rfl f22 rfl) (en_ac (lw_f0 I.hs.2.1 rfl f25 rfl) (en_ac (⟨I.had, I.hs.2.2.2.1⟩) (en_ac (⟨I.had, lw_O2 I (by decide)⟩) (en_an))))))))) dlw_1493 (fun u res H1 locs1 hrv hpo L1 => ?_)
      refine W.widen (k := cells + 8) (n := slots + 64) (Nat.add_le_add_left (Nat.le_of_ble_eq_true rfl) _) (Nat.add_le_add_left (Nat.le_of_ble_eq_true rfl) _) ?_
      obtain ⟨hpx, o9, ho9, ρ9, hPa9, hi9, -⟩ := hpo
      obtain ⟨fs', g1, g2⟩ := lw_fs I.h20 I.hs.2.1 hpx
      have h09 : ρ9[0]? = some (.ref (u.1.2 0)) := by rw [hi9 0 (show 0 < 1 by decide), (hpx.1.at I.h20).2]; rfl
      have hWu := lw_wd (lw_plain I.hs.1) hpx (fun z hz => Or.inl ((by decide +kernel : ∀ z ∈ k_X7_nextHole_0p.2.2.2.1, z.1 ∈ k_X7_nextHole_0p.2.2.2.2.1) z hz)) (fun _ => Or.inl rfl)
      rcases List.mem_cons.mp ho9 with ho8 | ho9
      · subst ho8
        have hB9 : ∀ b ∈ lw_B 4, lw_b fs' b := en_ac (lw_hb_ok (b := (22, 1, 1)) (by decide +kernel) L1.hD g1 h09 hPa9) (en_ac (lw_bk b21 (g2 21 (by decide +kernel)) (by decide) (by decide)) (en_ac (lw_bk b20 (g2 20 (by decide +kernel)) (by decide) (by decide)) (en_ac (lw_bk b16 (g2 16 (by decide +kernel)) (by decide) (by decide)) (en_ac (lw_bk b17 (g2 17 (by decide +kernel)) (by decide) (by decide)) (en_ac (lw_hb_ok (b := (25, 0, 8)) (by decide +kernel) L1.hD g1 h09 hPa9) en_an)))))
        have hO1 : en_O1 u.2 := (hPa9.2.2 (5, 1, 0, 0, 0, 0) (by decide +kernel)).2
        have hO2 : en_O2 u.2 := (hPa9.2.2 (5, 2, 0, 0, 0, 0) (by decide +kernel)).2
        have hhn := lw_hh (fs := fs') (lo := 0) (hi := 0) (lo' := 1) (hi' := 1) (lw_hb_ok (by decide +kernel) L1.hD g1 h09 hPa9) (lw_bk b16 (g2 16 (by decide +kernel)) (Int.le_refl _) (Int.le_refl _)) (by decide)
        obtain ⟨cx9, cy9, hS9⟩ := lw_on2 (st := 4) (fun q hq => I.h27 q (lw_new hpx.1 (by decide) hq)) g1 hWu hO1 hO2 (by decide) hB9 hhn
        exact k _ _ _ _ _ _ _ _ hrv (lw_Iq hLP I hpx (by decide +kernel) g1 (by decide) (lw_Io I hpx (by decide +kernel)) (lw_Id I hpx (by decide +kernel)) hS9) L1
      have ho7 := List.mem_singleton.mp ho9
      subst ho7
      have hB9 : ∀ b ∈ lw_B 2, lw_b fs' b := en_ac (lw_hb_ok (b := (22, 0, 0)) (by decide +kernel) L1.hD g1 h09 hPa9) (en_ac (lw_bk b21 (g2 21 (by decide +kernel)) (by decide) (by decide)) (en_ac (lw_bk b20 (g2 20 (by decide +kernel)) (by decide) (by decide)) (en_ac (lw_hb_ok (b := (16, 1, 9)) (by decide +kernel) L1.hD g1 h09 hPa9) (en_ac (lw_bk b17 (g2 17 (by decide +kernel)) (by decide) (by decide)) en_an))))
      have hO1 : en_O1 u.2 := (hPa9.2.2 (5, 1, 0, 0, 0, 0) (by decide +kernel)).2
      have hS9 := lw_off2 (st := 2) g1 hWu hO1 (by decide) hB9
      exact k _ _ _ _ _ _ _ _ hrv (lw_Iq hLP I hpx (by decide +kernel) g1 (by decide) (lw_Io I hpx (by decide +kernel)) (lw_Id I hpx (by decide +kernel)) hS9) L1
    · have l16 : (2 : Int) ≤ x16.toInt := by omega
      have u16 : x16.toInt ≤ (2 : Int) := by omega
      have u25 : x25.toInt ≤ (1 : Int) := by omega
      have b16 : lw_b fs (16, 2, 2) := ⟨x16, f16, l16, u16⟩
      refine lw_mc (lv' := 2) (ρp := [.ref (sh.2 0), .int x16, .int x17, .int x20, .int x22, .int x25]) (As := []) F L (ct_X7_nextHole_2p hl9 (cx := cx) (cy := cy)) gm_X7_nextHole I.hs.2.1 rfl rfl (Nat.le_of_ble_eq_true rfl) (by decide) ⟨Nat.le_trans (Nat.add_le_add_left (Nat.le_of_ble_eq_true rfl) _) hcs.1, Nat.le_trans (Nat.add_le_add_left (Nat.le_of_ble_eq_true rfl) _) hcs.2⟩ hls rfl (lw_tk (lw_plain I.hs.1) (by decide)) (I.hO cx cy) (lw_pa (env := k_X7_nextHole_2p.2.1.1) (fa := k_X7_nextHole_2p.2.1.2) ⟨⟨0, I.h20, rfl⟩, ⟨x16, rfl, l16, u16⟩, ⟨x17, rfl, l17, u17⟩, ⟨x20, rfl, l20, u20⟩, ⟨x22, rfl, l22, u22⟩, ⟨x25, rfl, l25, u25⟩, trivial⟩ (en_ac (lw_f0 I.hs.2.1 rfl f16 rfl) (en_ac (lw_f0 I.hs.2.1 rfl f17 rfl) (en_ac (lw_f0 I.hs.2.1 rfl f20 rfl) (en_ac (lw_f0 I.hs.2.1 rfl f22 rfl) (en_ac (lw_f0 I.hs.2.1 rfl f25 rfl) (en_ac (⟨I.had, I.hs.2.2.2.1⟩) (en_ac (⟨I.had, lw_O2 I (by decide)⟩) (en_an))))))))) dlw_1493 (fun u res H1 locs1 hrv hpo L1 => ?_)
      refine W.widen (k := cells + 8) (n := slots + 64) (Nat.add_le_add_left (Nat.le_of_ble_eq_true rfl) _) (Nat.add_le_add_left (Nat.le_of_ble_eq_true rfl) _) ?_
      obtain ⟨hpx, o9, ho9, ρ9, hPa9, hi9, -⟩ := hpo
      obtain ⟨fs', g1, g2⟩ := lw_fs I.h20 I.hs.2.1 hpx
      have h09 : ρ9[0]? = some (.ref (u.1.2 0)) := by rw [hi9 0 (show 0 < 1 by decide), (hpx.1.at I.h20).2]; rfl
      have hWu := lw_wd (lw_plain I.hs.1) hpx (fun z hz => Or.inl ((by decide +kernel : ∀ z ∈ k_X7_nextHole_2p.2.2.2.1, z.1 ∈ k_X7_nextHole_2p.2.2.2.2.1) z hz)) (fun _ => Or.inl rfl)
      rcases List.mem_cons.mp ho9 with ho8 | ho9
      · subst ho8
        have hB9 : ∀ b ∈ lw_B 4, lw_b fs' b := en_ac (lw_hb_ok (b := (22, 1, 1)) (by decide +kernel) L1.hD g1 h09 hPa9) (en_ac (lw_bk b21 (g2 21 (by decide +kernel)) (by decide) (by decide)) (en_ac (lw_bk b20 (g2 20 (by decide +kernel)) (by decide) (by decide)) (en_ac (lw_bk b16 (g2 16 (by decide +kernel)) (by decide) (by decide)) (en_ac (lw_bk b17 (g2 17 (by decide +kernel)) (by decide) (by decide)) (en_ac (lw_hb_ok (b := (25, 0, 8)) (by decide +kernel) L1.hD g1 h09 hPa9) en_an)))))
        have hO1 : en_O1 u.2 := (hPa9.2.2 (5, 1, 0, 0, 0, 0) (by decide +kernel)).2
        have hO2 : en_O2 u.2 := (hPa9.2.2 (5, 2, 0, 0, 0, 0) (by decide +kernel)).2
        have hhn := lw_hh (fs := fs') (lo := 0) (hi := 1) (lo' := 2) (hi' := 2) (lw_hb_ok (by decide +kernel) L1.hD g1 h09 hPa9) (lw_bk b16 (g2 16 (by decide +kernel)) (Int.le_refl _) (Int.le_refl _)) (by decide)
        obtain ⟨cx9, cy9, hS9⟩ := lw_on2 (st := 4) (fun q hq => I.h27 q (lw_new hpx.1 (by decide) hq)) g1 hWu hO1 hO2 (by decide) hB9 hhn
        exact k _ _ _ _ _ _ _ _ hrv (lw_Iq hLP I hpx (by decide +kernel) g1 (by decide) (lw_Io I hpx (by decide +kernel)) (lw_Id I hpx (by decide +kernel)) hS9) L1
      rcases List.mem_cons.mp ho9 with ho8 | ho9
      · subst ho8
        have hB9 : ∀ b ∈ lw_B 4, lw_b fs' b := en_ac (lw_hb_ok (b := (22, 1, 1)) (by decide +kernel) L1.hD g1 h09 hPa9) (en_ac (lw_bk b21 (g2 21 (by decide +kernel)) (by decide) (by decide)) (en_ac (lw_bk b20 (g2 20 (by decide +kernel)) (by decide) (by decide)) (en_ac (lw_bk b16 (g2 16 (by decide +kernel)) (by decide) (by decide)) (en_ac (lw_bk b17 (g2 17 (by decide +kernel)) (by decide) (by decide)) (en_ac (lw_hb_ok (b := (25, 0, 8)) (by decide +kernel) L1.hD g1 h09 hPa9) en_an)))))
        have hO1 : en_O1 u.2 := (hPa9.2.2 (5, 1, 0, 0, 0, 0) (by decide +kernel)).2
        have hO2 : en_O2 u.2 := (hPa9.2.2 (5, 2, 0, 0, 0, 0) (by decide +kernel)).2
        have hhn := lw_hh (fs := fs') (lo := 1) (hi := 1) (lo' := 2) (hi' := 2) (lw_hb_ok (by decide +kernel) L1.hD g1 h09 hPa9) (lw_bk b16 (g2 16 (by decide +kernel)) (Int.le_refl _) (Int.le_refl _)) (by decide)
        obtain ⟨cx9, cy9, hS9⟩ := lw_on2 (st := 4) (fun q hq => I.h27 q (lw_new hpx.1 (by decide) hq)) g1 hWu hO1 hO2 (by decide) hB9 hhn
        exact k _ _ _ _ _ _ _ _ hrv (lw_Iq hLP I hpx (by decide +kernel) g1 (by decide) (lw_Io I hpx (by decide +kernel)) (lw_Id I hpx (by decide +kernel)) hS9) L1
      have ho7 := List.mem_singleton.mp ho9
      subst ho7
      have hB9 : ∀ b ∈ lw_B 2, lw_b fs' b := en_ac (lw_hb_ok (b := (22, 0, 0)) (by decide +kernel) L1.hD g1 h09 hPa9) (en_ac (lw_bk b21 (g2 21 (by decide +kernel)) (by decide) (by decide)) (en_ac (lw_bk b20 (g2 20 (by decide +kernel)) (by decide) (by decide)) (en_ac (lw_hb_ok (b := (16, 1, 9)) (by decide +kernel) L1.hD g1 h09 hPa9) (en_ac (lw_bk b17 (g2 17 (by decide +kernel)) (by decide) (by decide)) en_an))))
      have hO1 : en_O1 u.2 := (hPa9.2.2 (5, 1, 0, 0, 0, 0) (by decide +kernel)).2
      have hS9 := lw_off2 (st := 2) g1 hWu hO1 (by decide) hB9
      exact k _ _ _ _ _ _ _ _ hrv (lw_Iq hLP I hpx (by decide +kernel) g1 (by decide) (lw_Io I hpx (by decide +kernel)) (lw_Id I hpx (by decide +kernel)) hS9) L1
    · have l16 : (3 : Int) ≤ x16.toInt := by omega
      have u16 : x16.toInt ≤ (3 : Int) := by omega
      have u25 : x25.toInt ≤ (2 : Int) := by omega
      have b16 : lw_b fs (16, 3, 3) := ⟨x16, f16, l16, u16⟩
      refine lw_mc (lv' := 2) (ρp := [.ref (sh.2 0), .int x16, .int x17, .int x20, .int x22, .int x25]) (As := []) F L (ct_X7_nextHole_4p hl9 (cx := cx) (cy := cy)) gm_X7_nextHole I.hs.2.1 rfl rfl (Nat.le_of_ble_eq_true rfl) (by decide) ⟨Nat.le_trans (Nat.add_le_add_left (Nat.le_of_ble_eq_true rfl) _) hcs.1, Nat.le_trans (Nat.add_le_add_left (Nat.le_of_ble_eq_true rfl) _) hcs.2⟩ hls rfl (lw_tk (lw_plain I.hs.1) (by decide)) (I.hO cx cy) (lw_pa (env := k_X7_nextHole_4p.2.1.1) (fa := k_X7_nextHole_4p.2.1.2) ⟨⟨0, I.h20, rfl⟩, ⟨x16, rfl, l16, u16⟩, ⟨x17, rfl, l17, u17⟩, ⟨x20, rfl, l20, u20⟩, ⟨x22, rfl, l22, u22⟩, ⟨x25, rfl, l25, u25⟩, trivial⟩ (en_ac (lw_f0 I.hs.2.1 rfl f16 rfl) (en_ac (lw_f0 I.hs.2.1 rfl f17 rfl) (en_ac (lw_f0 I.hs.2.1 rfl f20 rfl) (en_ac (lw_f0 I.hs.2.1 rfl f22 rfl) (en_ac (lw_f0 I.hs.2.1 rfl f25 rfl) (en_ac (⟨I.had, I.hs.2.2.2.1⟩) (en_ac (⟨I.had, lw_O2 I (by decide)⟩) (en_an))))))))) dlw_1493 (fun u res H1 locs1 hrv hpo L1 => ?_)
      refine W.widen (k := cells + 8) (n := slots + 64) (Nat.add_le_add_left (Nat.le_of_ble_eq_true rfl) _) (Nat.add_le_add_left (Nat.le_of_ble_eq_true rfl) _) ?_
      obtain ⟨hpx, o9, ho9, ρ9, hPa9, hi9, -⟩ := hpo
      obtain ⟨fs', g1, g2⟩ := lw_fs I.h20 I.hs.2.1 hpx
      have h09 : ρ9[0]? = some (.ref (u.1.2 0)) := by rw [hi9 0 (show 0 < 1 by decide), (hpx.1.at I.h20).2]; rfl
      have hWu := lw_wd (lw_plain I.hs.1) hpx (fun z hz => Or.inl ((by decide +kernel : ∀ z ∈ k_X7_nextHole_4p.2.2.2.1, z.1 ∈ k_X7_nextHole_4p.2.2.2.2.1) z hz)) (fun _ => Or.inl rfl)
      rcases List.mem_cons.mp ho9 with ho8 | ho9
      · subst ho8
        have hB9 : ∀ b ∈ lw_B 2, lw_b fs' b := en_ac (lw_hb_ok (b := (22, 0, 0)) (by decide +kernel) L1.hD g1 h09 hPa9) (en_ac (lw_bk b21 (g2 21 (by decide +kernel)) (by decide) (by decide)) (en_ac (lw_bk b20 (g2 20 (by decide +kernel)) (by decide) (by decide)) (en_ac (lw_hb_ok (b := (16, 1, 9)) (by decide +kernel) L1.hD g1 h09 hPa9) (en_ac (lw_bk b17 (g2 17 (by decide +kernel)) (by decide) (by decide)) en_an))))
        have hO1 : en_O1 u.2 := (hPa9.2.2 (5, 1, 0, 0, 0, 0) (by decide +kernel)).2
        have hS9 := lw_off2 (st := 2) g1 hWu hO1 (by decide) hB9
        exact k _ _ _ _ _ _ _ _ hrv (lw_Iq hLP I hpx (by decide +kernel) g1 (by decide) (lw_Io I hpx (by decide +kernel)) (lw_Id I hpx (by decide +kernel)) hS9) L1
      have ho7 := List.mem_singleton.mp ho9
      subst ho7
      have hB9 : ∀ b ∈ lw_B 4, lw_b fs' b := en_ac (lw_hb_ok (b := (22, 1, 1)) (by decide +kernel) L1.hD g1 h09 hPa9) (en_ac (lw_bk b21 (g2 21 (by decide +kernel)) (by decide) (by decide)) (en_ac (lw_bk b20 (g2 20 (by decide +kernel)) (by decide) (by decide)) (en_ac (lw_bk b16 (g2 16 (by decide +kernel)) (by decide) (by decide)) (en_ac (lw_bk b17 (g2 17 (by decide +kernel)) (by decide) (by decide)) (en_ac (lw_hb_ok (b := (25, 0, 8)) (by decide +kernel) L1.hD g1 h09 hPa9) en_an)))))
      have hO1 : en_O1 u.2 := (hPa9.2.2 (5, 1, 0, 0, 0, 0) (by decide +kernel)).2
      have hO2 : en_O2 u.2 := (hPa9.2.2 (5, 2, 0, 0, 0, 0) (by decide +kernel)).2
      have hhn := lw_hh (fs := fs') (lo := 0) (hi := 2) (lo' := 3) (hi' := 3) (lw_hb_ok (by decide +kernel) L1.hD g1 h09 hPa9) (lw_bk b16 (g2 16 (by decide +kernel)) (Int.le_refl _) (Int.le_refl _)) (by decide)
      obtain ⟨cx9, cy9, hS9⟩ := lw_on2 (st := 4) (fun q hq => I.h27 q (lw_new hpx.1 (by decide) hq)) g1 hWu hO1 hO2 (by decide) hB9 hhn
      exact k _ _ _ _ _ _ _ _ hrv (lw_Iq hLP I hpx (by decide +kernel) g1 (by decide) (lw_Io I hpx (by decide +kernel)) (lw_Id I hpx (by decide +kernel)) hS9) L1
    · have l16 : (4 : Int) ≤ x16.toInt := by omega
      have u16 : x16.toInt ≤ (4 : Int) := by omega
      have u25 : x25.toInt ≤ (3 : Int) := by omega
      have b16 : lw_b fs (16, 4, 4) := ⟨x16, f16, l16, u16⟩
      refine lw_mc (lv' := 2) (ρp := [.ref (sh.2 0), .int x16, .int x17, .int x20, .int x22, .int x25]) (As := []) F L (ct_X7_nextHole_6p hl9 (cx := cx) (cy := cy)) gm_X7_nextHole I.hs.2.1 rfl rfl (Nat.le_of_ble_eq_true rfl) (by decide) ⟨Nat.le_trans (Nat.add_le_add_left (Nat.le_of_ble_eq_true rfl) _) hcs.1, Nat.le_trans (Nat.add_le_add_left (Nat.le_of_ble_eq_true rfl) _) hcs.2⟩ hls rfl (lw_tk (lw_plain I.hs.1) (by decide)) (I.hO cx cy) (lw_pa (env := k_X7_nextHole_6p.2.1.1) (fa := k_X7_nextHole_6p.2.1.2) ⟨⟨0, I.h20, rfl⟩, ⟨x16, rfl, l16, u16⟩, ⟨x17, rfl, l17, u17⟩, ⟨x20, rfl, l20, u20⟩, ⟨x22, rfl, l22, u22⟩, ⟨x25, rfl, l25, u25⟩, trivial⟩ (en_ac (lw_f0 I.hs.2.1 rfl f16 rfl) (en_ac (lw_f0 I.hs.2.1 rfl f17 rfl) (en_ac (lw_f0 I.hs.2.1 rfl f20 rfl) (en_ac (lw_f0 I.hs.2.1 rfl f22 rfl) (en_ac (lw_f0 I.hs.2.1 rfl f25 rfl) (en_ac (⟨I.had, I.hs.2.2.2.1⟩) (en_ac (⟨I.had, lw_O2 I (by decide)⟩) (en_an))))))))) dlw_1493 (fun u res H1 locs1 hrv hpo L1 => ?_)
      refine W.widen (k := cells + 8) (n := slots + 64) (Nat.add_le_add_left (Nat.le_of_ble_eq_true rfl) _) (Nat.add_le_add_left (Nat.le_of_ble_eq_true rfl) _) ?_
      obtain ⟨hpx, o9, ho9, ρ9, hPa9, hi9, -⟩ := hpo
      obtain ⟨fs', g1, g2⟩ := lw_fs I.h20 I.hs.2.1 hpx
      have h09 : ρ9[0]? = some (.ref (u.1.2 0)) := by rw [hi9 0 (show 0 < 1 by decide), (hpx.1.at I.h20).2]; rfl
      have hWu := lw_wd (lw_plain I.hs.1) hpx (fun z hz => Or.inl ((by decide +kernel : ∀ z ∈ k_X7_nextHole_6p.2.2.2.1, z.1 ∈ k_X7_nextHole_6p.2.2.2.2.1) z hz)) (fun _ => Or.inl rfl)
      rcases List.mem_cons.mp ho9 with ho8 | ho9
      · subst ho8
        have hB9 : ∀ b ∈ lw_B 2, lw_b fs' b := en_ac (lw_hb_ok (b := (22, 0, 0)) (by decide +kernel) L1.hD g1 h09 hPa9) (en_ac (lw_bk b21 (g2 21 (by decide +kernel)) (by decide) (by decide)) (en_ac (lw_bk b20 (g2 20 (by decide +kernel)) (by decide) (by decide)) (en_ac (lw_hb_ok (b := (16, 1, 9)) (by decide +kernel) L1.hD g1 h09 hPa9) (en_ac (lw_bk b17 (g2 17 (by decide +kernel)) (by decide) (by decide)) en_an))))
        have hO1 : en_O1 u.2 := (hPa9.2.2 (5, 1, 0, 0, 0, 0) (by decide +kernel)).2
        have hS9 := lw_off2 (st := 2) g1 hWu hO1 (by decide) hB9
        exact k _ _ _ _ _ _ _ _ hrv (lw_Iq hLP I hpx (by decide +kernel) g1 (by decide) (lw_Io I hpx (by decide +kernel)) (lw_Id I hpx (by decide +kernel)) hS9) L1
      have ho7 := List.mem_singleton.mp ho9
      subst ho7
      have hB9 : ∀ b ∈ lw_B 4, lw_b fs' b := en_ac (lw_hb_ok (b := (22, 1, 1)) (by decide +kernel) L1.hD g1 h09 hPa9) (en_ac (lw_bk b21 (g2 21 (by decide +kernel)) (by decide) (by decide)) (en_ac (lw_bk b20 (g2 20 (by decide +kernel)) (by decide) (by decide)) (en_ac (lw_bk b16 (g2 16 (by decide +kernel)) (by decide) (by decide)) (en_ac (lw_bk b17 (g2 17 (by decide +kernel)) (by decide) (by decide)) (en_ac (lw_hb_ok (b := (25, 0, 8)) (by decide +kernel) L1.hD g1 h09 hPa9) en_an)))))
      have hO1 : en_O1 u.2 := (hPa9.2.2 (5, 1, 0, 0, 0, 0) (by decide +kernel)).2
      have hO2 : en_O2 u.2 := (hPa9.2.2 (5, 2, 0, 0, 0, 0) (by decide +kernel)).2
      have hhn := lw_hh (fs := fs') (lo := 0) (hi := 3) (lo' := 4) (hi' := 4) (lw_hb_ok (by decide +kernel) L1.hD g1 h09 hPa9) (lw_bk b16 (g2 16 (by decide +kernel)) (Int.le_refl _) (Int.le_refl _)) (by decide)
      obtain ⟨cx9, cy9, hS9⟩ := lw_on2 (st := 4) (fun q hq => I.h27 q (lw_new hpx.1 (by decide) hq)) g1 hWu hO1 hO2 (by decide) hB9 hhn
      exact k _ _ _ _ _ _ _ _ hrv (lw_Iq hLP I hpx (by decide +kernel) g1 (by decide) (lw_Io I hpx (by decide +kernel)) (lw_Id I hpx (by decide +kernel)) hS9) L1
    · have l16 : (5 : Int) ≤ x16.toInt := by omega
      have u16 : x16.toInt ≤ (5 : Int) := by omega
      have u25 : x25.toInt ≤ (4 : Int) := by omega
      have b16 : lw_b fs (16, 5, 5) := ⟨x16, f16, l16, u16⟩
      refine lw_mc (lv' := 2) (ρp := [.ref (sh.2 0), .int x16, .int x17, .int x20, .int x22, .int x25]) (As := []) F L (ct_X7_nextHole_8p hl9 (cx := cx) (cy := cy)) gm_X7_nextHole I.hs.2.1 rfl rfl (Nat.le_of_ble_eq_true rfl) (by decide) ⟨Nat.le_trans (Nat.add_le_add_left (Nat.le_of_ble_eq_true rfl) _) hcs.1, Nat.le_trans (Nat.add_le_add_left (Nat.le_of_ble_eq_true rfl) _) hcs.2⟩ hls rfl (lw_tk (lw_plain I.hs.1) (by decide)) (I.hO cx cy) (lw_pa (env := k_X7_nextHole_8p.2.1.1) (fa := k_X7_nextHole_8p.2.1.2) ⟨⟨0, I.h20, rfl⟩, ⟨x16, rfl, l16, u16⟩, ⟨x17, rfl, l17, u17⟩, ⟨x20, rfl, l20, u20⟩, ⟨x22, rfl, l22, u22⟩, ⟨x25, rfl, l25, u25⟩, trivial⟩ (en_ac (lw_f0 I.hs.2.1 rfl f16 rfl) (en_ac (lw_f0 I.hs.2.1 rfl f17 rfl) (en_ac (lw_f0 I.hs.2.1 rfl f20 rfl) (en_ac (lw_f0 I.hs.2.1 rfl f22 rfl) (en_ac (lw_f0 I.hs.2.1 rfl f25 rfl) (en_ac (⟨I.had, I.hs.2.2.2.1⟩) (en_ac (⟨I.had, lw_O2 I (by decide)⟩) (en_an))))))))) dlw_1493 (fun u res H1 locs1 hrv hpo L1 => ?_)
      refine W.widen (k := cells + 8) (n := slots + 64) (Nat.add_le_add_left (Nat.le_of_ble_eq_true rfl) _) (Nat.add_le_add_left (Nat.le_of_ble_eq_true rfl) _) ?_
      obtain ⟨hpx, o9, ho9, ρ9, hPa9, hi9, -⟩ := hpo
      obtain ⟨fs', g1, g2⟩ := lw_fs I.h20 I.hs.2.1 hpx
      have h09 : ρ9[0]? = some (.ref (u.1.2 0)) := by rw [hi9 0 (show 0 < 1 by decide), (hpx.1.at I.h20).2]; rfl
      have hWu := lw_wd (lw_plain I.hs.1) hpx (fun z hz => Or.inl ((by decide +kernel : ∀ z ∈ k_X7_nextHole_8p.2.2.2.1, z.1 ∈ k_X7_nextHole_8p.2.2.2.2.1) z hz)) (fun _ => Or.inl rfl)
      rcases List.mem_cons.mp ho9 with ho8 | ho9
      · subst ho8
        have hB9 : ∀ b ∈ lw_B 2, lw_b fs' b := en_ac (lw_hb_ok (b := (22, 0, 0)) (by decide +kernel) L1.hD g1 h09 hPa9) (en_ac (lw_bk b21 (g2 21 (by decide +kernel)) (by decide) (by decide)) (en_ac (lw_bk b20 (g2 20 (by decide +kernel)) (by decide) (by decide)) (en_ac (lw_hb_ok (b := (16, 1, 9)) (by decide +kernel) L1.hD g1 h09 hPa9) (en_ac (lw_bk b17 (g2 17 (by decide +kernel)) (by decide) (by decide)) en_an))))
        have hO1 : en_O1 u.2 := (hPa9.2.2 (5, 1, 0, 0, 0, 0) (by decide +kernel)).2
        have hS9 := lw_off2 (st := 2) g1 hWu hO1 (by decide) hB9
        exact k _ _ _ _ _ _ _ _ hrv (lw_Iq hLP I hpx (by decide +kernel) g1 (by decide) (lw_Io I hpx (by decide +kernel)) (lw_Id I hpx (by decide +kernel)) hS9) L1
      have ho7 := List.mem_singleton.mp ho9
      subst ho7
      have hB9 : ∀ b ∈ lw_B 4, lw_b fs' b := en_ac (lw_hb_ok (b := (22, 1, 1)) (by decide +kernel) L1.hD g1 h09 hPa9) (en_ac (lw_bk b21 (g2 21 (by decide +kernel)) (by decide) (by decide)) (en_ac (lw_bk b20 (g2 20 (by decide +kernel)) (by decide) (by decide)) (en_ac (lw_bk b16 (g2 16 (by decide +kernel)) (by decide) (by decide)) (en_ac (lw_bk b17 (g2 17 (by decide +kernel)) (by decide) (by decide)) (en_ac (lw_hb_ok (b := (25, 0, 8)) (by decide +kernel) L1.hD g1 h09 hPa9) en_an)))))
      have hO1 : en_O1 u.2 := (hPa9.2.2 (5, 1, 0, 0, 0, 0) (by decide +kernel)).2
      have hO2 : en_O2 u.2 := (hPa9.2.2 (5, 2, 0, 0, 0, 0) (by decide +kernel)).2
      have hhn := lw_hh (fs := fs') (lo := 0) (hi := 4) (lo' := 5) (hi' := 5) (lw_hb_ok (by decide +kernel) L1.hD g1 h09 hPa9) (lw_bk b16 (g2 16 (by decide +kernel)) (Int.le_refl _) (Int.le_refl _)) (by decide)
      obtain ⟨cx9, cy9, hS9⟩ := lw_on2 (st := 4) (fun q hq => I.h27 q (lw_new hpx.1 (by decide) hq)) g1 hWu hO1 hO2 (by decide) hB9 hhn
      exact k _ _ _ _ _ _ _ _ hrv (lw_Iq hLP I hpx (by decide +kernel) g1 (by decide) (lw_Io I hpx (by decide +kernel)) (lw_Id I hpx (by decide +kernel)) hS9) L1
    · have l16 : (6 : Int) ≤ x16.toInt := by omega
      have u16 : x16.toInt ≤ (6 : Int) := by omega
      have u25 : x25.toInt ≤ (5 : Int) := by omega
      have b16 : lw_b fs (16, 6, 6) := ⟨x16, f16, l16, u16⟩
      refine lw_mc (lv' := 2) (ρp := [.ref (sh.2 0), .int x16, .int x17, .int x20, .int x22, .int x25]) (As := []) F L (ct_X7_nextHole_10p hl9 (cx := cx) (cy := cy)) gm_X7_nextHole I.hs.2.1 rfl rfl (Nat.le_of_ble_eq_true rfl) (by decide) ⟨Nat.le_trans (Nat.add_le_add_left (Nat.le_of_ble_eq_true rfl) _) hcs.1, Nat.le_trans (Nat.add_le_add_left (Nat.le_of_ble_eq_true rfl) _) hcs.2⟩ hls rfl (lw_tk (lw_plain I.hs.1) (by decide)) (I.hO cx cy) (lw_pa (env := k_X7_nextHole_10p.2.1.1) (fa := k_X7_nextHole_10p.2.1.2) ⟨⟨0, I.h20, rfl⟩, ⟨x16, rfl, l16, u16⟩, ⟨x17, rfl, l17, u17⟩, ⟨x20, rfl, l20, u20⟩, ⟨x22, rfl, l22, u22⟩, ⟨x25, rfl, l25, u25⟩, trivial⟩ (en_ac (lw_f0 I.hs.2.1 rfl f16 rfl) (en_ac (lw_f0 I.hs.2.1 rfl f17 rfl) (en_ac (lw_f0 I.hs.2.1 rfl f20 rfl) (en_ac (lw_f0 I.hs.2.1 rfl f22 rfl) (en_ac (lw_f0 I.hs.2.1 rfl f25 rfl) (en_ac (⟨I.had, I.hs.2.2.2.1⟩) (en_ac (⟨I.had, lw_O2 I (by decide)⟩) (en_an))))))))) dlw_1493 (fun u res H1 locs1 hrv hpo L1 => ?_)
      refine W.widen (k := cells + 8) (n := slots + 64) (Nat.add_le_add_left (Nat.le_of_ble_eq_true rfl) _) (Nat.add_le_add_left (Nat.le_of_ble_eq_true rfl) _) ?_
      obtain ⟨hpx, o9, ho9, ρ9, hPa9, hi9, -⟩ := hpo
      obtain ⟨fs', g1, g2⟩ := lw_fs I.h20 I.hs.2.1 hpx
      have h09 : ρ9[0]? = some (.ref (u.1.2 0)) := by rw [hi9 0 (show 0 < 1 by decide), (hpx.1.at I.h20).2]; rfl
      have hWu := lw_wd (lw_plain I.hs.1) hpx (fun z hz => Or.inl ((by decide +kernel : ∀ z ∈ k_X7_nextHole_10p.2.2.2.1, z.1 ∈ k_X7_nextHole_10p.2.2.2.2.1) z hz)) (fun _ => Or.inl rfl)
      rcases List.mem_cons.mp ho9 with ho8 | ho9
      · subst ho8
        have hB9 : ∀ b ∈ lw_B 2, lw_b fs' b := en_ac (lw_hb_ok (b := (22, 0, 0)) (by decide +kernel) L1.hD g1 h09 hPa9) (en_ac (lw_bk b21 (g2 21 (by decide +kernel)) (by decide) (by decide)) (en_ac (lw_bk b20 (g2 20 (by decide +kernel)) (by decide) (by decide)) (en_ac (lw_hb_ok (b := (16, 1, 9)) (by decide +kernel) L1.hD g1 h09 hPa9) (en_ac (lw_bk b17 (g2 17 (by decide +kernel)) (by decide) (by decide)) en_an))))
        have hO1 : en_O1 u.2 := (hPa9.2.2 (5, 1, 0, 0, 0, 0) (by decide +kernel)).2
        have hS9 := lw_off2 (st := 2) g1 hWu hO1 (by decide) hB9
        exact k _ _ _ _ _ _ _ _ hrv (lw_Iq hLP I hpx (by decide +kernel) g1 (by decide) (lw_Io I hpx (by decide +kernel)) (lw_Id I hpx (by decide +kernel)) hS9) L1
      have ho7 := List.mem_singleton.mp ho9
      subst ho7
      have hB9 : ∀ b ∈ lw_B 4, lw_b fs' b := en_ac (lw_hb_ok (b := (22, 1, 1)) (by decide +kernel) L1.hD g1 h09 hPa9) (en_ac (lw_bk b21 (g2 21 (by decide +kernel)) (by decide) (by decide)) (en_ac (lw_bk b20 (g2 20 (by decide +kernel)) (by decide) (by decide)) (en_ac (lw_bk b16 (g2 16 (by decide +kernel)) (by decide) (by decide)) (en_ac (lw_bk b17 (g2 17 (by decide +kernel)) (by decide) (by decide)) (en_ac (lw_hb_ok (b := (25, 0, 8)) (by decide +kernel) L1.hD g1 h09 hPa9) en_an)))))
      have hO1 : en_O1 u.2 := (hPa9.2.2 (5, 1, 0, 0, 0, 0) (by decide +kernel)).2
      have hO2 : en_O2 u.2 := (hPa9.2.2 (5, 2, 0, 0, 0, 0) (by decide +kernel)).2
      have hhn := lw_hh (fs := fs') (lo := 0) (hi := 5) (lo' := 6) (hi' := 6) (lw_hb_ok (by decide +kernel) L1.hD g1 h09 hPa9) (lw_bk b16 (g2 16 (by decide +kernel)) (Int.le_refl _) (Int.le_refl _)) (by decide)
      obtain ⟨cx9, cy9, hS9⟩ := lw_on2 (st := 4) (fun q hq => I.h27 q (lw_new hpx.1 (by decide) hq)) g1 hWu hO1 hO2 (by decide) hB9 hhn
      exact k _ _ _ _ _ _ _ _ hrv (lw_Iq hLP I hpx (by decide +kernel) g1 (by decide) (lw_Io I hpx (by decide +kernel)) (lw_Id I hpx (by decide +kernel)) hS9) L1
    · have l16 : (7 : Int) ≤ x16.toInt := by omega
      have u16 : x16.toInt ≤ (7 : Int) := by omega
      have u25 : x25.toInt ≤ (6 : Int) := by omega
      have b16 : lw_b fs (16, 7, 7) := ⟨x16, f16, l16, u16⟩
      refine lw_mc (lv' := 2) (ρp := [.ref (sh.2 0), .int x16, .int x17, .int x20, .int x22, .int x25]) (As := []) F L (ct_X7_nextHole_12p hl9 (cx := cx) (cy := cy)) gm_X7_nextHole I.hs.2.1 rfl rfl (Nat.le_of_ble_eq_true rfl) (by decide) ⟨Nat.le_trans (Nat.add_le_add_left (Nat.le_of_ble_eq_true rfl) _) hcs.1, Nat.le_trans (Nat.add_le_add_left (Nat.le_of_ble_eq_true rfl) _) hcs.2⟩ hls rfl (lw_tk (lw_plain I.hs.1) (by decide)) (I.hO cx cy) (lw_pa (env := k_X7_nextHole_12p.2.1.1) (fa := k_X7_nextHole_12p.2.1.2) ⟨⟨0, I.h20, rfl⟩, ⟨x16, rfl, l16, u16⟩, ⟨x17, rfl, l17, u17⟩, ⟨x20, rfl, l20, u20⟩, ⟨x22, rfl, l22, u22⟩, ⟨x25, rfl, l25, u25⟩, trivial⟩ (en_ac (lw_f0 I.hs.2.1 rfl f16 rfl) (en_ac (lw_f0 I.hs.2.1 rfl f17 rfl) (en_ac (lw_f0 I.hs.2.1 rfl f20 rfl) (en_ac (lw_f0 I.hs.2.1 rfl f22 rfl) (en_ac (lw_f0 I.hs.2.1 rfl f25 rfl) (en_ac (⟨I.had, I.hs.2.2.2.1⟩) (en_ac (⟨I.had, lw_O2 I (by decide)⟩) (en_an))))))))) dlw_1493 (fun u res H1 locs1 hrv hpo L1 => ?_)
      refine W.widen (k := cells + 8) (n := slots + 64) (Nat.add_le_add_left (Nat.le_of_ble_eq_true rfl) _) (Nat.add_le_add_left (Nat.le_of_ble_eq_true rfl) _) ?_
      obtain ⟨hpx, o9, ho9, ρ9, hPa9, hi9, -⟩ := hpo
      obtain ⟨fs', g1, g2⟩ := lw_fs I.h20 I.hs.2.1 hpx
      have h09 : ρ9[0]? = some (.ref (u.1.2 0)) := by rw [hi9 0 (show 0 < 1 by decide), (hpx.1.at I.h20).2]; rfl
      have hWu := lw_wd (lw_plain I.hs.1) hpx (fun z hz => Or.inl ((by decide +kernel : ∀ z ∈ k_X7_nextHole_12p.2.2.2.1, z.1 ∈ k_X7_nextHole_12p.2.2.2.2.1) z hz)) (fun _ => Or.inl rfl)
      rcases List.mem_cons.mp ho9 with ho8 | ho9
      · subst ho8
        have hB9 : ∀ b ∈ lw_B 2, lw_b fs' b := en_ac (lw_hb_ok (b := (22, 0, 0)) (by decide +kernel) L1.hD g1 h09 hPa9) (en_ac (lw_bk b21 (g2 21 (by decide +kernel)) (by decide) (by decide)) (en_ac (lw_bk b20 (g2 20 (by decide +kernel)) (by decide) (by decide)) (en_ac (lw_hb_ok (b := (16, 1, 9)) (by decide +kernel) L1.hD g1 h09 hPa9) (en_ac (lw_bk b17 (g2 17 (by decide +kernel)) (by decide) (by decide)) en_an))))
        have hO1 : en_O1 u.2 := (hPa9.2.2 (5, 1, 0, 0, 0, 0) (by decide +kernel)).2
        have hS9 := lw_off2 (st := 2) g1 hWu hO1 (by decide) hB9
        exact k _ _ _ _ _ _ _ _ hrv (lw_Iq hLP I hpx (by decide +kernel) g1 (by decide) (lw_Io I hpx (by decide +kernel)) (lw_Id I hpx (by decide +kernel)) hS9) L1
      have ho7 := List.mem_singleton.mp ho9
      subst ho7
      have hB9 : ∀ b ∈ lw_B 4, lw_b fs' b := en_ac (lw_hb_ok (b := (22, 1, 1)) (by decide +kernel) L1.hD g1 h09 hPa9) (en_ac (lw_bk b21 (g2 21 (by decide +kernel)) (by decide) (by decide)) (en_ac (lw_bk b20 (g2 20 (by decide +kernel)) (by decide) (by decide)) (en_ac (lw_bk b16 (g2 16 (by decide +kernel)) (by decide) (by decide)) (en_ac (lw_bk b17 (g2 17 (by decide +kernel)) (by decide) (by decide)) (en_ac (lw_hb_ok (b := (25, 0, 8)) (by decide +kernel) L1.hD g1 h09 hPa9) en_an)))))
      have hO1 : en_O1 u.2 := (hPa9.2.2 (5, 1, 0, 0, 0, 0) (by decide +kernel)).2
      have hO2 : en_O2 u.2 := (hPa9.2.2 (5, 2, 0, 0, 0, 0) (by decide +kernel)).2
      have hhn := lw_hh (fs := fs') (lo := 0) (hi := 6) (lo' := 7) (hi' := 7) (lw_hb_ok (by decide +kernel) L1.hD g1 h09 hPa9) (lw_bk b16 (g2 16 (by decide +kernel)) (Int.le_refl _) (Int.le_refl _)) (by decide)
      obtain ⟨cx9, cy9, hS9⟩ := lw_on2 (st := 4) (fun q hq => I.h27 q (lw_new hpx.1 (by decide) hq)) g1 hWu hO1 hO2 (by decide) hB9 hhn
      exact k _ _ _ _ _ _ _ _ hrv (lw_Iq hLP I hpx (by decide +kernel) g1 (by decide) (lw_Io I hpx (by decide +kernel)) (lw_Id I hpx (by decide +kernel)) hS9) L1
    · have l16 : (8 : Int) ≤ x16.toInt := by omega
      have u16 : x16.toInt ≤ (8 : Int) := by omega
      have u25 : x25.toInt ≤ (7 : Int) := by omega
      have b16 : lw_b fs (16, 8, 8) := ⟨x16, f16, l16, u16⟩
      refine lw_mc (lv' := 2) (ρp := [.ref (sh.2 0), .int x16, .int x17, .int x20, .int x22, .int x25]) (As := []) F L (ct_X7_nextHole_14p hl9 (cx := cx) (cy := cy)) gm_X7_nextHole I.hs.2.1 rfl rfl (Nat.le_of_ble_eq_true rfl) (by decide) ⟨Nat.le_trans (Nat.add_le_add_left (Nat.le_of_ble_eq_true rfl) _) hcs.1, Nat.le_trans (Nat.add_le_add_left (Nat.le_of_ble_eq_true rfl) _) hcs.2⟩ hls rfl (lw_tk (lw_plain I.hs.1) (by decide)) (I.hO cx cy) (lw_pa (env := k_X7_nextHole_14p.2.1.1) (fa := k_X7_nextHole_14p.2.1.2) ⟨⟨0, I.h20, rfl⟩, ⟨x16, rfl, l16, u16⟩, ⟨x17, rfl, l17, u17⟩, ⟨x20, rfl, l20, u20⟩, ⟨x22, rfl, l22, u22⟩, ⟨x25, rfl, l25, u25⟩, trivial⟩ (en_ac (lw_f0 I.hs.2.1 rfl f16 rfl) (en_ac (lw_f0 I.hs.2.1 rfl f17 rfl) (en_ac (lw_f0 I.hs.2.1 rfl f20 rfl) (en_ac (lw_f0 I.hs.2.1 rfl f22 rfl) (en_ac (lw_f0 I.hs.2.1 rfl f25 rfl) (en_ac (⟨I.had, I.hs.2.2.2.1⟩) (en_ac (⟨I.had, lw_O2 I (by decide)⟩) (en_an))))))))) dlw_1493 (fun u res H1 locs1 hrv hpo L1 => ?_)
      refine W.widen (k := cells + 8) (n := slots + 64) (Nat.add_le_add_left (Nat.le_of_ble_eq_true rfl) _) (Nat.add_le_add_left (Nat.le_of_ble_eq_true rfl) _) ?_
      obtain ⟨hpx, o9, ho9, ρ9, hPa9, hi9, -⟩ := hpo
      obtain ⟨fs', g1, g2⟩ := lw_fs I.h20 I.hs.2.1 hpx
      have h09 : ρ9[0]? = some (.ref (u.1.2 0)) := by rw [hi9 0 (show 0 < 1 by decide), (hpx.1.at I.h20).2]; rfl
      have hWu := lw_wd (lw_plain I.hs.1) hpx (fun z hz => Or.inl ((by decide +kernel : ∀ z ∈ k_X7_nextHole_14p.2.2.2.1, z.1 ∈ k_X7_nextHole_14p.2.2.2.2.1) z hz)) (fun _ => Or.inl rfl)
      rcases List.mem_cons.mp ho9 with ho8 | ho9
      · subst ho8
        have hB9 : ∀ b ∈ lw_B 2, lw_b fs' b := en_ac (lw_hb_ok (b := (22, 0, 0)) (by decide +kernel) L1.hD g1 h09 hPa9) (en_ac (lw_bk b21 (g2 21 (by decide +kernel)) (by decide) (by decide)) (en_ac (lw_bk b20 (g2 20 (by decide +kernel)) (by decide) (by decide)) (en_ac (lw_hb_ok (b := (16, 1, 9)) (by decide +kernel) L1.hD g1 h09 hPa9) (en_ac (lw_bk b17 (g2 17 (by decide +kernel)) (by decide) (by decide)) en_an))))
        have hO1 : en_O1 u.2 := (hPa9.2.2 (5, 1, 0, 0, 0, 0) (by decide +kernel)).2
        have hS9 := lw_off2 (st := 2) g1 hWu hO1 (by decide) hB9
        exact k _ _ _ _ _ _ _ _ hrv (lw_Iq hLP I hpx (by decide +kernel) g1 (by decide) (lw_Io I hpx (by decide +kernel)) (lw_Id I hpx (by decide +kernel)) hS9) L1
      have ho7 := List.mem_singleton.mp ho9
      subst ho7
      have hB9 : ∀ b ∈ lw_B 4, lw_b fs' b := en_ac (lw_hb_ok (b := (22, 1, 1)) (by decide +kernel) L1.hD g1 h09 hPa9) (en_ac (lw_bk b21 (g2 21 (by decide +kernel)) (by decide) (by decide)) (en_ac (lw_bk b20 (g2 20 (by decide +kernel)) (by decide) (by decide)) (en_ac (lw_bk b16 (g2 16 (by decide +kernel)) (by decide) (by decide)) (en_ac (lw_bk b17 (g2 17 (by decide +kernel)) (by decide) (by decide)) (en_ac (lw_hb_ok (b := (25, 0, 8)) (by decide +kernel) L1.hD g1 h09 hPa9) en_an)))))
      have hO1 : en_O1 u.2 := (hPa9.2.2 (5, 1, 0, 0, 0, 0) (by decide +kernel)).2
      have hO2 : en_O2 u.2 := (hPa9.2.2 (5, 2, 0, 0, 0, 0) (by decide +kernel)).2
      have hhn := lw_hh (fs := fs') (lo := 0) (hi := 7) (lo' := 8) (hi' := 8) (lw_hb_ok (by decide +kernel) L1.hD g1 h09 hPa9) (lw_bk b16 (g2 16 (by decide +kernel)) (Int.le_refl _) (Int.le_refl _)) (by decide)
      obtain ⟨cx9, cy9, hS9⟩ := lw_on2 (st := 4) (fun q hq => I.h27 q (lw_new hpx.1 (by decide) hq)) g1 hWu hO1 hO2 (by decide) hB9 hhn
      exact k _ _ _ _ _ _ _ _ hrv (lw_Iq hLP I hpx (by decide +kernel) g1 (by decide) (lw_Io I hpx (by decide +kernel)) (lw_Id I hpx (by decide +kernel)) hS9) L1
    · have l16 : (9 : Int) ≤ x16.toInt := by omega
      have u16 : x16.toInt ≤ (9 : Int) := by omega
      have u25 : x25.toInt ≤ (8 : Int) := by omega
      have b16 : lw_b fs (16, 9, 9) := ⟨x16, f16, l16, u16⟩
      refine lw_mc (lv' := 2) (ρp := [.ref (sh.2 0), .int x16, .int x17, .int x20, .int x22, .int x25]) (As := []) F L (ct_X7_nextHole_16p hl9 (cx := cx) (cy := cy)) gm_X7_nextHole I.hs.2.1 rfl rfl (Nat.le_of_ble_eq_true rfl) (by decide) ⟨Nat.le_trans (Nat.add_le_add_left (Nat.le_of_ble_eq_true rfl) _) hcs.1, Nat.le_trans (Nat.add_le_add_left (Nat.le_of_ble_eq_true rfl) _) hcs.2⟩ hls rfl (lw_tk (lw_plain I.hs.1) (by decide)) (I.hO cx cy) (lw_pa (env := k_X7_nextHole_16p.2.1.1) (fa := k_X7_nextHole_16p.2.1.2) ⟨⟨0, I.h20, rfl⟩, ⟨x16, rfl, l16, u16⟩, ⟨x17, rfl, l17, u17⟩, ⟨x20, rfl, l20, u20⟩, ⟨x22, rfl, l22, u22⟩, ⟨x25, rfl, l25, u25⟩, trivial⟩ (en_ac (lw_f0 I.hs.2.1 rfl f16 rfl) (en_ac (lw_f0 I.hs.2.1 rfl f17 rfl) (en_ac (lw_f0 I.hs.2.1 rfl f20 rfl) (en_ac (lw_f0 I.hs.2.1 rfl f22 rfl) (en_ac (lw_f0 I.hs.2.1 rfl f25 rfl) (en_ac (⟨I.had, I.hs.2.2.2.1⟩) (en_ac (⟨I.had, lw_O2 I (by decide)⟩) (en_an))))))))) dlw_1493 (fun u res H1 locs1 hrv hpo L1 => ?_)
      refine W.widen (k := cells + 8) (n := slots + 64) (Nat.add_le_add_left (Nat.le_of_ble_eq_true rfl) _) (Nat.add_le_add_left (Nat.le_of_ble_eq_true rfl) _) ?_
      obtain ⟨hpx, o9, ho9, ρ9, hPa9, hi9, -⟩ := hpo
      obtain ⟨fs', g1, g2⟩ := lw_fs I.h20 I.hs.2.1 hpx
      have h09 : ρ9[0]? = some (.ref (u.1.2 0)) := by rw [hi9 0 (show 0 < 1 by decide), (hpx.1.at I.h20).2]; rfl
      have hWu := lw_wd (lw_plain I.hs.1) hpx (fun z hz => Or.inl ((by decide +kernel : ∀ z ∈ k_X7_nextHole_16p.2.2.2.1, z.1 ∈ k_X7_nextHole_16p.2.2.2.2.1) z hz)) (fun _ => Or.inl rfl)
      rcases List.mem_cons.mp ho9 with ho8 | ho9
      · subst ho8
        have hB9 : ∀ b ∈ lw_B 2, lw_b fs' b := en_ac (lw_hb_ok (b := (22, 0, 0)) (by decide +kernel) L1.hD g1 h09 hPa9) (en_ac (lw_bk b21 (g2 21 (by decide +kernel)) (by decide) (by decide)) (en_ac (lw_bk b20 (g2 20 (by decide +kernel)) (by decide) (by decide)) (en_ac (lw_hb_ok (b := (16, 1, 9)) (by decide +kernel) L1.hD g1 h09 hPa9) (en_ac (lw_bk b17 (g2 17 (by decide +kernel)) (by decide) (by decide)) en_an))))
        have hO1 : en_O1 u.2 := (hPa9.2.2 (5, 1, 0, 0, 0, 0) (by decide +kernel)).2
        have hS9 := lw_off2 (st := 2) g1 hWu hO1 (by decide) hB9
        exact k _ _ _ _ _ _ _ _ hrv (lw_Iq hLP I hpx (by decide +kernel) g1 (by decide) (lw_Io I hpx (by decide +kernel)) (lw_Id I hpx (by decide +kernel)) hS9) L1
      have ho7 := List.mem_singleton.mp ho9
      subst ho7
      have hB9 : ∀ b ∈ lw_B 4, lw_b fs' b := en_ac (lw_hb_ok (b := (22, 1, 1)) (by decide +kernel) L1.hD g1 h09 hPa9) (en_ac (lw_bk b21 (g2 21 (by decide +kernel)) (by decide) (by decide)) (en_ac (lw_bk b20 (g2 20 (by decide +kernel)) (by decide) (by decide)) (en_ac (lw_bk b16 (g2 16 (by decide +kernel)) (by decide) (by decide)) (en_ac (lw_bk b17 (g2 17 (by decide +kernel)) (by decide) (by decide)) (en_ac (lw_hb_ok (b := (25, 0, 8)) (by decide +kernel) L1.hD g1 h09 hPa9) en_an)))))
      have hO1 : en_O1 u.2 := (hPa9.2.2 (5, 1, 0, 0, 0, 0) (by decide +kernel)).2
      have hO2 : en_O2 u.2 := (hPa9.2.2 (5, 2, 0, 0, 0, 0) (by decide +kernel)).2
      have hhn := lw_hh (fs := fs') (lo := 0) (hi := 8) (lo' := 9) (hi' := 9) (lw_hb_ok (by decide +kernel) L1.hD g1 h09 hPa9) (lw_bk b16 (g2 16 (by decide +kernel)) (Int.le_refl _) (Int.le_refl _)) (by decide)
      obtain ⟨cx9, cy9, hS9⟩ := lw_on2 (st := 4) (fun q hq => I.h27 q (lw_new hpx.1 (by decide) hq)) g1 hWu hO1 hO2 (by decide) hB9 hhn
      exact k _ _ _ _ _ _ _ _ hrv (lw_Iq hLP I hpx (by decide +kernel) g1 (by decide) (lw_Io I hpx (by decide +kernel)) (lw_Id I hpx (by decide +kernel)) hS9) L1
set_option maxHeartbeats 4000000 in
theorem lm_X7_odds (hl9 : l.stackTraces = false) (a1 : Int32) (a2 : Int32) (a3 : Int32) (a4 : Int32) (hb4 : 0 ≤ a4.toInt ∧ a4.toInt ≤ 65535) (hLP : lw_st LP) (F : lw_Fm p R s m args c D tys cO cD A) (L : lw_H D A s w H locs) (I : lw_I E LP tys cO cD qx qo qd sh w st cx cy fs) (hls : ls.size = 9) (hcs : cells + 8 ≤ R.cells ∧ slots + 64 ≤ R.slots)
    (k : ∀ (u : en_H × va_W) (res : Option Value) (H1 : Heap) (locs1 : List Loc) (st' : Nat) (cx' cy' : Int32) (fs' : List Value), en_rv 0 res → lw_I E LP tys cO cD qx qo qd u.1 u.2 st' cx' cy' fs' → lw_H D A s u.2 H1 locs1 → W p l e R s m args below meth c H1 locs1 (cells + 8) (slots + 64) Q (F0 m 844 ls (res.toList ++ []))) :
    W p l e R s m args below meth c H locs cells slots Q (F0 m 841 ls (([.int a1, .int a2, .int a3, .int a4] : List Value).reverse ++ [.ref (sh.2 0)])) := by
  by_cases h3 : 3 ≤ st
  · skip
    obtain ⟨⟨x22, f22, l22, u22⟩, ⟨x16, f16, l16, u16⟩, x25, f25, l25, u25⟩ := lw_bon h3 I.hs.2.2.1
    have hOc := (I.hs.2.2.2.2 h3).2.1
    have hAh := (I.hs.2.2.2.2 h3).2.2
    refine lw_mc (lv' := 3) (ρp := [.ref (sh.2 0), .int a1, .int a2, .int a3, .int a4, .int x22, .int x25]) (As := [.int a1, .int a2, .int a3, .int a4]) F L (ct_X7_odds_1 hl9 (cx := cx) (cy := cy)) gm_X7_odds I.hs.2.1 rfl rfl (Nat.le_of_ble_eq_true rfl) (by decide) ⟨Nat.le_trans (Nat.add_le_add_left (Nat.le_of_ble_eq_true rfl) _) hcs.1, Nat.le_trans (Nat.add_le_add_left (Nat.le_of_ble_eq_true rfl) _) hcs.2⟩ hls rfl (lw_pre I.hs.1 (by decide) (Or.inl h3)) (I.hO cx cy) (lw_pa (env := k_X7_odds_1.2.1.1) (fa := k_X7_odds_1.2.1.2) ⟨⟨0, I.h20, rfl⟩, ⟨a1, rfl, en_lo a1, en_hi a1⟩, ⟨a2, rfl, en_lo a2, en_hi a2⟩, ⟨a3, rfl, en_lo a3, en_hi a3⟩, ⟨a4, rfl, hb4.1, hb4.2⟩, ⟨x22, rfl, l22, u22⟩, ⟨x25, rfl, l25, u25⟩, trivial⟩ (en_ac (lw_f0 I.hs.2.1 rfl f22 rfl) (en_ac (lw_f0 I.hs.2.1 rfl f25 rfl) (en_ac (⟨I.had, hOc⟩) (en_an))))) dlw_841 (fun u res H1 locs1 hrv hpo L1 => ?_)
    refine W.widen (k := cells + 8) (n := slots + 64) (Nat.add_le_add_left (Nat.le_of_ble_eq_true rfl) _) (Nat.add_le_add_left (Nat.le_of_ble_eq_true rfl) _) ?_
    obtain ⟨fs', I1⟩ := lw_Iqq hLP I hpo.1 (by decide +kernel) (lw_qon h3 (by decide +kernel)) (by decide +kernel) (by decide +kernel) (lw_Io I hpo.1 (by decide +kernel)) (lw_Id I hpo.1 (by decide +kernel))
    exact k _ _ _ _ _ _ _ _ hrv I1 L1
  · skip
    obtain ⟨x22, f22, l22, u22⟩ := lw_boff h3 I.hs.2.2.1
    refine lw_mc (lv' := 2) (ρp := [.ref (sh.2 0), .int a1, .int a2, .int a3, .int a4, .int x22]) (As := [.int a1, .int a2, .int a3, .int a4]) F L (ct_X7_odds_0 hl9 (cx := cx) (cy := cy)) gm_X7_odds I.hs.2.1 rfl rfl (Nat.le_of_ble_eq_true rfl) (by decide) ⟨Nat.le_trans (Nat.add_le_add_left (Nat.le_of_ble_eq_true rfl) _) hcs.1, Nat.le_trans (Nat.add_le_add_left (Nat.le_of_ble_eq_true rfl) _) hcs.2⟩ hls rfl (lw_pre I.hs.1 (by decide) (Or.inr (by decide))) (I.hO cx cy) (lw_pa (env := k_X7_odds_0.2.1.1) (fa := k_X7_odds_0.2.1.2) ⟨⟨0, I.h20, rfl⟩, ⟨a1, rfl, en_lo a1, en_hi a1⟩, ⟨a2, rfl, en_lo a2, en_hi a2⟩, ⟨a3, rfl, en_lo a3, en_hi a3⟩, ⟨a4, rfl, hb4.1, hb4.2⟩, ⟨x22, rfl, l22, u22⟩, trivial⟩ (en_ac (lw_f0 I.hs.2.1 rfl f22 rfl) (en_an))) dlw_841 (fun u res H1 locs1 hrv hpo L1 => ?_)
    refine W.widen (k := cells + 8) (n := slots + 64) (Nat.add_le_add_left (Nat.le_of_ble_eq_true rfl) _) (Nat.add_le_add_left (Nat.le_of_ble_eq_true rfl) _) ?_
    obtain ⟨fs', I1⟩ := lw_Iqq hLP I hpo.1 (by decide +kernel) (lw_qoff h3 (by decide +kernel)) (by decide +kernel) (by decide +kernel) (lw_Io I hpo.1 (by decide +kernel)) (lw_Id I hpo.1 (by decide +kernel))
    exact k _ _ _ _ _ _ _ _ hrv I1 L1
set_option maxHeartbeats 4000000 in
theorem lm_X7_parPlay (hl9 : l.stackTraces = false) (a1 : Int32) (hLP : lw_st LP) (F : lw_Fm p R s m args c D tys cO cD A) (L : lw_H D A s w H locs) (I : lw_I E LP tys cO cD qx qo qd sh w st cx cy fs) (hls : ls.size = 9) (hcs : cells + 8 ≤ R.cells ∧ slots + 64 ≤ R.slots)
    (k : ∀ (u : en_H × va_W) (res : Option Value) (H1 : Heap) (locs1 : List Loc) (st' : Nat) (cx' cy' : Int32) (fs' : List Value), en_rv 0 res → lw_I E LP tys cO cD qx qo qd u.1 u.2 st' cx' cy' fs' → lw_H D A s u.2 H1 locs1 → W p l e R s m args below meth c H1 locs1 (cells + 8) (slots + 64) Q (F0 m 1900 ls (res.toList ++ []))) :
    W p l e R s m args below meth c H locs cells slots Q (F0 m 1897 ls (([.int a1] : List Value).reverse ++ [.ref (sh.2 0)])) := by
  by_cases h3 : 3 ≤ st
  · skip
    obtain ⟨⟨x22, f22, l22, u22⟩, ⟨x16, f16, l16, u16⟩, x25, f25, l25, u25⟩ := lw_bon h3 I.hs.2.2.1
    have hOc := (I.hs.2.2.2.2 h3).2.1
    have hAh := (I.hs.2.2.2.2 h3).2.2
    refine lw_mc (lv' := 2) (ρp := [.ref (sh.2 0), .int a1, .int x16, .int x22]) (As := [.int a1]) F L (ct_X7_parPlay_1 hl9 (cx := cx) (cy := cy)) gm_X7_parPlay I.hs.2.1 rfl rfl (Nat.le_of_ble_eq_true rfl) (by decide) ⟨Nat.le_trans (Nat.add_le_add_left (Nat.le_of_ble_eq_true rfl) _) hcs.1, Nat.le_trans (Nat.add_le_add_left (Nat.le_of_ble_eq_true rfl) _) hcs.2⟩ hls rfl (lw_pre I.hs.1 (by decide) (Or.inl h3)) (I.hO cx cy) (lw_pa (env := k_X7_parPlay_1.2.1.1) (fa := k_X7_parPlay_1.2.1.2) ⟨⟨0, I.h20, rfl⟩, ⟨a1, rfl, en_lo a1, en_hi a1⟩, ⟨x16, rfl, l16, u16⟩, ⟨x22, rfl, l22, u22⟩, trivial⟩ (en_ac (lw_f0 I.hs.2.1 rfl f16 rfl) (en_ac (lw_f0 I.hs.2.1 rfl f22 rfl) (en_ac (⟨I.had, hOc⟩) (en_an))))) dlw_1897 (fun u res H1 locs1 hrv hpo L1 => ?_)
    refine W.widen (k := cells + 8) (n := slots + 64) (Nat.add_le_add_left (Nat.le_of_ble_eq_true rfl) _) (Nat.add_le_add_left (Nat.le_of_ble_eq_true rfl) _) ?_
    obtain ⟨fs', I1⟩ := lw_Iqq hLP I hpo.1 (by decide +kernel) (lw_qon h3 (by decide +kernel)) (by decide +kernel) (by decide +kernel) (lw_Io I hpo.1 (by decide +kernel)) (lw_Id I hpo.1 (by decide +kernel))
    exact k _ _ _ _ _ _ _ _ hrv I1 L1
  · skip
    obtain ⟨x22, f22, l22, u22⟩ := lw_boff h3 I.hs.2.2.1
    refine lw_mc (lv' := 2) (ρp := [.ref (sh.2 0), .int a1, .int x22]) (As := [.int a1]) F L (ct_X7_parPlay_0 hl9 (cx := cx) (cy := cy)) gm_X7_parPlay I.hs.2.1 rfl rfl (Nat.le_of_ble_eq_true rfl) (by decide) ⟨Nat.le_trans (Nat.add_le_add_left (Nat.le_of_ble_eq_true rfl) _) hcs.1, Nat.le_trans (Nat.add_le_add_left (Nat.le_of_ble_eq_true rfl) _) hcs.2⟩ hls rfl (lw_pre I.hs.1 (by decide) (Or.inr (by decide))) (I.hO cx cy) (lw_pa (env := k_X7_parPlay_0.2.1.1) (fa := k_X7_parPlay_0.2.1.2) ⟨⟨0, I.h20, rfl⟩, ⟨a1, rfl, en_lo a1, en_hi a1⟩, ⟨x22, rfl, l22, u22⟩, trivial⟩ (en_ac (lw_f0 I.hs.2.1 rfl f22 rfl) (en_an))) dlw_1897 (fun u res H1 locs1 hrv hpo L1 => ?_)
    refine W.widen (k := cells + 8) (n := slots + 64) (Nat.add_le_add_left (Nat.le_of_ble_eq_true rfl) _) (Nat.add_le_add_left (Nat.le_of_ble_eq_true rfl) _) ?_
    obtain ⟨fs', I1⟩ := lw_Iqq hLP I hpo.1 (by decide +kernel) (lw_qoff h3 (by decide +kernel)) (by decide +kernel) (by decide +kernel) (lw_Io I hpo.1 (by decide +kernel)) (lw_Id I hpo.1 (by decide +kernel))
    exact k _ _ _ _ _ _ _ _ hrv I1 L1
set_option maxHeartbeats 4000000 in
theorem lm_X7_penalties (hl9 : l.stackTraces = false) (a1 : Int32) (hLP : lw_st LP) (F : lw_Fm p R s m args c D tys cO cD A) (L : lw_H D A s w H locs) (I : lw_I E LP tys cO cD qx qo qd sh w st cx cy fs) (hls : ls.size = 9) (hcs : cells + 8 ≤ R.cells ∧ slots + 64 ≤ R.slots)
    (k : ∀ (u : en_H × va_W) (res : Option Value) (H1 : Heap) (locs1 : List Loc) (st' : Nat) (cx' cy' : Int32) (fs' : List Value), en_rv 0 res → lw_I E LP tys cO cD qx qo qd u.1 u.2 st' cx' cy' fs' → lw_H D A s u.2 H1 locs1 → W p l e R s m args below meth c H1 locs1 (cells + 8) (slots + 64) Q (F0 m 1636 ls (res.toList ++ []))) :
    W p l e R s m args below meth c H locs cells slots Q (F0 m 1633 ls (([.int a1] : List Value).reverse ++ [.ref (sh.2 0)])) := by
  by_cases h3 : 3 ≤ st
  · skip
    obtain ⟨⟨x22, f22, l22, u22⟩, ⟨x16, f16, l16, u16⟩, x25, f25, l25, u25⟩ := lw_bon h3 I.hs.2.2.1
    have hOc := (I.hs.2.2.2.2 h3).2.1
    have hAh := (I.hs.2.2.2.2 h3).2.2
    refine lw_mc (lv' := 3) (ρp := [.ref (sh.2 0), .int a1, .int x22]) (As := [.int a1]) F L (ct_X7_penalties_1 hl9 (cx := cx) (cy := cy)) gm_X7_penalties I.hs.2.1 rfl rfl (Nat.le_of_ble_eq_true rfl) (by decide) ⟨Nat.le_trans (Nat.add_le_add_left (Nat.le_of_ble_eq_true rfl) _) hcs.1, Nat.le_trans (Nat.add_le_add_left (Nat.le_of_ble_eq_true rfl) _) hcs.2⟩ hls rfl (lw_pre I.hs.1 (by decide) (Or.inl h3)) (I.hO cx cy) (lw_pa (env := k_X7_penalties_1.2.1.1) (fa := k_X7_penalties_1.2.1.2) ⟨⟨0, I.h20, rfl⟩, ⟨a1, rfl, en_lo a1, en_hi a1⟩, ⟨x22, rfl, l22, u22⟩, trivial⟩ (en_ac (lw_f0 I.hs.2.1 rfl f22 rfl) (en_ac (⟨I.had, hOc⟩) (en_an)))) dlw_1633 (fun u res H1 locs1 hrv hpo L1 => ?_)
    refine W.widen (k := cells + 8) (n := slots + 64) (Nat.add_le_add_left (Nat.le_of_ble_eq_true rfl) _) (Nat.add_le_add_left (Nat.le_of_ble_eq_true rfl) _) ?_
    obtain ⟨fs', I1⟩ := lw_Iqq hLP I hpo.1 (by decide +kernel) (lw_qon h3 (by decide +kernel)) (by decide +kernel) (by decide +kernel) (lw_Io I hpo.1 (by decide +kernel)) (lw_Id I hpo.1 (by decide +kernel))
    exact k _ _ _ _ _ _ _ _ hrv I1 L1
  · skip
    obtain ⟨x22, f22, l22, u22⟩ := lw_boff h3 I.hs.2.2.1
    refine lw_mc (lv' := 3) (ρp := [.ref (sh.2 0), .int a1, .int x22]) (As := [.int a1]) F L (ct_X7_penalties_0 hl9 (cx := cx) (cy := cy)) gm_X7_penalties I.hs.2.1 rfl rfl (Nat.le_of_ble_eq_true rfl) (by decide) ⟨Nat.le_trans (Nat.add_le_add_left (Nat.le_of_ble_eq_true rfl) _) hcs.1, Nat.le_trans (Nat.add_le_add_left (Nat.le_of_ble_eq_true rfl) _) hcs.2⟩ hls rfl (lw_pre I.hs.1 (by decide) (Or.inr (by decide))) (I.hO cx cy) (lw_pa (env := k_X7_penalties_0.2.1.1) (fa := k_X7_penalties_0.2.1.2) ⟨⟨0, I.h20, rfl⟩, ⟨a1, rfl, en_lo a1, en_hi a1⟩, ⟨x22, rfl, l22, u22⟩, trivial⟩ (en_ac (lw_f0 I.hs.2.1 rfl f22 rfl) (en_an))) dlw_1633 (fun u res H1 locs1 hrv hpo L1 => ?_)
    refine W.widen (k := cells + 8) (n := slots + 64) (Nat.add_le_add_left (Nat.le_of_ble_eq_true rfl) _) (Nat.add_le_add_left (Nat.le_of_ble_eq_true rfl) _) ?_
    obtain ⟨fs', I1⟩ := lw_Iqq hLP I hpo.1 (by decide +kernel) (lw_qoff h3 (by decide +kernel)) (by decide +kernel) (by decide +kernel) (lw_Io I hpo.1 (by decide +kernel)) (lw_Id I hpo.1 (by decide +kernel))
    exact k _ _ _ _ _ _ _ _ hrv I1 L1
set_option maxHeartbeats 4000000 in
theorem lm_X7_penaltyShare (hl9 : l.stackTraces = false) (a1 : Int32) (hLP : lw_st LP) (F : lw_Fm p R s m args c D tys cO cD A) (L : lw_H D A s w H locs) (I : lw_I E LP tys cO cD qx qo qd sh w st cx cy fs) (hls : ls.size = 9) (hcs : cells + 8 ≤ R.cells ∧ slots + 64 ≤ R.slots)
    (k : ∀ (u : en_H × va_W) (res : Option Value) (H1 : Heap) (locs1 : List Loc) (st' : Nat) (cx' cy' : Int32) (fs' : List Value), en_rv 2 res → lw_I E LP tys cO cD qx qo qd u.1 u.2 st' cx' cy' fs' → lw_H D A s u.2 H1 locs1 → W p l e R s m args below meth c H1 locs1 (cells + 8) (slots + 64) Q (F0 m 2282 ls (res.toList ++ []))) :
    W p l e R s m args below meth c H locs cells slots Q (F0 m 2279 ls (([.int a1] : List Value).reverse ++ [.ref (sh.2 0)])) := by
  by_cases h3 : 3 ≤ st
  · skip
    obtain ⟨⟨x22, f22, l22, u22⟩, ⟨x16, f16, l16, u16⟩, x25, f25, l25, u25⟩ := lw_bon h3 I.hs.2.2.1
    have hOc := (I.hs.2.2.2.2 h3).2.1
    have hAh := (I.hs.2.2.2.2 h3).2.2
    refine lw_mc (lv' := 2) (ρp := [.ref (sh.2 0), .int a1]) (As := [.int a1]) F L (ct_X7_penaltyShare_1 hl9 (cx := cx) (cy := cy)) gm_X7_penaltyShare I.hs.2.1 rfl rfl (Nat.le_of_ble_eq_true rfl) (by decide) ⟨Nat.le_trans (Nat.add_le_add_left (Nat.le_of_ble_eq_true rfl) _) hcs.1, Nat.le_trans (Nat.add_le_add_left (Nat.le_of_ble_eq_true rfl) _) hcs.2⟩ hls rfl (lw_pre I.hs.1 (by decide) (Or.inl h3)) (I.hO cx cy) (lw_pa (env := k_X7_penaltyShare_1.2.1.1) (fa := k_X7_penaltyShare_1.2.1.2) ⟨⟨0, I.h20, rfl⟩, ⟨a1, rfl, en_lo a1, en_hi a1⟩, trivial⟩ (en_ac (⟨I.had, hOc⟩) (en_an))) dlw_2279 (fun u res H1 locs1 hrv hpo L1 => ?_)
    refine W.widen (k := cells + 8) (n := slots + 64) (Nat.add_le_add_left (Nat.le_of_ble_eq_true rfl) _) (Nat.add_le_add_left (Nat.le_of_ble_eq_true rfl) _) ?_
    obtain ⟨fs', I1⟩ := lw_Iqq hLP I hpo.1 (by decide +kernel) (lw_qon h3 (by decide +kernel)) (by decide +kernel) (by decide +kernel) (lw_Io I hpo.1 (by decide +kernel)) (lw_Id I hpo.1 (by decide +kernel))
    exact k _ _ _ _ _ _ _ _ hrv I1 L1
  · skip
    obtain ⟨x22, f22, l22, u22⟩ := lw_boff h3 I.hs.2.2.1
    refine lw_mc (lv' := 2) (ρp := [.ref (sh.2 0), .int a1]) (As := [.int a1]) F L (ct_X7_penaltyShare_0 hl9 (cx := cx) (cy := cy)) gm_X7_penaltyShare I.hs.2.1 rfl rfl (Nat.le_of_ble_eq_true rfl) (by decide) ⟨Nat.le_trans (Nat.add_le_add_left (Nat.le_of_ble_eq_true rfl) _) hcs.1, Nat.le_trans (Nat.add_le_add_left (Nat.le_of_ble_eq_true rfl) _) hcs.2⟩ hls rfl (lw_pre I.hs.1 (by decide) (Or.inr (by decide))) (I.hO cx cy) (lw_pa (env := k_X7_penaltyShare_0.2.1.1) (fa := k_X7_penaltyShare_0.2.1.2) ⟨⟨0, I.h20, rfl⟩, ⟨a1, rfl, en_lo a1, en_hi a1⟩, trivial⟩ (en_an)) dlw_2279 (fun u res H1 locs1 hrv hpo L1 => ?_)
    refine W.widen (k := cells + 8) (n := slots + 64) (Nat.add_le_add_left (Nat.le_of_ble_eq_true rfl) _) (Nat.add_le_add_left (Nat.le_of_ble_eq_true rfl) _) ?_
    obtain ⟨fs', I1⟩ := lw_Iqq hLP I hpo.1 (by decide +kernel) (lw_qoff h3 (by decide +kernel)) (by decide +kernel) (by decide +kernel) (lw_Io I hpo.1 (by decide +kernel)) (lw_Id I hpo.1 (by decide +kernel))
    exact k _ _ _ _ _ _ _ _ hrv I1 L1
set_option maxHeartbeats 4000000 in
theorem lm_X7_pickUp (hl9 : l.stackTraces = false) (a1 : Int32) (hLP : lw_st LP) (F : lw_Fm p R s m args c D tys cO cD A) (L : lw_H D A s w H locs) (I : lw_I E LP tys cO cD qx qo qd sh w st cx cy fs) (hls : ls.size = 9) (hcs : cells + 8 ≤ R.cells ∧ slots + 64 ≤ R.slots)
    (k : ∀ (u : en_H × va_W) (res : Option Value) (H1 : Heap) (locs1 : List Loc) (st' : Nat) (cx' cy' : Int32) (fs' : List Value), en_rv 0 res → lw_I E LP tys cO cD qx qo qd u.1 u.2 st' cx' cy' fs' → lw_H D A s u.2 H1 locs1 → W p l e R s m args below meth c H1 locs1 (cells + 8) (slots + 64) Q (F0 m 1366 ls (res.toList ++ []))) :
    W p l e R s m args below meth c H locs cells slots Q (F0 m 1363 ls (([.int a1] : List Value).reverse ++ [.ref (sh.2 0)])) := by
  by_cases h3 : 3 ≤ st
  · skip
    obtain ⟨⟨x22, f22, l22, u22⟩, ⟨x16, f16, l16, u16⟩, x25, f25, l25, u25⟩ := lw_bon h3 I.hs.2.2.1
    have hOc := (I.hs.2.2.2.2 h3).2.1
    have hAh := (I.hs.2.2.2.2 h3).2.2
    rcases hAh with hAl | f28
    · skip
      refine lw_mc (lv' := 2) (ρp := [.ref (sh.2 0), .int a1, .int x22]) (As := [.int a1]) F L (ct_X7_pickUp_1 hl9 (cx := cx) (cy := cy)) gm_X7_pickUp I.hs.2.1 rfl rfl (Nat.le_of_ble_eq_true rfl) (by decide) ⟨Nat.le_trans (Nat.add_le_add_left (Nat.le_of_ble_eq_true rfl) _) hcs.1, Nat.le_trans (Nat.add_le_add_left (Nat.le_of_ble_eq_true rfl) _) hcs.2⟩ hls rfl (lw_pre I.hs.1 (by decide) (Or.inl h3)) (I.hO cx cy) (lw_pa (env := k_X7_pickUp_1.2.1.1) (fa := k_X7_pickUp_1.2.1.2) ⟨⟨0, I.h20, rfl⟩, ⟨a1, rfl, en_lo a1, en_hi a1⟩, ⟨x22, rfl, l22, u22⟩, trivial⟩ (en_ac (lw_f0 I.hs.2.1 rfl f22 rfl) (en_ac (⟨I.had, hOc⟩) (en_an)))) dlw_1363 (fun u res H1 locs1 hrv hpo L1 => ?_)
      refine W.widen (k := cells + 8) (n := slots + 64) (Nat.add_le_add_left (Nat.le_of_ble_eq_true rfl) _) (Nat.add_le_add_left (Nat.le_of_ble_eq_true rfl) _) ?_
      obtain ⟨fs', g1, g2⟩ := lw_fs I.h20 I.hs.2.1 hpo.1
      have hA1 : lw_ah cx cy fs' u.2 := lw_ahA I hpo.1 g1 (by decide +kernel) hAl
      exact k _ _ _ _ _ _ _ _ hrv (lw_Iq hLP I hpo.1 (by decide +kernel) g1 I.hst (lw_Io I hpo.1 (by decide +kernel)) (lw_Id I hpo.1 (by decide +kernel)) (lw_q I.h20 I.hlen (I.hO cx cy) I.hs hpo.1 (lw_qon h3 (by decide +kernel)) g1 (fun _ => hA1))) L1
    · skip
      have l28 : (-1 : Int) ≤ (-1 : Int32).toInt := by decide
      have u28 : (-1 : Int32).toInt ≤ (-1 : Int) := by decide
      obtain ⟨x28, e28⟩ : ∃ x : Int32, x = -1 := ⟨_, rfl⟩
      rw [← e28] at f28 l28 u28
      refine lw_mc (lv' := 2) (ρp := [.ref (sh.2 0), .int a1, .int x22, .int x28]) (As := [.int a1]) F L (ct_X7_pickUp_2 hl9 (cx := cx) (cy := cy)) gm_X7_pickUp I.hs.2.1 rfl rfl (Nat.le_of_ble_eq_true rfl) (by decide) ⟨Nat.le_trans (Nat.add_le_add_left (Nat.le_of_ble_eq_true rfl) _) hcs.1, Nat.le_trans (Nat.add_le_add_left (Nat.le_of_ble_eq_true rfl) _) hcs.2⟩ hls rfl (lw_pre I.hs.1 (by decide) (Or.inl h3)) (I.hO cx cy) (lw_pa (env := k_X7_pickUp_2.2.1.1) (fa := k_X7_pickUp_2.2.1.2) ⟨⟨0, I.h20, rfl⟩, ⟨a1, rfl, en_lo a1, en_hi a1⟩, ⟨x22, rfl, l22, u22⟩, ⟨x28, rfl, l28, u28⟩, trivial⟩ (en_ac (lw_f0 I.hs.2.1 rfl f22 rfl) (en_ac (lw_f0 I.hs.2.1 rfl f28 rfl) (en_ac (⟨I.had, hOc⟩) (en_an))))) dlw_1363 (fun u res H1 locs1 hrv hpo L1 => ?_)
      refine W.widen (k := cells + 8) (n := slots + 64) (Nat.add_le_add_left (Nat.le_of_ble_eq_true rfl) _) (Nat.add_le_add_left (Nat.le_of_ble_eq_true rfl) _) ?_
      obtain ⟨fs', g1, g2⟩ := lw_fs I.h20 I.hs.2.1 hpo.1
      have hA1 : lw_ah cx cy fs' u.2 := Or.inr (lw_last I (by decide +kernel) L1.hD g1 hpo (show 0 < 2 by decide) rfl)
      exact k _ _ _ _ _ _ _ _ hrv (lw_Iq hLP I hpo.1 (by decide +kernel) g1 I.hst (lw_Io I hpo.1 (by decide +kernel)) (lw_Id I hpo.1 (by decide +kernel)) (lw_q I.h20 I.hlen (I.hO cx cy) I.hs hpo.1 (lw_qon h3 (by decide +kernel)) g1 (fun _ => hA1))) L1
  · skip
    obtain ⟨x22, f22, l22, u22⟩ := lw_boff h3 I.hs.2.2.1
    refine lw_mc (lv' := 2) (ρp := [.ref (sh.2 0), .int a1, .int x22]) (As := [.int a1]) F L (ct_X7_pickUp_0 hl9 (cx := cx) (cy := cy)) gm_X7_pickUp I.hs.2.1 rfl rfl (Nat.le_of_ble_eq_true rfl) (by decide) ⟨Nat.le_trans (Nat.add_le_add_left (Nat.le_of_ble_eq_true rfl) _) hcs.1, Nat.le_trans (Nat.add_le_add_left (Nat.le_of_ble_eq_true rfl) _) hcs.2⟩ hls rfl (lw_pre I.hs.1 (by decide) (Or.inr (by decide))) (I.hO cx cy) (lw_pa (env := k_X7_pickUp_0.2.1.1) (fa := k_X7_pickUp_0.2.1.2) ⟨⟨0, I.h20, rfl⟩, ⟨a1, rfl, en_lo a1, en_hi a1⟩, ⟨x22, rfl, l22, u22⟩, trivial⟩ (en_ac (lw_f0 I.hs.2.1 rfl f22 rfl) (en_an))) dlw_1363 (fun u res H1 locs1 hrv hpo L1 => ?_)
    refine W.widen (k := cells + 8) (n := slots + 64) (Nat.add_le_add_left (Nat.le_of_ble_eq_true rfl) _) (Nat.add_le_add_left (Nat.le_of_ble_eq_true rfl) _) ?_
    obtain ⟨fs', I1⟩ := lw_Iqq hLP I hpo.1 (by decide +kernel) (lw_qoff h3 (by decide +kernel)) (by decide +kernel) (by decide +kernel) (lw_Io I hpo.1 (by decide +kernel)) (lw_Id I hpo.1 (by decide +kernel))
    exact k _ _ _ _ _ _ _ _ hrv I1 L1
set_option maxHeartbeats 4000000 in
theorem lm_X7_player (hl9 : l.stackTraces = false) (hLP : lw_st LP) (F : lw_Fm p R s m args c D tys cO cD A) (L : lw_H D A s w H locs) (I : lw_I E LP tys cO cD qx qo qd sh w st cx cy fs) (hls : ls.size = 9) (hcs : cells + 8 ≤ R.cells ∧ slots + 64 ≤ R.slots)
    (k : ∀ (u : en_H × va_W) (res : Option Value) (H1 : Heap) (locs1 : List Loc) (st' : Nat) (cx' cy' : Int32) (fs' : List Value), en_rv 0 res → lw_I E LP tys cO cD qx qo qd u.1 u.2 st' cx' cy' fs' → lw_H D A s u.2 H1 locs1 → W p l e R s m args below meth c H1 locs1 (cells + 8) (slots + 64) Q (F0 m 529 ls (res.toList ++ []))) :
    W p l e R s m args below meth c H locs cells slots Q (F0 m 526 ls (([] : List Value).reverse ++ [.ref (sh.2 0)])) := by
  obtain rfl | rfl | rfl | rfl | rfl := lw_stc I.hst
  · skip
    obtain ⟨x21, f21, l21, u21⟩ := I.hs.2.2.1 (21, 0, 0) (by decide)
    refine lw_mc (lv' := 1) (ρp := [.ref (sh.2 0), .int x21]) (As := []) F L (ct_X7_player_0 hl9 (cx := cx) (cy := cy)) gm_X7_player I.hs.2.1 rfl rfl (Nat.le_of_ble_eq_true rfl) (by decide) ⟨Nat.le_trans (Nat.add_le_add_left (Nat.le_of_ble_eq_true rfl) _) hcs.1, Nat.le_trans (Nat.add_le_add_left (Nat.le_of_ble_eq_true rfl) _) hcs.2⟩ hls rfl (lw_pre I.hs.1 (by decide) (Or.inr (by decide))) (I.hO cx cy) (lw_pa (env := k_X7_player_0.2.1.1) (fa := k_X7_player_0.2.1.2) ⟨⟨0, I.h20, rfl⟩, ⟨x21, rfl, l21, u21⟩, trivial⟩ (en_ac (lw_f0 I.hs.2.1 rfl f21 rfl) (en_an))) dlw_526 (fun u res H1 locs1 hrv hpo L1 => ?_)
    refine W.widen (k := cells + 8) (n := slots + 64) (Nat.add_le_add_left (Nat.le_of_ble_eq_true rfl) _) (Nat.add_le_add_left (Nat.le_of_ble_eq_true rfl) _) ?_
    obtain ⟨fs', I1⟩ := lw_Iqq hLP I hpo.1 (by decide +kernel) (by decide +kernel) (by decide +kernel) (by decide +kernel) (lw_Io I hpo.1 (by decide +kernel)) (lw_Id I hpo.1 (by decide +kernel))
    exact k _ _ _ _ _ _ _ _ hrv I1 L1
  · skip
    obtain ⟨x21, f21, l21, u21⟩ := I.hs.2.2.1 (21, 1, 1) (by decide)
    refine lw_mc (lv' := 1) (ρp := [.ref (sh.2 0), .int x21]) (As := []) F L (ct_X7_player_1 hl9 (cx := cx) (cy := cy)) gm_X7_player I.hs.2.1 rfl rfl (Nat.le_of_ble_eq_true rfl) (by decide) ⟨Nat.le_trans (Nat.add_le_add_left (Nat.le_of_ble_eq_true rfl) _) hcs.1, Nat.le_trans (Nat.add_le_add_left (Nat.le_of_ble_eq_true rfl) _) hcs.2⟩ hls rfl (lw_pre I.hs.1 (by decide) (Or.inr (by decide))) (I.hO cx cy) (lw_pa (env := k_X7_player_1.2.1.1) (fa := k_X7_player_1.2.1.2) ⟨⟨0, I.h20, rfl⟩, ⟨x21, rfl, l21, u21⟩, trivial⟩ (en_ac (lw_f0 I.hs.2.1 rfl f21 rfl) (en_an))) dlw_526 (fun u res H1 locs1 hrv hpo L1 => ?_)
    refine W.widen (k := cells + 8) (n := slots + 64) (Nat.add_le_add_left (Nat.le_of_ble_eq_true rfl) _) (Nat.add_le_add_left (Nat.le_of_ble_eq_true rfl) _) ?_
    obtain ⟨fs', I1⟩ := lw_Iqq hLP I hpo.1 (by decide +kernel) (by decide +kernel) (by decide +kernel) (by decide +kernel) (lw_Io I hpo.1 (by decide +kernel)) (lw_Id I hpo.1 (by decide +kernel))
    exact k _ _ _ _ _ _ _ _ hrv I1 L1
  · skip
    obtain ⟨x21, f21, l21, u21⟩ := I.hs.2.2.1 (21, 1, 1) (by decide)
    refine lw_mc (lv' := 1) (ρp := [.ref (sh.2 0), .int x21]) (As := []) F L (ct_X7_player_1 hl9 (cx := cx) (cy := cy)) gm_X7_player I.hs.2.1 rfl rfl (Nat.le_of_ble_eq_true rfl) (by decide) ⟨Nat.le_trans (Nat.add_le_add_left (Nat.le_of_ble_eq_true rfl) _) hcs.1, Nat.le_trans (Nat.add_le_add_left (Nat.le_of_ble_eq_true rfl) _) hcs.2⟩ hls rfl (lw_pre I.hs.1 (by decide) (Or.inr (by decide))) (I.hO cx cy) (lw_pa (env := k_X7_player_1.2.1.1) (fa := k_X7_player_1.2.1.2) ⟨⟨0, I.h20, rfl⟩, ⟨x21, rfl, l21, u21⟩, trivial⟩ (en_ac (lw_f0 I.hs.2.1 rfl f21 rfl) (en_an))) dlw_526 (fun u res H1 locs1 hrv hpo L1 => ?_)
    refine W.widen (k := cells + 8) (n := slots + 64) (Nat.add_le_add_left (Nat.le_of_ble_eq_true rfl) _) (Nat.add_le_add_left (Nat.le_of_ble_eq_true rfl) _) ?_
    obtain ⟨fs', I1⟩ := lw_Iqq hLP I hpo.1 (by decide +kernel) (by decide +kernel) (by decide +kernel) (by decide +kernel) (lw_Io I hpo.1 (by decide +kernel)) (lw_Id I hpo.1 (by decide +kernel))
    exact k _ _ _ _ _ _ _ _ hrv I1 L1
  · skip
    obtain ⟨x21, f21, l21, u21⟩ := I.hs.2.2.1 (21, 1, 1) (by decide)
    have hOc := (I.hs.2.2.2.2 (by decide)).2.1
    have hAh := (I.hs.2.2.2.2 (by decide)).2.2
    refine lw_mc (lv' := 1) (ρp := [.ref (sh.2 0), .int x21]) (As := []) F L (ct_X7_player_1 hl9 (cx := cx) (cy := cy)) gm_X7_player I.hs.2.1 rfl rfl (Nat.le_of_ble_eq_true rfl) (by decide) ⟨Nat.le_trans (Nat.add_le_add_left (Nat.le_of_ble_eq_true rfl) _) hcs.1, Nat.le_trans (Nat.add_le_add_left (Nat.le_of_ble_eq_true rfl) _) hcs.2⟩ hls rfl (lw_pre I.hs.1 (by decide) (Or.inl (by decide))) (I.hO cx cy) (lw_pa (env := k_X7_player_1.2.1.1) (fa := k_X7_player_1.2.1.2) ⟨⟨0, I.h20, rfl⟩, ⟨x21, rfl, l21, u21⟩, trivial⟩ (en_ac (lw_f0 I.hs.2.1 rfl f21 rfl) (en_an))) dlw_526 (fun u res H1 locs1 hrv hpo L1 => ?_)
    refine W.widen (k := cells + 8) (n := slots + 64) (Nat.add_le_add_left (Nat.le_of_ble_eq_true rfl) _) (Nat.add_le_add_left (Nat.le_of_ble_eq_true rfl) _) ?_
    obtain ⟨fs', I1⟩ := lw_Iqq hLP I hpo.1 (by decide +kernel) (by decide +kernel) (by decide +kernel) (by decide +kernel) (lw_Io I hpo.1 (by decide +kernel)) (lw_Id I hpo.1 (by decide +kernel))
    exact k _ _ _ _ _ _ _ _ hrv I1 L1
  · skip
    obtain ⟨x21, f21, l21, u21⟩ := I.hs.2.2.1 (21, 1, 1) (by decide)
    have hOc := (I.hs.2.2.2.2 (by decide)).2.1
    have hAh := (I.hs.2.2.2.2 (by decide)).2.2
    refine lw_mc (lv' := 1) (ρp := [.ref (sh.2 0), .int x21]) (As := []) F L (ct_X7_player_1 hl9 (cx := cx) (cy := cy)) gm_X7_player I.hs.2.1 rfl rfl (Nat.le_of_ble_eq_true rfl) (by decide) ⟨Nat.le_trans (Nat.add_le_add_left (Nat.le_of_ble_eq_true rfl) _) hcs.1, Nat.le_trans (Nat.add_le_add_left (Nat.le_of_ble_eq_true rfl) _) hcs.2⟩ hls rfl (lw_pre I.hs.1 (by decide) (Or.inl (by decide))) (I.hO cx cy) (lw_pa (env := k_X7_player_1.2.1.1) (fa := k_X7_player_1.2.1.2) ⟨⟨0, I.h20, rfl⟩, ⟨x21, rfl, l21, u21⟩, trivial⟩ (en_ac (lw_f0 I.hs.2.1 rfl f21 rfl) (en_an))) dlw_526 (fun u res H1 locs1 hrv hpo L1 => ?_)
    refine W.widen (k := cells + 8) (n := slots + 64) (Nat.add_le_add_left (Nat.le_of_ble_eq_true rfl) _) (Nat.add_le_add_left (Nat.le_of_ble_eq_true rfl) _) ?_
    obtain ⟨fs', I1⟩ := lw_Iqq hLP I hpo.1 (by decide +kernel) (by decide +kernel) (by decide +kernel) (by decide +kernel) (lw_Io I hpo.1 (by decide +kernel)) (lw_Id I hpo.1 (by decide +kernel))
    exact k _ _ _ _ _ _ _ _ hrv I1 L1
end
