section
variable {p : Program} {l : Launch} {e : Env} {R : Room} {s : State} {m : MethodId} {args : Array Value} {below : List Frame} {meth : Method} {c : Code} {Q : State → Prop}
variable {D : va_G} {tys : List (ClassId × FieldType)} {cO cD : ClassId} {A : Nat → Prop} {sh : en_H} {w : va_W} {H : Heap} {locs : List Loc} {ls : Array Slot} {cells slots : Nat} {E : Int32 → Int32 → Prop} {LP : en_H → va_W → Prop} {st : Nat} {cx cy : Int32} {fs fx : List Value}
variable {hc pc hm pm : Nat} {bg bm : Int32} {ix ar : Nat → Int32} {ck rr mk : Nat → Nat → Int32}
set_option maxHeartbeats 4000000 in
theorem kc_begin (hl9 : l.stackTraces = false) (a1 : Int32) (hb1 : 0 ≤ a1.toInt ∧ a1.toInt ≤ 65535) (hLP : lw_stw [] LP) (F : lw_Fm p R s m args c D tys cO cD A) (L : lw_H D A s w H locs) (I : lw_I E LP tys cO cD 66 138 139 sh w st cx cy fs) (hs : kx_sh sh) (hX : kx_X tys sh w fx hc pc bg ix ar ck) (hM : kx_M tys sh w fs hm pm bm rr mk) (hls : ls.size = 9) (hcs : cells + 8 ≤ R.cells ∧ slots + 64 ≤ R.slots)
    (k : ∀ (u : en_H × va_W) (r : Int32) (H1 : Heap) (locs1 : List Loc) (fs1 fx1 : List Value) (b1 n9 : Int32), lw_I E LP tys cO cD 66 138 139 u.1 u.2 st cx cy fs1 → lw_H D A s u.2 H1 locs1 → kx_sh u.1 → kx_X tys u.1 u.2 fx1 hc pc b1 ix ar ck → kx_M tys u.1 u.2 fs1 hm pm bm rr mk → fx[11]? = some (.int n9) → (b1 = 0 → fx1[11]? = fx[11]?) → kx_ox_begin hc pc bg a1 n9 b1 → W p l e R s m args below meth c H1 locs1 (cells + 8) (slots + 64) Q (F0 m 681 ls [.int r])) :
    W p l e R s m args below meth c H locs cells slots Q (F0 m 678 ls (([.ref (sh.2 66), .int a1, .ref (sh.2 138)] : List Value).reverse ++ [])) := by
  obtain ⟨g0, hw9⟩ := I.hwo
  have fX := hX.1
  have hc9 : hc ≤ 9 := fX.2.2.2.2.2.2.1
  have pc9 : pc ≤ 6 := fX.2.2.2.2.2.2.2.1
  obtain ⟨n9, f11, on1, on2⟩ := kx_on I hX
  have f4 := fX.2.2.2.1
  have f5 := fX.2.2.2.2.1
  have n4 : (nI hc).toInt = (hc : Int) := kx_nI (by omega)
  have n5 : (nI pc).toInt = (pc : Int) := kx_nI (by omega)
  have hn0 : n9 = 0 ∨ n9.toInt = 1 := by
    by_cases h : n9.toInt = 0
    · exact Or.inl (Int32.toInt_inj.mp (by rw [h]; decide))
    · exact Or.inr (by omega)
  have nn0 : n9.toInt = 1 → ¬ n9 = 0 := fun h h9 => by rw [h9] at h; exact absurd h (by decide)
  obtain hb2 | hb2 | hb2 | hb2 | hb2 := lw_chr hb1
  · skip
    by_cases hz4 : hc = 0
    · skip
      refine lw_wcE F L (wr_begin_hm hl9 en_Pc_ok (en_Of cx cy) D tys cO cD sh w H.size 66 138 fx g0 a1 ⟨by omega, by omega⟩ F.hTY (lw_pre I.hs.1 (by decide) (Or.inr (by decide))) (lw_D9 L) (I.hO cx cy) I.hx fX.1 I.ho hw9 f4 ⟨by omega, by omega⟩) gx_begin rfl (by decide) (by decide) ⟨Nat.le_trans (Nat.add_le_add_left (Nat.le_of_ble_eq_true rfl) _) hcs.1, Nat.le_trans (Nat.add_le_add_left (Nat.le_of_ble_eq_true rfl) _) hcs.2⟩ hls dlw_678 (fun u r9 H1 locs1 hp9 L1 => ?_)
      obtain ⟨hpx, g9, hg9⟩ := hp9
      obtain ⟨fs', I1⟩ := lw_Iqq hLP I hpx (by decide +kernel) (lw_qall I.hst (by decide +kernel)) (by decide +kernel) (by decide +kernel) ⟨g9, by rw [(hpx.1.at I.ho).2]; exact hg9⟩ (lw_Id I hpx (by decide +kernel))
      have hM1 := kx_bM hpx hs hM (by decide +kernel) I1
      rw [← kx_st1 I hM] at hM1
      obtain ⟨fx2, hX2, e11⟩ := kx_bX hpx hs hX (by decide +kernel)
      refine W.widen (k := cells + 8) (n := slots + 64) (Nat.add_le_add_left (Nat.le_of_ble_eq_true rfl) _) (Nat.add_le_add_left (Nat.le_of_ble_eq_true rfl) _) ?_
      exact k u r9 H1 locs1 fs' fx2 bg n9 I1 L1 (hs.gr hpx.1) hX2 hM1 f11 (fun _ => e11) (Or.inl ⟨rfl, fun h9 => by rcases h9 with ⟨z1, z2, z3, z4⟩ | ⟨z1, z2, z3, z4⟩ <;> omega⟩)
    by_cases hz5 : pc = 0
    · skip
      refine lw_wcE F L (wr_begin_pm hl9 en_Pc_ok (en_Of cx cy) D tys cO cD sh w H.size 66 138 fx g0 a1 ⟨by omega, by omega⟩ F.hTY (lw_pre I.hs.1 (by decide) (Or.inr (by decide))) (lw_D9 L) (I.hO cx cy) I.hx fX.1 I.ho hw9 f5 ⟨by omega, by omega⟩) gx_begin rfl (by decide) (by decide) ⟨Nat.le_trans (Nat.add_le_add_left (Nat.le_of_ble_eq_true rfl) _) hcs.1, Nat.le_trans (Nat.add_le_add_left (Nat.le_of_ble_eq_true rfl) _) hcs.2⟩ hls dlw_678 (fun u r9 H1 locs1 hp9 L1 => ?_)
      obtain ⟨hpx, g9, hg9⟩ := hp9
      obtain ⟨fs', I1⟩ := lw_Iqq hLP I hpx (by decide +kernel) (lw_qall I.hst (by decide +kernel)) (by decide +kernel) (by decide +kernel) ⟨g9, by rw [(hpx.1.at I.ho).2]; exact hg9⟩ (lw_Id I hpx (by decide +kernel))
      have hM1 := kx_bM hpx hs hM (by decide +kernel) I1
      rw [← kx_st1 I hM] at hM1
      obtain ⟨fx2, hX2, e11⟩ := kx_bX hpx hs hX (by decide +kernel)
      refine W.widen (k := cells + 8) (n := slots + 64) (Nat.add_le_add_left (Nat.le_of_ble_eq_true rfl) _) (Nat.add_le_add_left (Nat.le_of_ble_eq_true rfl) _) ?_
      exact k u r9 H1 locs1 fs' fx2 bg n9 I1 L1 (hs.gr hpx.1) hX2 hM1 f11 (fun _ => e11) (Or.inl ⟨rfl, fun h9 => by rcases h9 with ⟨z1, z2, z3, z4⟩ | ⟨z1, z2, z3, z4⟩ <;> omega⟩)
    rcases hn0 with hz | hz
    · have z11 : n9.toInt = 0 := by rw [hz]; decide
      by_cases hz6 : pc = 1
      · skip
        refine lw_wcE F L (wr_begin_q1m hl9 en_Pc_ok (en_Of cx cy) D tys cO cD sh w H.size 66 138 fx g0 a1 ⟨by omega, by omega⟩ F.hTY (lw_pre I.hs.1 (by decide) (Or.inr (by decide))) (lw_D9 L) (I.hO cx cy) I.hx fX.1 I.ho hw9 f5 ⟨by omega, by omega⟩) gx_begin rfl (by decide) (by decide) ⟨Nat.le_trans (Nat.add_le_add_left (Nat.le_of_ble_eq_true rfl) _) hcs.1, Nat.le_trans (Nat.add_le_add_left (Nat.le_of_ble_eq_true rfl) _) hcs.2⟩ hls dlw_678 (fun u r9 H1 locs1 hp9 L1 => ?_)
        obtain ⟨hpx, g9, hg9⟩ := hp9
        obtain ⟨fs', I1⟩ := lw_Iqq hLP I hpx (by decide +kernel) (lw_qall I.hst (by decide +kernel)) (by decide +kernel) (by decide +kernel) ⟨g9, by rw [(hpx.1.at I.ho).2]; exact hg9⟩ (lw_Id I hpx (by decide +kernel))
        have hM1 := kx_bM hpx hs hM (by decide +kernel) I1
        rw [← kx_st1 I hM] at hM1
        obtain ⟨fx2, hX2, e11⟩ := kx_bX hpx hs hX (by decide +kernel)
        refine W.widen (k := cells + 8) (n := slots + 64) (Nat.add_le_add_left (Nat.le_of_ble_eq_true rfl) _) (Nat.add_le_add_left (Nat.le_of_ble_eq_true rfl) _) ?_
        exact k u r9 H1 locs1 fs' fx2 bg n9 I1 L1 (hs.gr hpx.1) hX2 hM1 f11 (fun _ => e11) (Or.inl ⟨rfl, fun h9 => by rcases h9 with ⟨z1, z2, z3, z4⟩ | ⟨z1, z2, z3, z4⟩ <;> omega⟩)
      by_cases hz7 : 3 ≤ pc
      · skip
        refine lw_wcE F L (wr_begin_q3m hl9 en_Pc_ok (en_Of cx cy) D tys cO cD sh w H.size 66 138 fx g0 a1 ⟨by omega, by omega⟩ F.hTY (lw_pre I.hs.1 (by decide) (Or.inr (by decide))) (lw_D9 L) (I.hO cx cy) I.hx fX.1 I.ho hw9 f5 ⟨by omega, by omega⟩) gx_begin rfl (by decide) (by decide) ⟨Nat.le_trans (Nat.add_le_add_left (Nat.le_of_ble_eq_true rfl) _) hcs.1, Nat.le_trans (Nat.add_le_add_left (Nat.le_of_ble_eq_true rfl) _) hcs.2⟩ hls dlw_678 (fun u r9 H1 locs1 hp9 L1 => ?_)
        obtain ⟨hpx, g9, hg9⟩ := hp9
        obtain ⟨fs', I1⟩ := lw_Iqq hLP I hpx (by decide +kernel) (lw_qall I.hst (by decide +kernel)) (by decide +kernel) (by decide +kernel) ⟨g9, by rw [(hpx.1.at I.ho).2]; exact hg9⟩ (lw_Id I hpx (by decide +kernel))
        have hM1 := kx_bM hpx hs hM (by decide +kernel) I1
        rw [← kx_st1 I hM] at hM1
        obtain ⟨fx2, hX2, e11⟩ := kx_bX hpx hs hX (by decide +kernel)
        refine W.widen (k := cells + 8) (n := slots + 64) (Nat.add_le_add_left (Nat.le_of_ble_eq_true rfl) _) (Nat.add_le_add_left (Nat.le_of_ble_eq_true rfl) _) ?_
        exact k u r9 H1 locs1 fs' fx2 bg n9 I1 L1 (hs.gr hpx.1) hX2 hM1 f11 (fun _ => e11) (Or.inl ⟨rfl, fun h9 => by rcases h9 with ⟨z1, z2, z3, z4⟩ | ⟨z1, z2, z3, z4⟩ <;> omega⟩)
      have hz8 : pc = 2 := by omega
      refine lw_wcE F L (wr_begin_km hl9 en_Pc_ok (en_Of cx cy) D tys cO cD sh w H.size 66 138 fx g0 a1 ⟨by omega, by omega⟩ F.hTY (lw_pre I.hs.1 (by decide) (Or.inr (by decide))) (lw_D9 L) (I.hO cx cy) I.hx fX.1 I.ho hw9 f4 ⟨by omega, by omega⟩ f5 ⟨by omega, by omega⟩ f11 ⟨by omega, by omega⟩) gx_begin rfl (by decide) (by decide) ⟨Nat.le_trans (Nat.add_le_add_left (Nat.le_of_ble_eq_true rfl) _) hcs.1, Nat.le_trans (Nat.add_le_add_left (Nat.le_of_ble_eq_true rfl) _) hcs.2⟩ hls dlw_678 (fun u r9 H1 locs1 hp9 L1 => ?_)
      obtain ⟨⟨hpx, g9, hg9⟩, h10⟩ := hp9
      obtain ⟨fs', I1⟩ := lw_Iqq hLP I hpx (by decide +kernel) (lw_qall I.hst (by decide +kernel)) (by decide +kernel) (by decide +kernel) ⟨g9, by rw [(hpx.1.at I.ho).2]; exact hg9⟩ (lw_Id I hpx (by decide +kernel))
      have hM1 := kx_bM hpx hs hM (by decide +kernel) I1
      rw [← kx_st1 I hM] at hM1
      obtain ⟨fx2, hX2⟩ := kx_bX1 (qo' := 0) hpx hs hX (by decide +kernel) h10
      refine W.widen (k := cells + 8) (n := slots + 64) (Nat.add_le_add_left (Nat.le_of_ble_eq_true rfl) _) (Nat.add_le_add_left (Nat.le_of_ble_eq_true rfl) _) ?_
      exact k u r9 H1 locs1 fs' fx2 1 n9 I1 L1 (hs.gr hpx.1) hX2 hM1 f11 (fun h => absurd h (by decide)) (Or.inr ⟨rfl, Or.inr ⟨by omega, by omega, by omega, hz⟩⟩)
    · skip
      refine lw_wcE F L (wr_begin_om hl9 en_Pc_ok (en_Of cx cy) D tys cO cD sh w H.size 66 138 fx g0 a1 ⟨by omega, by omega⟩ F.hTY (lw_pre I.hs.1 (by decide) (Or.inr (by decide))) (lw_D9 L) (I.hO cx cy) I.hx fX.1 I.ho hw9 f11 ⟨by omega, by omega⟩) gx_begin rfl (by decide) (by decide) ⟨Nat.le_trans (Nat.add_le_add_left (Nat.le_of_ble_eq_true rfl) _) hcs.1, Nat.le_trans (Nat.add_le_add_left (Nat.le_of_ble_eq_true rfl) _) hcs.2⟩ hls dlw_678 (fun u r9 H1 locs1 hp9 L1 => ?_)
      obtain ⟨hpx, g9, hg9⟩ := hp9
      obtain ⟨fs', I1⟩ := lw_Iqq hLP I hpx (by decide +kernel) (lw_qall I.hst (by decide +kernel)) (by decide +kernel) (by decide +kernel) ⟨g9, by rw [(hpx.1.at I.ho).2]; exact hg9⟩ (lw_Id I hpx (by decide +kernel))
      have hM1 := kx_bM hpx hs hM (by decide +kernel) I1
      rw [← kx_st1 I hM] at hM1
      obtain ⟨fx2, hX2, e11⟩ := kx_bX hpx hs hX (by decide +kernel)
      refine W.widen (k := cells + 8) (n := slots + 64) (Nat.add_le_add_left (Nat.le_of_ble_eq_true rfl) _) (Nat.add_le_add_left (Nat.le_of_ble_eq_true rfl) _) ?_
      exact k u r9 H1 locs1 fs' fx2 bg n9 I1 L1 (hs.gr hpx.1) hX2 hM1 f11 (fun _ => e11) (Or.inl ⟨rfl, fun h9 => by rcases h9 with ⟨z1, z2, z3, z4⟩ | ⟨z1, z2, z3, z4⟩ <;> exact nn0 hz z4⟩)
  · skip
    by_cases hz4 : hc = 0
    · skip
      refine lw_wcE F L (wr_begin_hs hl9 en_Pc_ok (en_Of cx cy) D tys cO cD sh w H.size 66 138 fx g0 a1 ⟨by omega, by omega⟩ F.hTY (lw_pre I.hs.1 (by decide) (Or.inr (by decide))) (lw_D9 L) (I.hO cx cy) I.hx fX.1 I.ho hw9 f4 ⟨by omega, by omega⟩) gx_begin rfl (by decide) (by decide) ⟨Nat.le_trans (Nat.add_le_add_left (Nat.le_of_ble_eq_true rfl) _) hcs.1, Nat.le_trans (Nat.add_le_add_left (Nat.le_of_ble_eq_true rfl) _) hcs.2⟩ hls dlw_678 (fun u r9 H1 locs1 hp9 L1 => ?_)
      obtain ⟨hpx, g9, hg9⟩ := hp9
      obtain ⟨fs', I1⟩ := lw_Iqq hLP I hpx (by decide +kernel) (lw_qall I.hst (by decide +kernel)) (by decide +kernel) (by decide +kernel) ⟨g9, by rw [(hpx.1.at I.ho).2]; exact hg9⟩ (lw_Id I hpx (by decide +kernel))
      have hM1 := kx_bM hpx hs hM (by decide +kernel) I1
      rw [← kx_st1 I hM] at hM1
      obtain ⟨fx2, hX2, e11⟩ := kx_bX hpx hs hX (by decide +kernel)
      refine W.widen (k := cells + 8) (n := slots + 64) (Nat.add_le_add_left (Nat.le_of_ble_eq_true rfl) _) (Nat.add_le_add_left (Nat.le_of_ble_eq_true rfl) _) ?_
      exact k u r9 H1 locs1 fs' fx2 bg n9 I1 L1 (hs.gr hpx.1) hX2 hM1 f11 (fun _ => e11) (Or.inl ⟨rfl, fun h9 => by rcases h9 with ⟨z1, z2, z3, z4⟩ | ⟨z1, z2, z3, z4⟩ <;> omega⟩)
    by_cases hz5 : pc = 0
    · skip
      refine lw_wcE F L (wr_begin_ps hl9 en_Pc_ok (en_Of cx cy) D tys cO cD sh w H.size 66 138 fx g0 a1 ⟨by omega, by omega⟩ F.hTY (lw_pre I.hs.1 (by decide) (Or.inr (by decide))) (lw_D9 L) (I.hO cx cy) I.hx fX.1 I.ho hw9 f5 ⟨by omega, by omega⟩) gx_begin rfl (by decide) (by decide) ⟨Nat.le_trans (Nat.add_le_add_left (Nat.le_of_ble_eq_true rfl) _) hcs.1, Nat.le_trans (Nat.add_le_add_left (Nat.le_of_ble_eq_true rfl) _) hcs.2⟩ hls dlw_678 (fun u r9 H1 locs1 hp9 L1 => ?_)
      obtain ⟨hpx, g9, hg9⟩ := hp9
      obtain ⟨fs', I1⟩ := lw_Iqq hLP I hpx (by decide +kernel) (lw_qall I.hst (by decide +kernel)) (by decide +kernel) (by decide +kernel) ⟨g9, by rw [(hpx.1.at I.ho).2]; exact hg9⟩ (lw_Id I hpx (by decide +kernel))
      have hM1 := kx_bM hpx hs hM (by decide +kernel) I1
      rw [← kx_st1 I hM] at hM1
      obtain ⟨fx2, hX2, e11⟩ := kx_bX hpx hs hX (by decide +kernel)
      refine W.widen (k := cells + 8) (n := slots + 64) (Nat.add_le_add_left (Nat.le_of_ble_eq_true rfl) _) (Nat.add_le_add_left (Nat.le_of_ble_eq_true rfl) _) ?_
      exact k u r9 H1 locs1 fs' fx2 bg n9 I1 L1 (hs.gr hpx.1) hX2 hM1 f11 (fun _ => e11) (Or.inl ⟨rfl, fun h9 => by rcases h9 with ⟨z1, z2, z3, z4⟩ | ⟨z1, z2, z3, z4⟩ <;> omega⟩)
    rcases hn0 with hz | hz
    · have z11 : n9.toInt = 0 := by rw [hz]; decide
      refine lw_wcE F L (wr_begin_ks hl9 en_Pc_ok (en_Of cx cy) D tys cO cD sh w H.size 66 138 fx g0 a1 ⟨by omega, by omega⟩ F.hTY (lw_pre I.hs.1 (by decide) (Or.inr (by decide))) (lw_D9 L) (I.hO cx cy) I.hx fX.1 I.ho hw9 f4 ⟨by omega, by omega⟩ f5 ⟨by omega, by omega⟩ f11 ⟨by omega, by omega⟩) gx_begin rfl (by decide) (by decide) ⟨Nat.le_trans (Nat.add_le_add_left (Nat.le_of_ble_eq_true rfl) _) hcs.1, Nat.le_trans (Nat.add_le_add_left (Nat.le_of_ble_eq_true rfl) _) hcs.2⟩ hls dlw_678 (fun u r9 H1 locs1 hp9 L1 => ?_)
      obtain ⟨⟨hpx, g9, hg9⟩, h10⟩ := hp9
      obtain ⟨fs', I1⟩ := lw_Iqq hLP I hpx (by decide +kernel) (lw_qall I.hst (by decide +kernel)) (by decide +kernel) (by decide +kernel) ⟨g9, by rw [(hpx.1.at I.ho).2]; exact hg9⟩ (lw_Id I hpx (by decide +kernel))
      have hM1 := kx_bM hpx hs hM (by decide +kernel) I1
      rw [← kx_st1 I hM] at hM1
      obtain ⟨fx2, hX2⟩ := kx_bX1 (qo' := 0) hpx hs hX (by decide +kernel) h10
      refine W.widen (k := cells + 8) (n := slots + 64) (Nat.add_le_add_left (Nat.le_of_ble_eq_true rfl) _) (Nat.add_le_add_left (Nat.le_of_ble_eq_true rfl) _) ?_
      exact k u r9 H1 locs1 fs' fx2 1 n9 I1 L1 (hs.gr hpx.1) hX2 hM1 f11 (fun h => absurd h (by decide)) (Or.inr ⟨rfl, Or.inl ⟨by omega, by omega, by omega, hz⟩⟩)
    · skip
      refine lw_wcE F L (wr_begin_os hl9 en_Pc_ok (en_Of cx cy) D tys cO cD sh w H.size 66 138 fx g0 a1 ⟨by omega, by omega⟩ F.hTY (lw_pre I.hs.1 (by decide) (Or.inr (by decide))) (lw_D9 L) (I.hO cx cy) I.hx fX.1 I.ho hw9 f11 ⟨by omega, by omega⟩) gx_begin rfl (by decide) (by decide) ⟨Nat.le_trans (Nat.add_le_add_left (Nat.le_of_ble_eq_true rfl) _) hcs.1, Nat.le_trans (Nat.add_le_add_left (Nat.le_of_ble_eq_true rfl) _) hcs.2⟩ hls dlw_678 (fun u r9 H1 locs1 hp9 L1 => ?_)
      obtain ⟨hpx, g9, hg9⟩ := hp9
      obtain ⟨fs', I1⟩ := lw_Iqq hLP I hpx (by decide +kernel) (lw_qall I.hst (by decide +kernel)) (by decide +kernel) (by decide +kernel) ⟨g9, by rw [(hpx.1.at I.ho).2]; exact hg9⟩ (lw_Id I hpx (by decide +kernel))
      have hM1 := kx_bM hpx hs hM (by decide +kernel) I1
      rw [← kx_st1 I hM] at hM1
      obtain ⟨fx2, hX2, e11⟩ := kx_bX hpx hs hX (by decide +kernel)
      refine W.widen (k := cells + 8) (n := slots + 64) (Nat.add_le_add_left (Nat.le_of_ble_eq_true rfl) _) (Nat.add_le_add_left (Nat.le_of_ble_eq_true rfl) _) ?_
      exact k u r9 H1 locs1 fs' fx2 bg n9 I1 L1 (hs.gr hpx.1) hX2 hM1 f11 (fun _ => e11) (Or.inl ⟨rfl, fun h9 => by rcases h9 with ⟨z1, z2, z3, z4⟩ | ⟨z1, z2, z3, z4⟩ <;> exact nn0 hz z4⟩)
  · skip
    refine lw_wcE F L (wr_begin_a hl9 en_Pc_ok (en_Of cx cy) D tys cO cD sh w H.size 66 138 fx g0 a1 ⟨by omega, by omega⟩ F.hTY (lw_pre I.hs.1 (by decide) (Or.inr (by decide))) (lw_D9 L) (I.hO cx cy) I.hx fX.1 I.ho hw9) gx_begin rfl (by decide) (by decide) ⟨Nat.le_trans (Nat.add_le_add_left (Nat.le_of_ble_eq_true rfl) _) hcs.1, Nat.le_trans (Nat.add_le_add_left (Nat.le_of_ble_eq_true rfl) _) hcs.2⟩ hls dlw_678 (fun u r9 H1 locs1 hp9 L1 => ?_)
    obtain ⟨hpx, g9, hg9⟩ := hp9
    obtain ⟨fs', I1⟩ := lw_Iqq hLP I hpx (by decide +kernel) (lw_qall I.hst (by decide +kernel)) (by decide +kernel) (by decide +kernel) ⟨g9, by rw [(hpx.1.at I.ho).2]; exact hg9⟩ (lw_Id I hpx (by decide +kernel))
    have hM1 := kx_bM hpx hs hM (by decide +kernel) I1
    rw [← kx_st1 I hM] at hM1
    obtain ⟨fx2, hX2, e11⟩ := kx_bX hpx hs hX (by decide +kernel)
    refine W.widen (k := cells + 8) (n := slots + 64) (Nat.add_le_add_left (Nat.le_of_ble_eq_true rfl) _) (Nat.add_le_add_left (Nat.le_of_ble_eq_true rfl) _) ?_
    exact k u r9 H1 locs1 fs' fx2 bg n9 I1 L1 (hs.gr hpx.1) hX2 hM1 f11 (fun _ => e11) (Or.inl ⟨rfl, fun h9 => by rcases h9 with ⟨z1, z2, z3, z4⟩ | ⟨z1, z2, z3, z4⟩ <;> omega⟩)
  · skip
    refine lw_wcE F L (wr_begin_b hl9 en_Pc_ok (en_Of cx cy) D tys cO cD sh w H.size 66 138 fx g0 a1 ⟨by omega, by omega⟩ F.hTY (lw_pre I.hs.1 (by decide) (Or.inr (by decide))) (lw_D9 L) (I.hO cx cy) I.hx fX.1 I.ho hw9) gx_begin rfl (by decide) (by decide) ⟨Nat.le_trans (Nat.add_le_add_left (Nat.le_of_ble_eq_true rfl) _) hcs.1, Nat.le_trans (Nat.add_le_add_left (Nat.le_of_ble_eq_true rfl) _) hcs.2⟩ hls dlw_678 (fun u r9 H1 locs1 hp9 L1 => ?_)
    obtain ⟨hpx, g9, hg9⟩ := hp9
    obtain ⟨fs', I1⟩ := lw_Iqq hLP I hpx (by decide +kernel) (lw_qall I.hst (by decide +kernel)) (by decide +kernel) (by decide +kernel) ⟨g9, by rw [(hpx.1.at I.ho).2]; exact hg9⟩ (lw_Id I hpx (by decide +kernel))
    have hM1 := kx_bM hpx hs hM (by decide +kernel) I1
    rw [← kx_st1 I hM] at hM1
    obtain ⟨fx2, hX2, e11⟩ := kx_bX hpx hs hX (by decide +kernel)
    refine W.widen (k := cells + 8) (n := slots + 64) (Nat.add_le_add_left (Nat.le_of_ble_eq_true rfl) _) (Nat.add_le_add_left (Nat.le_of_ble_eq_true rfl) _) ?_
    exact k u r9 H1 locs1 fs' fx2 bg n9 I1 L1 (hs.gr hpx.1) hX2 hM1 f11 (fun _ => e11) (Or.inl ⟨rfl, fun h9 => by rcases h9 with ⟨z1, z2, z3, z4⟩ | ⟨z1, z2, z3, z4⟩ <;> omega⟩)
  · skip
    refine lw_wcE F L (wr_begin_c hl9 en_Pc_ok (en_Of cx cy) D tys cO cD sh w H.size 66 138 fx g0 a1 ⟨by omega, by omega⟩ F.hTY (lw_pre I.hs.1 (by decide) (Or.inr (by decide))) (lw_D9 L) (I.hO cx cy) I.hx fX.1 I.ho hw9) gx_begin rfl (by decide) (by decide) ⟨Nat.le_trans (Nat.add_le_add_left (Nat.le_of_ble_eq_true rfl) _) hcs.1, Nat.le_trans (Nat.add_le_add_left (Nat.le_of_ble_eq_true rfl) _) hcs.2⟩ hls dlw_678 (fun u r9 H1 locs1 hp9 L1 => ?_)
    obtain ⟨hpx, g9, hg9⟩ := hp9
    obtain ⟨fs', I1⟩ := lw_Iqq hLP I hpx (by decide +kernel) (lw_qall I.hst (by decide +kernel)) (by decide +kernel) (by decide +kernel) ⟨g9, by rw [(hpx.1.at I.ho).2]; exact hg9⟩ (lw_Id I hpx (by decide +kernel))
    have hM1 := kx_bM hpx hs hM (by decide +kernel) I1
    rw [← kx_st1 I hM] at hM1
    obtain ⟨fx2, hX2, e11⟩ := kx_bX hpx hs hX (by decide +kernel)
    refine W.widen (k := cells + 8) (n := slots + 64) (Nat.add_le_add_left (Nat.le_of_ble_eq_true rfl) _) (Nat.add_le_add_left (Nat.le_of_ble_eq_true rfl) _) ?_
    exact k u r9 H1 locs1 fs' fx2 bg n9 I1 L1 (hs.gr hpx.1) hX2 hM1 f11 (fun _ => e11) (Or.inl ⟨rfl, fun h9 => by rcases h9 with ⟨z1, z2, z3, z4⟩ | ⟨z1, z2, z3, z4⟩ <;> omega⟩)
end
