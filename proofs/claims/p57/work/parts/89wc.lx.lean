section
variable {p : Program} {l : Launch} {e : Env} {R : Room} {s : State} {m : MethodId} {args : Array Value} {below : List Frame} {meth : Method} {c : Code} {Q : State → Prop}
variable {D : va_G} {tys : List (ClassId × FieldType)} {cO cD : ClassId} {A : Nat → Prop} {sh : en_H} {w : va_W} {H : Heap} {locs : List Loc} {ls : Array Slot} {cells slots qx qo qd : Nat} {E : Int32 → Int32 → Prop} {LP : en_H → va_W → Prop} {st : Nat} {cx cy : Int32} {fs : List Value}
set_option maxHeartbeats 4000000 in
theorem lx_parPlay (hl9 : l.stackTraces = false) (a1 : Int32) (hLP : lw_st LP) (F : lw_Fm p R s m args c D tys cO cD A) (L : lw_H D A s w H locs) (I : lw_I E LP tys cO cD qx qo qd sh w st cx cy fs) (hls : ls.size = 9) (hcs : cells + 8 ≤ R.cells ∧ slots + 64 ≤ R.slots)
    (k : ∀ (u : en_H × va_W) (r9 : Int32) (H1 : Heap) (locs1 : List Loc) (fs' : List Value), lw_I E LP tys cO cD qx qo qd u.1 u.2 st cx cy fs' → lw_H D A s u.2 H1 locs1 → W p l e R s m args below meth c H1 locs1 (cells + 8) (slots + 64) Q (F0 m 1888 ls [.int r9])) :
    W p l e R s m args below meth c H locs cells slots Q (F0 m 1885 ls (([.ref (sh.2 qx), .int a1, .ref (sh.2 qo)] : List Value).reverse ++ [])) := by
  obtain ⟨g0, hw9⟩ := I.hwo
  obtain ⟨fx, v8, v9, hwx, -⟩ := I.hed
  refine lw_wc F L (wr_parPlay hl9 en_Pc_ok (en_Of cx cy) D tys cO cD sh w H.size qx qo fx g0 a1 F.hTY (lw_pre I.hs.1 (by decide) (Or.inr (by decide))) (lw_D9 L) (I.hO cx cy) I.hx hwx I.ho hw9) gx_parPlay rfl (by decide) (by decide) ⟨Nat.le_trans (Nat.add_le_add_left (Nat.le_of_ble_eq_true rfl) _) hcs.1, Nat.le_trans (Nat.add_le_add_left (Nat.le_of_ble_eq_true rfl) _) hcs.2⟩ hls dlw_1885 (fun u r9 H1 locs1 hp9 L1 => ?_)
  obtain ⟨hpx, g9, hg9⟩ := hp9
  obtain ⟨fs', I1⟩ := lw_Iqq hLP I hpx (by decide +kernel) (lw_qall I.hst (by decide +kernel)) (by decide +kernel) (by decide +kernel) ⟨g9, by rw [(hpx.1.at I.ho).2]; exact hg9⟩ (lw_Id I hpx (by decide +kernel))
  exact W.widen (k := cells + 8) (n := slots + 64) (Nat.add_le_add_left (Nat.le_of_ble_eq_true rfl) _) (Nat.add_le_add_left (Nat.le_of_ble_eq_true rfl) _) (k u r9 H1 locs1 fs' I1 L1)
set_option maxHeartbeats 4000000 in
theorem lx_penalties (hl9 : l.stackTraces = false) (a1 : Int32) (hLP : lw_st LP) (F : lw_Fm p R s m args c D tys cO cD A) (L : lw_H D A s w H locs) (I : lw_I E LP tys cO cD qx qo qd sh w st cx cy fs) (hls : ls.size = 9) (hcs : cells + 8 ≤ R.cells ∧ slots + 64 ≤ R.slots)
    (k : ∀ (u : en_H × va_W) (r9 : Int32) (H1 : Heap) (locs1 : List Loc) (fs' : List Value), lw_I E LP tys cO cD qx qo qd u.1 u.2 st cx cy fs' → lw_H D A s u.2 H1 locs1 → W p l e R s m args below meth c H1 locs1 (cells + 8) (slots + 64) Q (F0 m 1624 ls [.int r9])) :
    W p l e R s m args below meth c H locs cells slots Q (F0 m 1621 ls (([.ref (sh.2 qx), .int a1, .ref (sh.2 qo)] : List Value).reverse ++ [])) := by
  obtain ⟨g0, hw9⟩ := I.hwo
  obtain ⟨fx, v8, v9, hwx, -⟩ := I.hed
  refine lw_wc F L (wr_penalties hl9 en_Pc_ok (en_Of cx cy) D tys cO cD sh w H.size qx qo fx g0 a1 F.hTY (lw_pre I.hs.1 (by decide) (Or.inr (by decide))) (lw_D9 L) (I.hO cx cy) I.hx hwx I.ho hw9) gx_penalties rfl (by decide) (by decide) ⟨Nat.le_trans (Nat.add_le_add_left (Nat.le_of_ble_eq_true rfl) _) hcs.1, Nat.le_trans (Nat.add_le_add_left (Nat.le_of_ble_eq_true rfl) _) hcs.2⟩ hls dlw_1621 (fun u r9 H1 locs1 hp9 L1 => ?_)
  obtain ⟨hpx, g9, hg9⟩ := hp9
  obtain ⟨fs', I1⟩ := lw_Iqq hLP I hpx (by decide +kernel) (lw_qall I.hst (by decide +kernel)) (by decide +kernel) (by decide +kernel) ⟨g9, by rw [(hpx.1.at I.ho).2]; exact hg9⟩ (lw_Id I hpx (by decide +kernel))
  exact W.widen (k := cells + 8) (n := slots + 64) (Nat.add_le_add_left (Nat.le_of_ble_eq_true rfl) _) (Nat.add_le_add_left (Nat.le_of_ble_eq_true rfl) _) (k u r9 H1 locs1 fs' I1 L1)
set_option maxHeartbeats 4000000 in
theorem lx_penaltyShare (hl9 : l.stackTraces = false) (a1 : Int32) (hLP : lw_st LP) (F : lw_Fm p R s m args c D tys cO cD A) (L : lw_H D A s w H locs) (I : lw_I E LP tys cO cD qx qo qd sh w st cx cy fs) (hls : ls.size = 9) (hcs : cells + 8 ≤ R.cells ∧ slots + 64 ≤ R.slots)
    (k : ∀ (u : en_H × va_W) (r9 : Int32) (H1 : Heap) (locs1 : List Loc) (fs' : List Value), lw_I E LP tys cO cD qx qo qd u.1 u.2 st cx cy fs' → lw_H D A s u.2 H1 locs1 → W p l e R s m args below meth c H1 locs1 (cells + 8) (slots + 64) Q (F0 m 2270 ls [.int r9])) :
    W p l e R s m args below meth c H locs cells slots Q (F0 m 2267 ls (([.ref (sh.2 qx), .int a1, .ref (sh.2 qd)] : List Value).reverse ++ [])) := by
  obtain ⟨g0, hw9⟩ := I.hwd
  obtain ⟨fx, v8, v9, hwx, -⟩ := I.hed
  refine lw_wc F L (wr_penaltyShare hl9 en_Pc_ok (en_Of cx cy) D tys cO cD sh w H.size qx qd fx g0 a1 F.hTY (lw_pre I.hs.1 (by decide) (Or.inr (by decide))) (lw_D9 L) (I.hO cx cy) I.hx hwx I.hd hw9) gx_penaltyShare rfl (by decide) (by decide) ⟨Nat.le_trans (Nat.add_le_add_left (Nat.le_of_ble_eq_true rfl) _) hcs.1, Nat.le_trans (Nat.add_le_add_left (Nat.le_of_ble_eq_true rfl) _) hcs.2⟩ hls dlw_2267 (fun u r9 H1 locs1 hp9 L1 => ?_)
  obtain ⟨hpx, g9, hg9⟩ := hp9
  obtain ⟨fs', I1⟩ := lw_Iqq hLP I hpx (by decide +kernel) (lw_qall I.hst (by decide +kernel)) (by decide +kernel) (by decide +kernel) (lw_Io I hpx (by decide +kernel)) ⟨g9, by rw [(hpx.1.at I.hd).2]; exact hg9⟩
  exact W.widen (k := cells + 8) (n := slots + 64) (Nat.add_le_add_left (Nat.le_of_ble_eq_true rfl) _) (Nat.add_le_add_left (Nat.le_of_ble_eq_true rfl) _) (k u r9 H1 locs1 fs' I1 L1)
set_option maxHeartbeats 4000000 in
theorem lx_pickUp (hl9 : l.stackTraces = false) (a1 : Int32) (hLP : lw_st LP) (F : lw_Fm p R s m args c D tys cO cD A) (L : lw_H D A s w H locs) (I : lw_I E LP tys cO cD qx qo qd sh w st cx cy fs) (hls : ls.size = 9) (hcs : cells + 8 ≤ R.cells ∧ slots + 64 ≤ R.slots)
    (k : ∀ (u : en_H × va_W) (r9 : Int32) (H1 : Heap) (locs1 : List Loc) (fs' : List Value), lw_I E LP tys cO cD qx qo qd u.1 u.2 st cx cy fs' → lw_H D A s u.2 H1 locs1 → W p l e R s m args below meth c H1 locs1 (cells + 8) (slots + 64) Q (F0 m 1354 ls [.int r9])) :
    W p l e R s m args below meth c H locs cells slots Q (F0 m 1351 ls (([.ref (sh.2 qx), .int a1, .ref (sh.2 qo)] : List Value).reverse ++ [])) := by
  obtain ⟨g0, hw9⟩ := I.hwo
  obtain ⟨fx, v8, v9, hwx, -⟩ := I.hed
  refine lw_wc F L (wr_pickUp hl9 en_Pc_ok (en_Of cx cy) D tys cO cD sh w H.size qx qo fx g0 a1 F.hTY (lw_pre I.hs.1 (by decide) (Or.inr (by decide))) (lw_D9 L) (I.hO cx cy) I.hx hwx I.ho hw9) gx_pickUp rfl (by decide) (by decide) ⟨Nat.le_trans (Nat.add_le_add_left (Nat.le_of_ble_eq_true rfl) _) hcs.1, Nat.le_trans (Nat.add_le_add_left (Nat.le_of_ble_eq_true rfl) _) hcs.2⟩ hls dlw_1351 (fun u r9 H1 locs1 hp9 L1 => ?_)
  obtain ⟨hpx, g9, hg9⟩ := hp9
  obtain ⟨fs', I1⟩ := lw_Iqq hLP I hpx (by decide +kernel) (lw_qall I.hst (by decide +kernel)) (by decide +kernel) (by decide +kernel) ⟨g9, by rw [(hpx.1.at I.ho).2]; exact hg9⟩ (lw_Id I hpx (by decide +kernel))
  exact W.widen (k := cells + 8) (n := slots + 64) (Nat.add_le_add_left (Nat.le_of_ble_eq_true rfl) _) (Nat.add_le_add_left (Nat.le_of_ble_eq_true rfl) _) (k u r9 H1 locs1 fs' I1 L1)
set_option maxHeartbeats 4000000 in
theorem lx_player (hl9 : l.stackTraces = false) (hLP : lw_st LP) (F : lw_Fm p R s m args c D tys cO cD A) (L : lw_H D A s w H locs) (I : lw_I E LP tys cO cD qx qo qd sh w st cx cy fs) (hls : ls.size = 9) (hcs : cells + 8 ≤ R.cells ∧ slots + 64 ≤ R.slots)
    (k : ∀ (u : en_H × va_W) (r9 : Int32) (H1 : Heap) (locs1 : List Loc) (fs' : List Value), lw_I E LP tys cO cD qx qo qd u.1 u.2 st cx cy fs' → lw_H D A s u.2 H1 locs1 → W p l e R s m args below meth c H1 locs1 (cells + 8) (slots + 64) Q (F0 m 523 ls [.int r9])) :
    W p l e R s m args below meth c H locs cells slots Q (F0 m 520 ls (([.ref (sh.2 qx), .ref (sh.2 qo)] : List Value).reverse ++ [])) := by
  obtain ⟨g0, hw9⟩ := I.hwo
  obtain ⟨fx, v8, v9, hwx, -⟩ := I.hed
  refine lw_wc F L (wr_player hl9 en_Pc_ok (en_Of cx cy) D tys cO cD sh w H.size qx qo fx g0 F.hTY (lw_pre I.hs.1 (by decide) (Or.inr (by decide))) (lw_D9 L) (I.hO cx cy) I.hx hwx I.ho hw9) gx_player rfl (by decide) (by decide) ⟨Nat.le_trans (Nat.add_le_add_left (Nat.le_of_ble_eq_true rfl) _) hcs.1, Nat.le_trans (Nat.add_le_add_left (Nat.le_of_ble_eq_true rfl) _) hcs.2⟩ hls dlw_520 (fun u r9 H1 locs1 hp9 L1 => ?_)
  obtain ⟨hpx, g9, hg9⟩ := hp9
  obtain ⟨fs', I1⟩ := lw_Iqq hLP I hpx (by decide +kernel) (lw_qall I.hst (by decide +kernel)) (by decide +kernel) (by decide +kernel) ⟨g9, by rw [(hpx.1.at I.ho).2]; exact hg9⟩ (lw_Id I hpx (by decide +kernel))
  exact W.widen (k := cells + 8) (n := slots + 64) (Nat.add_le_add_left (Nat.le_of_ble_eq_true rfl) _) (Nat.add_le_add_left (Nat.le_of_ble_eq_true rfl) _) (k u r9 H1 locs1 fs' I1 L1)
set_option maxHeartbeats 4000000 in
theorem lx_point (hl9 : l.stackTraces = false) (a1 : Int32) (a2 : Int32) (hb2 : 0 ≤ a2.toInt ∧ a2.toInt ≤ 1) (hLP : lw_st LP) (F : lw_Fm p R s m args c D tys cO cD A) (L : lw_H D A s w H locs) (I : lw_I E LP tys cO cD qx qo qd sh w st cx cy fs) (hls : ls.size = 9) (hcs : cells + 8 ≤ R.cells ∧ slots + 64 ≤ R.slots)
    (k : ∀ (u : en_H × va_W) (r9 : Int32) (H1 : Heap) (locs1 : List Loc) (fs' : List Value), lw_I E LP tys cO cD qx qo qd u.1 u.2 st cx cy fs' → lw_H D A s u.2 H1 locs1 → W p l e R s m args below meth c H1 locs1 (cells + 8) (slots + 64) Q (F0 m 1074 ls [.int r9])) :
    W p l e R s m args below meth c H locs cells slots Q (F0 m 1071 ls (([.ref (sh.2 qx), .int a1, .int a2, .ref (sh.2 qo)] : List Value).reverse ++ [])) := by
  obtain ⟨g0, hw9⟩ := I.hwo
  obtain ⟨fx, v8, v9, hwx, -⟩ := I.hed
  refine lw_wc F L (wr_point hl9 en_Pc_ok (en_Of cx cy) D tys cO cD sh w H.size qx qo fx g0 a1 a2 hb2 F.hTY (lw_pre I.hs.1 (by decide) (Or.inr (by decide))) (lw_D9 L) (I.hO cx cy) I.hx hwx I.ho hw9) gx_point rfl (by decide) (by decide) ⟨Nat.le_trans (Nat.add_le_add_left (Nat.le_of_ble_eq_true rfl) _) hcs.1, Nat.le_trans (Nat.add_le_add_left (Nat.le_of_ble_eq_true rfl) _) hcs.2⟩ hls dlw_1071 (fun u r9 H1 locs1 hp9 L1 => ?_)
  obtain ⟨hpx, g9, hg9⟩ := hp9
  obtain ⟨fs', I1⟩ := lw_Iqq hLP I hpx (by decide +kernel) (lw_qall I.hst (by decide +kernel)) (by decide +kernel) (by decide +kernel) ⟨g9, by rw [(hpx.1.at I.ho).2]; exact hg9⟩ (lw_Id I hpx (by decide +kernel))
  exact W.widen (k := cells + 8) (n := slots + 64) (Nat.add_le_add_left (Nat.le_of_ble_eq_true rfl) _) (Nat.add_le_add_left (Nat.le_of_ble_eq_true rfl) _) (k u r9 H1 locs1 fs' I1 L1)
set_option maxHeartbeats 4000000 in
theorem lx_provisional (hl9 : l.stackTraces = false) (a1 : Int32) (a2 : Int32) (a3 : Int32) (hLP : lw_st LP) (F : lw_Fm p R s m args c D tys cO cD A) (L : lw_H D A s w H locs) (I : lw_I E LP tys cO cD qx qo qd sh w st cx cy fs) (hls : ls.size = 9) (hcs : cells + 8 ≤ R.cells ∧ slots + 64 ≤ R.slots)
    (k : ∀ (u : en_H × va_W) (r9 : Int32) (H1 : Heap) (locs1 : List Loc) (fs' : List Value), lw_I E LP tys cO cD qx qo qd u.1 u.2 st cx cy fs' → lw_H D A s u.2 H1 locs1 → W p l e R s m args below meth c H1 locs1 (cells + 8) (slots + 64) Q (F0 m 872 ls [.int r9])) :
    W p l e R s m args below meth c H locs cells slots Q (F0 m 869 ls (([.ref (sh.2 qx), .int a1, .int a2, .int a3, .ref (sh.2 qo)] : List Value).reverse ++ [])) := by
  obtain ⟨g0, hw9⟩ := I.hwo
  obtain ⟨fx, v8, v9, hwx, -⟩ := I.hed
  refine lw_wc F L (wr_provisional hl9 en_Pc_ok (en_Of cx cy) D tys cO cD sh w H.size qx qo fx g0 a1 a2 a3 F.hTY (lw_pre I.hs.1 (by decide) (Or.inr (by decide))) (lw_D9 L) (I.hO cx cy) I.hx hwx I.ho hw9) gx_provisional rfl (by decide) (by decide) ⟨Nat.le_trans (Nat.add_le_add_left (Nat.le_of_ble_eq_true rfl) _) hcs.1, Nat.le_trans (Nat.add_le_add_left (Nat.le_of_ble_eq_true rfl) _) hcs.2⟩ hls dlw_869 (fun u r9 H1 locs1 hp9 L1 => ?_)
  obtain ⟨hpx, g9, hg9⟩ := hp9
  obtain ⟨fs', I1⟩ := lw_Iqq hLP I hpx (by decide +kernel) (lw_qall I.hst (by decide +kernel)) (by decide +kernel) (by decide +kernel) ⟨g9, by rw [(hpx.1.at I.ho).2]; exact hg9⟩ (lw_Id I hpx (by decide +kernel))
  exact W.widen (k := cells + 8) (n := slots + 64) (Nat.add_le_add_left (Nat.le_of_ble_eq_true rfl) _) (Nat.add_le_add_left (Nat.le_of_ble_eq_true rfl) _) (k u r9 H1 locs1 fs' I1 L1)
set_option maxHeartbeats 4000000 in
theorem lx_rank (hl9 : l.stackTraces = false) (a1 : Int32) (hLP : lw_st LP) (F : lw_Fm p R s m args c D tys cO cD A) (L : lw_H D A s w H locs) (I : lw_I E LP tys cO cD qx qo qd sh w st cx cy fs) (hls : ls.size = 9) (hcs : cells + 8 ≤ R.cells ∧ slots + 64 ≤ R.slots)
    (k : ∀ (u : en_H × va_W) (r9 : Int32) (H1 : Heap) (locs1 : List Loc) (fs' : List Value), lw_I E LP tys cO cD qx qo qd u.1 u.2 st cx cy fs' → lw_H D A s u.2 H1 locs1 → W p l e R s m args below meth c H1 locs1 (cells + 8) (slots + 64) Q (F0 m 1984 ls [.int r9])) :
    W p l e R s m args below meth c H locs cells slots Q (F0 m 1981 ls (([.ref (sh.2 qx), .int a1, .ref (sh.2 qo)] : List Value).reverse ++ [])) := by
  obtain ⟨g0, hw9⟩ := I.hwo
  obtain ⟨fx, v8, v9, hwx, -⟩ := I.hed
  refine lw_wc F L (wr_rank hl9 en_Pc_ok (en_Of cx cy) D tys cO cD sh w H.size qx qo fx g0 a1 F.hTY (lw_pre I.hs.1 (by decide) (Or.inr (by decide))) (lw_D9 L) (I.hO cx cy) I.hx hwx I.ho hw9) gx_rank rfl (by decide) (by decide) ⟨Nat.le_trans (Nat.add_le_add_left (Nat.le_of_ble_eq_true rfl) _) hcs.1, Nat.le_trans (Nat.add_le_add_left (Nat.le_of_ble_eq_true rfl) _) hcs.2⟩ hls dlw_1981 (fun u r9 H1 locs1 hp9 L1 => ?_)
  obtain ⟨hpx, g9, hg9⟩ := hp9
  obtain ⟨fs', I1⟩ := lw_Iqq hLP I hpx (by decide +kernel) (lw_qall I.hst (by decide +kernel)) (by decide +kernel) (by decide +kernel) ⟨g9, by rw [(hpx.1.at I.ho).2]; exact hg9⟩ (lw_Id I hpx (by decide +kernel))
  exact W.widen (k := cells + 8) (n := slots + 64) (Nat.add_le_add_left (Nat.le_of_ble_eq_true rfl) _) (Nat.add_le_add_left (Nat.le_of_ble_eq_true rfl) _) (k u r9 H1 locs1 fs' I1 L1)
set_option maxHeartbeats 4000000 in
theorem lx_score (hl9 : l.stackTraces = false) (a1 : Int32) (a2 : Int32) (hLP : lw_st LP) (F : lw_Fm p R s m args c D tys cO cD A) (L : lw_H D A s w H locs) (I : lw_I E LP tys cO cD qx qo qd sh w st cx cy fs) (hls : ls.size = 9) (hcs : cells + 8 ≤ R.cells ∧ slots + 64 ≤ R.slots)
    (k : ∀ (u : en_H × va_W) (r9 : Int32) (H1 : Heap) (locs1 : List Loc) (fs' : List Value), lw_I E LP tys cO cD qx qo qd u.1 u.2 st cx cy fs' → lw_H D A s u.2 H1 locs1 → W p l e R s m args below meth c H1 locs1 (cells + 8) (slots + 64) Q (F0 m 1686 ls [.int r9])) :
    W p l e R s m args below meth c H locs cells slots Q (F0 m 1683 ls (([.ref (sh.2 qx), .int a1, .int a2, .ref (sh.2 qo)] : List Value).reverse ++ [])) := by
  obtain ⟨g0, hw9⟩ := I.hwo
  obtain ⟨fx, v8, v9, hwx, -⟩ := I.hed
  refine lw_wc F L (wr_score hl9 en_Pc_ok (en_Of cx cy) D tys cO cD sh w H.size qx qo fx g0 a1 a2 F.hTY (lw_pre I.hs.1 (by decide) (Or.inr (by decide))) (lw_D9 L) (I.hO cx cy) I.hx hwx I.ho hw9) gx_score rfl (by decide) (by decide) ⟨Nat.le_trans (Nat.add_le_add_left (Nat.le_of_ble_eq_true rfl) _) hcs.1, Nat.le_trans (Nat.add_le_add_left (Nat.le_of_ble_eq_true rfl) _) hcs.2⟩ hls dlw_1683 (fun u r9 H1 locs1 hp9 L1 => ?_)
  obtain ⟨hpx, g9, hg9⟩ := hp9
  obtain ⟨fs', I1⟩ := lw_Iqq hLP I hpx (by decide +kernel) (lw_qall I.hst (by decide +kernel)) (by decide +kernel) (by decide +kernel) ⟨g9, by rw [(hpx.1.at I.ho).2]; exact hg9⟩ (lw_Id I hpx (by decide +kernel))
  exact W.widen (k := cells + 8) (n := slots + 64) (Nat.add_le_add_left (Nat.le_of_ble_eq_true rfl) _) (Nat.add_le_add_left (Nat.le_of_ble_eq_true rfl) _) (k u r9 H1 locs1 fs' I1 L1)
set_option maxHeartbeats 4000000 in
theorem lx_search (hl9 : l.stackTraces = false) (a1 : Int32) (hLP : lw_st LP) (F : lw_Fm p R s m args c D tys cO cD A) (L : lw_H D A s w H locs) (I : lw_I E LP tys cO cD qx qo qd sh w st cx cy fs) (hls : ls.size = 9) (hcs : cells + 8 ≤ R.cells ∧ slots + 64 ≤ R.slots)
    (k : ∀ (u : en_H × va_W) (r9 : Int32) (H1 : Heap) (locs1 : List Loc) (fs' : List Value), lw_I E LP tys cO cD qx qo qd u.1 u.2 st cx cy fs' → lw_H D A s u.2 H1 locs1 → W p l e R s m args below meth c H1 locs1 (cells + 8) (slots + 64) Q (F0 m 912 ls [.int r9])) :
    W p l e R s m args below meth c H locs cells slots Q (F0 m 909 ls (([.ref (sh.2 qx), .int a1, .ref (sh.2 qo)] : List Value).reverse ++ [])) := by
  obtain ⟨g0, hw9⟩ := I.hwo
  obtain ⟨fx, v8, v9, hwx, -⟩ := I.hed
  refine lw_wc F L (wr_search hl9 en_Pc_ok (en_Of cx cy) D tys cO cD sh w H.size qx qo fx g0 a1 F.hTY (lw_pre I.hs.1 (by decide) (Or.inr (by decide))) (lw_D9 L) (I.hO cx cy) I.hx hwx I.ho hw9) gx_search rfl (by decide) (by decide) ⟨Nat.le_trans (Nat.add_le_add_left (Nat.le_of_ble_eq_true rfl) _) hcs.1, Nat.le_trans (Nat.add_le_add_left (Nat.le_of_ble_eq_true rfl) _) hcs.2⟩ hls dlw_909 (fun u r9 H1 locs1 hp9 L1 => ?_)
  obtain ⟨hpx, g9, hg9⟩ := hp9
  obtain ⟨fs', I1⟩ := lw_Iqq hLP I hpx (by decide +kernel) (lw_qall I.hst (by decide +kernel)) (by decide +kernel) (by decide +kernel) ⟨g9, by rw [(hpx.1.at I.ho).2]; exact hg9⟩ (lw_Id I hpx (by decide +kernel))
  exact W.widen (k := cells + 8) (n := slots + 64) (Nat.add_le_add_left (Nat.le_of_ble_eq_true rfl) _) (Nat.add_le_add_left (Nat.le_of_ble_eq_true rfl) _) (k u r9 H1 locs1 fs' I1 L1)
set_option maxHeartbeats 4000000 in
theorem lx_setHandicap (hl9 : l.stackTraces = false) (a1 : Int32) (a2 : Int32) (hLP : lw_st LP) (F : lw_Fm p R s m args c D tys cO cD A) (L : lw_H D A s w H locs) (I : lw_I E LP tys cO cD qx qo qd sh w st cx cy fs) (hls : ls.size = 9) (hcs : cells + 8 ≤ R.cells ∧ slots + 64 ≤ R.slots)
    (k : ∀ (u : en_H × va_W) (r9 : Int32) (H1 : Heap) (locs1 : List Loc) (fs' : List Value), lw_I E LP tys cO cD qx qo qd u.1 u.2 st cx cy fs' → lw_H D A s u.2 H1 locs1 → W p l e R s m args below meth c H1 locs1 (cells + 8) (slots + 64) Q (F0 m 551 ls [.int r9])) :
    W p l e R s m args below meth c H locs cells slots Q (F0 m 548 ls (([.ref (sh.2 qx), .int a1, .int a2, .ref (sh.2 qo)] : List Value).reverse ++ [])) := by
  obtain ⟨g0, hw9⟩ := I.hwo
  obtain ⟨fx, v8, v9, hwx, -⟩ := I.hed
  refine lw_wc F L (wr_setHandicap hl9 en_Pc_ok (en_Of cx cy) D tys cO cD sh w H.size qx qo fx g0 a1 a2 F.hTY (lw_pre I.hs.1 (by decide) (Or.inr (by decide))) (lw_D9 L) (I.hO cx cy) I.hx hwx I.ho hw9) gx_setHandicap rfl (by decide) (by decide) ⟨Nat.le_trans (Nat.add_le_add_left (Nat.le_of_ble_eq_true rfl) _) hcs.1, Nat.le_trans (Nat.add_le_add_left (Nat.le_of_ble_eq_true rfl) _) hcs.2⟩ hls dlw_548 (fun u r9 H1 locs1 hp9 L1 => ?_)
  obtain ⟨hpx, g9, hg9⟩ := hp9
  obtain ⟨fs', I1⟩ := lw_Iqq hLP I hpx (by decide +kernel) (lw_qall I.hst (by decide +kernel)) (by decide +kernel) (by decide +kernel) ⟨g9, by rw [(hpx.1.at I.ho).2]; exact hg9⟩ (lw_Id I hpx (by decide +kernel))
  exact W.widen (k := cells + 8) (n := slots + 64) (Nat.add_le_add_left (Nat.le_of_ble_eq_true rfl) _) (Nat.add_le_add_left (Nat.le_of_ble_eq_true rfl) _) (k u r9 H1 locs1 fs' I1 L1)
set_option maxHeartbeats 4000000 in
theorem lx_sign (hl9 : l.stackTraces = false) (a1 : Int32) (hLP : lw_st LP) (F : lw_Fm p R s m args c D tys cO cD A) (L : lw_H D A s w H locs) (I : lw_I E LP tys cO cD qx qo qd sh w st cx cy fs) (hls : ls.size = 9) (hcs : cells + 8 ≤ R.cells ∧ slots + 64 ≤ R.slots)
    (k : ∀ (u : en_H × va_W) (r9 : Int32) (H1 : Heap) (locs1 : List Loc) (fs' : List Value), lw_I E LP tys cO cD qx qo qd u.1 u.2 st cx cy fs' → lw_H D A s u.2 H1 locs1 → W p l e R s m args below meth c H1 locs1 (cells + 8) (slots + 64) Q (F0 m 1804 ls [.int r9])) :
    W p l e R s m args below meth c H locs cells slots Q (F0 m 1801 ls (([.ref (sh.2 qx), .int a1, .ref (sh.2 qo)] : List Value).reverse ++ [])) := by
  obtain ⟨g0, hw9⟩ := I.hwo
  obtain ⟨fx, v8, v9, hwx, -⟩ := I.hed
  refine lw_wc F L (wr_sign hl9 en_Pc_ok (en_Of cx cy) D tys cO cD sh w H.size qx qo fx g0 a1 F.hTY (lw_pre I.hs.1 (by decide) (Or.inr (by decide))) (lw_D9 L) (I.hO cx cy) I.hx hwx I.ho hw9) gx_sign rfl (by decide) (by decide) ⟨Nat.le_trans (Nat.add_le_add_left (Nat.le_of_ble_eq_true rfl) _) hcs.1, Nat.le_trans (Nat.add_le_add_left (Nat.le_of_ble_eq_true rfl) _) hcs.2⟩ hls dlw_1801 (fun u r9 H1 locs1 hp9 L1 => ?_)
  obtain ⟨hpx, g9, hg9⟩ := hp9
  obtain ⟨fs', I1⟩ := lw_Iqq hLP I hpx (by decide +kernel) (lw_qall I.hst (by decide +kernel)) (by decide +kernel) (by decide +kernel) ⟨g9, by rw [(hpx.1.at I.ho).2]; exact hg9⟩ (lw_Id I hpx (by decide +kernel))
  exact W.widen (k := cells + 8) (n := slots + 64) (Nat.add_le_add_left (Nat.le_of_ble_eq_true rfl) _) (Nat.add_le_add_left (Nat.le_of_ble_eq_true rfl) _) (k u r9 H1 locs1 fs' I1 L1)
set_option maxHeartbeats 4000000 in
theorem lx_skins (hl9 : l.stackTraces = false) (a1 : Int32) (hLP : lw_st LP) (F : lw_Fm p R s m args c D tys cO cD A) (L : lw_H D A s w H locs) (I : lw_I E LP tys cO cD qx qo qd sh w st cx cy fs) (hls : ls.size = 9) (hcs : cells + 8 ≤ R.cells ∧ slots + 64 ≤ R.slots)
    (k : ∀ (u : en_H × va_W) (r9 : Int32) (H1 : Heap) (locs1 : List Loc) (fs' : List Value), lw_I E LP tys cO cD qx qo qd u.1 u.2 st cx cy fs' → lw_H D A s u.2 H1 locs1 → W p l e R s m args below meth c H1 locs1 (cells + 8) (slots + 64) Q (F0 m 1956 ls [.int r9])) :
    W p l e R s m args below meth c H locs cells slots Q (F0 m 1953 ls (([.ref (sh.2 qx), .int a1, .ref (sh.2 qo)] : List Value).reverse ++ [])) := by
  obtain ⟨g0, hw9⟩ := I.hwo
  obtain ⟨fx, v8, v9, hwx, -⟩ := I.hed
  refine lw_wc F L (wr_skins hl9 en_Pc_ok (en_Of cx cy) D tys cO cD sh w H.size qx qo fx g0 a1 F.hTY (lw_pre I.hs.1 (by decide) (Or.inr (by decide))) (lw_D9 L) (I.hO cx cy) I.hx hwx I.ho hw9) gx_skins rfl (by decide) (by decide) ⟨Nat.le_trans (Nat.add_le_add_left (Nat.le_of_ble_eq_true rfl) _) hcs.1, Nat.le_trans (Nat.add_le_add_left (Nat.le_of_ble_eq_true rfl) _) hcs.2⟩ hls dlw_1953 (fun u r9 H1 locs1 hp9 L1 => ?_)
  obtain ⟨hpx, g9, hg9⟩ := hp9
  obtain ⟨fs', I1⟩ := lw_Iqq hLP I hpx (by decide +kernel) (lw_qall I.hst (by decide +kernel)) (by decide +kernel) (by decide +kernel) ⟨g9, by rw [(hpx.1.at I.ho).2]; exact hg9⟩ (lw_Id I hpx (by decide +kernel))
  exact W.widen (k := cells + 8) (n := slots + 64) (Nat.add_le_add_left (Nat.le_of_ble_eq_true rfl) _) (Nat.add_le_add_left (Nat.le_of_ble_eq_true rfl) _) (k u r9 H1 locs1 fs' I1 L1)
set_option maxHeartbeats 4000000 in
theorem lx_stableford (hl9 : l.stackTraces = false) (a1 : Int32) (hLP : lw_st LP) (F : lw_Fm p R s m args c D tys cO cD A) (L : lw_H D A s w H locs) (I : lw_I E LP tys cO cD qx qo qd sh w st cx cy fs) (hls : ls.size = 9) (hcs : cells + 8 ≤ R.cells ∧ slots + 64 ≤ R.slots)
    (k : ∀ (u : en_H × va_W) (r9 : Int32) (H1 : Heap) (locs1 : List Loc) (fs' : List Value), lw_I E LP tys cO cD qx qo qd u.1 u.2 st cx cy fs' → lw_H D A s u.2 H1 locs1 → W p l e R s m args below meth c H1 locs1 (cells + 8) (slots + 64) Q (F0 m 1860 ls [.int r9])) :
    W p l e R s m args below meth c H locs cells slots Q (F0 m 1857 ls (([.ref (sh.2 qx), .int a1, .ref (sh.2 qo)] : List Value).reverse ++ [])) := by
  obtain ⟨g0, hw9⟩ := I.hwo
  obtain ⟨fx, v8, v9, hwx, -⟩ := I.hed
  refine lw_wc F L (wr_stableford hl9 en_Pc_ok (en_Of cx cy) D tys cO cD sh w H.size qx qo fx g0 a1 F.hTY (lw_pre I.hs.1 (by decide) (Or.inr (by decide))) (lw_D9 L) (I.hO cx cy) I.hx hwx I.ho hw9) gx_stableford rfl (by decide) (by decide) ⟨Nat.le_trans (Nat.add_le_add_left (Nat.le_of_ble_eq_true rfl) _) hcs.1, Nat.le_trans (Nat.add_le_add_left (Nat.le_of_ble_eq_true rfl) _) hcs.2⟩ hls dlw_1857 (fun u r9 H1 locs1 hp9 L1 => ?_)
  obtain ⟨hpx, g9, hg9⟩ := hp9
  obtain ⟨fs', I1⟩ := lw_Iqq hLP I hpx (by decide +kernel) (lw_qall I.hst (by decide +kernel)) (by decide +kernel) (by decide +kernel) ⟨g9, by rw [(hpx.1.at I.ho).2]; exact hg9⟩ (lw_Id I hpx (by decide +kernel))
  exact W.widen (k := cells + 8) (n := slots + 64) (Nat.add_le_add_left (Nat.le_of_ble_eq_true rfl) _) (Nat.add_le_add_left (Nat.le_of_ble_eq_true rfl) _) (k u r9 H1 locs1 fs' I1 L1)
end
