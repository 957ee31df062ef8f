section
variable {p : Program} {l : Launch} {e : Env} {R : Room} {s : State} {m : MethodId} {args : Array Value} {below : List Frame} {meth : Method} {c : Code} {Q : State → Prop}
variable {D : va_G} {tys : List (ClassId × FieldType)} {cO cD : ClassId} {A : Nat → Prop} {sh : en_H} {w : va_W} {H : Heap} {locs : List Loc} {ls : Array Slot} {cells slots qx qo qd : Nat} {E : Int32 → Int32 → Prop} {LP : en_H → va_W → Prop} {st : Nat} {cx cy : Int32} {fs : List Value}
set_option maxHeartbeats 4000000 in
theorem lx_isAhead (hl9 : l.stackTraces = false) (a1 : Int32) (a2 : Int32) (hLP : lw_st LP) (F : lw_Fm p R s m args c D tys cO cD A) (L : lw_H D A s w H locs) (I : lw_I E LP tys cO cD qx qo qd sh w st cx cy fs) (hls : ls.size = 9) (hcs : cells + 8 ≤ R.cells ∧ slots + 64 ≤ R.slots)
    (k : ∀ (u : en_H × va_W) (r9 : Int32) (H1 : Heap) (locs1 : List Loc) (fs' : List Value), lw_I E LP tys cO cD qx qo qd u.1 u.2 st cx cy fs' → lw_H D A s u.2 H1 locs1 → W p l e R s m args below meth c H1 locs1 (cells + 8) (slots + 64) Q (F0 m 2018 ls [.int r9])) :
    W p l e R s m args below meth c H locs cells slots Q (F0 m 2015 ls (([.ref (sh.2 qx), .int a1, .int a2, .ref (sh.2 qo)] : List Value).reverse ++ [])) := by
  obtain ⟨g0, hw9⟩ := I.hwo
  obtain ⟨fx, v8, v9, hwx, -⟩ := I.hed
  refine lw_wc F L (wr_isAhead hl9 en_Pc_ok (en_Of cx cy) D tys cO cD sh w H.size qx qo fx g0 a1 a2 F.hTY (lw_pre I.hs.1 (by decide) (Or.inr (by decide))) (lw_D9 L) (I.hO cx cy) I.hx hwx I.ho hw9) gx_isAhead rfl (by decide) (by decide) ⟨Nat.le_trans (Nat.add_le_add_left (Nat.le_of_ble_eq_true rfl) _) hcs.1, Nat.le_trans (Nat.add_le_add_left (Nat.le_of_ble_eq_true rfl) _) hcs.2⟩ hls dlw_2015 (fun u r9 H1 locs1 hp9 L1 => ?_)
  obtain ⟨hpx, g9, hg9⟩ := hp9
  obtain ⟨fs', I1⟩ := lw_Iqq hLP I hpx (by decide +kernel) (lw_qall I.hst (by decide +kernel)) (by decide +kernel) (by decide +kernel) ⟨g9, by rw [(hpx.1.at I.ho).2]; exact hg9⟩ (lw_Id I hpx (by decide +kernel))
  exact W.widen (k := cells + 8) (n := slots + 64) (Nat.add_le_add_left (Nat.le_of_ble_eq_true rfl) _) (Nat.add_le_add_left (Nat.le_of_ble_eq_true rfl) _) (k u r9 H1 locs1 fs' I1 L1)
set_option maxHeartbeats 4000000 in
theorem lx_isMatchOver (hl9 : l.stackTraces = false) (hLP : lw_st LP) (F : lw_Fm p R s m args c D tys cO cD A) (L : lw_H D A s w H locs) (I : lw_I E LP tys cO cD qx qo qd sh w st cx cy fs) (hls : ls.size = 9) (hcs : cells + 8 ≤ R.cells ∧ slots + 64 ≤ R.slots)
    (k : ∀ (u : en_H × va_W) (r9 : Int32) (H1 : Heap) (locs1 : List Loc) (fs' : List Value), lw_I E LP tys cO cD qx qo qd u.1 u.2 st cx cy fs' → lw_H D A s u.2 H1 locs1 → W p l e R s m args below meth c H1 locs1 (cells + 8) (slots + 64) Q (F0 m 1730 ls [.int r9])) :
    W p l e R s m args below meth c H locs cells slots Q (F0 m 1727 ls (([.ref (sh.2 qx), .ref (sh.2 qo)] : List Value).reverse ++ [])) := by
  obtain ⟨g0, hw9⟩ := I.hwo
  obtain ⟨fx, v8, v9, hwx, -⟩ := I.hed
  refine lw_wc F L (wr_isMatchOver hl9 en_Pc_ok (en_Of cx cy) D tys cO cD sh w H.size qx qo fx g0 F.hTY (lw_pre I.hs.1 (by decide) (Or.inr (by decide))) (lw_D9 L) (I.hO cx cy) I.hx hwx I.ho hw9) gx_isMatchOver rfl (by decide) (by decide) ⟨Nat.le_trans (Nat.add_le_add_left (Nat.le_of_ble_eq_true rfl) _) hcs.1, Nat.le_trans (Nat.add_le_add_left (Nat.le_of_ble_eq_true rfl) _) hcs.2⟩ hls dlw_1727 (fun u r9 H1 locs1 hp9 L1 => ?_)
  obtain ⟨hpx, g9, hg9⟩ := hp9
  obtain ⟨fs', I1⟩ := lw_Iqq hLP I hpx (by decide +kernel) (lw_qall I.hst (by decide +kernel)) (by decide +kernel) (by decide +kernel) ⟨g9, by rw [(hpx.1.at I.ho).2]; exact hg9⟩ (lw_Id I hpx (by decide +kernel))
  exact W.widen (k := cells + 8) (n := slots + 64) (Nat.add_le_add_left (Nat.le_of_ble_eq_true rfl) _) (Nat.add_le_add_left (Nat.le_of_ble_eq_true rfl) _) (k u r9 H1 locs1 fs' I1 L1)
set_option maxHeartbeats 4000000 in
theorem lx_isOut (hl9 : l.stackTraces = false) (a1 : Int32) (hLP : lw_st LP) (F : lw_Fm p R s m args c D tys cO cD A) (L : lw_H D A s w H locs) (I : lw_I E LP tys cO cD qx qo qd sh w st cx cy fs) (hls : ls.size = 9) (hcs : cells + 8 ≤ R.cells ∧ slots + 64 ≤ R.slots)
    (k : ∀ (u : en_H × va_W) (r9 : Int32) (H1 : Heap) (locs1 : List Loc) (fs' : List Value), lw_I E LP tys cO cD qx qo qd u.1 u.2 st cx cy fs' → lw_H D A s u.2 H1 locs1 → W p l e R s m args below meth c H1 locs1 (cells + 8) (slots + 64) Q (F0 m 1652 ls [.int r9])) :
    W p l e R s m args below meth c H locs cells slots Q (F0 m 1649 ls (([.ref (sh.2 qx), .int a1, .ref (sh.2 qo)] : List Value).reverse ++ [])) := by
  obtain ⟨g0, hw9⟩ := I.hwo
  obtain ⟨fx, v8, v9, hwx, -⟩ := I.hed
  refine lw_wc F L (wr_isOut hl9 en_Pc_ok (en_Of cx cy) D tys cO cD sh w H.size qx qo fx g0 a1 F.hTY (lw_pre I.hs.1 (by decide) (Or.inr (by decide))) (lw_D9 L) (I.hO cx cy) I.hx hwx I.ho hw9) gx_isOut rfl (by decide) (by decide) ⟨Nat.le_trans (Nat.add_le_add_left (Nat.le_of_ble_eq_true rfl) _) hcs.1, Nat.le_trans (Nat.add_le_add_left (Nat.le_of_ble_eq_true rfl) _) hcs.2⟩ hls dlw_1649 (fun u r9 H1 locs1 hp9 L1 => ?_)
  obtain ⟨hpx, g9, hg9⟩ := hp9
  obtain ⟨fs', I1⟩ := lw_Iqq hLP I hpx (by decide +kernel) (lw_qall I.hst (by decide +kernel)) (by decide +kernel) (by decide +kernel) ⟨g9, by rw [(hpx.1.at I.ho).2]; exact hg9⟩ (lw_Id I hpx (by decide +kernel))
  exact W.widen (k := cells + 8) (n := slots + 64) (Nat.add_le_add_left (Nat.le_of_ble_eq_true rfl) _) (Nat.add_le_add_left (Nat.le_of_ble_eq_true rfl) _) (k u r9 H1 locs1 fs' I1 L1)
set_option maxHeartbeats 4000000 in
theorem lx_kindAt (hl9 : l.stackTraces = false) (a1 : Int32) (a2 : Int32) (a3 : Int32) (hLP : lw_st LP) (F : lw_Fm p R s m args c D tys cO cD A) (L : lw_H D A s w H locs) (I : lw_I E LP tys cO cD qx qo qd sh w st cx cy fs) (hls : ls.size = 9) (hcs : cells + 8 ≤ R.cells ∧ slots + 64 ≤ R.slots)
    (k : ∀ (u : en_H × va_W) (r9 : Int32) (H1 : Heap) (locs1 : List Loc) (fs' : List Value), lw_I E LP tys cO cD qx qo qd u.1 u.2 st cx cy fs' → lw_H D A s u.2 H1 locs1 → W p l e R s m args below meth c H1 locs1 (cells + 8) (slots + 64) Q (F0 m 489 ls [.int r9])) :
    W p l e R s m args below meth c H locs cells slots Q (F0 m 486 ls (([.ref (sh.2 qx), .int a1, .int a2, .int a3, .ref (sh.2 qo)] : List Value).reverse ++ [])) := by
  obtain ⟨g0, hw9⟩ := I.hwo
  obtain ⟨fx, v8, v9, hwx, -⟩ := I.hed
  refine lw_wc F L (wr_kindAt hl9 en_Pc_ok (en_Of cx cy) D tys cO cD sh w H.size qx qo fx g0 a1 a2 a3 F.hTY (lw_pre I.hs.1 (by decide) (Or.inr (by decide))) (lw_D9 L) (I.hO cx cy) I.hx hwx I.ho hw9) gx_kindAt rfl (by decide) (by decide) ⟨Nat.le_trans (Nat.add_le_add_left (Nat.le_of_ble_eq_true rfl) _) hcs.1, Nat.le_trans (Nat.add_le_add_left (Nat.le_of_ble_eq_true rfl) _) hcs.2⟩ hls dlw_486 (fun u r9 H1 locs1 hp9 L1 => ?_)
  obtain ⟨hpx, g9, hg9⟩ := hp9
  obtain ⟨fs', I1⟩ := lw_Iqq hLP I hpx (by decide +kernel) (lw_qall I.hst (by decide +kernel)) (by decide +kernel) (by decide +kernel) ⟨g9, by rw [(hpx.1.at I.ho).2]; exact hg9⟩ (lw_Id I hpx (by decide +kernel))
  exact W.widen (k := cells + 8) (n := slots + 64) (Nat.add_le_add_left (Nat.le_of_ble_eq_true rfl) _) (Nat.add_le_add_left (Nat.le_of_ble_eq_true rfl) _) (k u r9 H1 locs1 fs' I1 L1)
set_option maxHeartbeats 4000000 in
theorem lx_lie (hl9 : l.stackTraces = false) (a1 : Int32) (a2 : Int32) (hb2 : 0 ≤ a2.toInt ∧ a2.toInt ≤ 1) (hLP : lw_st LP) (F : lw_Fm p R s m args c D tys cO cD A) (L : lw_H D A s w H locs) (I : lw_I E LP tys cO cD qx qo qd sh w st cx cy fs) (hls : ls.size = 9) (hcs : cells + 8 ≤ R.cells ∧ slots + 64 ≤ R.slots)
    (k : ∀ (u : en_H × va_W) (r9 : Int32) (H1 : Heap) (locs1 : List Loc) (fs' : List Value), lw_I E LP tys cO cD qx qo qd u.1 u.2 st cx cy fs' → lw_H D A s u.2 H1 locs1 → W p l e R s m args below meth c H1 locs1 (cells + 8) (slots + 64) Q (F0 m 1554 ls [.int r9])) :
    W p l e R s m args below meth c H locs cells slots Q (F0 m 1551 ls (([.ref (sh.2 qx), .int a1, .int a2, .ref (sh.2 qo)] : List Value).reverse ++ [])) := by
  obtain ⟨g0, hw9⟩ := I.hwo
  obtain ⟨fx, v8, v9, hwx, -⟩ := I.hed
  refine lw_wc F L (wr_lie hl9 en_Pc_ok (en_Of cx cy) D tys cO cD sh w H.size qx qo fx g0 a1 a2 hb2 F.hTY (lw_pre I.hs.1 (by decide) (Or.inr (by decide))) (lw_D9 L) (I.hO cx cy) I.hx hwx I.ho hw9) gx_lie rfl (by decide) (by decide) ⟨Nat.le_trans (Nat.add_le_add_left (Nat.le_of_ble_eq_true rfl) _) hcs.1, Nat.le_trans (Nat.add_le_add_left (Nat.le_of_ble_eq_true rfl) _) hcs.2⟩ hls dlw_1551 (fun u r9 H1 locs1 hp9 L1 => ?_)
  obtain ⟨hpx, g9, hg9⟩ := hp9
  obtain ⟨fs', I1⟩ := lw_Iqq hLP I hpx (by decide +kernel) (lw_qall I.hst (by decide +kernel)) (by decide +kernel) (by decide +kernel) ⟨g9, by rw [(hpx.1.at I.ho).2]; exact hg9⟩ (lw_Id I hpx (by decide +kernel))
  exact W.widen (k := cells + 8) (n := slots + 64) (Nat.add_le_add_left (Nat.le_of_ble_eq_true rfl) _) (Nat.add_le_add_left (Nat.le_of_ble_eq_true rfl) _) (k u r9 H1 locs1 fs' I1 L1)
set_option maxHeartbeats 4000000 in
theorem lx_line (hl9 : l.stackTraces = false) (a1 : Int32) (a2 : Int32) (hLP : lw_st LP) (F : lw_Fm p R s m args c D tys cO cD A) (L : lw_H D A s w H locs) (I : lw_I E LP tys cO cD qx qo qd sh w st cx cy fs) (hls : ls.size = 9) (hcs : cells + 8 ≤ R.cells ∧ slots + 64 ≤ R.slots)
    (k : ∀ (u : en_H × va_W) (r9 : Int32) (H1 : Heap) (locs1 : List Loc) (fs' : List Value), lw_I E LP tys cO cD qx qo qd u.1 u.2 st cx cy fs' → lw_H D A s u.2 H1 locs1 → W p l e R s m args below meth c H1 locs1 (cells + 8) (slots + 64) Q (F0 m 974 ls [.int r9])) :
    W p l e R s m args below meth c H locs cells slots Q (F0 m 971 ls (([.ref (sh.2 qx), .int a1, .int a2, .ref (sh.2 qo)] : List Value).reverse ++ [])) := by
  obtain ⟨g0, hw9⟩ := I.hwo
  obtain ⟨fx, v8, v9, hwx, -⟩ := I.hed
  refine lw_wc F L (wr_line hl9 en_Pc_ok (en_Of cx cy) D tys cO cD sh w H.size qx qo fx g0 a1 a2 F.hTY (lw_pre I.hs.1 (by decide) (Or.inr (by decide))) (lw_D9 L) (I.hO cx cy) I.hx hwx I.ho hw9) gx_line rfl (by decide) (by decide) ⟨Nat.le_trans (Nat.add_le_add_left (Nat.le_of_ble_eq_true rfl) _) hcs.1, Nat.le_trans (Nat.add_le_add_left (Nat.le_of_ble_eq_true rfl) _) hcs.2⟩ hls dlw_971 (fun u r9 H1 locs1 hp9 L1 => ?_)
  obtain ⟨hpx, g9, hg9⟩ := hp9
  obtain ⟨fs', I1⟩ := lw_Iqq hLP I hpx (by decide +kernel) (lw_qall I.hst (by decide +kernel)) (by decide +kernel) (by decide +kernel) ⟨g9, by rw [(hpx.1.at I.ho).2]; exact hg9⟩ (lw_Id I hpx (by decide +kernel))
  exact W.widen (k := cells + 8) (n := slots + 64) (Nat.add_le_add_left (Nat.le_of_ble_eq_true rfl) _) (Nat.add_le_add_left (Nat.le_of_ble_eq_true rfl) _) (k u r9 H1 locs1 fs' I1 L1)
set_option maxHeartbeats 4000000 in
theorem lx_lowIndex (hl9 : l.stackTraces = false) (a1 : Int32) (hLP : lw_st LP) (F : lw_Fm p R s m args c D tys cO cD A) (L : lw_H D A s w H locs) (I : lw_I E LP tys cO cD qx qo qd sh w st cx cy fs) (hls : ls.size = 9) (hcs : cells + 8 ≤ R.cells ∧ slots + 64 ≤ R.slots)
    (k : ∀ (u : en_H × va_W) (r9 : Int32) (H1 : Heap) (locs1 : List Loc) (fs' : List Value), lw_I E LP tys cO cD qx qo qd u.1 u.2 st cx cy fs' → lw_H D A s u.2 H1 locs1 → W p l e R s m args below meth c H1 locs1 (cells + 8) (slots + 64) Q (F0 m 2228 ls [.int r9])) :
    W p l e R s m args below meth c H locs cells slots Q (F0 m 2225 ls (([.ref (sh.2 qx), .int a1, .ref (sh.2 qo)] : List Value).reverse ++ [])) := by
  obtain ⟨g0, hw9⟩ := I.hwo
  obtain ⟨fx, v8, v9, hwx, -⟩ := I.hed
  refine lw_wc F L (wr_lowIndex hl9 en_Pc_ok (en_Of cx cy) D tys cO cD sh w H.size qx qo fx g0 a1 F.hTY (lw_pre I.hs.1 (by decide) (Or.inr (by decide))) (lw_D9 L) (I.hO cx cy) I.hx hwx I.ho hw9) gx_lowIndex rfl (by decide) (by decide) ⟨Nat.le_trans (Nat.add_le_add_left (Nat.le_of_ble_eq_true rfl) _) hcs.1, Nat.le_trans (Nat.add_le_add_left (Nat.le_of_ble_eq_true rfl) _) hcs.2⟩ hls dlw_2225 (fun u r9 H1 locs1 hp9 L1 => ?_)
  obtain ⟨hpx, g9, hg9⟩ := hp9
  obtain ⟨fs', I1⟩ := lw_Iqq hLP I hpx (by decide +kernel) (lw_qall I.hst (by decide +kernel)) (by decide +kernel) (by decide +kernel) ⟨g9, by rw [(hpx.1.at I.ho).2]; exact hg9⟩ (lw_Id I hpx (by decide +kernel))
  exact W.widen (k := cells + 8) (n := slots + 64) (Nat.add_le_add_left (Nat.le_of_ble_eq_true rfl) _) (Nat.add_le_add_left (Nat.le_of_ble_eq_true rfl) _) (k u r9 H1 locs1 fs' I1 L1)
set_option maxHeartbeats 4000000 in
theorem lx_meanScore (hl9 : l.stackTraces = false) (a1 : Int32) (hLP : lw_st LP) (F : lw_Fm p R s m args c D tys cO cD A) (L : lw_H D A s w H locs) (I : lw_I E LP tys cO cD qx qo qd sh w st cx cy fs) (hls : ls.size = 9) (hcs : cells + 8 ≤ R.cells ∧ slots + 64 ≤ R.slots)
    (k : ∀ (u : en_H × va_W) (r9 : Int32) (H1 : Heap) (locs1 : List Loc) (fs' : List Value), lw_I E LP tys cO cD qx qo qd u.1 u.2 st cx cy fs' → lw_H D A s u.2 H1 locs1 → W p l e R s m args below meth c H1 locs1 (cells + 8) (slots + 64) Q (F0 m 2300 ls [.int r9])) :
    W p l e R s m args below meth c H locs cells slots Q (F0 m 2297 ls (([.ref (sh.2 qx), .int a1, .ref (sh.2 qd)] : List Value).reverse ++ [])) := by
  obtain ⟨g0, hw9⟩ := I.hwd
  obtain ⟨fx, v8, v9, hwx, -⟩ := I.hed
  refine lw_wc F L (wr_meanScore hl9 en_Pc_ok (en_Of cx cy) D tys cO cD sh w H.size qx qd fx g0 a1 F.hTY (lw_pre I.hs.1 (by decide) (Or.inr (by decide))) (lw_D9 L) (I.hO cx cy) I.hx hwx I.hd hw9) gx_meanScore rfl (by decide) (by decide) ⟨Nat.le_trans (Nat.add_le_add_left (Nat.le_of_ble_eq_true rfl) _) hcs.1, Nat.le_trans (Nat.add_le_add_left (Nat.le_of_ble_eq_true rfl) _) hcs.2⟩ hls dlw_2297 (fun u r9 H1 locs1 hp9 L1 => ?_)
  obtain ⟨hpx, g9, hg9⟩ := hp9
  obtain ⟨fs', I1⟩ := lw_Iqq hLP I hpx (by decide +kernel) (lw_qall I.hst (by decide +kernel)) (by decide +kernel) (by decide +kernel) (lw_Io I hpx (by decide +kernel)) ⟨g9, by rw [(hpx.1.at I.hd).2]; exact hg9⟩
  exact W.widen (k := cells + 8) (n := slots + 64) (Nat.add_le_add_left (Nat.le_of_ble_eq_true rfl) _) (Nat.add_le_add_left (Nat.le_of_ble_eq_true rfl) _) (k u r9 H1 locs1 fs' I1 L1)
set_option maxHeartbeats 4000000 in
theorem lx_move (hl9 : l.stackTraces = false) (a1 : Int32) (a2 : Int32) (a3 : Int32) (a4 : Int32) (hb2 : 0 ≤ a2.toInt ∧ a2.toInt ≤ 65535) (hLP : lw_st LP) (F : lw_Fm p R s m args c D tys cO cD A) (L : lw_H D A s w H locs) (I : lw_I E LP tys cO cD qx qo qd sh w st cx cy fs) (hls : ls.size = 9) (hcs : cells + 8 ≤ R.cells ∧ slots + 64 ≤ R.slots)
    (k : ∀ (u : en_H × va_W) (r9 : Int32) (H1 : Heap) (locs1 : List Loc) (fs' : List Value), lw_I E LP tys cO cD qx qo qd u.1 u.2 st cx cy fs' → lw_H D A s u.2 H1 locs1 → W p l e R s m args below meth c H1 locs1 (cells + 8) (slots + 64) Q (F0 m 1267 ls [.int r9])) :
    W p l e R s m args below meth c H locs cells slots Q (F0 m 1264 ls (([.ref (sh.2 qx), .int a1, .int a2, .int a3, .int a4, .ref (sh.2 qo)] : List Value).reverse ++ [])) := by
  obtain ⟨g0, hw9⟩ := I.hwo
  obtain ⟨fx, v8, v9, hwx, -⟩ := I.hed
  refine lw_wc F L (wr_move hl9 en_Pc_ok (en_Of cx cy) D tys cO cD sh w H.size qx qo fx g0 a1 a2 a3 a4 hb2 F.hTY (lw_pre I.hs.1 (by decide) (Or.inr (by decide))) (lw_D9 L) (I.hO cx cy) I.hx hwx I.ho hw9) gx_move rfl (by decide) (by decide) ⟨Nat.le_trans (Nat.add_le_add_left (Nat.le_of_ble_eq_true rfl) _) hcs.1, Nat.le_trans (Nat.add_le_add_left (Nat.le_of_ble_eq_true rfl) _) hcs.2⟩ hls dlw_1264 (fun u r9 H1 locs1 hp9 L1 => ?_)
  obtain ⟨hpx, g9, hg9⟩ := hp9
  obtain ⟨fs', I1⟩ := lw_Iqq hLP I hpx (by decide +kernel) (lw_qall I.hst (by decide +kernel)) (by decide +kernel) (by decide +kernel) ⟨g9, by rw [(hpx.1.at I.ho).2]; exact hg9⟩ (lw_Id I hpx (by decide +kernel))
  exact W.widen (k := cells + 8) (n := slots + 64) (Nat.add_le_add_left (Nat.le_of_ble_eq_true rfl) _) (Nat.add_le_add_left (Nat.le_of_ble_eq_true rfl) _) (k u r9 H1 locs1 fs' I1 L1)
set_option maxHeartbeats 4000000 in
theorem lx_odds (hl9 : l.stackTraces = false) (a1 : Int32) (a2 : Int32) (a3 : Int32) (a4 : Int32) (hb4 : 0 ≤ a4.toInt ∧ a4.toInt ≤ 65535) (hLP : lw_st LP) (F : lw_Fm p R s m args c D tys cO cD A) (L : lw_H D A s w H locs) (I : lw_I E LP tys cO cD qx qo qd sh w st cx cy fs) (hls : ls.size = 9) (hcs : cells + 8 ≤ R.cells ∧ slots + 64 ≤ R.slots)
    (k : ∀ (u : en_H × va_W) (r9 : Int32) (H1 : Heap) (locs1 : List Loc) (fs' : List Value), lw_I E LP tys cO cD qx qo qd u.1 u.2 st cx cy fs' → lw_H D A s u.2 H1 locs1 → W p l e R s m args below meth c H1 locs1 (cells + 8) (slots + 64) Q (F0 m 813 ls [.int r9])) :
    W p l e R s m args below meth c H locs cells slots Q (F0 m 810 ls (([.ref (sh.2 qx), .int a1, .int a2, .int a3, .int a4, .ref (sh.2 qo)] : List Value).reverse ++ [])) := by
  obtain ⟨g0, hw9⟩ := I.hwo
  obtain ⟨fx, v8, v9, hwx, -⟩ := I.hed
  refine lw_wc F L (wr_odds hl9 en_Pc_ok (en_Of cx cy) D tys cO cD sh w H.size qx qo fx g0 a1 a2 a3 a4 hb4 F.hTY (lw_pre I.hs.1 (by decide) (Or.inr (by decide))) (lw_D9 L) (I.hO cx cy) I.hx hwx I.ho hw9) gx_odds rfl (by decide) (by decide) ⟨Nat.le_trans (Nat.add_le_add_left (Nat.le_of_ble_eq_true rfl) _) hcs.1, Nat.le_trans (Nat.add_le_add_left (Nat.le_of_ble_eq_true rfl) _) hcs.2⟩ hls dlw_810 (fun u r9 H1 locs1 hp9 L1 => ?_)
  obtain ⟨hpx, g9, hg9⟩ := hp9
  obtain ⟨fs', I1⟩ := lw_Iqq hLP I hpx (by decide +kernel) (lw_qall I.hst (by decide +kernel)) (by decide +kernel) (by decide +kernel) ⟨g9, by rw [(hpx.1.at I.ho).2]; exact hg9⟩ (lw_Id I hpx (by decide +kernel))
  exact W.widen (k := cells + 8) (n := slots + 64) (Nat.add_le_add_left (Nat.le_of_ble_eq_true rfl) _) (Nat.add_le_add_left (Nat.le_of_ble_eq_true rfl) _) (k u r9 H1 locs1 fs' I1 L1)
set_option maxHeartbeats 4000000 in
theorem lx_parPlay (hl9 : l.stackTraces = false) (a1 : Int32) (hLP : lw_st LP) (F : lw_Fm p R s m args c D tys cO cD A) (L : lw_H D A s w H locs) (I : lw_I E LP tys cO cD qx qo qd sh w st cx cy fs) (hls : ls.size = 9) (hcs : cells + 8 ≤ R.cells ∧ slots + 64 ≤ R.slots)
    (k : ∀ (u : en_H × va_W) (r9 : Int32) (H1 : Heap) (locs1 : List Loc) (fs' : List Value), lw_I E LP tys cO cD qx qo qd u.1 u.2 st cx cy fs' → lw_H D A s u.2 H1 locs1 → W p l e R s m args below meth c H1 locs1 (cells + 8) (slots + 64) Q (F0 m 1888 ls [.int r9])) :
    W p l e R s m args below meth c H locs cells slots Q (F0 m 1885 ls (([.ref (sh.2 qx), .int a1, .ref (sh.2 qo)] : List Value).reverse ++ [])) := by
  obtain ⟨g0, hw9⟩ := I.hwo
  obtain ⟨fx, v8, v9, hwx, -⟩ := I.hed
  refine lw_wc F L (wr_parPlay hl9 en_Pc_ok (en_Of cx cy) D tys cO cD sh w H.size qx qo fx g0 a1 F.hTY (lw_pre I.hs.1 (by decide) (Or.inr (by decide))) (lw_D9 L) (I.hO cx cy) I.hx hwx I.ho hw9) gx_parPlay rfl (by decide) (by decide) ⟨Nat.le_trans (Nat.add_le_add_left (Nat.le_of_ble_eq_true rfl) _) hcs.1, Nat.le_trans (Nat.add_le_add_left (Nat.le_of_ble_eq_true rfl) _) hcs.2⟩ hls dlw_1885 (fun u r9 H1 locs1 hp9 L1 => ?_)
  obtain ⟨hpx, g9, hg9⟩ := hp9
  obtain ⟨fs', I1⟩ := lw_Iqq hLP I hpx (by decide +kernel) (lw_qall I.hst (by decide +kernel)) (by decide +kernel) (by decide +kernel) ⟨g9, by rw [(hpx.1.at I.ho).2]; exact hg9⟩ (lw_Id I hpx (by decide +kernel))
  exact W.widen (k := cells + 8) (n := slots + 64) (Nat.add_le_add_left (Nat.le_of_ble_eq_true rfl) _) (Nat.add_le_add_left (Nat.le_of_ble_eq_true rfl) _) (k u r9 H1 locs1 fs' I1 L1)
set_option maxHeartbeats 4000000 in
theorem lx_penalties (hl9 : l.stackTraces = false) (a1 : Int32) (hLP : lw_st LP) (F : lw_Fm p R s m args c D tys cO cD A) (L : lw_H D A s w H locs) (I : lw_I E LP tys cO cD qx qo qd sh w st cx cy fs) (hls : ls.size = 9) (hcs : cells + 8 ≤ R.cells ∧ slots + 64 ≤ R.slots)
    (k : ∀ (u : en_H × va_W) (r9 : Int32) (H1 : Heap) (locs1 : List Loc) (fs' : List Value), lw_I E LP tys cO cD qx qo qd u.1 u.2 st cx cy fs' → lw_H D A s u.2 H1 locs1 → W p l e R s m args below meth c H1 locs1 (cells + 8) (slots + 64) Q (F0 m 1624 ls [.int r9])) :
    W p l e R s m args below meth c H locs cells slots Q (F0 m 1621 ls (([.ref (sh.2 qx), .int a1, .ref (sh.2 qo)] : List Value).reverse ++ [])) := by
  obtain ⟨g0, hw9⟩ := I.hwo
  obtain ⟨fx, v8, v9, hwx, -⟩ := I.hed
  refine lw_wc F L (wr_penalties hl9 en_Pc_ok (en_Of cx cy) D tys cO cD sh w H.size qx qo fx g0 a1 F.hTY (lw_pre I.hs.1 (by decide) (Or.inr (by decide))) (lw_D9 L) (I.hO cx cy) I.hx hwx I.ho hw9) gx_penalties rfl (by decide) (by decide) ⟨Nat.le_trans (Nat.add_le_add_left (Nat.le_of_ble_eq_true rfl) _) hcs.1, Nat.le_trans (Nat.add_le_add_left (Nat.le_of_ble_eq_true rfl) _) hcs.2⟩ hls dlw_1621 (fun u r9 H1 locs1 hp9 L1 => ?_)
  obtain ⟨hpx, g9, hg9⟩ := hp9
  obtain ⟨fs', I1⟩ := lw_Iqq hLP I hpx (by decide +kernel) (lw_qall I.hst (by decide +kernel)) (by decide +kernel) (by decide +kernel) ⟨g9, by rw [(hpx.1.at I.ho).2]; exact hg9⟩ (lw_Id I hpx (by decide +kernel))
  exact W.widen (k := cells + 8) (n := slots + 64) (Nat.add_le_add_left (Nat.le_of_ble_eq_true rfl) _) (Nat.add_le_add_left (Nat.le_of_ble_eq_true rfl) _) (k u r9 H1 locs1 fs' I1 L1)
set_option maxHeartbeats 4000000 in
theorem lx_penaltyShare (hl9 : l.stackTraces = false) (a1 : Int32) (hLP : lw_st LP) (F : lw_Fm p R s m args c D tys cO cD A) (L : lw_H D A s w H locs) (I : lw_I E LP tys cO cD qx qo qd sh w st cx cy fs) (hls : ls.size = 9) (hcs : cells + 8 ≤ R.cells ∧ slots + 64 ≤ R.slots)
    (k : ∀ (u : en_H × va_W) (r9 : Int32) (H1 : Heap) (locs1 : List Loc) (fs' : List Value), lw_I E LP tys cO cD qx qo qd u.1 u.2 st cx cy fs' → lw_H D A s u.2 H1 locs1 → W p l e R s m args below meth c H1 locs1 (cells + 8) (slots + 64) Q (F0 m 2271 ls [.int r9])) :
    W p l e R s m args below meth c H locs cells slots Q (F0 m 2268 ls (([.ref (sh.2 qx), .int a1, .ref (sh.2 qd)] : List Value).reverse ++ [])) := by
  obtain ⟨g0, hw9⟩ := I.hwd
  obtain ⟨fx, v8, v9, hwx, -⟩ := I.hed
  refine lw_wc F L (wr_penaltyShare hl9 en_Pc_ok (en_Of cx cy) D tys cO cD sh w H.size qx qd fx g0 a1 F.hTY (lw_pre I.hs.1 (by decide) (Or.inr (by decide))) (lw_D9 L) (I.hO cx cy) I.hx hwx I.hd hw9) gx_penaltyShare rfl (by decide) (by decide) ⟨Nat.le_trans (Nat.add_le_add_left (Nat.le_of_ble_eq_true rfl) _) hcs.1, Nat.le_trans (Nat.add_le_add_left (Nat.le_of_ble_eq_true rfl) _) hcs.2⟩ hls dlw_2268 (fun u r9 H1 locs1 hp9 L1 => ?_)
  obtain ⟨hpx, g9, hg9⟩ := hp9
  obtain ⟨fs', I1⟩ := lw_Iqq hLP I hpx (by decide +kernel) (lw_qall I.hst (by decide +kernel)) (by decide +kernel) (by decide +kernel) (lw_Io I hpx (by decide +kernel)) ⟨g9, by rw [(hpx.1.at I.hd).2]; exact hg9⟩
  exact W.widen (k := cells + 8) (n := slots + 64) (Nat.add_le_add_left (Nat.le_of_ble_eq_true rfl) _) (Nat.add_le_add_left (Nat.le_of_ble_eq_true rfl) _) (k u r9 H1 locs1 fs' I1 L1)
set_option maxHeartbeats 4000000 in
theorem lx_pickUp (hl9 : l.stackTraces = false) (a1 : Int32) (hLP : lw_st LP) (F : lw_Fm p R s m args c D tys cO cD A) (L : lw_H D A s w H locs) (I : lw_I E LP tys cO cD qx qo qd sh w st cx cy fs) (hls : ls.size = 9) (hcs : cells + 8 ≤ R.cells ∧ slots + 64 ≤ R.slots)
    (k : ∀ (u : en_H × va_W) (r9 : Int32) (H1 : Heap) (locs1 : List Loc) (fs' : List Value), lw_I E LP tys cO cD qx qo qd u.1 u.2 st cx cy fs' → lw_H D A s u.2 H1 locs1 → W p l e R s m args below meth c H1 locs1 (cells + 8) (slots + 64) Q (F0 m 1354 ls [.int r9])) :
    W p l e R s m args below meth c H locs cells slots Q (F0 m 1351 ls (([.ref (sh.2 qx), .int a1, .ref (sh.2 qo)] : List Value).reverse ++ [])) := by
  obtain ⟨g0, hw9⟩ := I.hwo
  obtain ⟨fx, v8, v9, hwx, -⟩ := I.hed
  refine lw_wc F L (wr_pickUp hl9 en_Pc_ok (en_Of cx cy) D tys cO cD sh w H.size qx qo fx g0 a1 F.hTY (lw_pre I.hs.1 (by decide) (Or.inr (by decide))) (lw_D9 L) (I.hO cx cy) I.hx hwx I.ho hw9) gx_pickUp rfl (by decide) (by decide) ⟨Nat.le_trans (Nat.add_le_add_left (Nat.le_of_ble_eq_true rfl) _) hcs.1, Nat.le_trans (Nat.add_le_add_left (Nat.le_of_ble_eq_true rfl) _) hcs.2⟩ hls dlw_1351 (fun u r9 H1 locs1 hp9 L1 => ?_)
  obtain ⟨hpx, g9, hg9⟩ := hp9
  obtain ⟨fs', I1⟩ := lw_Iqq hLP I hpx (by decide +kernel) (lw_qall I.hst (by decide +kernel)) (by decide +kernel) (by decide +kernel) ⟨g9, by rw [(hpx.1.at I.ho).2]; exact hg9⟩ (lw_Id I hpx (by decide +kernel))
  exact W.widen (k := cells + 8) (n := slots + 64) (Nat.add_le_add_left (Nat.le_of_ble_eq_true rfl) _) (Nat.add_le_add_left (Nat.le_of_ble_eq_true rfl) _) (k u r9 H1 locs1 fs' I1 L1)
end
