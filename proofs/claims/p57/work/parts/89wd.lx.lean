section
variable {p : Program} {l : Launch} {e : Env} {R : Room} {s : State} {m : MethodId} {args : Array Value} {below : List Frame} {meth : Method} {c : Code} {Q : State → Prop}
variable {D : va_G} {tys : List (ClassId × FieldType)} {cO cD : ClassId} {A : Nat → Prop} {sh : en_H} {w : va_W} {H : Heap} {locs : List Loc} {ls : Array Slot} {cells slots qx qo qd : Nat} {E : Int32 → Int32 → Prop} {LP : en_H → va_W → Prop} {st : Nat} {cx cy : Int32} {fs : List Value}
set_option maxHeartbeats 4000000 in
theorem lx_state (hl9 : l.stackTraces = false) (a1 : Int32) (hLP : lw_st LP) (F : lw_Fm p R s m args c D tys cO cD A) (L : lw_H D A s w H locs) (I : lw_I E LP tys cO cD qx qo qd sh w st cx cy fs) (hls : ls.size = 9) (hcs : cells + 8 ≤ R.cells ∧ slots + 64 ≤ R.slots)
    (k : ∀ (u : en_H × va_W) (r9 : Int32) (H1 : Heap) (locs1 : List Loc) (fs' : List Value), lw_I E LP tys cO cD qx qo qd u.1 u.2 st cx cy fs' → lw_H D A s u.2 H1 locs1 → W p l e R s m args below meth c H1 locs1 (cells + 8) (slots + 64) Q (F0 m 1512 ls [.int r9])) :
    W p l e R s m args below meth c H locs cells slots Q (F0 m 1509 ls (([.ref (sh.2 qx), .int a1, .ref (sh.2 qo)] : List Value).reverse ++ [])) := by
  obtain ⟨g0, hw9⟩ := I.hwo
  obtain ⟨fx, v8, v9, hwx, -⟩ := I.hed
  refine lw_wc F L (wr_state hl9 en_Pc_ok (en_Of cx cy) D tys cO cD sh w H.size qx qo fx g0 a1 F.hTY (lw_pre I.hs.1 (by decide) (Or.inr (by decide))) (lw_D9 L) (I.hO cx cy) I.hx hwx I.ho hw9) gx_state rfl (by decide) (by decide) ⟨Nat.le_trans (Nat.add_le_add_left (Nat.le_of_ble_eq_true rfl) _) hcs.1, Nat.le_trans (Nat.add_le_add_left (Nat.le_of_ble_eq_true rfl) _) hcs.2⟩ hls dlw_1509 (fun u r9 H1 locs1 hp9 L1 => ?_)
  obtain ⟨hpx, g9, hg9⟩ := hp9
  obtain ⟨fs', I1⟩ := lw_Iqq hLP I hpx (by decide +kernel) (lw_qall I.hst (by decide +kernel)) (by decide +kernel) (by decide +kernel) ⟨g9, by rw [(hpx.1.at I.ho).2]; exact hg9⟩ (lw_Id I hpx (by decide +kernel))
  exact W.widen (k := cells + 8) (n := slots + 64) (Nat.add_le_add_left (Nat.le_of_ble_eq_true rfl) _) (Nat.add_le_add_left (Nat.le_of_ble_eq_true rfl) _) (k u r9 H1 locs1 fs' I1 L1)
set_option maxHeartbeats 4000000 in
theorem lx_stroke (hl9 : l.stackTraces = false) (a1 : Int32) (a2 : Int32) (a3 : Int32) (hLP : lw_st LP) (F : lw_Fm p R s m args c D tys cO cD A) (L : lw_H D A s w H locs) (I : lw_I E LP tys cO cD qx qo qd sh w st cx cy fs) (hls : ls.size = 9) (hcs : cells + 8 ≤ R.cells ∧ slots + 64 ≤ R.slots)
    (k : ∀ (u : en_H × va_W) (r9 : Int32) (H1 : Heap) (locs1 : List Loc) (fs' : List Value), lw_I E LP tys cO cD qx qo qd u.1 u.2 st cx cy fs' → lw_H D A s u.2 H1 locs1 → W p l e R s m args below meth c H1 locs1 (cells + 8) (slots + 64) Q (F0 m 754 ls [.int r9])) :
    W p l e R s m args below meth c H locs cells slots Q (F0 m 751 ls (([.ref (sh.2 qx), .int a1, .int a2, .int a3, .ref (sh.2 qo)] : List Value).reverse ++ [])) := by
  obtain ⟨g0, hw9⟩ := I.hwo
  obtain ⟨fx, v8, v9, hwx, -⟩ := I.hed
  refine lw_wc F L (wr_stroke hl9 en_Pc_ok (en_Of cx cy) D tys cO cD sh w H.size qx qo fx g0 a1 a2 a3 F.hTY (lw_pre I.hs.1 (by decide) (Or.inr (by decide))) (lw_D9 L) (I.hO cx cy) I.hx hwx I.ho hw9) gx_stroke rfl (by decide) (by decide) ⟨Nat.le_trans (Nat.add_le_add_left (Nat.le_of_ble_eq_true rfl) _) hcs.1, Nat.le_trans (Nat.add_le_add_left (Nat.le_of_ble_eq_true rfl) _) hcs.2⟩ hls dlw_751 (fun u r9 H1 locs1 hp9 L1 => ?_)
  obtain ⟨hpx, g9, hg9⟩ := hp9
  obtain ⟨fs', I1⟩ := lw_Iqq hLP I hpx (by decide +kernel) (lw_qall I.hst (by decide +kernel)) (by decide +kernel) (by decide +kernel) ⟨g9, by rw [(hpx.1.at I.ho).2]; exact hg9⟩ (lw_Id I hpx (by decide +kernel))
  exact W.widen (k := cells + 8) (n := slots + 64) (Nat.add_le_add_left (Nat.le_of_ble_eq_true rfl) _) (Nat.add_le_add_left (Nat.le_of_ble_eq_true rfl) _) (k u r9 H1 locs1 fs' I1 L1)
set_option maxHeartbeats 4000000 in
theorem lx_strokes (hl9 : l.stackTraces = false) (a1 : Int32) (hLP : lw_st LP) (F : lw_Fm p R s m args c D tys cO cD A) (L : lw_H D A s w H locs) (I : lw_I E LP tys cO cD qx qo qd sh w st cx cy fs) (hls : ls.size = 9) (hcs : cells + 8 ≤ R.cells ∧ slots + 64 ≤ R.slots)
    (k : ∀ (u : en_H × va_W) (r9 : Int32) (H1 : Heap) (locs1 : List Loc) (fs' : List Value), lw_I E LP tys cO cD qx qo qd u.1 u.2 st cx cy fs' → lw_H D A s u.2 H1 locs1 → W p l e R s m args below meth c H1 locs1 (cells + 8) (slots + 64) Q (F0 m 1596 ls [.int r9])) :
    W p l e R s m args below meth c H locs cells slots Q (F0 m 1593 ls (([.ref (sh.2 qx), .int a1, .ref (sh.2 qo)] : List Value).reverse ++ [])) := by
  obtain ⟨g0, hw9⟩ := I.hwo
  obtain ⟨fx, v8, v9, hwx, -⟩ := I.hed
  refine lw_wc F L (wr_strokes hl9 en_Pc_ok (en_Of cx cy) D tys cO cD sh w H.size qx qo fx g0 a1 F.hTY (lw_pre I.hs.1 (by decide) (Or.inr (by decide))) (lw_D9 L) (I.hO cx cy) I.hx hwx I.ho hw9) gx_strokes rfl (by decide) (by decide) ⟨Nat.le_trans (Nat.add_le_add_left (Nat.le_of_ble_eq_true rfl) _) hcs.1, Nat.le_trans (Nat.add_le_add_left (Nat.le_of_ble_eq_true rfl) _) hcs.2⟩ hls dlw_1593 (fun u r9 H1 locs1 hp9 L1 => ?_)
  obtain ⟨hpx, g9, hg9⟩ := hp9
  obtain ⟨fs', I1⟩ := lw_Iqq hLP I hpx (by decide +kernel) (lw_qall I.hst (by decide +kernel)) (by decide +kernel) (by decide +kernel) ⟨g9, by rw [(hpx.1.at I.ho).2]; exact hg9⟩ (lw_Id I hpx (by decide +kernel))
  exact W.widen (k := cells + 8) (n := slots + 64) (Nat.add_le_add_left (Nat.le_of_ble_eq_true rfl) _) (Nat.add_le_add_left (Nat.le_of_ble_eq_true rfl) _) (k u r9 H1 locs1 fs' I1 L1)
set_option maxHeartbeats 4000000 in
theorem lx_suspend (hl9 : l.stackTraces = false) (a1 : Int32) (hb1 : 0 ≤ a1.toInt ∧ a1.toInt ≤ 1) (hLP : lw_st LP) (F : lw_Fm p R s m args c D tys cO cD A) (L : lw_H D A s w H locs) (I : lw_I E LP tys cO cD qx qo qd sh w st cx cy fs) (hls : ls.size = 9) (hcs : cells + 8 ≤ R.cells ∧ slots + 64 ≤ R.slots)
    (k : ∀ (u : en_H × va_W) (r9 : Int32) (H1 : Heap) (locs1 : List Loc) (fs' : List Value), lw_I E LP tys cO cD qx qo qd u.1 u.2 st cx cy fs' → lw_H D A s u.2 H1 locs1 → W p l e R s m args below meth c H1 locs1 (cells + 8) (slots + 64) Q (F0 m 1390 ls [.int r9])) :
    W p l e R s m args below meth c H locs cells slots Q (F0 m 1387 ls (([.ref (sh.2 qx), .int a1, .ref (sh.2 qo)] : List Value).reverse ++ [])) := by
  obtain ⟨g0, hw9⟩ := I.hwo
  obtain ⟨fx, v8, v9, hwx, -⟩ := I.hed
  refine lw_wc F L (wr_suspend hl9 en_Pc_ok (en_Of cx cy) D tys cO cD sh w H.size qx qo fx g0 a1 hb1 F.hTY (lw_pre I.hs.1 (by decide) (Or.inr (by decide))) (lw_D9 L) (I.hO cx cy) I.hx hwx I.ho hw9) gx_suspend rfl (by decide) (by decide) ⟨Nat.le_trans (Nat.add_le_add_left (Nat.le_of_ble_eq_true rfl) _) hcs.1, Nat.le_trans (Nat.add_le_add_left (Nat.le_of_ble_eq_true rfl) _) hcs.2⟩ hls dlw_1387 (fun u r9 H1 locs1 hp9 L1 => ?_)
  obtain ⟨hpx, g9, hg9⟩ := hp9
  obtain ⟨fs', I1⟩ := lw_Iqq hLP I hpx (by decide +kernel) (lw_qall I.hst (by decide +kernel)) (by decide +kernel) (by decide +kernel) ⟨g9, by rw [(hpx.1.at I.ho).2]; exact hg9⟩ (lw_Id I hpx (by decide +kernel))
  exact W.widen (k := cells + 8) (n := slots + 64) (Nat.add_le_add_left (Nat.le_of_ble_eq_true rfl) _) (Nat.add_le_add_left (Nat.le_of_ble_eq_true rfl) _) (k u r9 H1 locs1 fs' I1 L1)
set_option maxHeartbeats 4000000 in
theorem lx_together (hl9 : l.stackTraces = false) (a1 : Int32) (a2 : Int32) (hLP : lw_st LP) (F : lw_Fm p R s m args c D tys cO cD A) (L : lw_H D A s w H locs) (I : lw_I E LP tys cO cD qx qo qd sh w st cx cy fs) (hls : ls.size = 9) (hcs : cells + 8 ≤ R.cells ∧ slots + 64 ≤ R.slots)
    (k : ∀ (u : en_H × va_W) (r9 : Int32) (H1 : Heap) (locs1 : List Loc) (fs' : List Value), lw_I E LP tys cO cD qx qo qd u.1 u.2 st cx cy fs' → lw_H D A s u.2 H1 locs1 → W p l e R s m args below meth c H1 locs1 (cells + 8) (slots + 64) Q (F0 m 1922 ls [.int r9])) :
    W p l e R s m args below meth c H locs cells slots Q (F0 m 1919 ls (([.ref (sh.2 qx), .int a1, .int a2, .ref (sh.2 qo)] : List Value).reverse ++ [])) := by
  obtain ⟨g0, hw9⟩ := I.hwo
  obtain ⟨fx, v8, v9, hwx, -⟩ := I.hed
  refine lw_wc F L (wr_together hl9 en_Pc_ok (en_Of cx cy) D tys cO cD sh w H.size qx qo fx g0 a1 a2 F.hTY (lw_pre I.hs.1 (by decide) (Or.inr (by decide))) (lw_D9 L) (I.hO cx cy) I.hx hwx I.ho hw9) gx_together rfl (by decide) (by decide) ⟨Nat.le_trans (Nat.add_le_add_left (Nat.le_of_ble_eq_true rfl) _) hcs.1, Nat.le_trans (Nat.add_le_add_left (Nat.le_of_ble_eq_true rfl) _) hcs.2⟩ hls dlw_1919 (fun u r9 H1 locs1 hp9 L1 => ?_)
  obtain ⟨hpx, g9, hg9⟩ := hp9
  obtain ⟨fs', I1⟩ := lw_Iqq hLP I hpx (by decide +kernel) (lw_qall I.hst (by decide +kernel)) (by decide +kernel) (by decide +kernel) ⟨g9, by rw [(hpx.1.at I.ho).2]; exact hg9⟩ (lw_Id I hpx (by decide +kernel))
  exact W.widen (k := cells + 8) (n := slots + 64) (Nat.add_le_add_left (Nat.le_of_ble_eq_true rfl) _) (Nat.add_le_add_left (Nat.le_of_ble_eq_true rfl) _) (k u r9 H1 locs1 fs' I1 L1)
set_option maxHeartbeats 4000000 in
theorem lx_total (hl9 : l.stackTraces = false) (a1 : Int32) (hLP : lw_st LP) (F : lw_Fm p R s m args c D tys cO cD A) (L : lw_H D A s w H locs) (I : lw_I E LP tys cO cD qx qo qd sh w st cx cy fs) (hls : ls.size = 9) (hcs : cells + 8 ≤ R.cells ∧ slots + 64 ≤ R.slots)
    (k : ∀ (u : en_H × va_W) (r9 : Int32) (H1 : Heap) (locs1 : List Loc) (fs' : List Value), lw_I E LP tys cO cD qx qo qd u.1 u.2 st cx cy fs' → lw_H D A s u.2 H1 locs1 → W p l e R s m args below meth c H1 locs1 (cells + 8) (slots + 64) Q (F0 m 1832 ls [.int r9])) :
    W p l e R s m args below meth c H locs cells slots Q (F0 m 1829 ls (([.ref (sh.2 qx), .int a1, .ref (sh.2 qo)] : List Value).reverse ++ [])) := by
  obtain ⟨g0, hw9⟩ := I.hwo
  obtain ⟨fx, v8, v9, hwx, -⟩ := I.hed
  refine lw_wc F L (wr_total hl9 en_Pc_ok (en_Of cx cy) D tys cO cD sh w H.size qx qo fx g0 a1 F.hTY (lw_pre I.hs.1 (by decide) (Or.inr (by decide))) (lw_D9 L) (I.hO cx cy) I.hx hwx I.ho hw9) gx_total rfl (by decide) (by decide) ⟨Nat.le_trans (Nat.add_le_add_left (Nat.le_of_ble_eq_true rfl) _) hcs.1, Nat.le_trans (Nat.add_le_add_left (Nat.le_of_ble_eq_true rfl) _) hcs.2⟩ hls dlw_1829 (fun u r9 H1 locs1 hp9 L1 => ?_)
  obtain ⟨hpx, g9, hg9⟩ := hp9
  obtain ⟨fs', I1⟩ := lw_Iqq hLP I hpx (by decide +kernel) (lw_qall I.hst (by decide +kernel)) (by decide +kernel) (by decide +kernel) ⟨g9, by rw [(hpx.1.at I.ho).2]; exact hg9⟩ (lw_Id I hpx (by decide +kernel))
  exact W.widen (k := cells + 8) (n := slots + 64) (Nat.add_le_add_left (Nat.le_of_ble_eq_true rfl) _) (Nat.add_le_add_left (Nat.le_of_ble_eq_true rfl) _) (k u r9 H1 locs1 fs' I1 L1)
set_option maxHeartbeats 4000000 in
theorem lx_up (hl9 : l.stackTraces = false) (hLP : lw_st LP) (F : lw_Fm p R s m args c D tys cO cD A) (L : lw_H D A s w H locs) (I : lw_I E LP tys cO cD qx qo qd sh w st cx cy fs) (hls : ls.size = 9) (hcs : cells + 8 ≤ R.cells ∧ slots + 64 ≤ R.slots)
    (k : ∀ (u : en_H × va_W) (r9 : Int32) (H1 : Heap) (locs1 : List Loc) (fs' : List Value), lw_I E LP tys cO cD qx qo qd u.1 u.2 st cx cy fs' → lw_H D A s u.2 H1 locs1 → W p l e R s m args below meth c H1 locs1 (cells + 8) (slots + 64) Q (F0 m 1714 ls [.int r9])) :
    W p l e R s m args below meth c H locs cells slots Q (F0 m 1711 ls (([.ref (sh.2 qx), .ref (sh.2 qo)] : List Value).reverse ++ [])) := by
  obtain ⟨g0, hw9⟩ := I.hwo
  obtain ⟨fx, v8, v9, hwx, -⟩ := I.hed
  refine lw_wc F L (wr_up hl9 en_Pc_ok (en_Of cx cy) D tys cO cD sh w H.size qx qo fx g0 F.hTY (lw_pre I.hs.1 (by decide) (Or.inr (by decide))) (lw_D9 L) (I.hO cx cy) I.hx hwx I.ho hw9) gx_up rfl (by decide) (by decide) ⟨Nat.le_trans (Nat.add_le_add_left (Nat.le_of_ble_eq_true rfl) _) hcs.1, Nat.le_trans (Nat.add_le_add_left (Nat.le_of_ble_eq_true rfl) _) hcs.2⟩ hls dlw_1711 (fun u r9 H1 locs1 hp9 L1 => ?_)
  obtain ⟨hpx, g9, hg9⟩ := hp9
  obtain ⟨fs', I1⟩ := lw_Iqq hLP I hpx (by decide +kernel) (lw_qall I.hst (by decide +kernel)) (by decide +kernel) (by decide +kernel) ⟨g9, by rw [(hpx.1.at I.ho).2]; exact hg9⟩ (lw_Id I hpx (by decide +kernel))
  exact W.widen (k := cells + 8) (n := slots + 64) (Nat.add_le_add_left (Nat.le_of_ble_eq_true rfl) _) (Nat.add_le_add_left (Nat.le_of_ble_eq_true rfl) _) (k u r9 H1 locs1 fs' I1 L1)
set_option maxHeartbeats 4000000 in
theorem lx_write (hl9 : l.stackTraces = false) (a1 : Int32) (a2 : Int32) (a3 : Int32) (hLP : lw_st LP) (F : lw_Fm p R s m args c D tys cO cD A) (L : lw_H D A s w H locs) (I : lw_I E LP tys cO cD qx qo qd sh w st cx cy fs) (hls : ls.size = 9) (hcs : cells + 8 ≤ R.cells ∧ slots + 64 ≤ R.slots)
    (k : ∀ (u : en_H × va_W) (r9 : Int32) (H1 : Heap) (locs1 : List Loc) (fs' : List Value), lw_I E LP tys cO cD qx qo qd u.1 u.2 st cx cy fs' → lw_H D A s u.2 H1 locs1 → W p l e R s m args below meth c H1 locs1 (cells + 8) (slots + 64) Q (F0 m 1764 ls [.int r9])) :
    W p l e R s m args below meth c H locs cells slots Q (F0 m 1761 ls (([.ref (sh.2 qx), .int a1, .int a2, .int a3, .ref (sh.2 qo)] : List Value).reverse ++ [])) := by
  obtain ⟨g0, hw9⟩ := I.hwo
  obtain ⟨fx, v8, v9, hwx, -⟩ := I.hed
  refine lw_wc F L (wr_write hl9 en_Pc_ok (en_Of cx cy) D tys cO cD sh w H.size qx qo fx g0 a1 a2 a3 F.hTY (lw_pre I.hs.1 (by decide) (Or.inr (by decide))) (lw_D9 L) (I.hO cx cy) I.hx hwx I.ho hw9) gx_write rfl (by decide) (by decide) ⟨Nat.le_trans (Nat.add_le_add_left (Nat.le_of_ble_eq_true rfl) _) hcs.1, Nat.le_trans (Nat.add_le_add_left (Nat.le_of_ble_eq_true rfl) _) hcs.2⟩ hls dlw_1761 (fun u r9 H1 locs1 hp9 L1 => ?_)
  obtain ⟨hpx, g9, hg9⟩ := hp9
  obtain ⟨fs', I1⟩ := lw_Iqq hLP I hpx (by decide +kernel) (lw_qall I.hst (by decide +kernel)) (by decide +kernel) (by decide +kernel) ⟨g9, by rw [(hpx.1.at I.ho).2]; exact hg9⟩ (lw_Id I hpx (by decide +kernel))
  exact W.widen (k := cells + 8) (n := slots + 64) (Nat.add_le_add_left (Nat.le_of_ble_eq_true rfl) _) (Nat.add_le_add_left (Nat.le_of_ble_eq_true rfl) _) (k u r9 H1 locs1 fs' I1 L1)
set_option maxHeartbeats 4000000 in
theorem lx_wrongBall (hl9 : l.stackTraces = false) (a1 : Int32) (a2 : Int32) (hLP : lw_st LP) (F : lw_Fm p R s m args c D tys cO cD A) (L : lw_H D A s w H locs) (I : lw_I E LP tys cO cD qx qo qd sh w st cx cy fs) (hls : ls.size = 9) (hcs : cells + 8 ≤ R.cells ∧ slots + 64 ≤ R.slots)
    (k : ∀ (u : en_H × va_W) (r9 : Int32) (H1 : Heap) (locs1 : List Loc) (fs' : List Value), lw_I E LP tys cO cD qx qo qd u.1 u.2 st cx cy fs' → lw_H D A s u.2 H1 locs1 → W p l e R s m args below meth c H1 locs1 (cells + 8) (slots + 64) Q (F0 m 1320 ls [.int r9])) :
    W p l e R s m args below meth c H locs cells slots Q (F0 m 1317 ls (([.ref (sh.2 qx), .int a1, .int a2, .ref (sh.2 qo)] : List Value).reverse ++ [])) := by
  obtain ⟨g0, hw9⟩ := I.hwo
  obtain ⟨fx, v8, v9, hwx, -⟩ := I.hed
  refine lw_wc F L (wr_wrongBall hl9 en_Pc_ok (en_Of cx cy) D tys cO cD sh w H.size qx qo fx g0 a1 a2 F.hTY (lw_pre I.hs.1 (by decide) (Or.inr (by decide))) (lw_D9 L) (I.hO cx cy) I.hx hwx I.ho hw9) gx_wrongBall rfl (by decide) (by decide) ⟨Nat.le_trans (Nat.add_le_add_left (Nat.le_of_ble_eq_true rfl) _) hcs.1, Nat.le_trans (Nat.add_le_add_left (Nat.le_of_ble_eq_true rfl) _) hcs.2⟩ hls dlw_1317 (fun u r9 H1 locs1 hp9 L1 => ?_)
  obtain ⟨hpx, g9, hg9⟩ := hp9
  obtain ⟨fs', I1⟩ := lw_Iqq hLP I hpx (by decide +kernel) (lw_qall I.hst (by decide +kernel)) (by decide +kernel) (by decide +kernel) ⟨g9, by rw [(hpx.1.at I.ho).2]; exact hg9⟩ (lw_Id I hpx (by decide +kernel))
  exact W.widen (k := cells + 8) (n := slots + 64) (Nat.add_le_add_left (Nat.le_of_ble_eq_true rfl) _) (Nat.add_le_add_left (Nat.le_of_ble_eq_true rfl) _) (k u r9 H1 locs1 fs' I1 L1)
set_option maxHeartbeats 4000000 in
theorem lx_wrongPlace (hl9 : l.stackTraces = false) (a1 : Int32) (a2 : Int32) (a3 : Int32) (hLP : lw_st LP) (F : lw_Fm p R s m args c D tys cO cD A) (L : lw_H D A s w H locs) (I : lw_I E LP tys cO cD qx qo qd sh w st cx cy fs) (hls : ls.size = 9) (hcs : cells + 8 ≤ R.cells ∧ slots + 64 ≤ R.slots)
    (k : ∀ (u : en_H × va_W) (r9 : Int32) (H1 : Heap) (locs1 : List Loc) (fs' : List Value), lw_I E LP tys cO cD qx qo qd u.1 u.2 st cx cy fs' → lw_H D A s u.2 H1 locs1 → W p l e R s m args below meth c H1 locs1 (cells + 8) (slots + 64) Q (F0 m 1180 ls [.int r9])) :
    W p l e R s m args below meth c H locs cells slots Q (F0 m 1177 ls (([.ref (sh.2 qx), .int a1, .int a2, .int a3, .ref (sh.2 qo)] : List Value).reverse ++ [])) := by
  obtain ⟨g0, hw9⟩ := I.hwo
  obtain ⟨fx, v8, v9, hwx, -⟩ := I.hed
  refine lw_wc F L (wr_wrongPlace hl9 en_Pc_ok (en_Of cx cy) D tys cO cD sh w H.size qx qo fx g0 a1 a2 a3 F.hTY (lw_pre I.hs.1 (by decide) (Or.inr (by decide))) (lw_D9 L) (I.hO cx cy) I.hx hwx I.ho hw9) gx_wrongPlace rfl (by decide) (by decide) ⟨Nat.le_trans (Nat.add_le_add_left (Nat.le_of_ble_eq_true rfl) _) hcs.1, Nat.le_trans (Nat.add_le_add_left (Nat.le_of_ble_eq_true rfl) _) hcs.2⟩ hls dlw_1177 (fun u r9 H1 locs1 hp9 L1 => ?_)
  obtain ⟨hpx, g9, hg9⟩ := hp9
  obtain ⟨fs', I1⟩ := lw_Iqq hLP I hpx (by decide +kernel) (lw_qall I.hst (by decide +kernel)) (by decide +kernel) (by decide +kernel) ⟨g9, by rw [(hpx.1.at I.ho).2]; exact hg9⟩ (lw_Id I hpx (by decide +kernel))
  exact W.widen (k := cells + 8) (n := slots + 64) (Nat.add_le_add_left (Nat.le_of_ble_eq_true rfl) _) (Nat.add_le_add_left (Nat.le_of_ble_eq_true rfl) _) (k u r9 H1 locs1 fs' I1 L1)
set_option maxHeartbeats 4000000 in
theorem lx_checksum (hl9 : l.stackTraces = false) (hLP : lw_st LP) (F : lw_Fm p R s m args c D tys cO cD A) (L : lw_H D A s w H locs) (I : lw_I E LP tys cO cD qx qo qd sh w st cx cy fs) (hls : ls.size = 9) (hcs : cells + 8 ≤ R.cells ∧ slots + 64 ≤ R.slots)
    (k : ∀ (u : en_H × va_W) (res : Option Value) (H1 : Heap) (locs1 : List Loc) (fs' : List Value), en_rv 1 res → lw_I E LP tys cO cD qx qo qd u.1 u.2 st cx cy fs' → lw_H D A s u.2 H1 locs1 → W p l e R s m args below meth c H1 locs1 (cells + 8) (slots + 64) Q (F0 m 2249 ls (res.toList ++ []))) :
    W p l e R s m args below meth c H locs cells slots Q (F0 m 2246 ls (([] : List Value).reverse ++ [.ref (sh.2 qx)])) := by
  obtain ⟨fx, v8, v9, hwx, -⟩ := I.hed
  refine lw_xc (lv' := 1) (ρp := [.ref (sh.2 qx)]) (As := []) F L (ct_X6_checksum_0 hl9 en_Pc_ok (en_Of cx cy)) gm_X6_checksum hwx rfl rfl (Nat.le_of_ble_eq_true rfl) (by decide) ⟨Nat.le_trans (Nat.add_le_add_left (Nat.le_of_ble_eq_true rfl) _) hcs.1, Nat.le_trans (Nat.add_le_add_left (Nat.le_of_ble_eq_true rfl) _) hcs.2⟩ hls rfl (lw_pre I.hs.1 (by decide) (Or.inr (by decide))) (I.hO cx cy) (wr_pa (env := k_X6_checksum_0.2.1.1) ⟨⟨qx, I.hx, rfl⟩, trivial⟩) dlw_2246 (fun u res H1 locs1 hrv hpo L1 => ?_)
  obtain ⟨fs', I1⟩ := lw_Iqq hLP I hpo.1 (by decide +kernel) (lw_qall I.hst (by decide +kernel)) (by decide +kernel) (by decide +kernel) (lw_Io I hpo.1 (by decide +kernel)) (lw_Id I hpo.1 (by decide +kernel))
  exact W.widen (k := cells + 8) (n := slots + 64) (Nat.add_le_add_left (Nat.le_of_ble_eq_true rfl) _) (Nat.add_le_add_left (Nat.le_of_ble_eq_true rfl) _) (k u res H1 locs1 fs' hrv I1 L1)
set_option maxHeartbeats 4000000 in
theorem lx_isSound (hl9 : l.stackTraces = false) (hLP : lw_st LP) (F : lw_Fm p R s m args c D tys cO cD A) (L : lw_H D A s w H locs) (I : lw_I E LP tys cO cD qx qo qd sh w st cx cy fs) (hls : ls.size = 9) (hcs : cells + 8 ≤ R.cells ∧ slots + 64 ≤ R.slots)
    (k : ∀ (u : en_H × va_W) (res : Option Value) (H1 : Heap) (locs1 : List Loc) (fs' : List Value), en_rv 0 res → lw_I E LP tys cO cD qx qo qd u.1 u.2 st cx cy fs' → lw_H D A s u.2 H1 locs1 → W p l e R s m args below meth c H1 locs1 (cells + 8) (slots + 64) Q (F0 m 2320 ls (res.toList ++ []))) :
    W p l e R s m args below meth c H locs cells slots Q (F0 m 2317 ls (([] : List Value).reverse ++ [.ref (sh.2 qx)])) := by
  obtain ⟨fx, v8, v9, hwx, -⟩ := I.hed
  refine lw_xc (lv' := 7) (ρp := [.ref (sh.2 qx)]) (As := []) F L (ct_X6_isSound_0 hl9 en_Pc_ok (en_Of cx cy)) gm_X6_isSound hwx rfl rfl (Nat.le_of_ble_eq_true rfl) (by decide) ⟨Nat.le_trans (Nat.add_le_add_left (Nat.le_of_ble_eq_true rfl) _) hcs.1, Nat.le_trans (Nat.add_le_add_left (Nat.le_of_ble_eq_true rfl) _) hcs.2⟩ hls rfl (lw_pre I.hs.1 (by decide) (Or.inr (by decide))) (I.hO cx cy) (wr_pa (env := k_X6_isSound_0.2.1.1) ⟨⟨qx, I.hx, rfl⟩, trivial⟩) dlw_2317 (fun u res H1 locs1 hrv hpo L1 => ?_)
  obtain ⟨fs', I1⟩ := lw_Iqq hLP I hpo.1 (by decide +kernel) (lw_qall I.hst (by decide +kernel)) (by decide +kernel) (by decide +kernel) (lw_Io I hpo.1 (by decide +kernel)) (lw_Id I hpo.1 (by decide +kernel))
  exact W.widen (k := cells + 8) (n := slots + 64) (Nat.add_le_add_left (Nat.le_of_ble_eq_true rfl) _) (Nat.add_le_add_left (Nat.le_of_ble_eq_true rfl) _) (k u res H1 locs1 fs' hrv I1 L1)
set_option maxHeartbeats 4000000 in
theorem lx_setSeed (hl9 : l.stackTraces = false) (a1 : Int32) (hLP : lw_st LP) (F : lw_Fm p R s m args c D tys cO cD A) (L : lw_H D A s w H locs) (I : lw_I E LP tys cO cD qx qo qd sh w st cx cy fs) (hls : ls.size = 9) (hcs : cells + 8 ≤ R.cells ∧ slots + 64 ≤ R.slots)
    (k : ∀ (u : en_H × va_W) (res : Option Value) (H1 : Heap) (locs1 : List Loc) (fs' : List Value), en_rv 0 res → lw_I E LP tys cO cD qx qo qd u.1 u.2 st cx cy fs' → lw_H D A s u.2 H1 locs1 → W p l e R s m args below meth c H1 locs1 (cells + 8) (slots + 64) Q (F0 m 624 ls (res.toList ++ []))) :
    W p l e R s m args below meth c H locs cells slots Q (F0 m 621 ls (([.int a1] : List Value).reverse ++ [.ref (sh.2 qx)])) := by
  obtain ⟨fx, v8, v9, hwx, -⟩ := I.hed
  refine lw_xc (lv' := 0) (ρp := [.ref (sh.2 qx), .int a1]) (As := [.int a1]) F L (ct_X6_setSeed_0 hl9 en_Pc_ok (en_Of cx cy)) gm_X6_setSeed hwx rfl rfl (Nat.le_of_ble_eq_true rfl) (by decide) ⟨Nat.le_trans (Nat.add_le_add_left (Nat.le_of_ble_eq_true rfl) _) hcs.1, Nat.le_trans (Nat.add_le_add_left (Nat.le_of_ble_eq_true rfl) _) hcs.2⟩ hls rfl (lw_pre I.hs.1 (by decide) (Or.inr (by decide))) (I.hO cx cy) (wr_pa (env := k_X6_setSeed_0.2.1.1) ⟨⟨qx, I.hx, rfl⟩, ⟨a1, rfl, en_lo a1, en_hi a1⟩, trivial⟩) dlw_621 (fun u res H1 locs1 hrv hpo L1 => ?_)
  obtain ⟨fs', I1⟩ := lw_Iqq hLP I hpo.1 (by decide +kernel) (lw_qall I.hst (by decide +kernel)) (by decide +kernel) (by decide +kernel) (lw_Io I hpo.1 (by decide +kernel)) (lw_Id I hpo.1 (by decide +kernel))
  exact W.widen (k := cells + 8) (n := slots + 64) (Nat.add_le_add_left (Nat.le_of_ble_eq_true rfl) _) (Nat.add_le_add_left (Nat.le_of_ble_eq_true rfl) _) (k u res H1 locs1 fs' hrv I1 L1)
end
