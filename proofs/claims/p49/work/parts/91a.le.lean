section
variable {p : Program} {l : Launch} {e : Env} {R : Room} {s : State} {m : MethodId} {args : Array Value} {below : List Frame} {meth : Method} {c : Code} {Q : State → Prop}
variable {D : va_G} {tys : List (ClassId × FieldType)} {cO cD : ClassId} {A : Nat → Prop} {sh : en_H} {w : va_W} {H : Heap} {locs : List Loc} {ls : Array Slot} {cells slots qx qo qd : Nat} {E : Int32 → Int32 → Prop} {LP : en_H → va_W → Prop} {st : Nat} {cx cy : Int32} {fs : List Value}
set_option maxHeartbeats 4000000 in
theorem le_x_0_m1 (hl9 : l.stackTraces = false) (hLP : lw_st LP) (F : lw_Fm p R s m args c D tys cO cD A) (L : lw_H D A s w H locs) (I : lw_I E LP tys cO cD qx qo qd sh w st cx cy fs) (hls : ls.size = 9) (hcs : cells + 8 ≤ R.cells ∧ slots + 64 ≤ R.slots) (a1 : Int32) (hb1 : (-1) ≤ a1.toInt ∧ a1.toInt ≤ (-1)) (he : ∃ fx, w[qx]? = some (sh.2 qx, .inr (12, fx)) ∧ fx[8]? = some (.int (-1)) ∧ fs[29]? = some (.int (-1)))
    (k : ∀ (u : en_H × va_W) (H1 : Heap) (locs1 : List Loc) (fs' : List Value), lw_I (fun v v9 => v = (-1) ∧ v9 = (-1)) LP tys cO cD qx qo qd u.1 u.2 st cx cy fs' → lw_H D A s u.2 H1 locs1 → (∃ g : Nat → Int64, u.2[qo]? = some (u.1.2 qo, .inl (cO, 1, .inr (.inl g))) ∧ g 0 = ((-1) : Int32).toInt64) → W p l e R s m args below meth c H1 locs1 (cells + 8) (slots + 64) Q (F0 m 2080 ls [.int 0])) :
    W p l e R s m args below meth c H locs cells slots Q (F0 m 2077 ls (([.ref (sh.2 qx), .int a1, .ref (sh.2 qo)] : List Value).reverse ++ [])) := by
  obtain ⟨g0, hw9⟩ := I.hwo
  obtain ⟨fx, hwx, f7, f19⟩ := he
  refine lw_wcE F L (wr_conditions_0_m1 hl9 en_Pc_ok (en_Of cx cy) D tys cO cD sh w H.size qx qo fx g0 a1 hb1 F.hTY (lw_pre I.hs.1 (by decide) (Or.inr (by decide))) (lw_D9 L) (I.hO cx cy) I.hx hwx I.ho hw9 f7) gx_conditions rfl (by decide) (by decide) ⟨Nat.le_trans (Nat.add_le_add_left (Nat.le_of_ble_eq_true rfl) _) hcs.1, Nat.le_trans (Nat.add_le_add_left (Nat.le_of_ble_eq_true rfl) _) hcs.2⟩ hls dlw_2077 (fun u r9 H1 locs1 hp9 L1 => ?_)
  obtain ⟨⟨hpx, g9, hg9, hg0⟩, er, fx', hwx', f7'⟩ := hp9
  have ea : a1 = (-1) := Int32.toInt_inj.mp (by rw [show ((-1) : Int32).toInt = (-1) from rfl]; omega)
  subst ea
  subst er
  obtain ⟨fs', s1, s2⟩ := lw_fs I.h20 I.hs.2.1 hpx
  have hg8 : u.2[qo]? = some (u.1.2 qo, .inl (cO, 1, .inr (.inl g9))) := by rw [(hpx.1.at I.ho).2]; exact hg9
  have I1 := lw_IqqE (E' := fun v v9 => v = (-1) ∧ v9 = (-1)) hLP I hpx (by decide +kernel) (lw_qall I.hst (by decide +kernel)) (by decide +kernel) (by decide +kernel) s1 ⟨g9, hg8⟩ (lw_Id I hpx (by decide +kernel)) ⟨fx', _, _, hwx', f7', (s2 29 (by decide +kernel)).trans f19, rfl, rfl⟩
  refine W.widen (k := cells + 8) (n := slots + 64) (Nat.add_le_add_left (Nat.le_of_ble_eq_true rfl) _) (Nat.add_le_add_left (Nat.le_of_ble_eq_true rfl) _) ?_
  exact k u H1 locs1 fs' I1 L1 ⟨g9, hg8, hg0⟩
set_option maxHeartbeats 4000000 in
theorem le_x_0_0 (hl9 : l.stackTraces = false) (hLP : lw_st LP) (F : lw_Fm p R s m args c D tys cO cD A) (L : lw_H D A s w H locs) (I : lw_I E LP tys cO cD qx qo qd sh w st cx cy fs) (hls : ls.size = 9) (hcs : cells + 8 ≤ R.cells ∧ slots + 64 ≤ R.slots) (a1 : Int32) (hb1 : (-1) ≤ a1.toInt ∧ a1.toInt ≤ (-1)) (he : ∃ fx, w[qx]? = some (sh.2 qx, .inr (12, fx)) ∧ fx[8]? = some (.int 0) ∧ fs[29]? = some (.int 0))
    (k : ∀ (u : en_H × va_W) (H1 : Heap) (locs1 : List Loc) (fs' : List Value), lw_I (fun v v9 => v = (-1) ∧ v9 = 0) LP tys cO cD qx qo qd u.1 u.2 st cx cy fs' → lw_H D A s u.2 H1 locs1 → (∃ g : Nat → Int64, u.2[qo]? = some (u.1.2 qo, .inl (cO, 1, .inr (.inl g))) ∧ g 0 = (0 : Int32).toInt64) → W p l e R s m args below meth c H1 locs1 (cells + 8) (slots + 64) Q (F0 m 2080 ls [.int 0])) :
    W p l e R s m args below meth c H locs cells slots Q (F0 m 2077 ls (([.ref (sh.2 qx), .int a1, .ref (sh.2 qo)] : List Value).reverse ++ [])) := by
  obtain ⟨g0, hw9⟩ := I.hwo
  obtain ⟨fx, hwx, f7, f19⟩ := he
  refine lw_wcE F L (wr_conditions_0_0 hl9 en_Pc_ok (en_Of cx cy) D tys cO cD sh w H.size qx qo fx g0 a1 hb1 F.hTY (lw_pre I.hs.1 (by decide) (Or.inr (by decide))) (lw_D9 L) (I.hO cx cy) I.hx hwx I.ho hw9 f7) gx_conditions rfl (by decide) (by decide) ⟨Nat.le_trans (Nat.add_le_add_left (Nat.le_of_ble_eq_true rfl) _) hcs.1, Nat.le_trans (Nat.add_le_add_left (Nat.le_of_ble_eq_true rfl) _) hcs.2⟩ hls dlw_2077 (fun u r9 H1 locs1 hp9 L1 => ?_)
  obtain ⟨⟨hpx, g9, hg9, hg0⟩, er, fx', hwx', f7'⟩ := hp9
  have ea : a1 = (-1) := Int32.toInt_inj.mp (by rw [show ((-1) : Int32).toInt = (-1) from rfl]; omega)
  subst ea
  subst er
  obtain ⟨fs', s1, s2⟩ := lw_fs I.h20 I.hs.2.1 hpx
  have hg8 : u.2[qo]? = some (u.1.2 qo, .inl (cO, 1, .inr (.inl g9))) := by rw [(hpx.1.at I.ho).2]; exact hg9
  have I1 := lw_IqqE (E' := fun v v9 => v = (-1) ∧ v9 = 0) hLP I hpx (by decide +kernel) (lw_qall I.hst (by decide +kernel)) (by decide +kernel) (by decide +kernel) s1 ⟨g9, hg8⟩ (lw_Id I hpx (by decide +kernel)) ⟨fx', _, _, hwx', f7', (s2 29 (by decide +kernel)).trans f19, rfl, rfl⟩
  refine W.widen (k := cells + 8) (n := slots + 64) (Nat.add_le_add_left (Nat.le_of_ble_eq_true rfl) _) (Nat.add_le_add_left (Nat.le_of_ble_eq_true rfl) _) ?_
  exact k u H1 locs1 fs' I1 L1 ⟨g9, hg8, hg0⟩
set_option maxHeartbeats 4000000 in
theorem le_x_0_1 (hl9 : l.stackTraces = false) (hLP : lw_st LP) (F : lw_Fm p R s m args c D tys cO cD A) (L : lw_H D A s w H locs) (I : lw_I E LP tys cO cD qx qo qd sh w st cx cy fs) (hls : ls.size = 9) (hcs : cells + 8 ≤ R.cells ∧ slots + 64 ≤ R.slots) (a1 : Int32) (hb1 : (-1) ≤ a1.toInt ∧ a1.toInt ≤ (-1)) (he : ∃ fx, w[qx]? = some (sh.2 qx, .inr (12, fx)) ∧ fx[8]? = some (.int 1) ∧ fs[29]? = some (.int 1))
    (k : ∀ (u : en_H × va_W) (H1 : Heap) (locs1 : List Loc) (fs' : List Value), lw_I (fun v v9 => v = (-1) ∧ v9 = 1) LP tys cO cD qx qo qd u.1 u.2 st cx cy fs' → lw_H D A s u.2 H1 locs1 → (∃ g : Nat → Int64, u.2[qo]? = some (u.1.2 qo, .inl (cO, 1, .inr (.inl g))) ∧ g 0 = (1 : Int32).toInt64) → W p l e R s m args below meth c H1 locs1 (cells + 8) (slots + 64) Q (F0 m 2080 ls [.int 0])) :
    W p l e R s m args below meth c H locs cells slots Q (F0 m 2077 ls (([.ref (sh.2 qx), .int a1, .ref (sh.2 qo)] : List Value).reverse ++ [])) := by
  obtain ⟨g0, hw9⟩ := I.hwo
  obtain ⟨fx, hwx, f7, f19⟩ := he
  refine lw_wcE F L (wr_conditions_0_1 hl9 en_Pc_ok (en_Of cx cy) D tys cO cD sh w H.size qx qo fx g0 a1 hb1 F.hTY (lw_pre I.hs.1 (by decide) (Or.inr (by decide))) (lw_D9 L) (I.hO cx cy) I.hx hwx I.ho hw9 f7) gx_conditions rfl (by decide) (by decide) ⟨Nat.le_trans (Nat.add_le_add_left (Nat.le_of_ble_eq_true rfl) _) hcs.1, Nat.le_trans (Nat.add_le_add_left (Nat.le_of_ble_eq_true rfl) _) hcs.2⟩ hls dlw_2077 (fun u r9 H1 locs1 hp9 L1 => ?_)
  obtain ⟨⟨hpx, g9, hg9, hg0⟩, er, fx', hwx', f7'⟩ := hp9
  have ea : a1 = (-1) := Int32.toInt_inj.mp (by rw [show ((-1) : Int32).toInt = (-1) from rfl]; omega)
  subst ea
  subst er
  obtain ⟨fs', s1, s2⟩ := lw_fs I.h20 I.hs.2.1 hpx
  have hg8 : u.2[qo]? = some (u.1.2 qo, .inl (cO, 1, .inr (.inl g9))) := by rw [(hpx.1.at I.ho).2]; exact hg9
  have I1 := lw_IqqE (E' := fun v v9 => v = (-1) ∧ v9 = 1) hLP I hpx (by decide +kernel) (lw_qall I.hst (by decide +kernel)) (by decide +kernel) (by decide +kernel) s1 ⟨g9, hg8⟩ (lw_Id I hpx (by decide +kernel)) ⟨fx', _, _, hwx', f7', (s2 29 (by decide +kernel)).trans f19, rfl, rfl⟩
  refine W.widen (k := cells + 8) (n := slots + 64) (Nat.add_le_add_left (Nat.le_of_ble_eq_true rfl) _) (Nat.add_le_add_left (Nat.le_of_ble_eq_true rfl) _) ?_
  exact k u H1 locs1 fs' I1 L1 ⟨g9, hg8, hg0⟩
set_option maxHeartbeats 4000000 in
theorem le_x_0_2 (hl9 : l.stackTraces = false) (hLP : lw_st LP) (F : lw_Fm p R s m args c D tys cO cD A) (L : lw_H D A s w H locs) (I : lw_I E LP tys cO cD qx qo qd sh w st cx cy fs) (hls : ls.size = 9) (hcs : cells + 8 ≤ R.cells ∧ slots + 64 ≤ R.slots) (a1 : Int32) (hb1 : (-1) ≤ a1.toInt ∧ a1.toInt ≤ (-1)) (he : ∃ fx, w[qx]? = some (sh.2 qx, .inr (12, fx)) ∧ fx[8]? = some (.int 2) ∧ fs[29]? = some (.int 2))
    (k : ∀ (u : en_H × va_W) (H1 : Heap) (locs1 : List Loc) (fs' : List Value), lw_I (fun v v9 => v = (-1) ∧ v9 = 2) LP tys cO cD qx qo qd u.1 u.2 st cx cy fs' → lw_H D A s u.2 H1 locs1 → (∃ g : Nat → Int64, u.2[qo]? = some (u.1.2 qo, .inl (cO, 1, .inr (.inl g))) ∧ g 0 = (2 : Int32).toInt64) → W p l e R s m args below meth c H1 locs1 (cells + 8) (slots + 64) Q (F0 m 2080 ls [.int 0])) :
    W p l e R s m args below meth c H locs cells slots Q (F0 m 2077 ls (([.ref (sh.2 qx), .int a1, .ref (sh.2 qo)] : List Value).reverse ++ [])) := by
  obtain ⟨g0, hw9⟩ := I.hwo
  obtain ⟨fx, hwx, f7, f19⟩ := he
  refine lw_wcE F L (wr_conditions_0_2 hl9 en_Pc_ok (en_Of cx cy) D tys cO cD sh w H.size qx qo fx g0 a1 hb1 F.hTY (lw_pre I.hs.1 (by decide) (Or.inr (by decide))) (lw_D9 L) (I.hO cx cy) I.hx hwx I.ho hw9 f7) gx_conditions rfl (by decide) (by decide) ⟨Nat.le_trans (Nat.add_le_add_left (Nat.le_of_ble_eq_true rfl) _) hcs.1, Nat.le_trans (Nat.add_le_add_left (Nat.le_of_ble_eq_true rfl) _) hcs.2⟩ hls dlw_2077 (fun u r9 H1 locs1 hp9 L1 => ?_)
  obtain ⟨⟨hpx, g9, hg9, hg0⟩, er, fx', hwx', f7'⟩ := hp9
  have ea : a1 = (-1) := Int32.toInt_inj.mp (by rw [show ((-1) : Int32).toInt = (-1) from rfl]; omega)
  subst ea
  subst er
  obtain ⟨fs', s1, s2⟩ := lw_fs I.h20 I.hs.2.1 hpx
  have hg8 : u.2[qo]? = some (u.1.2 qo, .inl (cO, 1, .inr (.inl g9))) := by rw [(hpx.1.at I.ho).2]; exact hg9
  have I1 := lw_IqqE (E' := fun v v9 => v = (-1) ∧ v9 = 2) hLP I hpx (by decide +kernel) (lw_qall I.hst (by decide +kernel)) (by decide +kernel) (by decide +kernel) s1 ⟨g9, hg8⟩ (lw_Id I hpx (by decide +kernel)) ⟨fx', _, _, hwx', f7', (s2 29 (by decide +kernel)).trans f19, rfl, rfl⟩
  refine W.widen (k := cells + 8) (n := slots + 64) (Nat.add_le_add_left (Nat.le_of_ble_eq_true rfl) _) (Nat.add_le_add_left (Nat.le_of_ble_eq_true rfl) _) ?_
  exact k u H1 locs1 fs' I1 L1 ⟨g9, hg8, hg0⟩
set_option maxHeartbeats 4000000 in
theorem le_x_0_3 (hl9 : l.stackTraces = false) (hLP : lw_st LP) (F : lw_Fm p R s m args c D tys cO cD A) (L : lw_H D A s w H locs) (I : lw_I E LP tys cO cD qx qo qd sh w st cx cy fs) (hls : ls.size = 9) (hcs : cells + 8 ≤ R.cells ∧ slots + 64 ≤ R.slots) (a1 : Int32) (hb1 : (-1) ≤ a1.toInt ∧ a1.toInt ≤ (-1)) (he : ∃ fx, w[qx]? = some (sh.2 qx, .inr (12, fx)) ∧ fx[8]? = some (.int 3) ∧ fs[29]? = some (.int 3))
    (k : ∀ (u : en_H × va_W) (H1 : Heap) (locs1 : List Loc) (fs' : List Value), lw_I (fun v v9 => v = (-1) ∧ v9 = 3) LP tys cO cD qx qo qd u.1 u.2 st cx cy fs' → lw_H D A s u.2 H1 locs1 → (∃ g : Nat → Int64, u.2[qo]? = some (u.1.2 qo, .inl (cO, 1, .inr (.inl g))) ∧ g 0 = (3 : Int32).toInt64) → W p l e R s m args below meth c H1 locs1 (cells + 8) (slots + 64) Q (F0 m 2080 ls [.int 0])) :
    W p l e R s m args below meth c H locs cells slots Q (F0 m 2077 ls (([.ref (sh.2 qx), .int a1, .ref (sh.2 qo)] : List Value).reverse ++ [])) := by
  obtain ⟨g0, hw9⟩ := I.hwo
  obtain ⟨fx, hwx, f7, f19⟩ := he
  refine lw_wcE F L (wr_conditions_0_3 hl9 en_Pc_ok (en_Of cx cy) D tys cO cD sh w H.size qx qo fx g0 a1 hb1 F.hTY (lw_pre I.hs.1 (by decide) (Or.inr (by decide))) (lw_D9 L) (I.hO cx cy) I.hx hwx I.ho hw9 f7) gx_conditions rfl (by decide) (by decide) ⟨Nat.le_trans (Nat.add_le_add_left (Nat.le_of_ble_eq_true rfl) _) hcs.1, Nat.le_trans (Nat.add_le_add_left (Nat.le_of_ble_eq_true rfl) _) hcs.2⟩ hls dlw_2077 (fun u r9 H1 locs1 hp9 L1 => ?_)
  obtain ⟨⟨hpx, g9, hg9, hg0⟩, er, fx', hwx', f7'⟩ := hp9
  have ea : a1 = (-1) := Int32.toInt_inj.mp (by rw [show ((-1) : Int32).toInt = (-1) from rfl]; omega)
  subst ea
  subst er
  obtain ⟨fs', s1, s2⟩ := lw_fs I.h20 I.hs.2.1 hpx
  have hg8 : u.2[qo]? = some (u.1.2 qo, .inl (cO, 1, .inr (.inl g9))) := by rw [(hpx.1.at I.ho).2]; exact hg9
  have I1 := lw_IqqE (E' := fun v v9 => v = (-1) ∧ v9 = 3) hLP I hpx (by decide +kernel) (lw_qall I.hst (by decide +kernel)) (by decide +kernel) (by decide +kernel) s1 ⟨g9, hg8⟩ (lw_Id I hpx (by decide +kernel)) ⟨fx', _, _, hwx', f7', (s2 29 (by decide +kernel)).trans f19, rfl, rfl⟩
  refine W.widen (k := cells + 8) (n := slots + 64) (Nat.add_le_add_left (Nat.le_of_ble_eq_true rfl) _) (Nat.add_le_add_left (Nat.le_of_ble_eq_true rfl) _) ?_
  exact k u H1 locs1 fs' I1 L1 ⟨g9, hg8, hg0⟩
set_option maxHeartbeats 4000000 in
theorem le_x_1_m1 (hl9 : l.stackTraces = false) (hLP : lw_st LP) (F : lw_Fm p R s m args c D tys cO cD A) (L : lw_H D A s w H locs) (I : lw_I E LP tys cO cD qx qo qd sh w st cx cy fs) (hls : ls.size = 9) (hcs : cells + 8 ≤ R.cells ∧ slots + 64 ≤ R.slots) (a1 : Int32) (hb1 : 0 ≤ a1.toInt ∧ a1.toInt ≤ 0) (he : ∃ fx, w[qx]? = some (sh.2 qx, .inr (12, fx)) ∧ fx[8]? = some (.int (-1)) ∧ fs[29]? = some (.int (-1)))
    (k : ∀ (u : en_H × va_W) (H1 : Heap) (locs1 : List Loc) (fs' : List Value), lw_I (fun v v9 => v = 0 ∧ v9 = (-1)) LP tys cO cD qx qo qd u.1 u.2 st cx cy fs' → lw_H D A s u.2 H1 locs1 → (∃ g : Nat → Int64, u.2[qo]? = some (u.1.2 qo, .inl (cO, 1, .inr (.inl g))) ∧ g 0 = ((-1) : Int32).toInt64) → W p l e R s m args below meth c H1 locs1 (cells + 8) (slots + 64) Q (F0 m 2080 ls [.int 0])) :
    W p l e R s m args below meth c H locs cells slots Q (F0 m 2077 ls (([.ref (sh.2 qx), .int a1, .ref (sh.2 qo)] : List Value).reverse ++ [])) := by
  obtain ⟨g0, hw9⟩ := I.hwo
  obtain ⟨fx, hwx, f7, f19⟩ := he
  refine lw_wcE F L (wr_conditions_1_m1 hl9 en_Pc_ok (en_Of cx cy) D tys cO cD sh w H.size qx qo fx g0 a1 hb1 F.hTY (lw_pre I.hs.1 (by decide) (Or.inr (by decide))) (lw_D9 L) (I.hO cx cy) I.hx hwx I.ho hw9 f7) gx_conditions rfl (by decide) (by decide) ⟨Nat.le_trans (Nat.add_le_add_left (Nat.le_of_ble_eq_true rfl) _) hcs.1, Nat.le_trans (Nat.add_le_add_left (Nat.le_of_ble_eq_true rfl) _) hcs.2⟩ hls dlw_2077 (fun u r9 H1 locs1 hp9 L1 => ?_)
  obtain ⟨⟨hpx, g9, hg9, hg0⟩, er, fx', hwx', f7'⟩ := hp9
  have ea : a1 = 0 := Int32.toInt_inj.mp (by rw [show (0 : Int32).toInt = 0 from rfl]; omega)
  subst ea
  subst er
  obtain ⟨fs', s1, s2⟩ := lw_fs I.h20 I.hs.2.1 hpx
  have hg8 : u.2[qo]? = some (u.1.2 qo, .inl (cO, 1, .inr (.inl g9))) := by rw [(hpx.1.at I.ho).2]; exact hg9
  have I1 := lw_IqqE (E' := fun v v9 => v = 0 ∧ v9 = (-1)) hLP I hpx (by decide +kernel) (lw_qall I.hst (by decide +kernel)) (by decide +kernel) (by decide +kernel) s1 ⟨g9, hg8⟩ (lw_Id I hpx (by decide +kernel)) ⟨fx', _, _, hwx', f7', (s2 29 (by decide +kernel)).trans f19, rfl, rfl⟩
  refine W.widen (k := cells + 8) (n := slots + 64) (Nat.add_le_add_left (Nat.le_of_ble_eq_true rfl) _) (Nat.add_le_add_left (Nat.le_of_ble_eq_true rfl) _) ?_
  exact k u H1 locs1 fs' I1 L1 ⟨g9, hg8, hg0⟩
set_option maxHeartbeats 4000000 in
theorem le_x_1_0 (hl9 : l.stackTraces = false) (hLP : lw_st LP) (F : lw_Fm p R s m args c D tys cO cD A) (L : lw_H D A s w H locs) (I : lw_I E LP tys cO cD qx qo qd sh w st cx cy fs) (hls : ls.size = 9) (hcs : cells + 8 ≤ R.cells ∧ slots + 64 ≤ R.slots) (a1 : Int32) (hb1 : 0 ≤ a1.toInt ∧ a1.toInt ≤ 0) (he : ∃ fx, w[qx]? = some (sh.2 qx, .inr (12, fx)) ∧ fx[8]? = some (.int 0) ∧ fs[29]? = some (.int 0))
    (k : ∀ (u : en_H × va_W) (H1 : Heap) (locs1 : List Loc) (fs' : List Value), lw_I (fun v v9 => v = 0 ∧ v9 = 0) LP tys cO cD qx qo qd u.1 u.2 st cx cy fs' → lw_H D A s u.2 H1 locs1 → (∃ g : Nat → Int64, u.2[qo]? = some (u.1.2 qo, .inl (cO, 1, .inr (.inl g))) ∧ g 0 = (0 : Int32).toInt64) → W p l e R s m args below meth c H1 locs1 (cells + 8) (slots + 64) Q (F0 m 2080 ls [.int 0])) :
    W p l e R s m args below meth c H locs cells slots Q (F0 m 2077 ls (([.ref (sh.2 qx), .int a1, .ref (sh.2 qo)] : List Value).reverse ++ [])) := by
  obtain ⟨g0, hw9⟩ := I.hwo
  obtain ⟨fx, hwx, f7, f19⟩ := he
  refine lw_wcE F L (wr_conditions_1_0 hl9 en_Pc_ok (en_Of cx cy) D tys cO cD sh w H.size qx qo fx g0 a1 hb1 F.hTY (lw_pre I.hs.1 (by decide) (Or.inr (by decide))) (lw_D9 L) (I.hO cx cy) I.hx hwx I.ho hw9 f7) gx_conditions rfl (by decide) (by decide) ⟨Nat.le_trans (Nat.add_le_add_left (Nat.le_of_ble_eq_true rfl) _) hcs.1, Nat.le_trans (Nat.add_le_add_left (Nat.le_of_ble_eq_true rfl) _) hcs.2⟩ hls dlw_2077 (fun u r9 H1 locs1 hp9 L1 => ?_)
  obtain ⟨⟨hpx, g9, hg9, hg0⟩, er, fx', hwx', f7'⟩ := hp9
  have ea : a1 = 0 := Int32.toInt_inj.mp (by rw [show (0 : Int32).toInt = 0 from rfl]; omega)
  subst ea
  subst er
  obtain ⟨fs', s1, s2⟩ := lw_fs I.h20 I.hs.2.1 hpx
  have hg8 : u.2[qo]? = some (u.1.2 qo, .inl (cO, 1, .inr (.inl g9))) := by rw [(hpx.1.at I.ho).2]; exact hg9
  have I1 := lw_IqqE (E' := fun v v9 => v = 0 ∧ v9 = 0) hLP I hpx (by decide +kernel) (lw_qall I.hst (by decide +kernel)) (by decide +kernel) (by decide +kernel) s1 ⟨g9, hg8⟩ (lw_Id I hpx (by decide +kernel)) ⟨fx', _, _, hwx', f7', (s2 29 (by decide +kernel)).trans f19, rfl, rfl⟩
  refine W.widen (k := cells + 8) (n := slots + 64) (Nat.add_le_add_left (Nat.le_of_ble_eq_true rfl) _) (Nat.add_le_add_left (Nat.le_of_ble_eq_true rfl) _) ?_
  exact k u H1 locs1 fs' I1 L1 ⟨g9, hg8, hg0⟩
set_option maxHeartbeats 4000000 in
theorem le_x_1_1 (hl9 : l.stackTraces = false) (hLP : lw_st LP) (F : lw_Fm p R s m args c D tys cO cD A) (L : lw_H D A s w H locs) (I : lw_I E LP tys cO cD qx qo qd sh w st cx cy fs) (hls : ls.size = 9) (hcs : cells + 8 ≤ R.cells ∧ slots + 64 ≤ R.slots) (a1 : Int32) (hb1 : 0 ≤ a1.toInt ∧ a1.toInt ≤ 0) (he : ∃ fx, w[qx]? = some (sh.2 qx, .inr (12, fx)) ∧ fx[8]? = some (.int 1) ∧ fs[29]? = some (.int 1))
    (k : ∀ (u : en_H × va_W) (H1 : Heap) (locs1 : List Loc) (fs' : List Value), lw_I (fun v v9 => v = 0 ∧ v9 = 1) LP tys cO cD qx qo qd u.1 u.2 st cx cy fs' → lw_H D A s u.2 H1 locs1 → (∃ g : Nat → Int64, u.2[qo]? = some (u.1.2 qo, .inl (cO, 1, .inr (.inl g))) ∧ g 0 = (1 : Int32).toInt64) → W p l e R s m args below meth c H1 locs1 (cells + 8) (slots + 64) Q (F0 m 2080 ls [.int 0])) :
    W p l e R s m args below meth c H locs cells slots Q (F0 m 2077 ls (([.ref (sh.2 qx), .int a1, .ref (sh.2 qo)] : List Value).reverse ++ [])) := by
  obtain ⟨g0, hw9⟩ := I.hwo
  obtain ⟨fx, hwx, f7, f19⟩ := he
  refine lw_wcE F L (wr_conditions_1_1 hl9 en_Pc_ok (en_Of cx cy) D tys cO cD sh w H.size qx qo fx g0 a1 hb1 F.hTY (lw_pre I.hs.1 (by decide) (Or.inr (by decide))) (lw_D9 L) (I.hO cx cy) I.hx hwx I.ho hw9 f7) gx_conditions rfl (by decide) (by decide) ⟨Nat.le_trans (Nat.add_le_add_left (Nat.le_of_ble_eq_true rfl) _) hcs.1, Nat.le_trans (Nat.add_le_add_left (Nat.le_of_ble_eq_true rfl) _) hcs.2⟩ hls dlw_2077 (fun u r9 H1 locs1 hp9 L1 => ?_)
  obtain ⟨⟨hpx, g9, hg9, hg0⟩, er, fx', hwx', f7'⟩ := hp9
  have ea : a1 = 0 := Int32.toInt_inj.mp (by rw [show (0 : Int32).toInt = 0 from rfl]; omega)
  subst ea
  subst er
  obtain ⟨fs', s1, s2⟩ := lw_fs I.h20 I.hs.2.1 hpx
  have hg8 : u.2[qo]? = some (u.1.2 qo, .inl (cO, 1, .inr (.inl g9))) := by rw [(hpx.1.at I.ho).2]; exact hg9
  have I1 := lw_IqqE (E' := fun v v9 => v = 0 ∧ v9 = 1) hLP I hpx (by decide +kernel) (lw_qall I.hst (by decide +kernel)) (by decide +kernel) (by decide +kernel) s1 ⟨g9, hg8⟩ (lw_Id I hpx (by decide +kernel)) ⟨fx', _, _, hwx', f7', (s2 29 (by decide +kernel)).trans f19, rfl, rfl⟩
  refine W.widen (k := cells + 8) (n := slots + 64) (Nat.add_le_add_left (Nat.le_of_ble_eq_true rfl) _) (Nat.add_le_add_left (Nat.le_of_ble_eq_true rfl) _) ?_
  exact k u H1 locs1 fs' I1 L1 ⟨g9, hg8, hg0⟩
set_option maxHeartbeats 4000000 in
theorem le_x_1_2 (hl9 : l.stackTraces = false) (hLP : lw_st LP) (F : lw_Fm p R s m args c D tys cO cD A) (L : lw_H D A s w H locs) (I : lw_I E LP tys cO cD qx qo qd sh w st cx cy fs) (hls : ls.size = 9) (hcs : cells + 8 ≤ R.cells ∧ slots + 64 ≤ R.slots) (a1 : Int32) (hb1 : 0 ≤ a1.toInt ∧ a1.toInt ≤ 0) (he : ∃ fx, w[qx]? = some (sh.2 qx, .inr (12, fx)) ∧ fx[8]? = some (.int 2) ∧ fs[29]? = some (.int 2))
    (k : ∀ (u : en_H × va_W) (H1 : Heap) (locs1 : List Loc) (fs' : List Value), lw_I (fun v v9 => v = 0 ∧ v9 = 2) LP tys cO cD qx qo qd u.1 u.2 st cx cy fs' → lw_H D A s u.2 H1 locs1 → (∃ g : Nat → Int64, u.2[qo]? = some (u.1.2 qo, .inl (cO, 1, .inr (.inl g))) ∧ g 0 = (2 : Int32).toInt64) → W p l e R s m args below meth c H1 locs1 (cells + 8) (slots + 64) Q (F0 m 2080 ls [.int 0])) :
    W p l e R s m args below meth c H locs cells slots Q (F0 m 2077 ls (([.ref (sh.2 qx), .int a1, .ref (sh.2 qo)] : List Value).reverse ++ [])) := by
  obtain ⟨g0, hw9⟩ := I.hwo
  obtain ⟨fx, hwx, f7, f19⟩ := he
  refine lw_wcE F L (wr_conditions_1_2 hl9 en_Pc_ok (en_Of cx cy) D tys cO cD sh w H.size qx qo fx g0 a1 hb1 F.hTY (lw_pre I.hs.1 (by decide) (Or.inr (by decide))) (lw_D9 L) (I.hO cx cy) I.hx hwx I.ho hw9 f7) gx_conditions rfl (by decide) (by decide) ⟨Nat.le_trans (Nat.add_le_add_left (Nat.le_of_ble_eq_true rfl) _) hcs.1, Nat.le_trans (Nat.add_le_add_left (Nat.le_of_ble_eq_true rfl) _) hcs.2⟩ hls dlw_2077 (fun u r9 H1 locs1 hp9 L1 => ?_)
  obtain ⟨⟨hpx, g9, hg9, hg0⟩, er, fx', hwx', f7'⟩ := hp9
  have ea : a1 = 0 := Int32.toInt_inj.mp (by rw [show (0 : Int32).toInt = 0 from rfl]; omega)
  subst ea
  subst er
  obtain ⟨fs', s1, s2⟩ := lw_fs I.h20 I.hs.2.1 hpx
  have hg8 : u.2[qo]? = some (u.1.2 qo, .inl (cO, 1, .inr (.inl g9))) := by rw [(hpx.1.at I.ho).2]; exact hg9
  have I1 := lw_IqqE (E' := fun v v9 => v = 0 ∧ v9 = 2) hLP I hpx (by decide +kernel) (lw_qall I.hst (by decide +kernel)) (by decide +kernel) (by decide +kernel) s1 ⟨g9, hg8⟩ (lw_Id I hpx (by decide +kernel)) ⟨fx', _, _, hwx', f7', (s2 29 (by decide +kernel)).trans f19, rfl, rfl⟩
  refine W.widen (k := cells + 8) (n := slots + 64) (Nat.add_le_add_left (Nat.le_of_ble_eq_true rfl) _) (Nat.add_le_add_left (Nat.le_of_ble_eq_true rfl) _) ?_
  exact k u H1 locs1 fs' I1 L1 ⟨g9, hg8, hg0⟩
set_option maxHeartbeats 4000000 in
theorem le_x_1_3 (hl9 : l.stackTraces = false) (hLP : lw_st LP) (F : lw_Fm p R s m args c D tys cO cD A) (L : lw_H D A s w H locs) (I : lw_I E LP tys cO cD qx qo qd sh w st cx cy fs) (hls : ls.size = 9) (hcs : cells + 8 ≤ R.cells ∧ slots + 64 ≤ R.slots) (a1 : Int32) (hb1 : 0 ≤ a1.toInt ∧ a1.toInt ≤ 0) (he : ∃ fx, w[qx]? = some (sh.2 qx, .inr (12, fx)) ∧ fx[8]? = some (.int 3) ∧ fs[29]? = some (.int 3))
    (k : ∀ (u : en_H × va_W) (H1 : Heap) (locs1 : List Loc) (fs' : List Value), lw_I (fun v v9 => v = 0 ∧ v9 = 3) LP tys cO cD qx qo qd u.1 u.2 st cx cy fs' → lw_H D A s u.2 H1 locs1 → (∃ g : Nat → Int64, u.2[qo]? = some (u.1.2 qo, .inl (cO, 1, .inr (.inl g))) ∧ g 0 = (3 : Int32).toInt64) → W p l e R s m args below meth c H1 locs1 (cells + 8) (slots + 64) Q (F0 m 2080 ls [.int 0])) :
    W p l e R s m args below meth c H locs cells slots Q (F0 m 2077 ls (([.ref (sh.2 qx), .int a1, .ref (sh.2 qo)] : List Value).reverse ++ [])) := by
  obtain ⟨g0, hw9⟩ := I.hwo
  obtain ⟨fx, hwx, f7, f19⟩ := he
  refine lw_wcE F L (wr_conditions_1_3 hl9 en_Pc_ok (en_Of cx cy) D tys cO cD sh w H.size qx qo fx g0 a1 hb1 F.hTY (lw_pre I.hs.1 (by decide) (Or.inr (by decide))) (lw_D9 L) (I.hO cx cy) I.hx hwx I.ho hw9 f7) gx_conditions rfl (by decide) (by decide) ⟨Nat.le_trans (Nat.add_le_add_left (Nat.le_of_ble_eq_true rfl) _) hcs.1, Nat.le_trans (Nat.add_le_add_left (Nat.le_of_ble_eq_true rfl) _) hcs.2⟩ hls dlw_2077 (fun u r9 H1 locs1 hp9 L1 => ?_)
  obtain ⟨⟨hpx, g9, hg9, hg0⟩, er, fx', hwx', f7'⟩ := hp9
  have ea : a1 = 0 := Int32.toInt_inj.mp (by rw [show (0 : Int32).toInt = 0 from rfl]; omega)
  subst ea
  subst er
  obtain ⟨fs', s1, s2⟩ := lw_fs I.h20 I.hs.2.1 hpx
  have hg8 : u.2[qo]? = some (u.1.2 qo, .inl (cO, 1, .inr (.inl g9))) := by rw [(hpx.1.at I.ho).2]; exact hg9
  have I1 := lw_IqqE (E' := fun v v9 => v = 0 ∧ v9 = 3) hLP I hpx (by decide +kernel) (lw_qall I.hst (by decide +kernel)) (by decide +kernel) (by decide +kernel) s1 ⟨g9, hg8⟩ (lw_Id I hpx (by decide +kernel)) ⟨fx', _, _, hwx', f7', (s2 29 (by decide +kernel)).trans f19, rfl, rfl⟩
  refine W.widen (k := cells + 8) (n := slots + 64) (Nat.add_le_add_left (Nat.le_of_ble_eq_true rfl) _) (Nat.add_le_add_left (Nat.le_of_ble_eq_true rfl) _) ?_
  exact k u H1 locs1 fs' I1 L1 ⟨g9, hg8, hg0⟩
set_option maxHeartbeats 4000000 in
theorem le_x_2_m1 (hl9 : l.stackTraces = false) (hLP : lw_st LP) (F : lw_Fm p R s m args c D tys cO cD A) (L : lw_H D A s w H locs) (I : lw_I E LP tys cO cD qx qo qd sh w st cx cy fs) (hls : ls.size = 9) (hcs : cells + 8 ≤ R.cells ∧ slots + 64 ≤ R.slots) (a1 : Int32) (hb1 : 1 ≤ a1.toInt ∧ a1.toInt ≤ 1) (he : ∃ fx, w[qx]? = some (sh.2 qx, .inr (12, fx)) ∧ fx[8]? = some (.int (-1)) ∧ fs[29]? = some (.int (-1)))
    (k : ∀ (u : en_H × va_W) (H1 : Heap) (locs1 : List Loc) (fs' : List Value), lw_I (fun v v9 => v = 1 ∧ v9 = (-1)) LP tys cO cD qx qo qd u.1 u.2 st cx cy fs' → lw_H D A s u.2 H1 locs1 → (∃ g : Nat → Int64, u.2[qo]? = some (u.1.2 qo, .inl (cO, 1, .inr (.inl g))) ∧ g 0 = ((-1) : Int32).toInt64) → W p l e R s m args below meth c H1 locs1 (cells + 8) (slots + 64) Q (F0 m 2080 ls [.int 0])) :
    W p l e R s m args below meth c H locs cells slots Q (F0 m 2077 ls (([.ref (sh.2 qx), .int a1, .ref (sh.2 qo)] : List Value).reverse ++ [])) := by
  obtain ⟨g0, hw9⟩ := I.hwo
  obtain ⟨fx, hwx, f7, f19⟩ := he
  refine lw_wcE F L (wr_conditions_2_m1 hl9 en_Pc_ok (en_Of cx cy) D tys cO cD sh w H.size qx qo fx g0 a1 hb1 F.hTY (lw_pre I.hs.1 (by decide) (Or.inr (by decide))) (lw_D9 L) (I.hO cx cy) I.hx hwx I.ho hw9 f7) gx_conditions rfl (by decide) (by decide) ⟨Nat.le_trans (Nat.add_le_add_left (Nat.le_of_ble_eq_true rfl) _) hcs.1, Nat.le_trans (Nat.add_le_add_left (Nat.le_of_ble_eq_true rfl) _) hcs.2⟩ hls dlw_2077 (fun u r9 H1 locs1 hp9 L1 => ?_)
  obtain ⟨⟨hpx, g9, hg9, hg0⟩, er, fx', hwx', f7'⟩ := hp9
  have ea : a1 = 1 := Int32.toInt_inj.mp (by rw [show (1 : Int32).toInt = 1 from rfl]; omega)
  subst ea
  subst er
  obtain ⟨fs', s1, s2⟩ := lw_fs I.h20 I.hs.2.1 hpx
  have hg8 : u.2[qo]? = some (u.1.2 qo, .inl (cO, 1, .inr (.inl g9))) := by rw [(hpx.1.at I.ho).2]; exact hg9
  have I1 := lw_IqqE (E' := fun v v9 => v = 1 ∧ v9 = (-1)) hLP I hpx (by decide +kernel) (lw_qall I.hst (by decide +kernel)) (by decide +kernel) (by decide +kernel) s1 ⟨g9, hg8⟩ (lw_Id I hpx (by decide +kernel)) ⟨fx', _, _, hwx', f7', (s2 29 (by decide +kernel)).trans f19, rfl, rfl⟩
  refine W.widen (k := cells + 8) (n := slots + 64) (Nat.add_le_add_left (Nat.le_of_ble_eq_true rfl) _) (Nat.add_le_add_left (Nat.le_of_ble_eq_true rfl) _) ?_
  exact k u H1 locs1 fs' I1 L1 ⟨g9, hg8, hg0⟩
set_option maxHeartbeats 4000000 in
theorem le_x_2_0 (hl9 : l.stackTraces = false) (hLP : lw_st LP) (F : lw_Fm p R s m args c D tys cO cD A) (L : lw_H D A s w H locs) (I : lw_I E LP tys cO cD qx qo qd sh w st cx cy fs) (hls : ls.size = 9) (hcs : cells + 8 ≤ R.cells ∧ slots + 64 ≤ R.slots) (a1 : Int32) (hb1 : 1 ≤ a1.toInt ∧ a1.toInt ≤ 1) (he : ∃ fx, w[qx]? = some (sh.2 qx, .inr (12, fx)) ∧ fx[8]? = some (.int 0) ∧ fs[29]? = some (.int 0))
    (k : ∀ (u : en_H × va_W) (H1 : Heap) (locs1 : List Loc) (fs' : List Value), lw_I (fun v v9 => v = 1 ∧ v9 = 0) LP tys cO cD qx qo qd u.1 u.2 st cx cy fs' → lw_H D A s u.2 H1 locs1 → (∃ g : Nat → Int64, u.2[qo]? = some (u.1.2 qo, .inl (cO, 1, .inr (.inl g))) ∧ g 0 = (0 : Int32).toInt64) → W p l e R s m args below meth c H1 locs1 (cells + 8) (slots + 64) Q (F0 m 2080 ls [.int 0])) :
    W p l e R s m args below meth c H locs cells slots Q (F0 m 2077 ls (([.ref (sh.2 qx), .int a1, .ref (sh.2 qo)] : List Value).reverse ++ [])) := by
  obtain ⟨g0, hw9⟩ := I.hwo
  obtain ⟨fx, hwx, f7, f19⟩ := he
  refine lw_wcE F L (wr_conditions_2_0 hl9 en_Pc_ok (en_Of cx cy) D tys cO cD sh w H.size qx qo fx g0 a1 hb1 F.hTY (lw_pre I.hs.1 (by decide) (Or.inr (by decide))) (lw_D9 L) (I.hO cx cy) I.hx hwx I.ho hw9 f7) gx_conditions rfl (by decide) (by decide) ⟨Nat.le_trans (Nat.add_le_add_left (Nat.le_of_ble_eq_true rfl) _) hcs.1, Nat.le_trans (Nat.add_le_add_left (Nat.le_of_ble_eq_true rfl) _) hcs.2⟩ hls dlw_2077 (fun u r9 H1 locs1 hp9 L1 => ?_)
  obtain ⟨⟨hpx, g9, hg9, hg0⟩, er, fx', hwx', f7'⟩ := hp9
  have ea : a1 = 1 := Int32.toInt_inj.mp (by rw [show (1 : Int32).toInt = 1 from rfl]; omega)
  subst ea
  subst er
  obtain ⟨fs', s1, s2⟩ := lw_fs I.h20 I.hs.2.1 hpx
  have hg8 : u.2[qo]? = some (u.1.2 qo, .inl (cO, 1, .inr (.inl g9))) := by rw [(hpx.1.at I.ho).2]; exact hg9
  have I1 := lw_IqqE (E' := fun v v9 => v = 1 ∧ v9 = 0) hLP I hpx (by decide +kernel) (lw_qall I.hst (by decide +kernel)) (by decide +kernel) (by decide +kernel) s1 ⟨g9, hg8⟩ (lw_Id I hpx (by decide +kernel)) ⟨fx', _, _, hwx', f7', (s2 29 (by decide +kernel)).trans f19, rfl, rfl⟩
  refine W.widen (k := cells + 8) (n := slots + 64) (Nat.add_le_add_left (Nat.le_of_ble_eq_true rfl) _) (Nat.add_le_add_left (Nat.le_of_ble_eq_true rfl) _) ?_
  exact k u H1 locs1 fs' I1 L1 ⟨g9, hg8, hg0⟩
set_option maxHeartbeats 4000000 in
theorem le_x_2_1 (hl9 : l.stackTraces = false) (hLP : lw_st LP) (F : lw_Fm p R s m args c D tys cO cD A) (L : lw_H D A s w H locs) (I : lw_I E LP tys cO cD qx qo qd sh w st cx cy fs) (hls : ls.size = 9) (hcs : cells + 8 ≤ R.cells ∧ slots + 64 ≤ R.slots) (a1 : Int32) (hb1 : 1 ≤ a1.toInt ∧ a1.toInt ≤ 1) (he : ∃ fx, w[qx]? = some (sh.2 qx, .inr (12, fx)) ∧ fx[8]? = some (.int 1) ∧ fs[29]? = some (.int 1))
    (k : ∀ (u : en_H × va_W) (H1 : Heap) (locs1 : List Loc) (fs' : List Value), lw_I (fun v v9 => v = 1 ∧ v9 = 1) LP tys cO cD qx qo qd u.1 u.2 st cx cy fs' → lw_H D A s u.2 H1 locs1 → (∃ g : Nat → Int64, u.2[qo]? = some (u.1.2 qo, .inl (cO, 1, .inr (.inl g))) ∧ g 0 = (1 : Int32).toInt64) → W p l e R s m args below meth c H1 locs1 (cells + 8) (slots + 64) Q (F0 m 2080 ls [.int 0])) :
    W p l e R s m args below meth c H locs cells slots Q (F0 m 2077 ls (([.ref (sh.2 qx), .int a1, .ref (sh.2 qo)] : List Value).reverse ++ [])) := by
  obtain ⟨g0, hw9⟩ := I.hwo
  obtain ⟨fx, hwx, f7, f19⟩ := he
  refine lw_wcE F L (wr_conditions_2_1 hl9 en_Pc_ok (en_Of cx cy) D tys cO cD sh w H.size qx qo fx g0 a1 hb1 F.hTY (lw_pre I.hs.1 (by decide) (Or.inr (by decide))) (lw_D9 L) (I.hO cx cy) I.hx hwx I.ho hw9 f7) gx_conditions rfl (by decide) (by decide) ⟨Nat.le_trans (Nat.add_le_add_left (Nat.le_of_ble_eq_true rfl) _) hcs.1, Nat.le_trans (Nat.add_le_add_left (Nat.le_of_ble_eq_true rfl) _) hcs.2⟩ hls dlw_2077 (fun u r9 H1 locs1 hp9 L1 => ?_)
  obtain ⟨⟨hpx, g9, hg9, hg0⟩, er, fx', hwx', f7'⟩ := hp9
  have ea : a1 = 1 := Int32.toInt_inj.mp (by rw [show (1 : Int32).toInt = 1 from rfl]; omega)
  subst ea
  subst er
  obtain ⟨fs', s1, s2⟩ := lw_fs I.h20 I.hs.2.1 hpx
  have hg8 : u.2[qo]? = some (u.1.2 qo, .inl (cO, 1, .inr (.inl g9))) := by rw [(hpx.1.at I.ho).2]; exact hg9
  have I1 := lw_IqqE (E' := fun v v9 => v = 1 ∧ v9 = 1) hLP I hpx (by decide +kernel) (lw_qall I.hst (by decide +kernel)) (by decide +kernel) (by decide +kernel) s1 ⟨g9, hg8⟩ (lw_Id I hpx (by decide +kernel)) ⟨fx', _, _, hwx', f7', (s2 29 (by decide +kernel)).trans f19, rfl, rfl⟩
  refine W.widen (k := cells + 8) (n := slots + 64) (Nat.add_le_add_left (Nat.le_of_ble_eq_true rfl) _) (Nat.add_le_add_left (Nat.le_of_ble_eq_true rfl) _) ?_
  exact k u H1 locs1 fs' I1 L1 ⟨g9, hg8, hg0⟩
set_option maxHeartbeats 4000000 in
theorem le_x_2_2 (hl9 : l.stackTraces = false) (hLP : lw_st LP) (F : lw_Fm p R s m args c D tys cO cD A) (L : lw_H D A s w H locs) (I : lw_I E LP tys cO cD qx qo qd sh w st cx cy fs) (hls : ls.size = 9) (hcs : cells + 8 ≤ R.cells ∧ slots + 64 ≤ R.slots) (a1 : Int32) (hb1 : 1 ≤ a1.toInt ∧ a1.toInt ≤ 1) (he : ∃ fx, w[qx]? = some (sh.2 qx, .inr (12, fx)) ∧ fx[8]? = some (.int 2) ∧ fs[29]? = some (.int 2))
    (k : ∀ (u : en_H × va_W) (H1 : Heap) (locs1 : List Loc) (fs' : List Value), lw_I (fun v v9 => v = 1 ∧ v9 = 2) LP tys cO cD qx qo qd u.1 u.2 st cx cy fs' → lw_H D A s u.2 H1 locs1 → (∃ g : Nat → Int64, u.2[qo]? = some (u.1.2 qo, .inl (cO, 1, .inr (.inl g))) ∧ g 0 = (2 : Int32).toInt64) → W p l e R s m args below meth c H1 locs1 (cells + 8) (slots + 64) Q (F0 m 2080 ls [.int 0])) :
    W p l e R s m args below meth c H locs cells slots Q (F0 m 2077 ls (([.ref (sh.2 qx), .int a1, .ref (sh.2 qo)] : List Value).reverse ++ [])) := by
  obtain ⟨g0, hw9⟩ := I.hwo
  obtain ⟨fx, hwx, f7, f19⟩ := he
  refine lw_wcE F L (wr_conditions_2_2 hl9 en_Pc_ok (en_Of cx cy) D tys cO cD sh w H.size qx qo fx g0 a1 hb1 F.hTY (lw_pre I.hs.1 (by decide) (Or.inr (by decide))) (lw_D9 L) (I.hO cx cy) I.hx hwx I.ho hw9 f7) gx_conditions rfl (by decide) (by decide) ⟨Nat.le_trans (Nat.add_le_add_left (Nat.le_of_ble_eq_true rfl) _) hcs.1, Nat.le_trans (Nat.add_le_add_left (Nat.le_of_ble_eq_true rfl) _) hcs.2⟩ hls dlw_2077 (fun u r9 H1 locs1 hp9 L1 => ?_)
  obtain ⟨⟨hpx, g9, hg9, hg0⟩, er, fx', hwx', f7'⟩ := hp9
  have ea : a1 = 1 := Int32.toInt_inj.mp (by rw [show (1 : Int32).toInt = 1 from rfl]; omega)
  subst ea
  subst er
  obtain ⟨fs', s1, s2⟩ := lw_fs I.h20 I.hs.2.1 hpx
  have hg8 : u.2[qo]? = some (u.1.2 qo, .inl (cO, 1, .inr (.inl g9))) := by rw [(hpx.1.at I.ho).2]; exact hg9
  have I1 := lw_IqqE (E' := fun v v9 => v = 1 ∧ v9 = 2) hLP I hpx (by decide +kernel) (lw_qall I.hst (by decide +kernel)) (by decide +kernel) (by decide +kernel) s1 ⟨g9, hg8⟩ (lw_Id I hpx (by decide +kernel)) ⟨fx', _, _, hwx', f7', (s2 29 (by decide +kernel)).trans f19, rfl, rfl⟩
  refine W.widen (k := cells + 8) (n := slots + 64) (Nat.add_le_add_left (Nat.le_of_ble_eq_true rfl) _) (Nat.add_le_add_left (Nat.le_of_ble_eq_true rfl) _) ?_
  exact k u H1 locs1 fs' I1 L1 ⟨g9, hg8, hg0⟩
set_option maxHeartbeats 4000000 in
theorem le_x_2_3 (hl9 : l.stackTraces = false) (hLP : lw_st LP) (F : lw_Fm p R s m args c D tys cO cD A) (L : lw_H D A s w H locs) (I : lw_I E LP tys cO cD qx qo qd sh w st cx cy fs) (hls : ls.size = 9) (hcs : cells + 8 ≤ R.cells ∧ slots + 64 ≤ R.slots) (a1 : Int32) (hb1 : 1 ≤ a1.toInt ∧ a1.toInt ≤ 1) (he : ∃ fx, w[qx]? = some (sh.2 qx, .inr (12, fx)) ∧ fx[8]? = some (.int 3) ∧ fs[29]? = some (.int 3))
    (k : ∀ (u : en_H × va_W) (H1 : Heap) (locs1 : List Loc) (fs' : List Value), lw_I (fun v v9 => v = 1 ∧ v9 = 3) LP tys cO cD qx qo qd u.1 u.2 st cx cy fs' → lw_H D A s u.2 H1 locs1 → (∃ g : Nat → Int64, u.2[qo]? = some (u.1.2 qo, .inl (cO, 1, .inr (.inl g))) ∧ g 0 = (3 : Int32).toInt64) → W p l e R s m args below meth c H1 locs1 (cells + 8) (slots + 64) Q (F0 m 2080 ls [.int 0])) :
    W p l e R s m args below meth c H locs cells slots Q (F0 m 2077 ls (([.ref (sh.2 qx), .int a1, .ref (sh.2 qo)] : List Value).reverse ++ [])) := by
  obtain ⟨g0, hw9⟩ := I.hwo
  obtain ⟨fx, hwx, f7, f19⟩ := he
  refine lw_wcE F L (wr_conditions_2_3 hl9 en_Pc_ok (en_Of cx cy) D tys cO cD sh w H.size qx qo fx g0 a1 hb1 F.hTY (lw_pre I.hs.1 (by decide) (Or.inr (by decide))) (lw_D9 L) (I.hO cx cy) I.hx hwx I.ho hw9 f7) gx_conditions rfl (by decide) (by decide) ⟨Nat.le_trans (Nat.add_le_add_left (Nat.le_of_ble_eq_true rfl) _) hcs.1, Nat.le_trans (Nat.add_le_add_left (Nat.le_of_ble_eq_true rfl) _) hcs.2⟩ hls dlw_2077 (fun u r9 H1 locs1 hp9 L1 => ?_)
  obtain ⟨⟨hpx, g9, hg9, hg0⟩, er, fx', hwx', f7'⟩ := hp9
  have ea : a1 = 1 := Int32.toInt_inj.mp (by rw [show (1 : Int32).toInt = 1 from rfl]; omega)
  subst ea
  subst er
  obtain ⟨fs', s1, s2⟩ := lw_fs I.h20 I.hs.2.1 hpx
  have hg8 : u.2[qo]? = some (u.1.2 qo, .inl (cO, 1, .inr (.inl g9))) := by rw [(hpx.1.at I.ho).2]; exact hg9
  have I1 := lw_IqqE (E' := fun v v9 => v = 1 ∧ v9 = 3) hLP I hpx (by decide +kernel) (lw_qall I.hst (by decide +kernel)) (by decide +kernel) (by decide +kernel) s1 ⟨g9, hg8⟩ (lw_Id I hpx (by decide +kernel)) ⟨fx', _, _, hwx', f7', (s2 29 (by decide +kernel)).trans f19, rfl, rfl⟩
  refine W.widen (k := cells + 8) (n := slots + 64) (Nat.add_le_add_left (Nat.le_of_ble_eq_true rfl) _) (Nat.add_le_add_left (Nat.le_of_ble_eq_true rfl) _) ?_
  exact k u H1 locs1 fs' I1 L1 ⟨g9, hg8, hg0⟩
set_option maxHeartbeats 4000000 in
theorem le_x_3_m1 (hl9 : l.stackTraces = false) (hLP : lw_st LP) (F : lw_Fm p R s m args c D tys cO cD A) (L : lw_H D A s w H locs) (I : lw_I E LP tys cO cD qx qo qd sh w st cx cy fs) (hls : ls.size = 9) (hcs : cells + 8 ≤ R.cells ∧ slots + 64 ≤ R.slots) (a1 : Int32) (hb1 : 2 ≤ a1.toInt ∧ a1.toInt ≤ 2) (he : ∃ fx, w[qx]? = some (sh.2 qx, .inr (12, fx)) ∧ fx[8]? = some (.int (-1)) ∧ fs[29]? = some (.int (-1)))
    (k : ∀ (u : en_H × va_W) (H1 : Heap) (locs1 : List Loc) (fs' : List Value), lw_I (fun v v9 => v = 2 ∧ v9 = (-1)) LP tys cO cD qx qo qd u.1 u.2 st cx cy fs' → lw_H D A s u.2 H1 locs1 → (∃ g : Nat → Int64, u.2[qo]? = some (u.1.2 qo, .inl (cO, 1, .inr (.inl g))) ∧ g 0 = ((-1) : Int32).toInt64) → W p l e R s m args below meth c H1 locs1 (cells + 8) (slots + 64) Q (F0 m 2080 ls [.int 0])) :
    W p l e R s m args below meth c H locs cells slots Q (F0 m 2077 ls (([.ref (sh.2 qx), .int a1, .ref (sh.2 qo)] : List Value).reverse ++ [])) := by
  obtain ⟨g0, hw9⟩ := I.hwo
  obtain ⟨fx, hwx, f7, f19⟩ := he
  refine lw_wcE F L (wr_conditions_3_m1 hl9 en_Pc_ok (en_Of cx cy) D tys cO cD sh w H.size qx qo fx g0 a1 hb1 F.hTY (lw_pre I.hs.1 (by decide) (Or.inr (by decide))) (lw_D9 L) (I.hO cx cy) I.hx hwx I.ho hw9 f7) gx_conditions rfl (by decide) (by decide) ⟨Nat.le_trans (Nat.add_le_add_left (Nat.le_of_ble_eq_true rfl) _) hcs.1, Nat.le_trans (Nat.add_le_add_left (Nat.le_of_ble_eq_true rfl) _) hcs.2⟩ hls dlw_2077 (fun u r9 H1 locs1 hp9 L1 => ?_)
  obtain ⟨⟨hpx, g9, hg9, hg0⟩, er, fx', hwx', f7'⟩ := hp9
  have ea : a1 = 2 := Int32.toInt_inj.mp (by rw [show (2 : Int32).toInt = 2 from rfl]; omega)
  subst ea
  subst er
  obtain ⟨fs', s1, s2⟩ := lw_fs I.h20 I.hs.2.1 hpx
  have hg8 : u.2[qo]? = some (u.1.2 qo, .inl (cO, 1, .inr (.inl g9))) := by rw [(hpx.1.at I.ho).2]; exact hg9
  have I1 := lw_IqqE (E' := fun v v9 => v = 2 ∧ v9 = (-1)) hLP I hpx (by decide +kernel) (lw_qall I.hst (by decide +kernel)) (by decide +kernel) (by decide +kernel) s1 ⟨g9, hg8⟩ (lw_Id I hpx (by decide +kernel)) ⟨fx', _, _, hwx', f7', (s2 29 (by decide +kernel)).trans f19, rfl, rfl⟩
  refine W.widen (k := cells + 8) (n := slots + 64) (Nat.add_le_add_left (Nat.le_of_ble_eq_true rfl) _) (Nat.add_le_add_left (Nat.le_of_ble_eq_true rfl) _) ?_
  exact k u H1 locs1 fs' I1 L1 ⟨g9, hg8, hg0⟩
set_option maxHeartbeats 4000000 in
theorem le_x_3_0 (hl9 : l.stackTraces = false) (hLP : lw_st LP) (F : lw_Fm p R s m args c D tys cO cD A) (L : lw_H D A s w H locs) (I : lw_I E LP tys cO cD qx qo qd sh w st cx cy fs) (hls : ls.size = 9) (hcs : cells + 8 ≤ R.cells ∧ slots + 64 ≤ R.slots) (a1 : Int32) (hb1 : 2 ≤ a1.toInt ∧ a1.toInt ≤ 2) (he : ∃ fx, w[qx]? = some (sh.2 qx, .inr (12, fx)) ∧ fx[8]? = some (.int 0) ∧ fs[29]? = some (.int 0))
    (k : ∀ (u : en_H × va_W) (H1 : Heap) (locs1 : List Loc) (fs' : List Value), lw_I (fun v v9 => v = 2 ∧ v9 = 0) LP tys cO cD qx qo qd u.1 u.2 st cx cy fs' → lw_H D A s u.2 H1 locs1 → (∃ g : Nat → Int64, u.2[qo]? = some (u.1.2 qo, .inl (cO, 1, .inr (.inl g))) ∧ g 0 = (0 : Int32).toInt64) → W p l e R s m args below meth c H1 locs1 (cells + 8) (slots + 64) Q (F0 m 2080 ls [.int 0])) :
    W p l e R s m args below meth c H locs cells slots Q (F0 m 2077 ls (([.ref (sh.2 qx), .int a1, .ref (sh.2 qo)] : List Value).reverse ++ [])) := by
  obtain ⟨g0, hw9⟩ := I.hwo
  obtain ⟨fx, hwx, f7, f19⟩ := he
  refine lw_wcE F L (wr_conditions_3_0 hl9 en_Pc_ok (en_Of cx cy) D tys cO cD sh w H.size qx qo fx g0 a1 hb1 F.hTY (lw_pre I.hs.1 (by decide) (Or.inr (by decide))) (lw_D9 L) (I.hO cx cy) I.hx hwx I.ho hw9 f7) gx_conditions rfl (by decide) (by decide) ⟨Nat.le_trans (Nat.add_le_add_left (Nat.le_of_ble_eq_true rfl) _) hcs.1, Nat.le_trans (Nat.add_le_add_left (Nat.le_of_ble_eq_true rfl) _) hcs.2⟩ hls dlw_2077 (fun u r9 H1 locs1 hp9 L1 => ?_)
  obtain ⟨⟨hpx, g9, hg9, hg0⟩, er, fx', hwx', f7'⟩ := hp9
  have ea : a1 = 2 := Int32.toInt_inj.mp (by rw [show (2 : Int32).toInt = 2 from rfl]; omega)
  subst ea
  subst er
  obtain ⟨fs', s1, s2⟩ := lw_fs I.h20 I.hs.2.1 hpx
  have hg8 : u.2[qo]? = some (u.1.2 qo, .inl (cO, 1, .inr (.inl g9))) := by rw [(hpx.1.at I.ho).2]; exact hg9
  have I1 := lw_IqqE (E' := fun v v9 => v = 2 ∧ v9 = 0) hLP I hpx (by decide +kernel) (lw_qall I.hst (by decide +kernel)) (by decide +kernel) (by decide +kernel) s1 ⟨g9, hg8⟩ (lw_Id I hpx (by decide +kernel)) ⟨fx', _, _, hwx', f7', (s2 29 (by decide +kernel)).trans f19, rfl, rfl⟩
  refine W.widen (k := cells + 8) (n := slots + 64) (Nat.add_le_add_left (Nat.le_of_ble_eq_true rfl) _) (Nat.add_le_add_left (Nat.le_of_ble_eq_true rfl) _) ?_
  exact k u H1 locs1 fs' I1 L1 ⟨g9, hg8, hg0⟩
set_option maxHeartbeats 4000000 in
theorem le_x_3_1 (hl9 : l.stackTraces = false) (hLP : lw_st LP) (F : lw_Fm p R s m args c D tys cO cD A) (L : lw_H D A s w H locs) (I : lw_I E LP tys cO cD qx qo qd sh w st cx cy fs) (hls : ls.size = 9) (hcs : cells + 8 ≤ R.cells ∧ slots + 64 ≤ R.slots) (a1 : Int32) (hb1 : 2 ≤ a1.toInt ∧ a1.toInt ≤ 2) (he : ∃ fx, w[qx]? = some (sh.2 qx, .inr (12, fx)) ∧ fx[8]? = some (.int 1) ∧ fs[29]? = some (.int 1))
    (k : ∀ (u : en_H × va_W) (H1 : Heap) (locs1 : List Loc) (fs' : List Value), lw_I (fun v v9 => v = 2 ∧ v9 = 1) LP tys cO cD qx qo qd u.1 u.2 st cx cy fs' → lw_H D A s u.2 H1 locs1 → (∃ g : Nat → Int64, u.2[qo]? = some (u.1.2 qo, .inl (cO, 1, .inr (.inl g))) ∧ g 0 = (1 : Int32).toInt64) → W p l e R s m args below meth c H1 locs1 (cells + 8) (slots + 64) Q (F0 m 2080 ls [.int 0])) :
    W p l e R s m args below meth c H locs cells slots Q (F0 m 2077 ls (([.ref (sh.2 qx), .int a1, .ref (sh.2 qo)] : List Value).reverse ++ [])) := by
  obtain ⟨g0, hw9⟩ := I.hwo
  obtain ⟨fx, hwx, f7, f19⟩ := he
  refine lw_wcE F L (wr_conditions_3_1 hl9 en_Pc_ok (en_Of cx cy) D tys cO cD sh w H.size qx qo fx g0 a1 hb1 F.hTY (lw_pre I.hs.1 (by decide) (Or.inr (by decide))) (lw_D9 L) (I.hO cx cy) I.hx hwx I.ho hw9 f7) gx_conditions rfl (by decide) (by decide) ⟨Nat.le_trans (Nat.add_le_add_left (Nat.le_of_ble_eq_true rfl) _) hcs.1, Nat.le_trans (Nat.add_le_add_left (Nat.le_of_ble_eq_true rfl) _) hcs.2⟩ hls dlw_2077 (fun u r9 H1 locs1 hp9 L1 => ?_)
  obtain ⟨⟨hpx, g9, hg9, hg0⟩, er, fx', hwx', f7'⟩ := hp9
  have ea : a1 = 2 := Int32.toInt_inj.mp (by rw [show (2 : Int32).toInt = 2 from rfl]; omega)
  subst ea
  subst er
  obtain ⟨fs', s1, s2⟩ := lw_fs I.h20 I.hs.2.1 hpx
  have hg8 : u.2[qo]? = some (u.1.2 qo, .inl (cO, 1, .inr (.inl g9))) := by rw [(hpx.1.at I.ho).2]; exact hg9
  have I1 := lw_IqqE (E' := fun v v9 => v = 2 ∧ v9 = 1) hLP I hpx (by decide +kernel) (lw_qall I.hst (by decide +kernel)) (by decide +kernel) (by decide +kernel) s1 ⟨g9, hg8⟩ (lw_Id I hpx (by decide +kernel)) ⟨fx', _, _, hwx', f7', (s2 29 (by decide +kernel)).trans f19, rfl, rfl⟩
  refine W.widen (k := cells + 8) (n := slots + 64) (Nat.add_le_add_left (Nat.le_of_ble_eq_true rfl) _) (Nat.add_le_add_left (Nat.le_of_ble_eq_true rfl) _) ?_
  exact k u H1 locs1 fs' I1 L1 ⟨g9, hg8, hg0⟩
set_option maxHeartbeats 4000000 in
theorem le_x_3_2 (hl9 : l.stackTraces = false) (hLP : lw_st LP) (F : lw_Fm p R s m args c D tys cO cD A) (L : lw_H D A s w H locs) (I : lw_I E LP tys cO cD qx qo qd sh w st cx cy fs) (hls : ls.size = 9) (hcs : cells + 8 ≤ R.cells ∧ slots + 64 ≤ R.slots) (a1 : Int32) (hb1 : 2 ≤ a1.toInt ∧ a1.toInt ≤ 2) (he : ∃ fx, w[qx]? = some (sh.2 qx, .inr (12, fx)) ∧ fx[8]? = some (.int 2) ∧ fs[29]? = some (.int 2))
    (k : ∀ (u : en_H × va_W) (H1 : Heap) (locs1 : List Loc) (fs' : List Value), lw_I (fun v v9 => v = 2 ∧ v9 = 2) LP tys cO cD qx qo qd u.1 u.2 st cx cy fs' → lw_H D A s u.2 H1 locs1 → (∃ g : Nat → Int64, u.2[qo]? = some (u.1.2 qo, .inl (cO, 1, .inr (.inl g))) ∧ g 0 = (2 : Int32).toInt64) → W p l e R s m args below meth c H1 locs1 (cells + 8) (slots + 64) Q (F0 m 2080 ls [.int 0])) :
    W p l e R s m args below meth c H locs cells slots Q (F0 m 2077 ls (([.ref (sh.2 qx), .int a1, .ref (sh.2 qo)] : List Value).reverse ++ [])) := by
  obtain ⟨g0, hw9⟩ := I.hwo
  obtain ⟨fx, hwx, f7, f19⟩ := he
  refine lw_wcE F L (wr_conditions_3_2 hl9 en_Pc_ok (en_Of cx cy) D tys cO cD sh w H.size qx qo fx g0 a1 hb1 F.hTY (lw_pre I.hs.1 (by decide) (Or.inr (by decide))) (lw_D9 L) (I.hO cx cy) I.hx hwx I.ho hw9 f7) gx_conditions rfl (by decide) (by decide) ⟨Nat.le_trans (Nat.add_le_add_left (Nat.le_of_ble_eq_true rfl) _) hcs.1, Nat.le_trans (Nat.add_le_add_left (Nat.le_of_ble_eq_true rfl) _) hcs.2⟩ hls dlw_2077 (fun u r9 H1 locs1 hp9 L1 => ?_)
  obtain ⟨⟨hpx, g9, hg9, hg0⟩, er, fx', hwx', f7'⟩ := hp9
  have ea : a1 = 2 := Int32.toInt_inj.mp (by rw [show (2 : Int32).toInt = 2 from rfl]; omega)
  subst ea
  subst er
  obtain ⟨fs', s1, s2⟩ := lw_fs I.h20 I.hs.2.1 hpx
  have hg8 : u.2[qo]? = some (u.1.2 qo, .inl (cO, 1, .inr (.inl g9))) := by rw [(hpx.1.at I.ho).2]; exact hg9
  have I1 := lw_IqqE (E' := fun v v9 => v = 2 ∧ v9 = 2) hLP I hpx (by decide +kernel) (lw_qall I.hst (by decide +kernel)) (by decide +kernel) (by decide +kernel) s1 ⟨g9, hg8⟩ (lw_Id I hpx (by decide +kernel)) ⟨fx', _, _, hwx', f7', (s2 29 (by decide +kernel)).trans f19, rfl, rfl⟩
  refine W.widen (k := cells + 8) (n := slots + 64) (Nat.add_le_add_left (Nat.le_of_ble_eq_true rfl) _) (Nat.add_le_add_left (Nat.le_of_ble_eq_true rfl) _) ?_
  exact k u H1 locs1 fs' I1 L1 ⟨g9, hg8, hg0⟩
set_option maxHeartbeats 4000000 in
theorem le_x_3_3 (hl9 : l.stackTraces = false) (hLP : lw_st LP) (F : lw_Fm p R s m args c D tys cO cD A) (L : lw_H D A s w H locs) (I : lw_I E LP tys cO cD qx qo qd sh w st cx cy fs) (hls : ls.size = 9) (hcs : cells + 8 ≤ R.cells ∧ slots + 64 ≤ R.slots) (a1 : Int32) (hb1 : 2 ≤ a1.toInt ∧ a1.toInt ≤ 2) (he : ∃ fx, w[qx]? = some (sh.2 qx, .inr (12, fx)) ∧ fx[8]? = some (.int 3) ∧ fs[29]? = some (.int 3))
    (k : ∀ (u : en_H × va_W) (H1 : Heap) (locs1 : List Loc) (fs' : List Value), lw_I (fun v v9 => v = 2 ∧ v9 = 3) LP tys cO cD qx qo qd u.1 u.2 st cx cy fs' → lw_H D A s u.2 H1 locs1 → (∃ g : Nat → Int64, u.2[qo]? = some (u.1.2 qo, .inl (cO, 1, .inr (.inl g))) ∧ g 0 = (3 : Int32).toInt64) → W p l e R s m args below meth c H1 locs1 (cells + 8) (slots + 64) Q (F0 m 2080 ls [.int 0])) :
    W p l e R s m args below meth c H locs cells slots Q (F0 m 2077 ls (([.ref (sh.2 qx), .int a1, .ref (sh.2 qo)] : List Value).reverse ++ [])) := by
  obtain ⟨g0, hw9⟩ := I.hwo
  obtain ⟨fx, hwx, f7, f19⟩ := he
  refine lw_wcE F L (wr_conditions_3_3 hl9 en_Pc_ok (en_Of cx cy) D tys cO cD sh w H.size qx qo fx g0 a1 hb1 F.hTY (lw_pre I.hs.1 (by decide) (Or.inr (by decide))) (lw_D9 L) (I.hO cx cy) I.hx hwx I.ho hw9 f7) gx_conditions rfl (by decide) (by decide) ⟨Nat.le_trans (Nat.add_le_add_left (Nat.le_of_ble_eq_true rfl) _) hcs.1, Nat.le_trans (Nat.add_le_add_left (Nat.le_of_ble_eq_true rfl) _) hcs.2⟩ hls dlw_2077 (fun u r9 H1 locs1 hp9 L1 => ?_)
  obtain ⟨⟨hpx, g9, hg9, hg0⟩, er, fx', hwx', f7'⟩ := hp9
  have ea : a1 = 2 := Int32.toInt_inj.mp (by rw [show (2 : Int32).toInt = 2 from rfl]; omega)
  subst ea
  subst er
  obtain ⟨fs', s1, s2⟩ := lw_fs I.h20 I.hs.2.1 hpx
  have hg8 : u.2[qo]? = some (u.1.2 qo, .inl (cO, 1, .inr (.inl g9))) := by rw [(hpx.1.at I.ho).2]; exact hg9
  have I1 := lw_IqqE (E' := fun v v9 => v = 2 ∧ v9 = 3) hLP I hpx (by decide +kernel) (lw_qall I.hst (by decide +kernel)) (by decide +kernel) (by decide +kernel) s1 ⟨g9, hg8⟩ (lw_Id I hpx (by decide +kernel)) ⟨fx', _, _, hwx', f7', (s2 29 (by decide +kernel)).trans f19, rfl, rfl⟩
  refine W.widen (k := cells + 8) (n := slots + 64) (Nat.add_le_add_left (Nat.le_of_ble_eq_true rfl) _) (Nat.add_le_add_left (Nat.le_of_ble_eq_true rfl) _) ?_
  exact k u H1 locs1 fs' I1 L1 ⟨g9, hg8, hg0⟩
set_option maxHeartbeats 4000000 in
theorem le_x_4_m1 (hl9 : l.stackTraces = false) (hLP : lw_st LP) (F : lw_Fm p R s m args c D tys cO cD A) (L : lw_H D A s w H locs) (I : lw_I E LP tys cO cD qx qo qd sh w st cx cy fs) (hls : ls.size = 9) (hcs : cells + 8 ≤ R.cells ∧ slots + 64 ≤ R.slots) (a1 : Int32) (hb1 : 3 ≤ a1.toInt ∧ a1.toInt ≤ 3) (he : ∃ fx, w[qx]? = some (sh.2 qx, .inr (12, fx)) ∧ fx[8]? = some (.int (-1)) ∧ fs[29]? = some (.int (-1)))
    (k : ∀ (u : en_H × va_W) (H1 : Heap) (locs1 : List Loc) (fs' : List Value), lw_I (fun v v9 => v = 3 ∧ v9 = (-1)) LP tys cO cD qx qo qd u.1 u.2 st cx cy fs' → lw_H D A s u.2 H1 locs1 → (∃ g : Nat → Int64, u.2[qo]? = some (u.1.2 qo, .inl (cO, 1, .inr (.inl g))) ∧ g 0 = ((-1) : Int32).toInt64) → W p l e R s m args below meth c H1 locs1 (cells + 8) (slots + 64) Q (F0 m 2080 ls [.int 0])) :
    W p l e R s m args below meth c H locs cells slots Q (F0 m 2077 ls (([.ref (sh.2 qx), .int a1, .ref (sh.2 qo)] : List Value).reverse ++ [])) := by
  obtain ⟨g0, hw9⟩ := I.hwo
  obtain ⟨fx, hwx, f7, f19⟩ := he
  refine lw_wcE F L (wr_conditions_4_m1 hl9 en_Pc_ok (en_Of cx cy) D tys cO cD sh w H.size qx qo fx g0 a1 hb1 F.hTY (lw_pre I.hs.1 (by decide) (Or.inr (by decide))) (lw_D9 L) (I.hO cx cy) I.hx hwx I.ho hw9 f7) gx_conditions rfl (by decide) (by decide) ⟨Nat.le_trans (Nat.add_le_add_left (Nat.le_of_ble_eq_true rfl) _) hcs.1, Nat.le_trans (Nat.add_le_add_left (Nat.le_of_ble_eq_true rfl) _) hcs.2⟩ hls dlw_2077 (fun u r9 H1 locs1 hp9 L1 => ?_)
  obtain ⟨⟨hpx, g9, hg9, hg0⟩, er, fx', hwx', f7'⟩ := hp9
  have ea : a1 = 3 := Int32.toInt_inj.mp (by rw [show (3 : Int32).toInt = 3 from rfl]; omega)
  subst ea
  subst er
  obtain ⟨fs', s1, s2⟩ := lw_fs I.h20 I.hs.2.1 hpx
  have hg8 : u.2[qo]? = some (u.1.2 qo, .inl (cO, 1, .inr (.inl g9))) := by rw [(hpx.1.at I.ho).2]; exact hg9
  have I1 := lw_IqqE (E' := fun v v9 => v = 3 ∧ v9 = (-1)) hLP I hpx (by decide +kernel) (lw_qall I.hst (by decide +kernel)) (by decide +kernel) (by decide +kernel) s1 ⟨g9, hg8⟩ (lw_Id I hpx (by decide +kernel)) ⟨fx', _, _, hwx', f7', (s2 29 (by decide +kernel)).trans f19, rfl, rfl⟩
  refine W.widen (k := cells + 8) (n := slots + 64) (Nat.add_le_add_left (Nat.le_of_ble_eq_true rfl) _) (Nat.add_le_add_left (Nat.le_of_ble_eq_true rfl) _) ?_
  exact k u H1 locs1 fs' I1 L1 ⟨g9, hg8, hg0⟩
set_option maxHeartbeats 4000000 in
theorem le_x_4_0 (hl9 : l.stackTraces = false) (hLP : lw_st LP) (F : lw_Fm p R s m args c D tys cO cD A) (L : lw_H D A s w H locs) (I : lw_I E LP tys cO cD qx qo qd sh w st cx cy fs) (hls : ls.size = 9) (hcs : cells + 8 ≤ R.cells ∧ slots + 64 ≤ R.slots) (a1 : Int32) (hb1 : 3 ≤ a1.toInt ∧ a1.toInt ≤ 3) (he : ∃ fx, w[qx]? = some (sh.2 qx, .inr (12, fx)) ∧ fx[8]? = some (.int 0) ∧ fs[29]? = some (.int 0))
    (k : ∀ (u : en_H × va_W) (H1 : Heap) (locs1 : List Loc) (fs' : List Value), lw_I (fun v v9 => v = 3 ∧ v9 = 0) LP tys cO cD qx qo qd u.1 u.2 st cx cy fs' → lw_H D A s u.2 H1 locs1 → (∃ g : Nat → Int64, u.2[qo]? = some (u.1.2 qo, .inl (cO, 1, .inr (.inl g))) ∧ g 0 = (0 : Int32).toInt64) → W p l e R s m args below meth c H1 locs1 (cells + 8) (slots + 64) Q (F0 m 2080 ls [.int 0])) :
    W p l e R s m args below meth c H locs cells slots Q (F0 m 2077 ls (([.ref (sh.2 qx), .int a1, .ref (sh.2 qo)] : List Value).reverse ++ [])) := by
  obtain ⟨g0, hw9⟩ := I.hwo
  obtain ⟨fx, hwx, f7, f19⟩ := he
  refine lw_wcE F L (wr_conditions_4_0 hl9 en_Pc_ok (en_Of cx cy) D tys cO cD sh w H.size qx qo fx g0 a1 hb1 F.hTY (lw_pre I.hs.1 (by decide) (Or.inr (by decide))) (lw_D9 L) (I.hO cx cy) I.hx hwx I.ho hw9 f7) gx_conditions rfl (by decide) (by decide) ⟨Nat.le_trans (Nat.add_le_add_left (Nat.le_of_ble_eq_true rfl) _) hcs.1, Nat.le_trans (Nat.add_le_add_left (Nat.le_of_ble_eq_true rfl) _) hcs.2⟩ hls dlw_2077 (fun u r9 H1 locs1 hp9 L1 => ?_)
  obtain ⟨⟨hpx, g9, hg9, hg0⟩, er, fx', hwx', f7'⟩ := hp9
  have ea : a1 = 3 := Int32.toInt_inj.mp (by rw [show (3 : Int32).toInt = 3 from rfl]; omega)
  subst ea
  subst er
  obtain ⟨fs', s1, s2⟩ := lw_fs I.h20 I.hs.2.1 hpx
  have hg8 : u.2[qo]? = some (u.1.2 qo, .inl (cO, 1, .inr (.inl g9))) := by rw [(hpx.1.at I.ho).2]; exact hg9
  have I1 := lw_IqqE (E' := fun v v9 => v = 3 ∧ v9 = 0) hLP I hpx (by decide +kernel) (lw_qall I.hst (by decide +kernel)) (by decide +kernel) (by decide +kernel) s1 ⟨g9, hg8⟩ (lw_Id I hpx (by decide +kernel)) ⟨fx', _, _, hwx', f7', (s2 29 (by decide +kernel)).trans f19, rfl, rfl⟩
  refine W.widen (k := cells + 8) (n := slots + 64) (Nat.add_le_add_left (Nat.le_of_ble_eq_true rfl) _) (Nat.add_le_add_left (Nat.le_of_ble_eq_true rfl) _) ?_
  exact k u H1 locs1 fs' I1 L1 ⟨g9, hg8, hg0⟩
set_option maxHeartbeats 4000000 in
theorem le_x_4_1 (hl9 : l.stackTraces = false) (hLP : lw_st LP) (F : lw_Fm p R s m args c D tys cO cD A) (L : lw_H D A s w H locs) (I : lw_I E LP tys cO cD qx qo qd sh w st cx cy fs) (hls : ls.size = 9) (hcs : cells + 8 ≤ R.cells ∧ slots + 64 ≤ R.slots) (a1 : Int32) (hb1 : 3 ≤ a1.toInt ∧ a1.toInt ≤ 3) (he : ∃ fx, w[qx]? = some (sh.2 qx, .inr (12, fx)) ∧ fx[8]? = some (.int 1) ∧ fs[29]? = some (.int 1))
    (k : ∀ (u : en_H × va_W) (H1 : Heap) (locs1 : List Loc) (fs' : List Value), lw_I (fun v v9 => v = 3 ∧ v9 = 1) LP tys cO cD qx qo qd u.1 u.2 st cx cy fs' → lw_H D A s u.2 H1 locs1 → (∃ g : Nat → Int64, u.2[qo]? = some (u.1.2 qo, .inl (cO, 1, .inr (.inl g))) ∧ g 0 = (1 : Int32).toInt64) → W p l e R s m args below meth c H1 locs1 (cells + 8) (slots + 64) Q (F0 m 2080 ls [.int 0])) :
    W p l e R s m args below meth c H locs cells slots Q (F0 m 2077 ls (([.ref (sh.2 qx), .int a1, .ref (sh.2 qo)] : List Value).reverse ++ [])) := by
  obtain ⟨g0, hw9⟩ := I.hwo
  obtain ⟨fx, hwx, f7, f19⟩ := he
  refine lw_wcE F L (wr_conditions_4_1 hl9 en_Pc_ok (en_Of cx cy) D tys cO cD sh w H.size qx qo fx g0 a1 hb1 F.hTY (lw_pre I.hs.1 (by decide) (Or.inr (by decide))) (lw_D9 L) (I.hO cx cy) I.hx hwx I.ho hw9 f7) gx_conditions rfl (by decide) (by decide) ⟨Nat.le_trans (Nat.add_le_add_left (Nat.le_of_ble_eq_true rfl) _) hcs.1, Nat.le_trans (Nat.add_le_add_left (Nat.le_of_ble_eq_true rfl) _) hcs.2⟩ hls dlw_2077 (fun u r9 H1 locs1 hp9 L1 => ?_)
  obtain ⟨⟨hpx, g9, hg9, hg0⟩, er, fx', hwx', f7'⟩ := hp9
  have ea : a1 = 3 := Int32.toInt_inj.mp (by rw [show (3 : Int32).toInt = 3 from rfl]; omega)
  subst ea
  subst er
  obtain ⟨fs', s1, s2⟩ := lw_fs I.h20 I.hs.2.1 hpx
  have hg8 : u.2[qo]? = some (u.1.2 qo, .inl (cO, 1, .inr (.inl g9))) := by rw [(hpx.1.at I.ho).2]; exact hg9
  have I1 := lw_IqqE (E' := fun v v9 => v = 3 ∧ v9 = 1) hLP I hpx (by decide +kernel) (lw_qall I.hst (by decide +kernel)) (by decide +kernel) (by decide +kernel) s1 ⟨g9, hg8⟩ (lw_Id I hpx (by decide +kernel)) ⟨fx', _, _, hwx', f7', (s2 29 (by decide +kernel)).trans f19, rfl, rfl⟩
  refine W.widen (k := cells + 8) (n := slots + 64) (Nat.add_le_add_left (Nat.le_of_ble_eq_true rfl) _) (Nat.add_le_add_left (Nat.le_of_ble_eq_true rfl) _) ?_
  exact k u H1 locs1 fs' I1 L1 ⟨g9, hg8, hg0⟩
set_option maxHeartbeats 4000000 in
theorem le_x_4_2 (hl9 : l.stackTraces = false) (hLP : lw_st LP) (F : lw_Fm p R s m args c D tys cO cD A) (L : lw_H D A s w H locs) (I : lw_I E LP tys cO cD qx qo qd sh w st cx cy fs) (hls : ls.size = 9) (hcs : cells + 8 ≤ R.cells ∧ slots + 64 ≤ R.slots) (a1 : Int32) (hb1 : 3 ≤ a1.toInt ∧ a1.toInt ≤ 3) (he : ∃ fx, w[qx]? = some (sh.2 qx, .inr (12, fx)) ∧ fx[8]? = some (.int 2) ∧ fs[29]? = some (.int 2))
    (k : ∀ (u : en_H × va_W) (H1 : Heap) (locs1 : List Loc) (fs' : List Value), lw_I (fun v v9 => v = 3 ∧ v9 = 2) LP tys cO cD qx qo qd u.1 u.2 st cx cy fs' → lw_H D A s u.2 H1 locs1 → (∃ g : Nat → Int64, u.2[qo]? = some (u.1.2 qo, .inl (cO, 1, .inr (.inl g))) ∧ g 0 = (2 : Int32).toInt64) → W p l e R s m args below meth c H1 locs1 (cells + 8) (slots + 64) Q (F0 m 2080 ls [.int 0])) :
    W p l e R s m args below meth c H locs cells slots Q (F0 m 2077 ls (([.ref (sh.2 qx), .int a1, .ref (sh.2 qo)] : List Value).reverse ++ [])) := by
  obtain ⟨g0, hw9⟩ := I.hwo
  obtain ⟨fx, hwx, f7, f19⟩ := he
  refine lw_wcE F L (wr_conditions_4_2 hl9 en_Pc_ok (en_Of cx cy) D tys cO cD sh w H.size qx qo fx g0 a1 hb1 F.hTY (lw_pre I.hs.1 (by decide) (Or.inr (by decide))) (lw_D9 L) (I.hO cx cy) I.hx hwx I.ho hw9 f7) gx_conditions rfl (by decide) (by decide) ⟨Nat.le_trans (Nat.add_le_add_left (Nat.le_of_ble_eq_true rfl) _) hcs.1, Nat.le_trans (Nat.add_le_add_left (Nat.le_of_ble_eq_true rfl) _) hcs.2⟩ hls dlw_2077 (fun u r9 H1 locs1 hp9 L1 => ?_)
  obtain ⟨⟨hpx, g9, hg9, hg0⟩, er, fx', hwx', f7'⟩ := hp9
  have ea : a1 = 3 := Int32.toInt_inj.mp (by rw [show (3 : Int32).toInt = 3 from rfl]; omega)
  subst ea
  subst er
  obtain ⟨fs', s1, s2⟩ := lw_fs I.h20 I.hs.2.1 hpx
  have hg8 : u.2[qo]? = some (u.1.2 qo, .inl (cO, 1, .inr (.inl g9))) := by rw [(hpx.1.at I.ho).2]; exact hg9
  have I1 := lw_IqqE (E' := fun v v9 => v = 3 ∧ v9 = 2) hLP I hpx (by decide +kernel) (lw_qall I.hst (by decide +kernel)) (by decide +kernel) (by decide +kernel) s1 ⟨g9, hg8⟩ (lw_Id I hpx (by decide +kernel)) ⟨fx', _, _, hwx', f7', (s2 29 (by decide +kernel)).trans f19, rfl, rfl⟩
  refine W.widen (k := cells + 8) (n := slots + 64) (Nat.add_le_add_left (Nat.le_of_ble_eq_true rfl) _) (Nat.add_le_add_left (Nat.le_of_ble_eq_true rfl) _) ?_
  exact k u H1 locs1 fs' I1 L1 ⟨g9, hg8, hg0⟩
set_option maxHeartbeats 4000000 in
theorem le_x_4_3 (hl9 : l.stackTraces = false) (hLP : lw_st LP) (F : lw_Fm p R s m args c D tys cO cD A) (L : lw_H D A s w H locs) (I : lw_I E LP tys cO cD qx qo qd sh w st cx cy fs) (hls : ls.size = 9) (hcs : cells + 8 ≤ R.cells ∧ slots + 64 ≤ R.slots) (a1 : Int32) (hb1 : 3 ≤ a1.toInt ∧ a1.toInt ≤ 3) (he : ∃ fx, w[qx]? = some (sh.2 qx, .inr (12, fx)) ∧ fx[8]? = some (.int 3) ∧ fs[29]? = some (.int 3))
    (k : ∀ (u : en_H × va_W) (H1 : Heap) (locs1 : List Loc) (fs' : List Value), lw_I (fun v v9 => v = 3 ∧ v9 = 3) LP tys cO cD qx qo qd u.1 u.2 st cx cy fs' → lw_H D A s u.2 H1 locs1 → (∃ g : Nat → Int64, u.2[qo]? = some (u.1.2 qo, .inl (cO, 1, .inr (.inl g))) ∧ g 0 = (3 : Int32).toInt64) → W p l e R s m args below meth c H1 locs1 (cells + 8) (slots + 64) Q (F0 m 2080 ls [.int 0])) :
    W p l e R s m args below meth c H locs cells slots Q (F0 m 2077 ls (([.ref (sh.2 qx), .int a1, .ref (sh.2 qo)] : List Value).reverse ++ [])) := by
  obtain ⟨g0, hw9⟩ := I.hwo
  obtain ⟨fx, hwx, f7, f19⟩ := he
  refine lw_wcE F L (wr_conditions_4_3 hl9 en_Pc_ok (en_Of cx cy) D tys cO cD sh w H.size qx qo fx g0 a1 hb1 F.hTY (lw_pre I.hs.1 (by decide) (Or.inr (by decide))) (lw_D9 L) (I.hO cx cy) I.hx hwx I.ho hw9 f7) gx_conditions rfl (by decide) (by decide) ⟨Nat.le_trans (Nat.add_le_add_left (Nat.le_of_ble_eq_true rfl) _) hcs.1, Nat.le_trans (Nat.add_le_add_left (Nat.le_of_ble_eq_true rfl) _) hcs.2⟩ hls dlw_2077 (fun u r9 H1 locs1 hp9 L1 => ?_)
  obtain ⟨⟨hpx, g9, hg9, hg0⟩, er, fx', hwx', f7'⟩ := hp9
  have ea : a1 = 3 := Int32.toInt_inj.mp (by rw [show (3 : Int32).toInt = 3 from rfl]; omega)
  subst ea
  subst er
  obtain ⟨fs', s1, s2⟩ := lw_fs I.h20 I.hs.2.1 hpx
  have hg8 : u.2[qo]? = some (u.1.2 qo, .inl (cO, 1, .inr (.inl g9))) := by rw [(hpx.1.at I.ho).2]; exact hg9
  have I1 := lw_IqqE (E' := fun v v9 => v = 3 ∧ v9 = 3) hLP I hpx (by decide +kernel) (lw_qall I.hst (by decide +kernel)) (by decide +kernel) (by decide +kernel) s1 ⟨g9, hg8⟩ (lw_Id I hpx (by decide +kernel)) ⟨fx', _, _, hwx', f7', (s2 29 (by decide +kernel)).trans f19, rfl, rfl⟩
  refine W.widen (k := cells + 8) (n := slots + 64) (Nat.add_le_add_left (Nat.le_of_ble_eq_true rfl) _) (Nat.add_le_add_left (Nat.le_of_ble_eq_true rfl) _) ?_
  exact k u H1 locs1 fs' I1 L1 ⟨g9, hg8, hg0⟩
set_option maxHeartbeats 4000000 in
theorem le_x_5_m1 (hl9 : l.stackTraces = false) (hLP : lw_st LP) (F : lw_Fm p R s m args c D tys cO cD A) (L : lw_H D A s w H locs) (I : lw_I E LP tys cO cD qx qo qd sh w st cx cy fs) (hls : ls.size = 9) (hcs : cells + 8 ≤ R.cells ∧ slots + 64 ≤ R.slots) (a1 : Int32) (hb1 : (-2147483648) ≤ a1.toInt ∧ a1.toInt ≤ (-2)) (he : ∃ fx, w[qx]? = some (sh.2 qx, .inr (12, fx)) ∧ fx[8]? = some (.int (-1)) ∧ fs[29]? = some (.int (-1)))
    (k : ∀ (u : en_H × va_W) (H1 : Heap) (locs1 : List Loc) (fs' : List Value), lw_I (fun v v9 => v = (-1) ∧ v9 = (-1)) LP tys cO cD qx qo qd u.1 u.2 st cx cy fs' → lw_H D A s u.2 H1 locs1 → W p l e R s m args below meth c H1 locs1 (cells + 8) (slots + 64) Q (F0 m 2080 ls [.int 1])) :
    W p l e R s m args below meth c H locs cells slots Q (F0 m 2077 ls (([.ref (sh.2 qx), .int a1, .ref (sh.2 qo)] : List Value).reverse ++ [])) := by
  obtain ⟨g0, hw9⟩ := I.hwo
  obtain ⟨fx, hwx, f7, f19⟩ := he
  refine lw_wcE F L (wr_conditions_5_m1 hl9 en_Pc_ok (en_Of cx cy) D tys cO cD sh w H.size qx qo fx g0 a1 hb1 F.hTY (lw_pre I.hs.1 (by decide) (Or.inr (by decide))) (lw_D9 L) (I.hO cx cy) I.hx hwx I.ho hw9 f7) gx_conditions rfl (by decide) (by decide) ⟨Nat.le_trans (Nat.add_le_add_left (Nat.le_of_ble_eq_true rfl) _) hcs.1, Nat.le_trans (Nat.add_le_add_left (Nat.le_of_ble_eq_true rfl) _) hcs.2⟩ hls dlw_2077 (fun u r9 H1 locs1 hp9 L1 => ?_)
  obtain ⟨⟨hpx, g9, hg9⟩, er⟩ := hp9
  obtain ⟨fx', hwx', f7'⟩ := lw_kx I hpx (by decide +kernel) hwx f7
  subst er
  obtain ⟨fs', s1, s2⟩ := lw_fs I.h20 I.hs.2.1 hpx
  have hg8 : u.2[qo]? = some (u.1.2 qo, .inl (cO, 1, .inr (.inl g9))) := by rw [(hpx.1.at I.ho).2]; exact hg9
  have I1 := lw_IqqE (E' := fun v v9 => v = (-1) ∧ v9 = (-1)) hLP I hpx (by decide +kernel) (lw_qall I.hst (by decide +kernel)) (by decide +kernel) (by decide +kernel) s1 ⟨g9, hg8⟩ (lw_Id I hpx (by decide +kernel)) ⟨fx', _, _, hwx', f7', (s2 29 (by decide +kernel)).trans f19, rfl, rfl⟩
  refine W.widen (k := cells + 8) (n := slots + 64) (Nat.add_le_add_left (Nat.le_of_ble_eq_true rfl) _) (Nat.add_le_add_left (Nat.le_of_ble_eq_true rfl) _) ?_
  exact k u H1 locs1 fs' I1 L1
set_option maxHeartbeats 4000000 in
theorem le_x_5_0 (hl9 : l.stackTraces = false) (hLP : lw_st LP) (F : lw_Fm p R s m args c D tys cO cD A) (L : lw_H D A s w H locs) (I : lw_I E LP tys cO cD qx qo qd sh w st cx cy fs) (hls : ls.size = 9) (hcs : cells + 8 ≤ R.cells ∧ slots + 64 ≤ R.slots) (a1 : Int32) (hb1 : (-2147483648) ≤ a1.toInt ∧ a1.toInt ≤ (-2)) (he : ∃ fx, w[qx]? = some (sh.2 qx, .inr (12, fx)) ∧ fx[8]? = some (.int 0) ∧ fs[29]? = some (.int 0))
    (k : ∀ (u : en_H × va_W) (H1 : Heap) (locs1 : List Loc) (fs' : List Value), lw_I (fun v v9 => v = 0 ∧ v9 = 0) LP tys cO cD qx qo qd u.1 u.2 st cx cy fs' → lw_H D A s u.2 H1 locs1 → W p l e R s m args below meth c H1 locs1 (cells + 8) (slots + 64) Q (F0 m 2080 ls [.int 1])) :
    W p l e R s m args below meth c H locs cells slots Q (F0 m 2077 ls (([.ref (sh.2 qx), .int a1, .ref (sh.2 qo)] : List Value).reverse ++ [])) := by
  obtain ⟨g0, hw9⟩ := I.hwo
  obtain ⟨fx, hwx, f7, f19⟩ := he
  refine lw_wcE F L (wr_conditions_5_0 hl9 en_Pc_ok (en_Of cx cy) D tys cO cD sh w H.size qx qo fx g0 a1 hb1 F.hTY (lw_pre I.hs.1 (by decide) (Or.inr (by decide))) (lw_D9 L) (I.hO cx cy) I.hx hwx I.ho hw9 f7) gx_conditions rfl (by decide) (by decide) ⟨Nat.le_trans (Nat.add_le_add_left (Nat.le_of_ble_eq_true rfl) _) hcs.1, Nat.le_trans (Nat.add_le_add_left (Nat.le_of_ble_eq_true rfl) _) hcs.2⟩ hls dlw_2077 (fun u r9 H1 locs1 hp9 L1 => ?_)
  obtain ⟨⟨hpx, g9, hg9⟩, er⟩ := hp9
  obtain ⟨fx', hwx', f7'⟩ := lw_kx I hpx (by decide +kernel) hwx f7
  subst er
  obtain ⟨fs', s1, s2⟩ := lw_fs I.h20 I.hs.2.1 hpx
  have hg8 : u.2[qo]? = some (u.1.2 qo, .inl (cO, 1, .inr (.inl g9))) := by rw [(hpx.1.at I.ho).2]; exact hg9
  have I1 := lw_IqqE (E' := fun v v9 => v = 0 ∧ v9 = 0) hLP I hpx (by decide +kernel) (lw_qall I.hst (by decide +kernel)) (by decide +kernel) (by decide +kernel) s1 ⟨g9, hg8⟩ (lw_Id I hpx (by decide +kernel)) ⟨fx', _, _, hwx', f7', (s2 29 (by decide +kernel)).trans f19, rfl, rfl⟩
  refine W.widen (k := cells + 8) (n := slots + 64) (Nat.add_le_add_left (Nat.le_of_ble_eq_true rfl) _) (Nat.add_le_add_left (Nat.le_of_ble_eq_true rfl) _) ?_
  exact k u H1 locs1 fs' I1 L1
set_option maxHeartbeats 4000000 in
theorem le_x_5_1 (hl9 : l.stackTraces = false) (hLP : lw_st LP) (F : lw_Fm p R s m args c D tys cO cD A) (L : lw_H D A s w H locs) (I : lw_I E LP tys cO cD qx qo qd sh w st cx cy fs) (hls : ls.size = 9) (hcs : cells + 8 ≤ R.cells ∧ slots + 64 ≤ R.slots) (a1 : Int32) (hb1 : (-2147483648) ≤ a1.toInt ∧ a1.toInt ≤ (-2)) (he : ∃ fx, w[qx]? = some (sh.2 qx, .inr (12, fx)) ∧ fx[8]? = some (.int 1) ∧ fs[29]? = some (.int 1))
    (k : ∀ (u : en_H × va_W) (H1 : Heap) (locs1 : List Loc) (fs' : List Value), lw_I (fun v v9 => v = 1 ∧ v9 = 1) LP tys cO cD qx qo qd u.1 u.2 st cx cy fs' → lw_H D A s u.2 H1 locs1 → W p l e R s m args below meth c H1 locs1 (cells + 8) (slots + 64) Q (F0 m 2080 ls [.int 1])) :
    W p l e R s m args below meth c H locs cells slots Q (F0 m 2077 ls (([.ref (sh.2 qx), .int a1, .ref (sh.2 qo)] : List Value).reverse ++ [])) := by
  obtain ⟨g0, hw9⟩ := I.hwo
  obtain ⟨fx, hwx, f7, f19⟩ := he
  refine lw_wcE F L (wr_conditions_5_1 hl9 en_Pc_ok (en_Of cx cy) D tys cO cD sh w H.size qx qo fx g0 a1 hb1 F.hTY (lw_pre I.hs.1 (by decide) (Or.inr (by decide))) (lw_D9 L) (I.hO cx cy) I.hx hwx I.ho hw9 f7) gx_conditions rfl (by decide) (by decide) ⟨Nat.le_trans (Nat.add_le_add_left (Nat.le_of_ble_eq_true rfl) _) hcs.1, Nat.le_trans (Nat.add_le_add_left (Nat.le_of_ble_eq_true rfl) _) hcs.2⟩ hls dlw_2077 (fun u r9 H1 locs1 hp9 L1 => ?_)
  obtain ⟨⟨hpx, g9, hg9⟩, er⟩ := hp9
  obtain ⟨fx', hwx', f7'⟩ := lw_kx I hpx (by decide +kernel) hwx f7
  subst er
  obtain ⟨fs', s1, s2⟩ := lw_fs I.h20 I.hs.2.1 hpx
  have hg8 : u.2[qo]? = some (u.1.2 qo, .inl (cO, 1, .inr (.inl g9))) := by rw [(hpx.1.at I.ho).2]; exact hg9
  have I1 := lw_IqqE (E' := fun v v9 => v = 1 ∧ v9 = 1) hLP I hpx (by decide +kernel) (lw_qall I.hst (by decide +kernel)) (by decide +kernel) (by decide +kernel) s1 ⟨g9, hg8⟩ (lw_Id I hpx (by decide +kernel)) ⟨fx', _, _, hwx', f7', (s2 29 (by decide +kernel)).trans f19, rfl, rfl⟩
  refine W.widen (k := cells + 8) (n := slots + 64) (Nat.add_le_add_left (Nat.le_of_ble_eq_true rfl) _) (Nat.add_le_add_left (Nat.le_of_ble_eq_true rfl) _) ?_
  exact k u H1 locs1 fs' I1 L1
set_option maxHeartbeats 4000000 in
theorem le_x_5_2 (hl9 : l.stackTraces = false) (hLP : lw_st LP) (F : lw_Fm p R s m args c D tys cO cD A) (L : lw_H D A s w H locs) (I : lw_I E LP tys cO cD qx qo qd sh w st cx cy fs) (hls : ls.size = 9) (hcs : cells + 8 ≤ R.cells ∧ slots + 64 ≤ R.slots) (a1 : Int32) (hb1 : (-2147483648) ≤ a1.toInt ∧ a1.toInt ≤ (-2)) (he : ∃ fx, w[qx]? = some (sh.2 qx, .inr (12, fx)) ∧ fx[8]? = some (.int 2) ∧ fs[29]? = some (.int 2))
    (k : ∀ (u : en_H × va_W) (H1 : Heap) (locs1 : List Loc) (fs' : List Value), lw_I (fun v v9 => v = 2 ∧ v9 = 2) LP tys cO cD qx qo qd u.1 u.2 st cx cy fs' → lw_H D A s u.2 H1 locs1 → W p l e R s m args below meth c H1 locs1 (cells + 8) (slots + 64) Q (F0 m 2080 ls [.int 1])) :
    W p l e R s m args below meth c H locs cells slots Q (F0 m 2077 ls (([.ref (sh.2 qx), .int a1, .ref (sh.2 qo)] : List Value).reverse ++ [])) := by
  obtain ⟨g0, hw9⟩ := I.hwo
  obtain ⟨fx, hwx, f7, f19⟩ := he
  refine lw_wcE F L (wr_conditions_5_2 hl9 en_Pc_ok (en_Of cx cy) D tys cO cD sh w H.size qx qo fx g0 a1 hb1 F.hTY (lw_pre I.hs.1 (by decide) (Or.inr (by decide))) (lw_D9 L) (I.hO cx cy) I.hx hwx I.ho hw9 f7) gx_conditions rfl (by decide) (by decide) ⟨Nat.le_trans (Nat.add_le_add_left (Nat.le_of_ble_eq_true rfl) _) hcs.1, Nat.le_trans (Nat.add_le_add_left (Nat.le_of_ble_eq_true rfl) _) hcs.2⟩ hls dlw_2077 (fun u r9 H1 locs1 hp9 L1 => ?_)
  obtain ⟨⟨hpx, g9, hg9⟩, er⟩ := hp9
  obtain ⟨fx', hwx', f7'⟩ := lw_kx I hpx (by decide +kernel) hwx f7
  subst er
  obtain ⟨fs', s1, s2⟩ := lw_fs I.h20 I.hs.2.1 hpx
  have hg8 : u.2[qo]? = some (u.1.2 qo, .inl (cO, 1, .inr (.inl g9))) := by rw [(hpx.1.at I.ho).2]; exact hg9
  have I1 := lw_IqqE (E' := fun v v9 => v = 2 ∧ v9 = 2) hLP I hpx (by decide +kernel) (lw_qall I.hst (by decide +kernel)) (by decide +kernel) (by decide +kernel) s1 ⟨g9, hg8⟩ (lw_Id I hpx (by decide +kernel)) ⟨fx', _, _, hwx', f7', (s2 29 (by decide +kernel)).trans f19, rfl, rfl⟩
  refine W.widen (k := cells + 8) (n := slots + 64) (Nat.add_le_add_left (Nat.le_of_ble_eq_true rfl) _) (Nat.add_le_add_left (Nat.le_of_ble_eq_true rfl) _) ?_
  exact k u H1 locs1 fs' I1 L1
set_option maxHeartbeats 4000000 in
theorem le_x_5_3 (hl9 : l.stackTraces = false) (hLP : lw_st LP) (F : lw_Fm p R s m args c D tys cO cD A) (L : lw_H D A s w H locs) (I : lw_I E LP tys cO cD qx qo qd sh w st cx cy fs) (hls : ls.size = 9) (hcs : cells + 8 ≤ R.cells ∧ slots + 64 ≤ R.slots) (a1 : Int32) (hb1 : (-2147483648) ≤ a1.toInt ∧ a1.toInt ≤ (-2)) (he : ∃ fx, w[qx]? = some (sh.2 qx, .inr (12, fx)) ∧ fx[8]? = some (.int 3) ∧ fs[29]? = some (.int 3))
    (k : ∀ (u : en_H × va_W) (H1 : Heap) (locs1 : List Loc) (fs' : List Value), lw_I (fun v v9 => v = 3 ∧ v9 = 3) LP tys cO cD qx qo qd u.1 u.2 st cx cy fs' → lw_H D A s u.2 H1 locs1 → W p l e R s m args below meth c H1 locs1 (cells + 8) (slots + 64) Q (F0 m 2080 ls [.int 1])) :
    W p l e R s m args below meth c H locs cells slots Q (F0 m 2077 ls (([.ref (sh.2 qx), .int a1, .ref (sh.2 qo)] : List Value).reverse ++ [])) := by
  obtain ⟨g0, hw9⟩ := I.hwo
  obtain ⟨fx, hwx, f7, f19⟩ := he
  refine lw_wcE F L (wr_conditions_5_3 hl9 en_Pc_ok (en_Of cx cy) D tys cO cD sh w H.size qx qo fx g0 a1 hb1 F.hTY (lw_pre I.hs.1 (by decide) (Or.inr (by decide))) (lw_D9 L) (I.hO cx cy) I.hx hwx I.ho hw9 f7) gx_conditions rfl (by decide) (by decide) ⟨Nat.le_trans (Nat.add_le_add_left (Nat.le_of_ble_eq_true rfl) _) hcs.1, Nat.le_trans (Nat.add_le_add_left (Nat.le_of_ble_eq_true rfl) _) hcs.2⟩ hls dlw_2077 (fun u r9 H1 locs1 hp9 L1 => ?_)
  obtain ⟨⟨hpx, g9, hg9⟩, er⟩ := hp9
  obtain ⟨fx', hwx', f7'⟩ := lw_kx I hpx (by decide +kernel) hwx f7
  subst er
  obtain ⟨fs', s1, s2⟩ := lw_fs I.h20 I.hs.2.1 hpx
  have hg8 : u.2[qo]? = some (u.1.2 qo, .inl (cO, 1, .inr (.inl g9))) := by rw [(hpx.1.at I.ho).2]; exact hg9
  have I1 := lw_IqqE (E' := fun v v9 => v = 3 ∧ v9 = 3) hLP I hpx (by decide +kernel) (lw_qall I.hst (by decide +kernel)) (by decide +kernel) (by decide +kernel) s1 ⟨g9, hg8⟩ (lw_Id I hpx (by decide +kernel)) ⟨fx', _, _, hwx', f7', (s2 29 (by decide +kernel)).trans f19, rfl, rfl⟩
  refine W.widen (k := cells + 8) (n := slots + 64) (Nat.add_le_add_left (Nat.le_of_ble_eq_true rfl) _) (Nat.add_le_add_left (Nat.le_of_ble_eq_true rfl) _) ?_
  exact k u H1 locs1 fs' I1 L1
set_option maxHeartbeats 4000000 in
theorem le_x_6_m1 (hl9 : l.stackTraces = false) (hLP : lw_st LP) (F : lw_Fm p R s m args c D tys cO cD A) (L : lw_H D A s w H locs) (I : lw_I E LP tys cO cD qx qo qd sh w st cx cy fs) (hls : ls.size = 9) (hcs : cells + 8 ≤ R.cells ∧ slots + 64 ≤ R.slots) (a1 : Int32) (hb1 : 4 ≤ a1.toInt ∧ a1.toInt ≤ 2147483647) (he : ∃ fx, w[qx]? = some (sh.2 qx, .inr (12, fx)) ∧ fx[8]? = some (.int (-1)) ∧ fs[29]? = some (.int (-1)))
    (k : ∀ (u : en_H × va_W) (H1 : Heap) (locs1 : List Loc) (fs' : List Value), lw_I (fun v v9 => v = (-1) ∧ v9 = (-1)) LP tys cO cD qx qo qd u.1 u.2 st cx cy fs' → lw_H D A s u.2 H1 locs1 → W p l e R s m args below meth c H1 locs1 (cells + 8) (slots + 64) Q (F0 m 2080 ls [.int 1])) :
    W p l e R s m args below meth c H locs cells slots Q (F0 m 2077 ls (([.ref (sh.2 qx), .int a1, .ref (sh.2 qo)] : List Value).reverse ++ [])) := by
  obtain ⟨g0, hw9⟩ := I.hwo
  obtain ⟨fx, hwx, f7, f19⟩ := he
  refine lw_wcE F L (wr_conditions_6_m1 hl9 en_Pc_ok (en_Of cx cy) D tys cO cD sh w H.size qx qo fx g0 a1 hb1 F.hTY (lw_pre I.hs.1 (by decide) (Or.inr (by decide))) (lw_D9 L) (I.hO cx cy) I.hx hwx I.ho hw9 f7) gx_conditions rfl (by decide) (by decide) ⟨Nat.le_trans (Nat.add_le_add_left (Nat.le_of_ble_eq_true rfl) _) hcs.1, Nat.le_trans (Nat.add_le_add_left (Nat.le_of_ble_eq_true rfl) _) hcs.2⟩ hls dlw_2077 (fun u r9 H1 locs1 hp9 L1 => ?_)
  obtain ⟨⟨hpx, g9, hg9⟩, er⟩ := hp9
  obtain ⟨fx', hwx', f7'⟩ := lw_kx I hpx (by decide +kernel) hwx f7
  subst er
  obtain ⟨fs', s1, s2⟩ := lw_fs I.h20 I.hs.2.1 hpx
  have hg8 : u.2[qo]? = some (u.1.2 qo, .inl (cO, 1, .inr (.inl g9))) := by rw [(hpx.1.at I.ho).2]; exact hg9
  have I1 := lw_IqqE (E' := fun v v9 => v = (-1) ∧ v9 = (-1)) hLP I hpx (by decide +kernel) (lw_qall I.hst (by decide +kernel)) (by decide +kernel) (by decide +kernel) s1 ⟨g9, hg8⟩ (lw_Id I hpx (by decide +kernel)) ⟨fx', _, _, hwx', f7', (s2 29 (by decide +kernel)).trans f19, rfl, rfl⟩
  refine W.widen (k := cells + 8) (n := slots + 64) (Nat.add_le_add_left (Nat.le_of_ble_eq_true rfl) _) (Nat.add_le_add_left (Nat.le_of_ble_eq_true rfl) _) ?_
  exact k u H1 locs1 fs' I1 L1
set_option maxHeartbeats 4000000 in
theorem le_x_6_0 (hl9 : l.stackTraces = false) (hLP : lw_st LP) (F : lw_Fm p R s m args c D tys cO cD A) (L : lw_H D A s w H locs) (I : lw_I E LP tys cO cD qx qo qd sh w st cx cy fs) (hls : ls.size = 9) (hcs : cells + 8 ≤ R.cells ∧ slots + 64 ≤ R.slots) (a1 : Int32) (hb1 : 4 ≤ a1.toInt ∧ a1.toInt ≤ 2147483647) (he : ∃ fx, w[qx]? = some (sh.2 qx, .inr (12, fx)) ∧ fx[8]? = some (.int 0) ∧ fs[29]? = some (.int 0))
    (k : ∀ (u : en_H × va_W) (H1 : Heap) (locs1 : List Loc) (fs' : List Value), lw_I (fun v v9 => v = 0 ∧ v9 = 0) LP tys cO cD qx qo qd u.1 u.2 st cx cy fs' → lw_H D A s u.2 H1 locs1 → W p l e R s m args below meth c H1 locs1 (cells + 8) (slots + 64) Q (F0 m 2080 ls [.int 1])) :
    W p l e R s m args below meth c H locs cells slots Q (F0 m 2077 ls (([.ref (sh.2 qx), .int a1, .ref (sh.2 qo)] : List Value).reverse ++ [])) := by
  obtain ⟨g0, hw9⟩ := I.hwo
  obtain ⟨fx, hwx, f7, f19⟩ := he
  refine lw_wcE F L (wr_conditions_6_0 hl9 en_Pc_ok (en_Of cx cy) D tys cO cD sh w H.size qx qo fx g0 a1 hb1 F.hTY (lw_pre I.hs.1 (by decide) (Or.inr (by decide))) (lw_D9 L) (I.hO cx cy) I.hx hwx I.ho hw9 f7) gx_conditions rfl (by decide) (by decide) ⟨Nat.le_trans (Nat.add_le_add_left (Nat.le_of_ble_eq_true rfl) _) hcs.1, Nat.le_trans (Nat.add_le_add_left (Nat.le_of_ble_eq_true rfl) _) hcs.2⟩ hls dlw_2077 (fun u r9 H1 locs1 hp9 L1 => ?_)
  obtain ⟨⟨hpx, g9, hg9⟩, er⟩ := hp9
  obtain ⟨fx', hwx', f7'⟩ := lw_kx I hpx (by decide +kernel) hwx f7
  subst er
  obtain ⟨fs', s1, s2⟩ := lw_fs I.h20 I.hs.2.1 hpx
  have hg8 : u.2[qo]? = some (u.1.2 qo, .inl (cO, 1, .inr (.inl g9))) := by rw [(hpx.1.at I.ho).2]; exact hg9
  have I1 := lw_IqqE (E' := fun v v9 => v = 0 ∧ v9 = 0) hLP I hpx (by decide +kernel) (lw_qall I.hst (by decide +kernel)) (by decide +kernel) (by decide +kernel) s1 ⟨g9, hg8⟩ (lw_Id I hpx (by decide +kernel)) ⟨fx', _, _, hwx', f7', (s2 29 (by decide +kernel)).trans f19, rfl, rfl⟩
  refine W.widen (k := cells + 8) (n := slots + 64) (Nat.add_le_add_left (Nat.le_of_ble_eq_true rfl) _) (Nat.add_le_add_left (Nat.le_of_ble_eq_true rfl) _) ?_
  exact k u H1 locs1 fs' I1 L1
set_option maxHeartbeats 4000000 in
theorem le_x_6_1 (hl9 : l.stackTraces = false) (hLP : lw_st LP) (F : lw_Fm p R s m args c D tys cO cD A) (L : lw_H D A s w H locs) (I : lw_I E LP tys cO cD qx qo qd sh w st cx cy fs) (hls : ls.size = 9) (hcs : cells + 8 ≤ R.cells ∧ slots + 64 ≤ R.slots) (a1 : Int32) (hb1 : 4 ≤ a1.toInt ∧ a1.toInt ≤ 2147483647) (he : ∃ fx, w[qx]? = some (sh.2 qx, .inr (12, fx)) ∧ fx[8]? = some (.int 1) ∧ fs[29]? = some (.int 1))
    (k : ∀ (u : en_H × va_W) (H1 : Heap) (locs1 : List Loc) (fs' : List Value), lw_I (fun v v9 => v = 1 ∧ v9 = 1) LP tys cO cD qx qo qd u.1 u.2 st cx cy fs' → lw_H D A s u.2 H1 locs1 → W p l e R s m args below meth c H1 locs1 (cells + 8) (slots + 64) Q (F0 m 2080 ls [.int 1])) :
    W p l e R s m args below meth c H locs cells slots Q (F0 m 2077 ls (([.ref (sh.2 qx), .int a1, .ref (sh.2 qo)] : List Value).reverse ++ [])) := by
  obtain ⟨g0, hw9⟩ := I.hwo
  obtain ⟨fx, hwx, f7, f19⟩ := he
  refine lw_wcE F L (wr_conditions_6_1 hl9 en_Pc_ok (en_Of cx cy) D tys cO cD sh w H.size qx qo fx g0 a1 hb1 F.hTY (lw_pre I.hs.1 (by decide) (Or.inr (by decide))) (lw_D9 L) (I.hO cx cy) I.hx hwx I.ho hw9 f7) gx_conditions rfl (by decide) (by decide) ⟨Nat.le_trans (Nat.add_le_add_left (Nat.le_of_ble_eq_true rfl) _) hcs.1, Nat.le_trans (Nat.add_le_add_left (Nat.le_of_ble_eq_true rfl) _) hcs.2⟩ hls dlw_2077 (fun u r9 H1 locs1 hp9 L1 => ?_)
  obtain ⟨⟨hpx, g9, hg9⟩, er⟩ := hp9
  obtain ⟨fx', hwx', f7'⟩ := lw_kx I hpx (by decide +kernel) hwx f7
  subst er
  obtain ⟨fs', s1, s2⟩ := lw_fs I.h20 I.hs.2.1 hpx
  have hg8 : u.2[qo]? = some (u.1.2 qo, .inl (cO, 1, .inr (.inl g9))) := by rw [(hpx.1.at I.ho).2]; exact hg9
  have I1 := lw_IqqE (E' := fun v v9 => v = 1 ∧ v9 = 1) hLP I hpx (by decide +kernel) (lw_qall I.hst (by decide +kernel)) (by decide +kernel) (by decide +kernel) s1 ⟨g9, hg8⟩ (lw_Id I hpx (by decide +kernel)) ⟨fx', _, _, hwx', f7', (s2 29 (by decide +kernel)).trans f19, rfl, rfl⟩
  refine W.widen (k := cells + 8) (n := slots + 64) (Nat.add_le_add_left (Nat.le_of_ble_eq_true rfl) _) (Nat.add_le_add_left (Nat.le_of_ble_eq_true rfl) _) ?_
  exact k u H1 locs1 fs' I1 L1
set_option maxHeartbeats 4000000 in
theorem le_x_6_2 (hl9 : l.stackTraces = false) (hLP : lw_st LP) (F : lw_Fm p R s m args c D tys cO cD A) (L : lw_H D A s w H locs) (I : lw_I E LP tys cO cD qx qo qd sh w st cx cy fs) (hls : ls.size = 9) (hcs : cells + 8 ≤ R.cells ∧ slots + 64 ≤ R.slots) (a1 : Int32) (hb1 : 4 ≤ a1.toInt ∧ a1.toInt ≤ 2147483647) (he : ∃ fx, w[qx]? = some (sh.2 qx, .inr (12, fx)) ∧ fx[8]? = some (.int 2) ∧ fs[29]? = some (.int 2))
    (k : ∀ (u : en_H × va_W) (H1 : Heap) (locs1 : List Loc) (fs' : List Value), lw_I (fun v v9 => v = 2 ∧ v9 = 2) LP tys cO cD qx qo qd u.1 u.2 st cx cy fs' → lw_H D A s u.2 H1 locs1 → W p l e R s m args below meth c H1 locs1 (cells + 8) (slots + 64) Q (F0 m 2080 ls [.int 1])) :
    W p l e R s m args below meth c H locs cells slots Q (F0 m 2077 ls (([.ref (sh.2 qx), .int a1, .ref (sh.2 qo)] : List Value).reverse ++ [])) := by
  obtain ⟨g0, hw9⟩ := I.hwo
  obtain ⟨fx, hwx, f7, f19⟩ := he
  refine lw_wcE F L (wr_conditions_6_2 hl9 en_Pc_ok (en_Of cx cy) D tys cO cD sh w H.size qx qo fx g0 a1 hb1 F.hTY (lw_pre I.hs.1 (by decide) (Or.inr (by decide))) (lw_D9 L) (I.hO cx cy) I.hx hwx I.ho hw9 f7) gx_conditions rfl (by decide) (by decide) ⟨Nat.le_trans (Nat.add_le_add_left (Nat.le_of_ble_eq_true rfl) _) hcs.1, Nat.le_trans (Nat.add_le_add_left (Nat.le_of_ble_eq_true rfl) _) hcs.2⟩ hls dlw_2077 (fun u r9 H1 locs1 hp9 L1 => ?_)
  obtain ⟨⟨hpx, g9, hg9⟩, er⟩ := hp9
  obtain ⟨fx', hwx', f7'⟩ := lw_kx I hpx (by decide +kernel) hwx f7
  subst er
  obtain ⟨fs', s1, s2⟩ := lw_fs I.h20 I.hs.2.1 hpx
  have hg8 : u.2[qo]? = some (u.1.2 qo, .inl (cO, 1, .inr (.inl g9))) := by rw [(hpx.1.at I.ho).2]; exact hg9
  have I1 := lw_IqqE (E' := fun v v9 => v = 2 ∧ v9 = 2) hLP I hpx (by decide +kernel) (lw_qall I.hst (by decide +kernel)) (by decide +kernel) (by decide +kernel) s1 ⟨g9, hg8⟩ (lw_Id I hpx (by decide +kernel)) ⟨fx', _, _, hwx', f7', (s2 29 (by decide +kernel)).trans f19, rfl, rfl⟩
  refine W.widen (k := cells + 8) (n := slots + 64) (Nat.add_le_add_left (Nat.le_of_ble_eq_true rfl) _) (Nat.add_le_add_left (Nat.le_of_ble_eq_true rfl) _) ?_
  exact k u H1 locs1 fs' I1 L1
set_option maxHeartbeats 4000000 in
theorem le_x_6_3 (hl9 : l.stackTraces = false) (hLP : lw_st LP) (F : lw_Fm p R s m args c D tys cO cD A) (L : lw_H D A s w H locs) (I : lw_I E LP tys cO cD qx qo qd sh w st cx cy fs) (hls : ls.size = 9) (hcs : cells + 8 ≤ R.cells ∧ slots + 64 ≤ R.slots) (a1 : Int32) (hb1 : 4 ≤ a1.toInt ∧ a1.toInt ≤ 2147483647) (he : ∃ fx, w[qx]? = some (sh.2 qx, .inr (12, fx)) ∧ fx[8]? = some (.int 3) ∧ fs[29]? = some (.int 3))
    (k : ∀ (u : en_H × va_W) (H1 : Heap) (locs1 : List Loc) (fs' : List Value), lw_I (fun v v9 => v = 3 ∧ v9 = 3) LP tys cO cD qx qo qd u.1 u.2 st cx cy fs' → lw_H D A s u.2 H1 locs1 → W p l e R s m args below meth c H1 locs1 (cells + 8) (slots + 64) Q (F0 m 2080 ls [.int 1])) :
    W p l e R s m args below meth c H locs cells slots Q (F0 m 2077 ls (([.ref (sh.2 qx), .int a1, .ref (sh.2 qo)] : List Value).reverse ++ [])) := by
  obtain ⟨g0, hw9⟩ := I.hwo
  obtain ⟨fx, hwx, f7, f19⟩ := he
  refine lw_wcE F L (wr_conditions_6_3 hl9 en_Pc_ok (en_Of cx cy) D tys cO cD sh w H.size qx qo fx g0 a1 hb1 F.hTY (lw_pre I.hs.1 (by decide) (Or.inr (by decide))) (lw_D9 L) (I.hO cx cy) I.hx hwx I.ho hw9 f7) gx_conditions rfl (by decide) (by decide) ⟨Nat.le_trans (Nat.add_le_add_left (Nat.le_of_ble_eq_true rfl) _) hcs.1, Nat.le_trans (Nat.add_le_add_left (Nat.le_of_ble_eq_true rfl) _) hcs.2⟩ hls dlw_2077 (fun u r9 H1 locs1 hp9 L1 => ?_)
  obtain ⟨⟨hpx, g9, hg9⟩, er⟩ := hp9
  obtain ⟨fx', hwx', f7'⟩ := lw_kx I hpx (by decide +kernel) hwx f7
  subst er
  obtain ⟨fs', s1, s2⟩ := lw_fs I.h20 I.hs.2.1 hpx
  have hg8 : u.2[qo]? = some (u.1.2 qo, .inl (cO, 1, .inr (.inl g9))) := by rw [(hpx.1.at I.ho).2]; exact hg9
  have I1 := lw_IqqE (E' := fun v v9 => v = 3 ∧ v9 = 3) hLP I hpx (by decide +kernel) (lw_qall I.hst (by decide +kernel)) (by decide +kernel) (by decide +kernel) s1 ⟨g9, hg8⟩ (lw_Id I hpx (by decide +kernel)) ⟨fx', _, _, hwx', f7', (s2 29 (by decide +kernel)).trans f19, rfl, rfl⟩
  refine W.widen (k := cells + 8) (n := slots + 64) (Nat.add_le_add_left (Nat.le_of_ble_eq_true rfl) _) (Nat.add_le_add_left (Nat.le_of_ble_eq_true rfl) _) ?_
  exact k u H1 locs1 fs' I1 L1
set_option maxHeartbeats 4000000 in
theorem le_m_0_m1 (hl9 : l.stackTraces = false) (hLP : lw_st LP) (F : lw_Fm p R s m args c D tys cO cD A) (L : lw_H D A s w H locs) (I : lw_I E LP tys cO cD qx qo qd sh w st cx cy fs) (hls : ls.size = 9) (hcs : cells + 8 ≤ R.cells ∧ slots + 64 ≤ R.slots) (a1 : Int32) (hb1 : (-1) ≤ a1.toInt ∧ a1.toInt ≤ (-1)) (he : ∃ fx, w[qx]? = some (sh.2 qx, .inr (12, fx)) ∧ fx[8]? = some (.int (-1)) ∧ fs[29]? = some (.int (-1))) {g9 : Nat → Int64} (hg9 : w[qo]? = some (sh.2 qo, .inl (cO, 1, .inr (.inl g9))))
    (k : ∀ (u : en_H × va_W) (b9 : Int32) (H1 : Heap) (locs1 : List Loc) (fs' : List Value), lw_I lw_E LP tys cO cD qx qo qd u.1 u.2 st cx cy fs' → lw_H D A s u.2 H1 locs1 → u.2[qo]? = some (u.1.2 qo, .inl (cO, 1, .inr (.inl g9))) → fs'[30]? = some (.int 0) → W p l e R s m args below meth c H1 locs1 (cells + 8) (slots + 64) Q (F0 m 2092 ls [.int (-1)])) :
    W p l e R s m args below meth c H locs cells slots Q (F0 m 2089 ls (([.int a1] : List Value).reverse ++ [.ref (sh.2 0)])) := by
  obtain ⟨fx, hwx, f7, f19⟩ := he
  have l19 : ((-1) : Int) ≤ ((-1) : Int32).toInt := by decide
  have u19 : ((-1) : Int32).toInt ≤ ((-1) : Int) := by decide
  refine lw_mc (lv' := 1) (ρp := [.ref (sh.2 0), .int a1, .int (-1)]) (As := [.int a1]) F L (ct_X7_conditions_0 hl9 (cx := cx) (cy := cy)) gm_X7_conditions I.hs.2.1 rfl rfl (Nat.le_of_ble_eq_true rfl) (by decide) ⟨Nat.le_trans (Nat.add_le_add_left (Nat.le_of_ble_eq_true rfl) _) hcs.1, Nat.le_trans (Nat.add_le_add_left (Nat.le_of_ble_eq_true rfl) _) hcs.2⟩ hls rfl (lw_pre I.hs.1 (by decide) (Or.inr (by decide))) (I.hO cx cy) (lw_pa (env := k_X7_conditions_0.2.1.1) (fa := k_X7_conditions_0.2.1.2) ⟨⟨0, I.h20, rfl⟩, ⟨a1, rfl, hb1.1, hb1.2⟩, ⟨(-1), rfl, l19, u19⟩, trivial⟩ (en_ac (lw_f0 I.hs.2.1 rfl f19 rfl) (en_an))) dlw_2089 (fun u res H1 locs1 hrv hpo L1 => ?_)
  obtain ⟨hpx, o8, ho9, ρ9, hPa9, hi9, hres⟩ := hpo
  have ho9 := List.mem_singleton.mp ho9
  subst ho9
  obtain ⟨fs', s1, s2⟩ := lw_fs I.h20 I.hs.2.1 hpx
  have h09 : ρ9[0]? = some (.ref (u.1.2 0)) := by rw [hi9 0 (show 0 < 2 by decide), (hpx.1.at I.h20).2]; rfl
  obtain ⟨fx', hwx', f7'⟩ := lw_kx I hpx (by decide +kernel) hwx f7
  have f19' : fs'[29]? = some (.int (-1)) := lw_exact (lw_hb_ok (b := (29, (-1), (-1))) (by decide +kernel) L1.hD s1 h09 hPa9) (by decide)
  have f30' : fs'[30]? = some (.int 0) := lw_exact (lw_hb_ok (b := (30, 0, 0)) (by decide +kernel) L1.hD s1 h09 hPa9) (by decide)
  have hg8 : u.2[qo]? = some (u.1.2 qo, .inl (cO, 1, .inr (.inl g9))) := by rw [(hpx.1.at I.ho).2]; exact wr_keep hpx I.ho (by decide +kernel) hg9
  have I1 := lw_IqqE (E' := lw_E) hLP I hpx (by decide +kernel) (lw_qall I.hst (by decide +kernel)) (by decide +kernel) (by decide +kernel) s1 ⟨g9, hg8⟩ (lw_Id I hpx (by decide +kernel)) ⟨fx', _, _, hwx', f7', f19', rfl, by decide⟩
  obtain ⟨r9, rfl⟩ := hrv
  obtain ⟨v9, e9, x9, hx9, l9, u9⟩ := hPa9.2.1 2 _ rfl
  subst hx9
  have er : r9 = x9 := Value.int.inj (Option.some.inj ((hres _ rfl).symm.trans e9))
  have er9 : x9 = (-1) := Int32.toInt_inj.mp (by rw [show (((-1) : Int32)).toInt = (-1) from rfl]; have l9 : ((-1) : Int) ≤ x9.toInt := l9; have u9 : x9.toInt ≤ ((-1) : Int) := u9; omega)
  rw [er9] at er
  subst er
  refine W.widen (k := cells + 8) (n := slots + 64) (Nat.add_le_add_left (Nat.le_of_ble_eq_true rfl) _) (Nat.add_le_add_left (Nat.le_of_ble_eq_true rfl) _) ?_
  exact k u 0 H1 locs1 fs' I1 L1 hg8 f30'
set_option maxHeartbeats 4000000 in
theorem le_m_0_0 (hl9 : l.stackTraces = false) (hLP : lw_st LP) (F : lw_Fm p R s m args c D tys cO cD A) (L : lw_H D A s w H locs) (I : lw_I E LP tys cO cD qx qo qd sh w st cx cy fs) (hls : ls.size = 9) (hcs : cells + 8 ≤ R.cells ∧ slots + 64 ≤ R.slots) (a1 : Int32) (hb1 : (-1) ≤ a1.toInt ∧ a1.toInt ≤ (-1)) (he : ∃ fx, w[qx]? = some (sh.2 qx, .inr (12, fx)) ∧ fx[8]? = some (.int (-1)) ∧ fs[29]? = some (.int 0)) {g9 : Nat → Int64} (hg9 : w[qo]? = some (sh.2 qo, .inl (cO, 1, .inr (.inl g9))))
    (k : ∀ (u : en_H × va_W) (b9 : Int32) (H1 : Heap) (locs1 : List Loc) (fs' : List Value), lw_I lw_E LP tys cO cD qx qo qd u.1 u.2 st cx cy fs' → lw_H D A s u.2 H1 locs1 → u.2[qo]? = some (u.1.2 qo, .inl (cO, 1, .inr (.inl g9))) → fs'[30]? = some (.int 0) → W p l e R s m args below meth c H1 locs1 (cells + 8) (slots + 64) Q (F0 m 2092 ls [.int 0])) :
    W p l e R s m args below meth c H locs cells slots Q (F0 m 2089 ls (([.int a1] : List Value).reverse ++ [.ref (sh.2 0)])) := by
  obtain ⟨fx, hwx, f7, f19⟩ := he
  have l19 : (0 : Int) ≤ (0 : Int32).toInt := by decide
  have u19 : (0 : Int32).toInt ≤ (0 : Int) := by decide
  refine lw_mc (lv' := 1) (ρp := [.ref (sh.2 0), .int a1, .int 0]) (As := [.int a1]) F L (ct_X7_conditions_1 hl9 (cx := cx) (cy := cy)) gm_X7_conditions I.hs.2.1 rfl rfl (Nat.le_of_ble_eq_true rfl) (by decide) ⟨Nat.le_trans (Nat.add_le_add_left (Nat.le_of_ble_eq_true rfl) _) hcs.1, Nat.le_trans (Nat.add_le_add_left (Nat.le_of_ble_eq_true rfl) _) hcs.2⟩ hls rfl (lw_pre I.hs.1 (by decide) (Or.inr (by decide))) (I.hO cx cy) (lw_pa (env := k_X7_conditions_1.2.1.1) (fa := k_X7_conditions_1.2.1.2) ⟨⟨0, I.h20, rfl⟩, ⟨a1, rfl, hb1.1, hb1.2⟩, ⟨0, rfl, l19, u19⟩, trivial⟩ (en_ac (lw_f0 I.hs.2.1 rfl f19 rfl) (en_an))) dlw_2089 (fun u res H1 locs1 hrv hpo L1 => ?_)
  obtain ⟨hpx, o8, ho9, ρ9, hPa9, hi9, hres⟩ := hpo
  have ho9 := List.mem_singleton.mp ho9
  subst ho9
  obtain ⟨fs', s1, s2⟩ := lw_fs I.h20 I.hs.2.1 hpx
  have h09 : ρ9[0]? = some (.ref (u.1.2 0)) := by rw [hi9 0 (show 0 < 2 by decide), (hpx.1.at I.h20).2]; rfl
  obtain ⟨fx', hwx', f7'⟩ := lw_kx I hpx (by decide +kernel) hwx f7
  have f19' : fs'[29]? = some (.int (-1)) := lw_exact (lw_hb_ok (b := (29, (-1), (-1))) (by decide +kernel) L1.hD s1 h09 hPa9) (by decide)
  have f30' : fs'[30]? = some (.int 0) := lw_exact (lw_hb_ok (b := (30, 0, 0)) (by decide +kernel) L1.hD s1 h09 hPa9) (by decide)
  have hg8 : u.2[qo]? = some (u.1.2 qo, .inl (cO, 1, .inr (.inl g9))) := by rw [(hpx.1.at I.ho).2]; exact wr_keep hpx I.ho (by decide +kernel) hg9
  have I1 := lw_IqqE (E' := lw_E) hLP I hpx (by decide +kernel) (lw_qall I.hst (by decide +kernel)) (by decide +kernel) (by decide +kernel) s1 ⟨g9, hg8⟩ (lw_Id I hpx (by decide +kernel)) ⟨fx', _, _, hwx', f7', f19', rfl, by decide⟩
  obtain ⟨r9, rfl⟩ := hrv
  obtain ⟨v9, e9, x9, hx9, l9, u9⟩ := hPa9.2.1 2 _ rfl
  subst hx9
  have er : r9 = x9 := Value.int.inj (Option.some.inj ((hres _ rfl).symm.trans e9))
  have er9 : x9 = 0 := Int32.toInt_inj.mp (by rw [show ((0 : Int32)).toInt = 0 from rfl]; have l9 : (0 : Int) ≤ x9.toInt := l9; have u9 : x9.toInt ≤ (0 : Int) := u9; omega)
  rw [er9] at er
  subst er
  refine W.widen (k := cells + 8) (n := slots + 64) (Nat.add_le_add_left (Nat.le_of_ble_eq_true rfl) _) (Nat.add_le_add_left (Nat.le_of_ble_eq_true rfl) _) ?_
  exact k u 0 H1 locs1 fs' I1 L1 hg8 f30'
set_option maxHeartbeats 4000000 in
theorem le_m_0_1 (hl9 : l.stackTraces = false) (hLP : lw_st LP) (F : lw_Fm p R s m args c D tys cO cD A) (L : lw_H D A s w H locs) (I : lw_I E LP tys cO cD qx qo qd sh w st cx cy fs) (hls : ls.size = 9) (hcs : cells + 8 ≤ R.cells ∧ slots + 64 ≤ R.slots) (a1 : Int32) (hb1 : (-1) ≤ a1.toInt ∧ a1.toInt ≤ (-1)) (he : ∃ fx, w[qx]? = some (sh.2 qx, .inr (12, fx)) ∧ fx[8]? = some (.int (-1)) ∧ fs[29]? = some (.int 1)) {g9 : Nat → Int64} (hg9 : w[qo]? = some (sh.2 qo, .inl (cO, 1, .inr (.inl g9))))
    (k : ∀ (u : en_H × va_W) (b9 : Int32) (H1 : Heap) (locs1 : List Loc) (fs' : List Value), lw_I lw_E LP tys cO cD qx qo qd u.1 u.2 st cx cy fs' → lw_H D A s u.2 H1 locs1 → u.2[qo]? = some (u.1.2 qo, .inl (cO, 1, .inr (.inl g9))) → fs'[30]? = some (.int 0) → W p l e R s m args below meth c H1 locs1 (cells + 8) (slots + 64) Q (F0 m 2092 ls [.int 1])) :
    W p l e R s m args below meth c H locs cells slots Q (F0 m 2089 ls (([.int a1] : List Value).reverse ++ [.ref (sh.2 0)])) := by
  obtain ⟨fx, hwx, f7, f19⟩ := he
  have l19 : (1 : Int) ≤ (1 : Int32).toInt := by decide
  have u19 : (1 : Int32).toInt ≤ (1 : Int) := by decide
  refine lw_mc (lv' := 1) (ρp := [.ref (sh.2 0), .int a1, .int 1]) (As := [.int a1]) F L (ct_X7_conditions_2 hl9 (cx := cx) (cy := cy)) gm_X7_conditions I.hs.2.1 rfl rfl (Nat.le_of_ble_eq_true rfl) (by decide) ⟨Nat.le_trans (Nat.add_le_add_left (Nat.le_of_ble_eq_true rfl) _) hcs.1, Nat.le_trans (Nat.add_le_add_left (Nat.le_of_ble_eq_true rfl) _) hcs.2⟩ hls rfl (lw_pre I.hs.1 (by decide) (Or.inr (by decide))) (I.hO cx cy) (lw_pa (env := k_X7_conditions_2.2.1.1) (fa := k_X7_conditions_2.2.1.2) ⟨⟨0, I.h20, rfl⟩, ⟨a1, rfl, hb1.1, hb1.2⟩, ⟨1, rfl, l19, u19⟩, trivial⟩ (en_ac (lw_f0 I.hs.2.1 rfl f19 rfl) (en_an))) dlw_2089 (fun u res H1 locs1 hrv hpo L1 => ?_)
  obtain ⟨hpx, o8, ho9, ρ9, hPa9, hi9, hres⟩ := hpo
  have ho9 := List.mem_singleton.mp ho9
  subst ho9
  obtain ⟨fs', s1, s2⟩ := lw_fs I.h20 I.hs.2.1 hpx
  have h09 : ρ9[0]? = some (.ref (u.1.2 0)) := by rw [hi9 0 (show 0 < 2 by decide), (hpx.1.at I.h20).2]; rfl
  obtain ⟨fx', hwx', f7'⟩ := lw_kx I hpx (by decide +kernel) hwx f7
  have f19' : fs'[29]? = some (.int (-1)) := lw_exact (lw_hb_ok (b := (29, (-1), (-1))) (by decide +kernel) L1.hD s1 h09 hPa9) (by decide)
  have f30' : fs'[30]? = some (.int 0) := lw_exact (lw_hb_ok (b := (30, 0, 0)) (by decide +kernel) L1.hD s1 h09 hPa9) (by decide)
  have hg8 : u.2[qo]? = some (u.1.2 qo, .inl (cO, 1, .inr (.inl g9))) := by rw [(hpx.1.at I.ho).2]; exact wr_keep hpx I.ho (by decide +kernel) hg9
  have I1 := lw_IqqE (E' := lw_E) hLP I hpx (by decide +kernel) (lw_qall I.hst (by decide +kernel)) (by decide +kernel) (by decide +kernel) s1 ⟨g9, hg8⟩ (lw_Id I hpx (by decide +kernel)) ⟨fx', _, _, hwx', f7', f19', rfl, by decide⟩
  obtain ⟨r9, rfl⟩ := hrv
  obtain ⟨v9, e9, x9, hx9, l9, u9⟩ := hPa9.2.1 2 _ rfl
  subst hx9
  have er : r9 = x9 := Value.int.inj (Option.some.inj ((hres _ rfl).symm.trans e9))
  have er9 : x9 = 1 := Int32.toInt_inj.mp (by rw [show ((1 : Int32)).toInt = 1 from rfl]; have l9 : (1 : Int) ≤ x9.toInt := l9; have u9 : x9.toInt ≤ (1 : Int) := u9; omega)
  rw [er9] at er
  subst er
  refine W.widen (k := cells + 8) (n := slots + 64) (Nat.add_le_add_left (Nat.le_of_ble_eq_true rfl) _) (Nat.add_le_add_left (Nat.le_of_ble_eq_true rfl) _) ?_
  exact k u 0 H1 locs1 fs' I1 L1 hg8 f30'
set_option maxHeartbeats 4000000 in
theorem le_m_0_2 (hl9 : l.stackTraces = false) (hLP : lw_st LP) (F : lw_Fm p R s m args c D tys cO cD A) (L : lw_H D A s w H locs) (I : lw_I E LP tys cO cD qx qo qd sh w st cx cy fs) (hls : ls.size = 9) (hcs : cells + 8 ≤ R.cells ∧ slots + 64 ≤ R.slots) (a1 : Int32) (hb1 : (-1) ≤ a1.toInt ∧ a1.toInt ≤ (-1)) (he : ∃ fx, w[qx]? = some (sh.2 qx, .inr (12, fx)) ∧ fx[8]? = some (.int (-1)) ∧ fs[29]? = some (.int 2)) {g9 : Nat → Int64} (hg9 : w[qo]? = some (sh.2 qo, .inl (cO, 1, .inr (.inl g9))))
    (k : ∀ (u : en_H × va_W) (b9 : Int32) (H1 : Heap) (locs1 : List Loc) (fs' : List Value), lw_I lw_E LP tys cO cD qx qo qd u.1 u.2 st cx cy fs' → lw_H D A s u.2 H1 locs1 → u.2[qo]? = some (u.1.2 qo, .inl (cO, 1, .inr (.inl g9))) → fs'[30]? = some (.int 0) → W p l e R s m args below meth c H1 locs1 (cells + 8) (slots + 64) Q (F0 m 2092 ls [.int 2])) :
    W p l e R s m args below meth c H locs cells slots Q (F0 m 2089 ls (([.int a1] : List Value).reverse ++ [.ref (sh.2 0)])) := by
  obtain ⟨fx, hwx, f7, f19⟩ := he
  have l19 : (2 : Int) ≤ (2 : Int32).toInt := by decide
  have u19 : (2 : Int32).toInt ≤ (2 : Int) := by decide
  refine lw_mc (lv' := 1) (ρp := [.ref (sh.2 0), .int a1, .int 2]) (As := [.int a1]) F L (ct_X7_conditions_3 hl9 (cx := cx) (cy := cy)) gm_X7_conditions I.hs.2.1 rfl rfl (Nat.le_of_ble_eq_true rfl) (by decide) ⟨Nat.le_trans (Nat.add_le_add_left (Nat.le_of_ble_eq_true rfl) _) hcs.1, Nat.le_trans (Nat.add_le_add_left (Nat.le_of_ble_eq_true rfl) _) hcs.2⟩ hls rfl (lw_pre I.hs.1 (by decide) (Or.inr (by decide))) (I.hO cx cy) (lw_pa (env := k_X7_conditions_3.2.1.1) (fa := k_X7_conditions_3.2.1.2) ⟨⟨0, I.h20, rfl⟩, ⟨a1, rfl, hb1.1, hb1.2⟩, ⟨2, rfl, l19, u19⟩, trivial⟩ (en_ac (lw_f0 I.hs.2.1 rfl f19 rfl) (en_an))) dlw_2089 (fun u res H1 locs1 hrv hpo L1 => ?_)
  obtain ⟨hpx, o8, ho9, ρ9, hPa9, hi9, hres⟩ := hpo
  have ho9 := List.mem_singleton.mp ho9
  subst ho9
  obtain ⟨fs', s1, s2⟩ := lw_fs I.h20 I.hs.2.1 hpx
  have h09 : ρ9[0]? = some (.ref (u.1.2 0)) := by rw [hi9 0 (show 0 < 2 by decide), (hpx.1.at I.h20).2]; rfl
  obtain ⟨fx', hwx', f7'⟩ := lw_kx I hpx (by decide +kernel) hwx f7
  have f19' : fs'[29]? = some (.int (-1)) := lw_exact (lw_hb_ok (b := (29, (-1), (-1))) (by decide +kernel) L1.hD s1 h09 hPa9) (by decide)
  have f30' : fs'[30]? = some (.int 0) := lw_exact (lw_hb_ok (b := (30, 0, 0)) (by decide +kernel) L1.hD s1 h09 hPa9) (by decide)
  have hg8 : u.2[qo]? = some (u.1.2 qo, .inl (cO, 1, .inr (.inl g9))) := by rw [(hpx.1.at I.ho).2]; exact wr_keep hpx I.ho (by decide +kernel) hg9
  have I1 := lw_IqqE (E' := lw_E) hLP I hpx (by decide +kernel) (lw_qall I.hst (by decide +kernel)) (by decide +kernel) (by decide +kernel) s1 ⟨g9, hg8⟩ (lw_Id I hpx (by decide +kernel)) ⟨fx', _, _, hwx', f7', f19', rfl, by decide⟩
  obtain ⟨r9, rfl⟩ := hrv
  obtain ⟨v9, e9, x9, hx9, l9, u9⟩ := hPa9.2.1 2 _ rfl
  subst hx9
  have er : r9 = x9 := Value.int.inj (Option.some.inj ((hres _ rfl).symm.trans e9))
  have er9 : x9 = 2 := Int32.toInt_inj.mp (by rw [show ((2 : Int32)).toInt = 2 from rfl]; have l9 : (2 : Int) ≤ x9.toInt := l9; have u9 : x9.toInt ≤ (2 : Int) := u9; omega)
  rw [er9] at er
  subst er
  refine W.widen (k := cells + 8) (n := slots + 64) (Nat.add_le_add_left (Nat.le_of_ble_eq_true rfl) _) (Nat.add_le_add_left (Nat.le_of_ble_eq_true rfl) _) ?_
  exact k u 0 H1 locs1 fs' I1 L1 hg8 f30'
set_option maxHeartbeats 4000000 in
theorem le_m_0_3 (hl9 : l.stackTraces = false) (hLP : lw_st LP) (F : lw_Fm p R s m args c D tys cO cD A) (L : lw_H D A s w H locs) (I : lw_I E LP tys cO cD qx qo qd sh w st cx cy fs) (hls : ls.size = 9) (hcs : cells + 8 ≤ R.cells ∧ slots + 64 ≤ R.slots) (a1 : Int32) (hb1 : (-1) ≤ a1.toInt ∧ a1.toInt ≤ (-1)) (he : ∃ fx, w[qx]? = some (sh.2 qx, .inr (12, fx)) ∧ fx[8]? = some (.int (-1)) ∧ fs[29]? = some (.int 3)) {g9 : Nat → Int64} (hg9 : w[qo]? = some (sh.2 qo, .inl (cO, 1, .inr (.inl g9))))
    (k : ∀ (u : en_H × va_W) (b9 : Int32) (H1 : Heap) (locs1 : List Loc) (fs' : List Value), lw_I lw_E LP tys cO cD qx qo qd u.1 u.2 st cx cy fs' → lw_H D A s u.2 H1 locs1 → u.2[qo]? = some (u.1.2 qo, .inl (cO, 1, .inr (.inl g9))) → fs'[30]? = some (.int 0) → W p l e R s m args below meth c H1 locs1 (cells + 8) (slots + 64) Q (F0 m 2092 ls [.int 3])) :
    W p l e R s m args below meth c H locs cells slots Q (F0 m 2089 ls (([.int a1] : List Value).reverse ++ [.ref (sh.2 0)])) := by
  obtain ⟨fx, hwx, f7, f19⟩ := he
  have l19 : (3 : Int) ≤ (3 : Int32).toInt := by decide
  have u19 : (3 : Int32).toInt ≤ (3 : Int) := by decide
  refine lw_mc (lv' := 1) (ρp := [.ref (sh.2 0), .int a1, .int 3]) (As := [.int a1]) F L (ct_X7_conditions_4 hl9 (cx := cx) (cy := cy)) gm_X7_conditions I.hs.2.1 rfl rfl (Nat.le_of_ble_eq_true rfl) (by decide) ⟨Nat.le_trans (Nat.add_le_add_left (Nat.le_of_ble_eq_true rfl) _) hcs.1, Nat.le_trans (Nat.add_le_add_left (Nat.le_of_ble_eq_true rfl) _) hcs.2⟩ hls rfl (lw_pre I.hs.1 (by decide) (Or.inr (by decide))) (I.hO cx cy) (lw_pa (env := k_X7_conditions_4.2.1.1) (fa := k_X7_conditions_4.2.1.2) ⟨⟨0, I.h20, rfl⟩, ⟨a1, rfl, hb1.1, hb1.2⟩, ⟨3, rfl, l19, u19⟩, trivial⟩ (en_ac (lw_f0 I.hs.2.1 rfl f19 rfl) (en_an))) dlw_2089 (fun u res H1 locs1 hrv hpo L1 => ?_)
  obtain ⟨hpx, o8, ho9, ρ9, hPa9, hi9, hres⟩ := hpo
  have ho9 := List.mem_singleton.mp ho9
  subst ho9
  obtain ⟨fs', s1, s2⟩ := lw_fs I.h20 I.hs.2.1 hpx
  have h09 : ρ9[0]? = some (.ref (u.1.2 0)) := by rw [hi9 0 (show 0 < 2 by decide), (hpx.1.at I.h20).2]; rfl
  obtain ⟨fx', hwx', f7'⟩ := lw_kx I hpx (by decide +kernel) hwx f7
  have f19' : fs'[29]? = some (.int (-1)) := lw_exact (lw_hb_ok (b := (29, (-1), (-1))) (by decide +kernel) L1.hD s1 h09 hPa9) (by decide)
  have f30' : fs'[30]? = some (.int 0) := lw_exact (lw_hb_ok (b := (30, 0, 0)) (by decide +kernel) L1.hD s1 h09 hPa9) (by decide)
  have hg8 : u.2[qo]? = some (u.1.2 qo, .inl (cO, 1, .inr (.inl g9))) := by rw [(hpx.1.at I.ho).2]; exact wr_keep hpx I.ho (by decide +kernel) hg9
  have I1 := lw_IqqE (E' := lw_E) hLP I hpx (by decide +kernel) (lw_qall I.hst (by decide +kernel)) (by decide +kernel) (by decide +kernel) s1 ⟨g9, hg8⟩ (lw_Id I hpx (by decide +kernel)) ⟨fx', _, _, hwx', f7', f19', rfl, by decide⟩
  obtain ⟨r9, rfl⟩ := hrv
  obtain ⟨v9, e9, x9, hx9, l9, u9⟩ := hPa9.2.1 2 _ rfl
  subst hx9
  have er : r9 = x9 := Value.int.inj (Option.some.inj ((hres _ rfl).symm.trans e9))
  have er9 : x9 = 3 := Int32.toInt_inj.mp (by rw [show ((3 : Int32)).toInt = 3 from rfl]; have l9 : (3 : Int) ≤ x9.toInt := l9; have u9 : x9.toInt ≤ (3 : Int) := u9; omega)
  rw [er9] at er
  subst er
  refine W.widen (k := cells + 8) (n := slots + 64) (Nat.add_le_add_left (Nat.le_of_ble_eq_true rfl) _) (Nat.add_le_add_left (Nat.le_of_ble_eq_true rfl) _) ?_
  exact k u 0 H1 locs1 fs' I1 L1 hg8 f30'
set_option maxHeartbeats 4000000 in
theorem le_m_1_m1 (hl9 : l.stackTraces = false) (hLP : lw_st LP) (F : lw_Fm p R s m args c D tys cO cD A) (L : lw_H D A s w H locs) (I : lw_I E LP tys cO cD qx qo qd sh w st cx cy fs) (hls : ls.size = 9) (hcs : cells + 8 ≤ R.cells ∧ slots + 64 ≤ R.slots) (a1 : Int32) (hb1 : 0 ≤ a1.toInt ∧ a1.toInt ≤ 0) (he : ∃ fx, w[qx]? = some (sh.2 qx, .inr (12, fx)) ∧ fx[8]? = some (.int 0) ∧ fs[29]? = some (.int (-1))) {g9 : Nat → Int64} (hg9 : w[qo]? = some (sh.2 qo, .inl (cO, 1, .inr (.inl g9))))
    (k : ∀ (u : en_H × va_W) (b9 : Int32) (H1 : Heap) (locs1 : List Loc) (fs' : List Value), lw_I lw_E LP tys cO cD qx qo qd u.1 u.2 st cx cy fs' → lw_H D A s u.2 H1 locs1 → u.2[qo]? = some (u.1.2 qo, .inl (cO, 1, .inr (.inl g9))) → fs'[30]? = some (.int 0) → W p l e R s m args below meth c H1 locs1 (cells + 8) (slots + 64) Q (F0 m 2092 ls [.int (-1)])) :
    W p l e R s m args below meth c H locs cells slots Q (F0 m 2089 ls (([.int a1] : List Value).reverse ++ [.ref (sh.2 0)])) := by
  obtain ⟨fx, hwx, f7, f19⟩ := he
  have l19 : ((-1) : Int) ≤ ((-1) : Int32).toInt := by decide
  have u19 : ((-1) : Int32).toInt ≤ ((-1) : Int) := by decide
  refine lw_mc (lv' := 1) (ρp := [.ref (sh.2 0), .int a1, .int (-1)]) (As := [.int a1]) F L (ct_X7_conditions_5 hl9 (cx := cx) (cy := cy)) gm_X7_conditions I.hs.2.1 rfl rfl (Nat.le_of_ble_eq_true rfl) (by decide) ⟨Nat.le_trans (Nat.add_le_add_left (Nat.le_of_ble_eq_true rfl) _) hcs.1, Nat.le_trans (Nat.add_le_add_left (Nat.le_of_ble_eq_true rfl) _) hcs.2⟩ hls rfl (lw_pre I.hs.1 (by decide) (Or.inr (by decide))) (I.hO cx cy) (lw_pa (env := k_X7_conditions_5.2.1.1) (fa := k_X7_conditions_5.2.1.2) ⟨⟨0, I.h20, rfl⟩, ⟨a1, rfl, hb1.1, hb1.2⟩, ⟨(-1), rfl, l19, u19⟩, trivial⟩ (en_ac (lw_f0 I.hs.2.1 rfl f19 rfl) (en_an))) dlw_2089 (fun u res H1 locs1 hrv hpo L1 => ?_)
  obtain ⟨hpx, o8, ho9, ρ9, hPa9, hi9, hres⟩ := hpo
  have ho9 := List.mem_singleton.mp ho9
  subst ho9
  obtain ⟨fs', s1, s2⟩ := lw_fs I.h20 I.hs.2.1 hpx
  have h09 : ρ9[0]? = some (.ref (u.1.2 0)) := by rw [hi9 0 (show 0 < 2 by decide), (hpx.1.at I.h20).2]; rfl
  obtain ⟨fx', hwx', f7'⟩ := lw_kx I hpx (by decide +kernel) hwx f7
  have f19' : fs'[29]? = some (.int 0) := lw_exact (lw_hb_ok (b := (29, 0, 0)) (by decide +kernel) L1.hD s1 h09 hPa9) (by decide)
  have f30' : fs'[30]? = some (.int 0) := lw_exact (lw_hb_ok (b := (30, 0, 0)) (by decide +kernel) L1.hD s1 h09 hPa9) (by decide)
  have hg8 : u.2[qo]? = some (u.1.2 qo, .inl (cO, 1, .inr (.inl g9))) := by rw [(hpx.1.at I.ho).2]; exact wr_keep hpx I.ho (by decide +kernel) hg9
  have I1 := lw_IqqE (E' := lw_E) hLP I hpx (by decide +kernel) (lw_qall I.hst (by decide +kernel)) (by decide +kernel) (by decide +kernel) s1 ⟨g9, hg8⟩ (lw_Id I hpx (by decide +kernel)) ⟨fx', _, _, hwx', f7', f19', rfl, by decide⟩
  obtain ⟨r9, rfl⟩ := hrv
  obtain ⟨v9, e9, x9, hx9, l9, u9⟩ := hPa9.2.1 2 _ rfl
  subst hx9
  have er : r9 = x9 := Value.int.inj (Option.some.inj ((hres _ rfl).symm.trans e9))
  have er9 : x9 = (-1) := Int32.toInt_inj.mp (by rw [show (((-1) : Int32)).toInt = (-1) from rfl]; have l9 : ((-1) : Int) ≤ x9.toInt := l9; have u9 : x9.toInt ≤ ((-1) : Int) := u9; omega)
  rw [er9] at er
  subst er
  refine W.widen (k := cells + 8) (n := slots + 64) (Nat.add_le_add_left (Nat.le_of_ble_eq_true rfl) _) (Nat.add_le_add_left (Nat.le_of_ble_eq_true rfl) _) ?_
  exact k u 0 H1 locs1 fs' I1 L1 hg8 f30'
set_option maxHeartbeats 4000000 in
theorem le_m_1_0 (hl9 : l.stackTraces = false) (hLP : lw_st LP) (F : lw_Fm p R s m args c D tys cO cD A) (L : lw_H D A s w H locs) (I : lw_I E LP tys cO cD qx qo qd sh w st cx cy fs) (hls : ls.size = 9) (hcs : cells + 8 ≤ R.cells ∧ slots + 64 ≤ R.slots) (a1 : Int32) (hb1 : 0 ≤ a1.toInt ∧ a1.toInt ≤ 0) (he : ∃ fx, w[qx]? = some (sh.2 qx, .inr (12, fx)) ∧ fx[8]? = some (.int 0) ∧ fs[29]? = some (.int 0)) {g9 : Nat → Int64} (hg9 : w[qo]? = some (sh.2 qo, .inl (cO, 1, .inr (.inl g9))))
    (k : ∀ (u : en_H × va_W) (b9 : Int32) (H1 : Heap) (locs1 : List Loc) (fs' : List Value), lw_I lw_E LP tys cO cD qx qo qd u.1 u.2 st cx cy fs' → lw_H D A s u.2 H1 locs1 → u.2[qo]? = some (u.1.2 qo, .inl (cO, 1, .inr (.inl g9))) → fs'[30]? = some (.int 0) → W p l e R s m args below meth c H1 locs1 (cells + 8) (slots + 64) Q (F0 m 2092 ls [.int 0])) :
    W p l e R s m args below meth c H locs cells slots Q (F0 m 2089 ls (([.int a1] : List Value).reverse ++ [.ref (sh.2 0)])) := by
  obtain ⟨fx, hwx, f7, f19⟩ := he
  have l19 : (0 : Int) ≤ (0 : Int32).toInt := by decide
  have u19 : (0 : Int32).toInt ≤ (0 : Int) := by decide
  refine lw_mc (lv' := 1) (ρp := [.ref (sh.2 0), .int a1, .int 0]) (As := [.int a1]) F L (ct_X7_conditions_6 hl9 (cx := cx) (cy := cy)) gm_X7_conditions I.hs.2.1 rfl rfl (Nat.le_of_ble_eq_true rfl) (by decide) ⟨Nat.le_trans (Nat.add_le_add_left (Nat.le_of_ble_eq_true rfl) _) hcs.1, Nat.le_trans (Nat.add_le_add_left (Nat.le_of_ble_eq_true rfl) _) hcs.2⟩ hls rfl (lw_pre I.hs.1 (by decide) (Or.inr (by decide))) (I.hO cx cy) (lw_pa (env := k_X7_conditions_6.2.1.1) (fa := k_X7_conditions_6.2.1.2) ⟨⟨0, I.h20, rfl⟩, ⟨a1, rfl, hb1.1, hb1.2⟩, ⟨0, rfl, l19, u19⟩, trivial⟩ (en_ac (lw_f0 I.hs.2.1 rfl f19 rfl) (en_an))) dlw_2089 (fun u res H1 locs1 hrv hpo L1 => ?_)
  obtain ⟨hpx, o8, ho9, ρ9, hPa9, hi9, hres⟩ := hpo
  have ho9 := List.mem_singleton.mp ho9
  subst ho9
  obtain ⟨fs', s1, s2⟩ := lw_fs I.h20 I.hs.2.1 hpx
  have h09 : ρ9[0]? = some (.ref (u.1.2 0)) := by rw [hi9 0 (show 0 < 2 by decide), (hpx.1.at I.h20).2]; rfl
  obtain ⟨fx', hwx', f7'⟩ := lw_kx I hpx (by decide +kernel) hwx f7
  have f19' : fs'[29]? = some (.int 0) := lw_exact (lw_hb_ok (b := (29, 0, 0)) (by decide +kernel) L1.hD s1 h09 hPa9) (by decide)
  have f30' : fs'[30]? = some (.int 0) := lw_exact (lw_hb_ok (b := (30, 0, 0)) (by decide +kernel) L1.hD s1 h09 hPa9) (by decide)
  have hg8 : u.2[qo]? = some (u.1.2 qo, .inl (cO, 1, .inr (.inl g9))) := by rw [(hpx.1.at I.ho).2]; exact wr_keep hpx I.ho (by decide +kernel) hg9
  have I1 := lw_IqqE (E' := lw_E) hLP I hpx (by decide +kernel) (lw_qall I.hst (by decide +kernel)) (by decide +kernel) (by decide +kernel) s1 ⟨g9, hg8⟩ (lw_Id I hpx (by decide +kernel)) ⟨fx', _, _, hwx', f7', f19', rfl, by decide⟩
  obtain ⟨r9, rfl⟩ := hrv
  obtain ⟨v9, e9, x9, hx9, l9, u9⟩ := hPa9.2.1 2 _ rfl
  subst hx9
  have er : r9 = x9 := Value.int.inj (Option.some.inj ((hres _ rfl).symm.trans e9))
  have er9 : x9 = 0 := Int32.toInt_inj.mp (by rw [show ((0 : Int32)).toInt = 0 from rfl]; have l9 : (0 : Int) ≤ x9.toInt := l9; have u9 : x9.toInt ≤ (0 : Int) := u9; omega)
  rw [er9] at er
  subst er
  refine W.widen (k := cells + 8) (n := slots + 64) (Nat.add_le_add_left (Nat.le_of_ble_eq_true rfl) _) (Nat.add_le_add_left (Nat.le_of_ble_eq_true rfl) _) ?_
  exact k u 0 H1 locs1 fs' I1 L1 hg8 f30'
set_option maxHeartbeats 4000000 in
theorem le_m_1_1 (hl9 : l.stackTraces = false) (hLP : lw_st LP) (F : lw_Fm p R s m args c D tys cO cD A) (L : lw_H D A s w H locs) (I : lw_I E LP tys cO cD qx qo qd sh w st cx cy fs) (hls : ls.size = 9) (hcs : cells + 8 ≤ R.cells ∧ slots + 64 ≤ R.slots) (a1 : Int32) (hb1 : 0 ≤ a1.toInt ∧ a1.toInt ≤ 0) (he : ∃ fx, w[qx]? = some (sh.2 qx, .inr (12, fx)) ∧ fx[8]? = some (.int 0) ∧ fs[29]? = some (.int 1)) {g9 : Nat → Int64} (hg9 : w[qo]? = some (sh.2 qo, .inl (cO, 1, .inr (.inl g9))))
    (k : ∀ (u : en_H × va_W) (b9 : Int32) (H1 : Heap) (locs1 : List Loc) (fs' : List Value), lw_I lw_E LP tys cO cD qx qo qd u.1 u.2 st cx cy fs' → lw_H D A s u.2 H1 locs1 → u.2[qo]? = some (u.1.2 qo, .inl (cO, 1, .inr (.inl g9))) → fs'[30]? = some (.int 0) → W p l e R s m args below meth c H1 locs1 (cells + 8) (slots + 64) Q (F0 m 2092 ls [.int 1])) :
    W p l e R s m args below meth c H locs cells slots Q (F0 m 2089 ls (([.int a1] : List Value).reverse ++ [.ref (sh.2 0)])) := by
  obtain ⟨fx, hwx, f7, f19⟩ := he
  have l19 : (1 : Int) ≤ (1 : Int32).toInt := by decide
  have u19 : (1 : Int32).toInt ≤ (1 : Int) := by decide
  refine lw_mc (lv' := 1) (ρp := [.ref (sh.2 0), .int a1, .int 1]) (As := [.int a1]) F L (ct_X7_conditions_7 hl9 (cx := cx) (cy := cy)) gm_X7_conditions I.hs.2.1 rfl rfl (Nat.le_of_ble_eq_true rfl) (by decide) ⟨Nat.le_trans (Nat.add_le_add_left (Nat.le_of_ble_eq_true rfl) _) hcs.1, Nat.le_trans (Nat.add_le_add_left (Nat.le_of_ble_eq_true rfl) _) hcs.2⟩ hls rfl (lw_pre I.hs.1 (by decide) (Or.inr (by decide))) (I.hO cx cy) (lw_pa (env := k_X7_conditions_7.2.1.1) (fa := k_X7_conditions_7.2.1.2) ⟨⟨0, I.h20, rfl⟩, ⟨a1, rfl, hb1.1, hb1.2⟩, ⟨1, rfl, l19, u19⟩, trivial⟩ (en_ac (lw_f0 I.hs.2.1 rfl f19 rfl) (en_an))) dlw_2089 (fun u res H1 locs1 hrv hpo L1 => ?_)
  obtain ⟨hpx, o8, ho9, ρ9, hPa9, hi9, hres⟩ := hpo
  have ho9 := List.mem_singleton.mp ho9
  subst ho9
  obtain ⟨fs', s1, s2⟩ := lw_fs I.h20 I.hs.2.1 hpx
  have h09 : ρ9[0]? = some (.ref (u.1.2 0)) := by rw [hi9 0 (show 0 < 2 by decide), (hpx.1.at I.h20).2]; rfl
  obtain ⟨fx', hwx', f7'⟩ := lw_kx I hpx (by decide +kernel) hwx f7
  have f19' : fs'[29]? = some (.int 0) := lw_exact (lw_hb_ok (b := (29, 0, 0)) (by decide +kernel) L1.hD s1 h09 hPa9) (by decide)
  have f30' : fs'[30]? = some (.int 0) := lw_exact (lw_hb_ok (b := (30, 0, 0)) (by decide +kernel) L1.hD s1 h09 hPa9) (by decide)
  have hg8 : u.2[qo]? = some (u.1.2 qo, .inl (cO, 1, .inr (.inl g9))) := by rw [(hpx.1.at I.ho).2]; exact wr_keep hpx I.ho (by decide +kernel) hg9
  have I1 := lw_IqqE (E' := lw_E) hLP I hpx (by decide +kernel) (lw_qall I.hst (by decide +kernel)) (by decide +kernel) (by decide +kernel) s1 ⟨g9, hg8⟩ (lw_Id I hpx (by decide +kernel)) ⟨fx', _, _, hwx', f7', f19', rfl, by decide⟩
  obtain ⟨r9, rfl⟩ := hrv
  obtain ⟨v9, e9, x9, hx9, l9, u9⟩ := hPa9.2.1 2 _ rfl
  subst hx9
  have er : r9 = x9 := Value.int.inj (Option.some.inj ((hres _ rfl).symm.trans e9))
  have er9 : x9 = 1 := Int32.toInt_inj.mp (by rw [show ((1 : Int32)).toInt = 1 from rfl]; have l9 : (1 : Int) ≤ x9.toInt := l9; have u9 : x9.toInt ≤ (1 : Int) := u9; omega)
  rw [er9] at er
  subst er
  refine W.widen (k := cells + 8) (n := slots + 64) (Nat.add_le_add_left (Nat.le_of_ble_eq_true rfl) _) (Nat.add_le_add_left (Nat.le_of_ble_eq_true rfl) _) ?_
  exact k u 0 H1 locs1 fs' I1 L1 hg8 f30'
set_option maxHeartbeats 4000000 in
theorem le_m_1_2 (hl9 : l.stackTraces = false) (hLP : lw_st LP) (F : lw_Fm p R s m args c D tys cO cD A) (L : lw_H D A s w H locs) (I : lw_I E LP tys cO cD qx qo qd sh w st cx cy fs) (hls : ls.size = 9) (hcs : cells + 8 ≤ R.cells ∧ slots + 64 ≤ R.slots) (a1 : Int32) (hb1 : 0 ≤ a1.toInt ∧ a1.toInt ≤ 0) (he : ∃ fx, w[qx]? = some (sh.2 qx, .inr (12, fx)) ∧ fx[8]? = some (.int 0) ∧ fs[29]? = some (.int 2)) {g9 : Nat → Int64} (hg9 : w[qo]? = some (sh.2 qo, .inl (cO, 1, .inr (.inl g9))))
    (k : ∀ (u : en_H × va_W) (b9 : Int32) (H1 : Heap) (locs1 : List Loc) (fs' : List Value), lw_I lw_E LP tys cO cD qx qo qd u.1 u.2 st cx cy fs' → lw_H D A s u.2 H1 locs1 → u.2[qo]? = some (u.1.2 qo, .inl (cO, 1, .inr (.inl g9))) → fs'[30]? = some (.int 0) → W p l e R s m args below meth c H1 locs1 (cells + 8) (slots + 64) Q (F0 m 2092 ls [.int 2])) :
    W p l e R s m args below meth c H locs cells slots Q (F0 m 2089 ls (([.int a1] : List Value).reverse ++ [.ref (sh.2 0)])) := by
  obtain ⟨fx, hwx, f7, f19⟩ := he
  have l19 : (2 : Int) ≤ (2 : Int32).toInt := by decide
  have u19 : (2 : Int32).toInt ≤ (2 : Int) := by decide
  refine lw_mc (lv' := 1) (ρp := [.ref (sh.2 0), .int a1, .int 2]) (As := [.int a1]) F L (ct_X7_conditions_8 hl9 (cx := cx) (cy := cy)) gm_X7_conditions I.hs.2.1 rfl rfl (Nat.le_of_ble_eq_true rfl) (by decide) ⟨Nat.le_trans (Nat.add_le_add_left (Nat.le_of_ble_eq_true rfl) _) hcs.1, Nat.le_trans (Nat.add_le_add_left (Nat.le_of_ble_eq_true rfl) _) hcs.2⟩ hls rfl (lw_pre I.hs.1 (by decide) (Or.inr (by decide))) (I.hO cx cy) (lw_pa (env := k_X7_conditions_8.2.1.1) (fa := k_X7_conditions_8.2.1.2) ⟨⟨0, I.h20, rfl⟩, ⟨a1, rfl, hb1.1, hb1.2⟩, ⟨2, rfl, l19, u19⟩, trivial⟩ (en_ac (lw_f0 I.hs.2.1 rfl f19 rfl) (en_an))) dlw_2089 (fun u res H1 locs1 hrv hpo L1 => ?_)
  obtain ⟨hpx, o8, ho9, ρ9, hPa9, hi9, hres⟩ := hpo
  have ho9 := List.mem_singleton.mp ho9
  subst ho9
  obtain ⟨fs', s1, s2⟩ := lw_fs I.h20 I.hs.2.1 hpx
  have h09 : ρ9[0]? = some (.ref (u.1.2 0)) := by rw [hi9 0 (show 0 < 2 by decide), (hpx.1.at I.h20).2]; rfl
  obtain ⟨fx', hwx', f7'⟩ := lw_kx I hpx (by decide +kernel) hwx f7
  have f19' : fs'[29]? = some (.int 0) := lw_exact (lw_hb_ok (b := (29, 0, 0)) (by decide +kernel) L1.hD s1 h09 hPa9) (by decide)
  have f30' : fs'[30]? = some (.int 0) := lw_exact (lw_hb_ok (b := (30, 0, 0)) (by decide +kernel) L1.hD s1 h09 hPa9) (by decide)
  have hg8 : u.2[qo]? = some (u.1.2 qo, .inl (cO, 1, .inr (.inl g9))) := by rw [(hpx.1.at I.ho).2]; exact wr_keep hpx I.ho (by decide +kernel) hg9
  have I1 := lw_IqqE (E' := lw_E) hLP I hpx (by decide +kernel) (lw_qall I.hst (by decide +kernel)) (by decide +kernel) (by decide +kernel) s1 ⟨g9, hg8⟩ (lw_Id I hpx (by decide +kernel)) ⟨fx', _, _, hwx', f7', f19', rfl, by decide⟩
  obtain ⟨r9, rfl⟩ := hrv
  obtain ⟨v9, e9, x9, hx9, l9, u9⟩ := hPa9.2.1 2 _ rfl
  subst hx9
  have er : r9 = x9 := Value.int.inj (Option.some.inj ((hres _ rfl).symm.trans e9))
  have er9 : x9 = 2 := Int32.toInt_inj.mp (by rw [show ((2 : Int32)).toInt = 2 from rfl]; have l9 : (2 : Int) ≤ x9.toInt := l9; have u9 : x9.toInt ≤ (2 : Int) := u9; omega)
  rw [er9] at er
  subst er
  refine W.widen (k := cells + 8) (n := slots + 64) (Nat.add_le_add_left (Nat.le_of_ble_eq_true rfl) _) (Nat.add_le_add_left (Nat.le_of_ble_eq_true rfl) _) ?_
  exact k u 0 H1 locs1 fs' I1 L1 hg8 f30'
set_option maxHeartbeats 4000000 in
theorem le_m_1_3 (hl9 : l.stackTraces = false) (hLP : lw_st LP) (F : lw_Fm p R s m args c D tys cO cD A) (L : lw_H D A s w H locs) (I : lw_I E LP tys cO cD qx qo qd sh w st cx cy fs) (hls : ls.size = 9) (hcs : cells + 8 ≤ R.cells ∧ slots + 64 ≤ R.slots) (a1 : Int32) (hb1 : 0 ≤ a1.toInt ∧ a1.toInt ≤ 0) (he : ∃ fx, w[qx]? = some (sh.2 qx, .inr (12, fx)) ∧ fx[8]? = some (.int 0) ∧ fs[29]? = some (.int 3)) {g9 : Nat → Int64} (hg9 : w[qo]? = some (sh.2 qo, .inl (cO, 1, .inr (.inl g9))))
    (k : ∀ (u : en_H × va_W) (b9 : Int32) (H1 : Heap) (locs1 : List Loc) (fs' : List Value), lw_I lw_E LP tys cO cD qx qo qd u.1 u.2 st cx cy fs' → lw_H D A s u.2 H1 locs1 → u.2[qo]? = some (u.1.2 qo, .inl (cO, 1, .inr (.inl g9))) → fs'[30]? = some (.int 0) → W p l e R s m args below meth c H1 locs1 (cells + 8) (slots + 64) Q (F0 m 2092 ls [.int 3])) :
    W p l e R s m args below meth c H locs cells slots Q (F0 m 2089 ls (([.int a1] : List Value).reverse ++ [.ref (sh.2 0)])) := by
  obtain ⟨fx, hwx, f7, f19⟩ := he
  have l19 : (3 : Int) ≤ (3 : Int32).toInt := by decide
  have u19 : (3 : Int32).toInt ≤ (3 : Int) := by decide
  refine lw_mc (lv' := 1) (ρp := [.ref (sh.2 0), .int a1, .int 3]) (As := [.int a1]) F L (ct_X7_conditions_9 hl9 (cx := cx) (cy := cy)) gm_X7_conditions I.hs.2.1 rfl rfl (Nat.le_of_ble_eq_true rfl) (by decide) ⟨Nat.le_trans (Nat.add_le_add_left (Nat.le_of_ble_eq_true rfl) _) hcs.1, Nat.le_trans (Nat.add_le_add_left (Nat.le_of_ble_eq_true rfl) _) hcs.2⟩ hls rfl (lw_pre I.hs.1 (by decide) (Or.inr (by decide))) (I.hO cx cy) (lw_pa (env := k_X7_conditions_9.2.1.1) (fa := k_X7_conditions_9.2.1.2) ⟨⟨0, I.h20, rfl⟩, ⟨a1, rfl, hb1.1, hb1.2⟩, ⟨3, rfl, l19, u19⟩, trivial⟩ (en_ac (lw_f0 I.hs.2.1 rfl f19 rfl) (en_an))) dlw_2089 (fun u res H1 locs1 hrv hpo L1 => ?_)
  obtain ⟨hpx, o8, ho9, ρ9, hPa9, hi9, hres⟩ := hpo
  have ho9 := List.mem_singleton.mp ho9
  subst ho9
  obtain ⟨fs', s1, s2⟩ := lw_fs I.h20 I.hs.2.1 hpx
  have h09 : ρ9[0]? = some (.ref (u.1.2 0)) := by rw [hi9 0 (show 0 < 2 by decide), (hpx.1.at I.h20).2]; rfl
  obtain ⟨fx', hwx', f7'⟩ := lw_kx I hpx (by decide +kernel) hwx f7
  have f19' : fs'[29]? = some (.int 0) := lw_exact (lw_hb_ok (b := (29, 0, 0)) (by decide +kernel) L1.hD s1 h09 hPa9) (by decide)
  have f30' : fs'[30]? = some (.int 0) := lw_exact (lw_hb_ok (b := (30, 0, 0)) (by decide +kernel) L1.hD s1 h09 hPa9) (by decide)
  have hg8 : u.2[qo]? = some (u.1.2 qo, .inl (cO, 1, .inr (.inl g9))) := by rw [(hpx.1.at I.ho).2]; exact wr_keep hpx I.ho (by decide +kernel) hg9
  have I1 := lw_IqqE (E' := lw_E) hLP I hpx (by decide +kernel) (lw_qall I.hst (by decide +kernel)) (by decide +kernel) (by decide +kernel) s1 ⟨g9, hg8⟩ (lw_Id I hpx (by decide +kernel)) ⟨fx', _, _, hwx', f7', f19', rfl, by decide⟩
  obtain ⟨r9, rfl⟩ := hrv
  obtain ⟨v9, e9, x9, hx9, l9, u9⟩ := hPa9.2.1 2 _ rfl
  subst hx9
  have er : r9 = x9 := Value.int.inj (Option.some.inj ((hres _ rfl).symm.trans e9))
  have er9 : x9 = 3 := Int32.toInt_inj.mp (by rw [show ((3 : Int32)).toInt = 3 from rfl]; have l9 : (3 : Int) ≤ x9.toInt := l9; have u9 : x9.toInt ≤ (3 : Int) := u9; omega)
  rw [er9] at er
  subst er
  refine W.widen (k := cells + 8) (n := slots + 64) (Nat.add_le_add_left (Nat.le_of_ble_eq_true rfl) _) (Nat.add_le_add_left (Nat.le_of_ble_eq_true rfl) _) ?_
  exact k u 0 H1 locs1 fs' I1 L1 hg8 f30'
set_option maxHeartbeats 4000000 in
theorem le_m_2_m1 (hl9 : l.stackTraces = false) (hLP : lw_st LP) (F : lw_Fm p R s m args c D tys cO cD A) (L : lw_H D A s w H locs) (I : lw_I E LP tys cO cD qx qo qd sh w st cx cy fs) (hls : ls.size = 9) (hcs : cells + 8 ≤ R.cells ∧ slots + 64 ≤ R.slots) (a1 : Int32) (hb1 : 1 ≤ a1.toInt ∧ a1.toInt ≤ 1) (he : ∃ fx, w[qx]? = some (sh.2 qx, .inr (12, fx)) ∧ fx[8]? = some (.int 1) ∧ fs[29]? = some (.int (-1))) {g9 : Nat → Int64} (hg9 : w[qo]? = some (sh.2 qo, .inl (cO, 1, .inr (.inl g9))))
    (k : ∀ (u : en_H × va_W) (b9 : Int32) (H1 : Heap) (locs1 : List Loc) (fs' : List Value), lw_I lw_E LP tys cO cD qx qo qd u.1 u.2 st cx cy fs' → lw_H D A s u.2 H1 locs1 → u.2[qo]? = some (u.1.2 qo, .inl (cO, 1, .inr (.inl g9))) → fs'[30]? = some (.int 0) → W p l e R s m args below meth c H1 locs1 (cells + 8) (slots + 64) Q (F0 m 2092 ls [.int (-1)])) :
    W p l e R s m args below meth c H locs cells slots Q (F0 m 2089 ls (([.int a1] : List Value).reverse ++ [.ref (sh.2 0)])) := by
  obtain ⟨fx, hwx, f7, f19⟩ := he
  have l19 : ((-1) : Int) ≤ ((-1) : Int32).toInt := by decide
  have u19 : ((-1) : Int32).toInt ≤ ((-1) : Int) := by decide
  refine lw_mc (lv' := 1) (ρp := [.ref (sh.2 0), .int a1, .int (-1)]) (As := [.int a1]) F L (ct_X7_conditions_10 hl9 (cx := cx) (cy := cy)) gm_X7_conditions I.hs.2.1 rfl rfl (Nat.le_of_ble_eq_true rfl) (by decide) ⟨Nat.le_trans (Nat.add_le_add_left (Nat.le_of_ble_eq_true rfl) _) hcs.1, Nat.le_trans (Nat.add_le_add_left (Nat.le_of_ble_eq_true rfl) _) hcs.2⟩ hls rfl (lw_pre I.hs.1 (by decide) (Or.inr (by decide))) (I.hO cx cy) (lw_pa (env := k_X7_conditions_10.2.1.1) (fa := k_X7_conditions_10.2.1.2) ⟨⟨0, I.h20, rfl⟩, ⟨a1, rfl, hb1.1, hb1.2⟩, ⟨(-1), rfl, l19, u19⟩, trivial⟩ (en_ac (lw_f0 I.hs.2.1 rfl f19 rfl) (en_an))) dlw_2089 (fun u res H1 locs1 hrv hpo L1 => ?_)
  obtain ⟨hpx, o8, ho9, ρ9, hPa9, hi9, hres⟩ := hpo
  have ho9 := List.mem_singleton.mp ho9
  subst ho9
  obtain ⟨fs', s1, s2⟩ := lw_fs I.h20 I.hs.2.1 hpx
  have h09 : ρ9[0]? = some (.ref (u.1.2 0)) := by rw [hi9 0 (show 0 < 2 by decide), (hpx.1.at I.h20).2]; rfl
  obtain ⟨fx', hwx', f7'⟩ := lw_kx I hpx (by decide +kernel) hwx f7
  have f19' : fs'[29]? = some (.int 1) := lw_exact (lw_hb_ok (b := (29, 1, 1)) (by decide +kernel) L1.hD s1 h09 hPa9) (by decide)
  have f30' : fs'[30]? = some (.int 0) := lw_exact (lw_hb_ok (b := (30, 0, 0)) (by decide +kernel) L1.hD s1 h09 hPa9) (by decide)
  have hg8 : u.2[qo]? = some (u.1.2 qo, .inl (cO, 1, .inr (.inl g9))) := by rw [(hpx.1.at I.ho).2]; exact wr_keep hpx I.ho (by decide +kernel) hg9
  have I1 := lw_IqqE (E' := lw_E) hLP I hpx (by decide +kernel) (lw_qall I.hst (by decide +kernel)) (by decide +kernel) (by decide +kernel) s1 ⟨g9, hg8⟩ (lw_Id I hpx (by decide +kernel)) ⟨fx', _, _, hwx', f7', f19', rfl, by decide⟩
  obtain ⟨r9, rfl⟩ := hrv
  obtain ⟨v9, e9, x9, hx9, l9, u9⟩ := hPa9.2.1 2 _ rfl
  subst hx9
  have er : r9 = x9 := Value.int.inj (Option.some.inj ((hres _ rfl).symm.trans e9))
  have er9 : x9 = (-1) := Int32.toInt_inj.mp (by rw [show (((-1) : Int32)).toInt = (-1) from rfl]; have l9 : ((-1) : Int) ≤ x9.toInt := l9; have u9 : x9.toInt ≤ ((-1) : Int) := u9; omega)
  rw [er9] at er
  subst er
  refine W.widen (k := cells + 8) (n := slots + 64) (Nat.add_le_add_left (Nat.le_of_ble_eq_true rfl) _) (Nat.add_le_add_left (Nat.le_of_ble_eq_true rfl) _) ?_
  exact k u 0 H1 locs1 fs' I1 L1 hg8 f30'
set_option maxHeartbeats 4000000 in
theorem le_m_2_0 (hl9 : l.stackTraces = false) (hLP : lw_st LP) (F : lw_Fm p R s m args c D tys cO cD A) (L : lw_H D A s w H locs) (I : lw_I E LP tys cO cD qx qo qd sh w st cx cy fs) (hls : ls.size = 9) (hcs : cells + 8 ≤ R.cells ∧ slots + 64 ≤ R.slots) (a1 : Int32) (hb1 : 1 ≤ a1.toInt ∧ a1.toInt ≤ 1) (he : ∃ fx, w[qx]? = some (sh.2 qx, .inr (12, fx)) ∧ fx[8]? = some (.int 1) ∧ fs[29]? = some (.int 0)) {g9 : Nat → Int64} (hg9 : w[qo]? = some (sh.2 qo, .inl (cO, 1, .inr (.inl g9))))
    (k : ∀ (u : en_H × va_W) (b9 : Int32) (H1 : Heap) (locs1 : List Loc) (fs' : List Value), lw_I lw_E LP tys cO cD qx qo qd u.1 u.2 st cx cy fs' → lw_H D A s u.2 H1 locs1 → u.2[qo]? = some (u.1.2 qo, .inl (cO, 1, .inr (.inl g9))) → fs'[30]? = some (.int 0) → W p l e R s m args below meth c H1 locs1 (cells + 8) (slots + 64) Q (F0 m 2092 ls [.int 0])) :
    W p l e R s m args below meth c H locs cells slots Q (F0 m 2089 ls (([.int a1] : List Value).reverse ++ [.ref (sh.2 0)])) := by
  obtain ⟨fx, hwx, f7, f19⟩ := he
  have l19 : (0 : Int) ≤ (0 : Int32).toInt := by decide
  have u19 : (0 : Int32).toInt ≤ (0 : Int) := by decide
  refine lw_mc (lv' := 1) (ρp := [.ref (sh.2 0), .int a1, .int 0]) (As := [.int a1]) F L (ct_X7_conditions_11 hl9 (cx := cx) (cy := cy)) gm_X7_conditions I.hs.2.1 rfl rfl (Nat.le_of_ble_eq_true rfl) (by decide) ⟨Nat.le_trans (Nat.add_le_add_left (Nat.le_of_ble_eq_true rfl) _) hcs.1, Nat.le_trans (Nat.add_le_add_left (Nat.le_of_ble_eq_true rfl) _) hcs.2⟩ hls rfl (lw_pre I.hs.1 (by decide) (Or.inr (by decide))) (I.hO cx cy) (lw_pa (env := k_X7_conditions_11.2.1.1) (fa := k_X7_conditions_11.2.1.2) ⟨⟨0, I.h20, rfl⟩, ⟨a1, rfl, hb1.1, hb1.2⟩, ⟨0, rfl, l19, u19⟩, trivial⟩ (en_ac (lw_f0 I.hs.2.1 rfl f19 rfl) (en_an))) dlw_2089 (fun u res H1 locs1 hrv hpo L1 => ?_)
  obtain ⟨hpx, o8, ho9, ρ9, hPa9, hi9, hres⟩ := hpo
  have ho9 := List.mem_singleton.mp ho9
  subst ho9
  obtain ⟨fs', s1, s2⟩ := lw_fs I.h20 I.hs.2.1 hpx
  have h09 : ρ9[0]? = some (.ref (u.1.2 0)) := by rw [hi9 0 (show 0 < 2 by decide), (hpx.1.at I.h20).2]; rfl
  obtain ⟨fx', hwx', f7'⟩ := lw_kx I hpx (by decide +kernel) hwx f7
  have f19' : fs'[29]? = some (.int 1) := lw_exact (lw_hb_ok (b := (29, 1, 1)) (by decide +kernel) L1.hD s1 h09 hPa9) (by decide)
  have f30' : fs'[30]? = some (.int 0) := lw_exact (lw_hb_ok (b := (30, 0, 0)) (by decide +kernel) L1.hD s1 h09 hPa9) (by decide)
  have hg8 : u.2[qo]? = some (u.1.2 qo, .inl (cO, 1, .inr (.inl g9))) := by rw [(hpx.1.at I.ho).2]; exact wr_keep hpx I.ho (by decide +kernel) hg9
  have I1 := lw_IqqE (E' := lw_E) hLP I hpx (by decide +kernel) (lw_qall I.hst (by decide +kernel)) (by decide +kernel) (by decide +kernel) s1 ⟨g9, hg8⟩ (lw_Id I hpx (by decide +kernel)) ⟨fx', _, _, hwx', f7', f19', rfl, by decide⟩
  obtain ⟨r9, rfl⟩ := hrv
  obtain ⟨v9, e9, x9, hx9, l9, u9⟩ := hPa9.2.1 2 _ rfl
  subst hx9
  have er : r9 = x9 := Value.int.inj (Option.some.inj ((hres _ rfl).symm.trans e9))
  have er9 : x9 = 0 := Int32.toInt_inj.mp (by rw [show ((0 : Int32)).toInt = 0 from rfl]; have l9 : (0 : Int) ≤ x9.toInt := l9; have u9 : x9.toInt ≤ (0 : Int) := u9; omega)
  rw [er9] at er
  subst er
  refine W.widen (k := cells + 8) (n := slots + 64) (Nat.add_le_add_left (Nat.le_of_ble_eq_true rfl) _) (Nat.add_le_add_left (Nat.le_of_ble_eq_true rfl) _) ?_
  exact k u 0 H1 locs1 fs' I1 L1 hg8 f30'
set_option maxHeartbeats 4000000 in
theorem le_m_2_1 (hl9 : l.stackTraces = false) (hLP : lw_st LP) (F : lw_Fm p R s m args c D tys cO cD A) (L : lw_H D A s w H locs) (I : lw_I E LP tys cO cD qx qo qd sh w st cx cy fs) (hls : ls.size = 9) (hcs : cells + 8 ≤ R.cells ∧ slots + 64 ≤ R.slots) (a1 : Int32) (hb1 : 1 ≤ a1.toInt ∧ a1.toInt ≤ 1) (he : ∃ fx, w[qx]? = some (sh.2 qx, .inr (12, fx)) ∧ fx[8]? = some (.int 1) ∧ fs[29]? = some (.int 1)) {g9 : Nat → Int64} (hg9 : w[qo]? = some (sh.2 qo, .inl (cO, 1, .inr (.inl g9))))
    (k : ∀ (u : en_H × va_W) (b9 : Int32) (H1 : Heap) (locs1 : List Loc) (fs' : List Value), lw_I lw_E LP tys cO cD qx qo qd u.1 u.2 st cx cy fs' → lw_H D A s u.2 H1 locs1 → u.2[qo]? = some (u.1.2 qo, .inl (cO, 1, .inr (.inl g9))) → fs'[30]? = some (.int 0) → W p l e R s m args below meth c H1 locs1 (cells + 8) (slots + 64) Q (F0 m 2092 ls [.int 1])) :
    W p l e R s m args below meth c H locs cells slots Q (F0 m 2089 ls (([.int a1] : List Value).reverse ++ [.ref (sh.2 0)])) := by
  obtain ⟨fx, hwx, f7, f19⟩ := he
  have l19 : (1 : Int) ≤ (1 : Int32).toInt := by decide
  have u19 : (1 : Int32).toInt ≤ (1 : Int) := by decide
  refine lw_mc (lv' := 1) (ρp := [.ref (sh.2 0), .int a1, .int 1]) (As := [.int a1]) F L (ct_X7_conditions_12 hl9 (cx := cx) (cy := cy)) gm_X7_conditions I.hs.2.1 rfl rfl (Nat.le_of_ble_eq_true rfl) (by decide) ⟨Nat.le_trans (Nat.add_le_add_left (Nat.le_of_ble_eq_true rfl) _) hcs.1, Nat.le_trans (Nat.add_le_add_left (Nat.le_of_ble_eq_true rfl) _) hcs.2⟩ hls rfl (lw_pre I.hs.1 (by decide) (Or.inr (by decide))) (I.hO cx cy) (lw_pa (env := k_X7_conditions_12.2.1.1) (fa := k_X7_conditions_12.2.1.2) ⟨⟨0, I.h20, rfl⟩, ⟨a1, rfl, hb1.1, hb1.2⟩, ⟨1, rfl, l19, u19⟩, trivial⟩ (en_ac (lw_f0 I.hs.2.1 rfl f19 rfl) (en_an))) dlw_2089 (fun u res H1 locs1 hrv hpo L1 => ?_)
  obtain ⟨hpx, o8, ho9, ρ9, hPa9, hi9, hres⟩ := hpo
  have ho9 := List.mem_singleton.mp ho9
  subst ho9
  obtain ⟨fs', s1, s2⟩ := lw_fs I.h20 I.hs.2.1 hpx
  have h09 : ρ9[0]? = some (.ref (u.1.2 0)) := by rw [hi9 0 (show 0 < 2 by decide), (hpx.1.at I.h20).2]; rfl
  obtain ⟨fx', hwx', f7'⟩ := lw_kx I hpx (by decide +kernel) hwx f7
  have f19' : fs'[29]? = some (.int 1) := lw_exact (lw_hb_ok (b := (29, 1, 1)) (by decide +kernel) L1.hD s1 h09 hPa9) (by decide)
  have f30' : fs'[30]? = some (.int 0) := lw_exact (lw_hb_ok (b := (30, 0, 0)) (by decide +kernel) L1.hD s1 h09 hPa9) (by decide)
  have hg8 : u.2[qo]? = some (u.1.2 qo, .inl (cO, 1, .inr (.inl g9))) := by rw [(hpx.1.at I.ho).2]; exact wr_keep hpx I.ho (by decide +kernel) hg9
  have I1 := lw_IqqE (E' := lw_E) hLP I hpx (by decide +kernel) (lw_qall I.hst (by decide +kernel)) (by decide +kernel) (by decide +kernel) s1 ⟨g9, hg8⟩ (lw_Id I hpx (by decide +kernel)) ⟨fx', _, _, hwx', f7', f19', rfl, by decide⟩
  obtain ⟨r9, rfl⟩ := hrv
  obtain ⟨v9, e9, x9, hx9, l9, u9⟩ := hPa9.2.1 2 _ rfl
  subst hx9
  have er : r9 = x9 := Value.int.inj (Option.some.inj ((hres _ rfl).symm.trans e9))
  have er9 : x9 = 1 := Int32.toInt_inj.mp (by rw [show ((1 : Int32)).toInt = 1 from rfl]; have l9 : (1 : Int) ≤ x9.toInt := l9; have u9 : x9.toInt ≤ (1 : Int) := u9; omega)
  rw [er9] at er
  subst er
  refine W.widen (k := cells + 8) (n := slots + 64) (Nat.add_le_add_left (Nat.le_of_ble_eq_true rfl) _) (Nat.add_le_add_left (Nat.le_of_ble_eq_true rfl) _) ?_
  exact k u 0 H1 locs1 fs' I1 L1 hg8 f30'
set_option maxHeartbeats 4000000 in
theorem le_m_2_2 (hl9 : l.stackTraces = false) (hLP : lw_st LP) (F : lw_Fm p R s m args c D tys cO cD A) (L : lw_H D A s w H locs) (I : lw_I E LP tys cO cD qx qo qd sh w st cx cy fs) (hls : ls.size = 9) (hcs : cells + 8 ≤ R.cells ∧ slots + 64 ≤ R.slots) (a1 : Int32) (hb1 : 1 ≤ a1.toInt ∧ a1.toInt ≤ 1) (he : ∃ fx, w[qx]? = some (sh.2 qx, .inr (12, fx)) ∧ fx[8]? = some (.int 1) ∧ fs[29]? = some (.int 2)) {g9 : Nat → Int64} (hg9 : w[qo]? = some (sh.2 qo, .inl (cO, 1, .inr (.inl g9))))
    (k : ∀ (u : en_H × va_W) (b9 : Int32) (H1 : Heap) (locs1 : List Loc) (fs' : List Value), lw_I lw_E LP tys cO cD qx qo qd u.1 u.2 st cx cy fs' → lw_H D A s u.2 H1 locs1 → u.2[qo]? = some (u.1.2 qo, .inl (cO, 1, .inr (.inl g9))) → fs'[30]? = some (.int 0) → W p l e R s m args below meth c H1 locs1 (cells + 8) (slots + 64) Q (F0 m 2092 ls [.int 2])) :
    W p l e R s m args below meth c H locs cells slots Q (F0 m 2089 ls (([.int a1] : List Value).reverse ++ [.ref (sh.2 0)])) := by
  obtain ⟨fx, hwx, f7, f19⟩ := he
  have l19 : (2 : Int) ≤ (2 : Int32).toInt := by decide
  have u19 : (2 : Int32).toInt ≤ (2 : Int) := by decide
  refine lw_mc (lv' := 1) (ρp := [.ref (sh.2 0), .int a1, .int 2]) (As := [.int a1]) F L (ct_X7_conditions_13 hl9 (cx := cx) (cy := cy)) gm_X7_conditions I.hs.2.1 rfl rfl (Nat.le_of_ble_eq_true rfl) (by decide) ⟨Nat.le_trans (Nat.add_le_add_left (Nat.le_of_ble_eq_true rfl) _) hcs.1, Nat.le_trans (Nat.add_le_add_left (Nat.le_of_ble_eq_true rfl) _) hcs.2⟩ hls rfl (lw_pre I.hs.1 (by decide) (Or.inr (by decide))) (I.hO cx cy) (lw_pa (env := k_X7_conditions_13.2.1.1) (fa := k_X7_conditions_13.2.1.2) ⟨⟨0, I.h20, rfl⟩, ⟨a1, rfl, hb1.1, hb1.2⟩, ⟨2, rfl, l19, u19⟩, trivial⟩ (en_ac (lw_f0 I.hs.2.1 rfl f19 rfl) (en_an))) dlw_2089 (fun u res H1 locs1 hrv hpo L1 => ?_)
  obtain ⟨hpx, o8, ho9, ρ9, hPa9, hi9, hres⟩ := hpo
  have ho9 := List.mem_singleton.mp ho9
  subst ho9
  obtain ⟨fs', s1, s2⟩ := lw_fs I.h20 I.hs.2.1 hpx
  have h09 : ρ9[0]? = some (.ref (u.1.2 0)) := by rw [hi9 0 (show 0 < 2 by decide), (hpx.1.at I.h20).2]; rfl
  obtain ⟨fx', hwx', f7'⟩ := lw_kx I hpx (by decide +kernel) hwx f7
  have f19' : fs'[29]? = some (.int 1) := lw_exact (lw_hb_ok (b := (29, 1, 1)) (by decide +kernel) L1.hD s1 h09 hPa9) (by decide)
  have f30' : fs'[30]? = some (.int 0) := lw_exact (lw_hb_ok (b := (30, 0, 0)) (by decide +kernel) L1.hD s1 h09 hPa9) (by decide)
  have hg8 : u.2[qo]? = some (u.1.2 qo, .inl (cO, 1, .inr (.inl g9))) := by rw [(hpx.1.at I.ho).2]; exact wr_keep hpx I.ho (by decide +kernel) hg9
  have I1 := lw_IqqE (E' := lw_E) hLP I hpx (by decide +kernel) (lw_qall I.hst (by decide +kernel)) (by decide +kernel) (by decide +kernel) s1 ⟨g9, hg8⟩ (lw_Id I hpx (by decide +kernel)) ⟨fx', _, _, hwx', f7', f19', rfl, by decide⟩
  obtain ⟨r9, rfl⟩ := hrv
  obtain ⟨v9, e9, x9, hx9, l9, u9⟩ := hPa9.2.1 2 _ rfl
  subst hx9
  have er : r9 = x9 := Value.int.inj (Option.some.inj ((hres _ rfl).symm.trans e9))
  have er9 : x9 = 2 := Int32.toInt_inj.mp (by rw [show ((2 : Int32)).toInt = 2 from rfl]; have l9 : (2 : Int) ≤ x9.toInt := l9; have u9 : x9.toInt ≤ (2 : Int) := u9; omega)
  rw [er9] at er
  subst er
  refine W.widen (k := cells + 8) (n := slots + 64) (Nat.add_le_add_left (Nat.le_of_ble_eq_true rfl) _) (Nat.add_le_add_left (Nat.le_of_ble_eq_true rfl) _) ?_
  exact k u 0 H1 locs1 fs' I1 L1 hg8 f30'
set_option maxHeartbeats 4000000 in
theorem le_m_2_3 (hl9 : l.stackTraces = false) (hLP : lw_st LP) (F : lw_Fm p R s m args c D tys cO cD A) (L : lw_H D A s w H locs) (I : lw_I E LP tys cO cD qx qo qd sh w st cx cy fs) (hls : ls.size = 9) (hcs : cells + 8 ≤ R.cells ∧ slots + 64 ≤ R.slots) (a1 : Int32) (hb1 : 1 ≤ a1.toInt ∧ a1.toInt ≤ 1) (he : ∃ fx, w[qx]? = some (sh.2 qx, .inr (12, fx)) ∧ fx[8]? = some (.int 1) ∧ fs[29]? = some (.int 3)) {g9 : Nat → Int64} (hg9 : w[qo]? = some (sh.2 qo, .inl (cO, 1, .inr (.inl g9))))
    (k : ∀ (u : en_H × va_W) (b9 : Int32) (H1 : Heap) (locs1 : List Loc) (fs' : List Value), lw_I lw_E LP tys cO cD qx qo qd u.1 u.2 st cx cy fs' → lw_H D A s u.2 H1 locs1 → u.2[qo]? = some (u.1.2 qo, .inl (cO, 1, .inr (.inl g9))) → fs'[30]? = some (.int 0) → W p l e R s m args below meth c H1 locs1 (cells + 8) (slots + 64) Q (F0 m 2092 ls [.int 3])) :
    W p l e R s m args below meth c H locs cells slots Q (F0 m 2089 ls (([.int a1] : List Value).reverse ++ [.ref (sh.2 0)])) := by
  obtain ⟨fx, hwx, f7, f19⟩ := he
  have l19 : (3 : Int) ≤ (3 : Int32).toInt := by decide
  have u19 : (3 : Int32).toInt ≤ (3 : Int) := by decide
  refine lw_mc (lv' := 1) (ρp := [.ref (sh.2 0), .int a1, .int 3]) (As := [.int a1]) F L (ct_X7_conditions_14 hl9 (cx := cx) (cy := cy)) gm_X7_conditions I.hs.2.1 rfl rfl (Nat.le_of_ble_eq_true rfl) (by decide) ⟨Nat.le_trans (Nat.add_le_add_left (Nat.le_of_ble_eq_true rfl) _) hcs.1, Nat.le_trans (Nat.add_le_add_left (Nat.le_of_ble_eq_true rfl) _) hcs.2⟩ hls rfl (lw_pre I.hs.1 (by decide) (Or.inr (by decide))) (I.hO cx cy) (lw_pa (env := k_X7_conditions_14.2.1.1) (fa := k_X7_conditions_14.2.1.2) ⟨⟨0, I.h20, rfl⟩, ⟨a1, rfl, hb1.1, hb1.2⟩, ⟨3, rfl, l19, u19⟩, trivial⟩ (en_ac (lw_f0 I.hs.2.1 rfl f19 rfl) (en_an))) dlw_2089 (fun u res H1 locs1 hrv hpo L1 => ?_)
  obtain ⟨hpx, o8, ho9, ρ9, hPa9, hi9, hres⟩ := hpo
  have ho9 := List.mem_singleton.mp ho9
  subst ho9
  obtain ⟨fs', s1, s2⟩ := lw_fs I.h20 I.hs.2.1 hpx
  have h09 : ρ9[0]? = some (.ref (u.1.2 0)) := by rw [hi9 0 (show 0 < 2 by decide), (hpx.1.at I.h20).2]; rfl
  obtain ⟨fx', hwx', f7'⟩ := lw_kx I hpx (by decide +kernel) hwx f7
  have f19' : fs'[29]? = some (.int 1) := lw_exact (lw_hb_ok (b := (29, 1, 1)) (by decide +kernel) L1.hD s1 h09 hPa9) (by decide)
  have f30' : fs'[30]? = some (.int 0) := lw_exact (lw_hb_ok (b := (30, 0, 0)) (by decide +kernel) L1.hD s1 h09 hPa9) (by decide)
  have hg8 : u.2[qo]? = some (u.1.2 qo, .inl (cO, 1, .inr (.inl g9))) := by rw [(hpx.1.at I.ho).2]; exact wr_keep hpx I.ho (by decide +kernel) hg9
  have I1 := lw_IqqE (E' := lw_E) hLP I hpx (by decide +kernel) (lw_qall I.hst (by decide +kernel)) (by decide +kernel) (by decide +kernel) s1 ⟨g9, hg8⟩ (lw_Id I hpx (by decide +kernel)) ⟨fx', _, _, hwx', f7', f19', rfl, by decide⟩
  obtain ⟨r9, rfl⟩ := hrv
  obtain ⟨v9, e9, x9, hx9, l9, u9⟩ := hPa9.2.1 2 _ rfl
  subst hx9
  have er : r9 = x9 := Value.int.inj (Option.some.inj ((hres _ rfl).symm.trans e9))
  have er9 : x9 = 3 := Int32.toInt_inj.mp (by rw [show ((3 : Int32)).toInt = 3 from rfl]; have l9 : (3 : Int) ≤ x9.toInt := l9; have u9 : x9.toInt ≤ (3 : Int) := u9; omega)
  rw [er9] at er
  subst er
  refine W.widen (k := cells + 8) (n := slots + 64) (Nat.add_le_add_left (Nat.le_of_ble_eq_true rfl) _) (Nat.add_le_add_left (Nat.le_of_ble_eq_true rfl) _) ?_
  exact k u 0 H1 locs1 fs' I1 L1 hg8 f30'
set_option maxHeartbeats 4000000 in
theorem le_m_3_m1 (hl9 : l.stackTraces = false) (hLP : lw_st LP) (F : lw_Fm p R s m args c D tys cO cD A) (L : lw_H D A s w H locs) (I : lw_I E LP tys cO cD qx qo qd sh w st cx cy fs) (hls : ls.size = 9) (hcs : cells + 8 ≤ R.cells ∧ slots + 64 ≤ R.slots) (a1 : Int32) (hb1 : 2 ≤ a1.toInt ∧ a1.toInt ≤ 2) (he : ∃ fx, w[qx]? = some (sh.2 qx, .inr (12, fx)) ∧ fx[8]? = some (.int 2) ∧ fs[29]? = some (.int (-1))) {g9 : Nat → Int64} (hg9 : w[qo]? = some (sh.2 qo, .inl (cO, 1, .inr (.inl g9))))
    (k : ∀ (u : en_H × va_W) (b9 : Int32) (H1 : Heap) (locs1 : List Loc) (fs' : List Value), lw_I lw_E LP tys cO cD qx qo qd u.1 u.2 st cx cy fs' → lw_H D A s u.2 H1 locs1 → u.2[qo]? = some (u.1.2 qo, .inl (cO, 1, .inr (.inl g9))) → fs'[30]? = some (.int 0) → W p l e R s m args below meth c H1 locs1 (cells + 8) (slots + 64) Q (F0 m 2092 ls [.int (-1)])) :
    W p l e R s m args below meth c H locs cells slots Q (F0 m 2089 ls (([.int a1] : List Value).reverse ++ [.ref (sh.2 0)])) := by
  obtain ⟨fx, hwx, f7, f19⟩ := he
  have l19 : ((-1) : Int) ≤ ((-1) : Int32).toInt := by decide
  have u19 : ((-1) : Int32).toInt ≤ ((-1) : Int) := by decide
  refine lw_mc (lv' := 1) (ρp := [.ref (sh.2 0), .int a1, .int (-1)]) (As := [.int a1]) F L (ct_X7_conditions_15 hl9 (cx := cx) (cy := cy)) gm_X7_conditions I.hs.2.1 rfl rfl (Nat.le_of_ble_eq_true rfl) (by decide) ⟨Nat.le_trans (Nat.add_le_add_left (Nat.le_of_ble_eq_true rfl) _) hcs.1, Nat.le_trans (Nat.add_le_add_left (Nat.le_of_ble_eq_true rfl) _) hcs.2⟩ hls rfl (lw_pre I.hs.1 (by decide) (Or.inr (by decide))) (I.hO cx cy) (lw_pa (env := k_X7_conditions_15.2.1.1) (fa := k_X7_conditions_15.2.1.2) ⟨⟨0, I.h20, rfl⟩, ⟨a1, rfl, hb1.1, hb1.2⟩, ⟨(-1), rfl, l19, u19⟩, trivial⟩ (en_ac (lw_f0 I.hs.2.1 rfl f19 rfl) (en_an))) dlw_2089 (fun u res H1 locs1 hrv hpo L1 => ?_)
  obtain ⟨hpx, o8, ho9, ρ9, hPa9, hi9, hres⟩ := hpo
  have ho9 := List.mem_singleton.mp ho9
  subst ho9
  obtain ⟨fs', s1, s2⟩ := lw_fs I.h20 I.hs.2.1 hpx
  have h09 : ρ9[0]? = some (.ref (u.1.2 0)) := by rw [hi9 0 (show 0 < 2 by decide), (hpx.1.at I.h20).2]; rfl
  obtain ⟨fx', hwx', f7'⟩ := lw_kx I hpx (by decide +kernel) hwx f7
  have f19' : fs'[29]? = some (.int 2) := lw_exact (lw_hb_ok (b := (29, 2, 2)) (by decide +kernel) L1.hD s1 h09 hPa9) (by decide)
  have f30' : fs'[30]? = some (.int 0) := lw_exact (lw_hb_ok (b := (30, 0, 0)) (by decide +kernel) L1.hD s1 h09 hPa9) (by decide)
  have hg8 : u.2[qo]? = some (u.1.2 qo, .inl (cO, 1, .inr (.inl g9))) := by rw [(hpx.1.at I.ho).2]; exact wr_keep hpx I.ho (by decide +kernel) hg9
  have I1 := lw_IqqE (E' := lw_E) hLP I hpx (by decide +kernel) (lw_qall I.hst (by decide +kernel)) (by decide +kernel) (by decide +kernel) s1 ⟨g9, hg8⟩ (lw_Id I hpx (by decide +kernel)) ⟨fx', _, _, hwx', f7', f19', rfl, by decide⟩
  obtain ⟨r9, rfl⟩ := hrv
  obtain ⟨v9, e9, x9, hx9, l9, u9⟩ := hPa9.2.1 2 _ rfl
  subst hx9
  have er : r9 = x9 := Value.int.inj (Option.some.inj ((hres _ rfl).symm.trans e9))
  have er9 : x9 = (-1) := Int32.toInt_inj.mp (by rw [show (((-1) : Int32)).toInt = (-1) from rfl]; have l9 : ((-1) : Int) ≤ x9.toInt := l9; have u9 : x9.toInt ≤ ((-1) : Int) := u9; omega)
  rw [er9] at er
  subst er
  refine W.widen (k := cells + 8) (n := slots + 64) (Nat.add_le_add_left (Nat.le_of_ble_eq_true rfl) _) (Nat.add_le_add_left (Nat.le_of_ble_eq_true rfl) _) ?_
  exact k u 0 H1 locs1 fs' I1 L1 hg8 f30'
set_option maxHeartbeats 4000000 in
theorem le_m_3_0 (hl9 : l.stackTraces = false) (hLP : lw_st LP) (F : lw_Fm p R s m args c D tys cO cD A) (L : lw_H D A s w H locs) (I : lw_I E LP tys cO cD qx qo qd sh w st cx cy fs) (hls : ls.size = 9) (hcs : cells + 8 ≤ R.cells ∧ slots + 64 ≤ R.slots) (a1 : Int32) (hb1 : 2 ≤ a1.toInt ∧ a1.toInt ≤ 2) (he : ∃ fx, w[qx]? = some (sh.2 qx, .inr (12, fx)) ∧ fx[8]? = some (.int 2) ∧ fs[29]? = some (.int 0)) {g9 : Nat → Int64} (hg9 : w[qo]? = some (sh.2 qo, .inl (cO, 1, .inr (.inl g9))))
    (k : ∀ (u : en_H × va_W) (b9 : Int32) (H1 : Heap) (locs1 : List Loc) (fs' : List Value), lw_I lw_E LP tys cO cD qx qo qd u.1 u.2 st cx cy fs' → lw_H D A s u.2 H1 locs1 → u.2[qo]? = some (u.1.2 qo, .inl (cO, 1, .inr (.inl g9))) → fs'[30]? = some (.int 0) → W p l e R s m args below meth c H1 locs1 (cells + 8) (slots + 64) Q (F0 m 2092 ls [.int 0])) :
    W p l e R s m args below meth c H locs cells slots Q (F0 m 2089 ls (([.int a1] : List Value).reverse ++ [.ref (sh.2 0)])) := by
  obtain ⟨fx, hwx, f7, f19⟩ := he
  have l19 : (0 : Int) ≤ (0 : Int32).toInt := by decide
  have u19 : (0 : Int32).toInt ≤ (0 : Int) := by decide
  refine lw_mc (lv' := 1) (ρp := [.ref (sh.2 0), .int a1, .int 0]) (As := [.int a1]) F L (ct_X7_conditions_16 hl9 (cx := cx) (cy := cy)) gm_X7_conditions I.hs.2.1 rfl rfl (Nat.le_of_ble_eq_true rfl) (by decide) ⟨Nat.le_trans (Nat.add_le_add_left (Nat.le_of_ble_eq_true rfl) _) hcs.1, Nat.le_trans (Nat.add_le_add_left (Nat.le_of_ble_eq_true rfl) _) hcs.2⟩ hls rfl (lw_pre I.hs.1 (by decide) (Or.inr (by decide))) (I.hO cx cy) (lw_pa (env := k_X7_conditions_16.2.1.1) (fa := k_X7_conditions_16.2.1.2) ⟨⟨0, I.h20, rfl⟩, ⟨a1, rfl, hb1.1, hb1.2⟩, ⟨0, rfl, l19, u19⟩, trivial⟩ (en_ac (lw_f0 I.hs.2.1 rfl f19 rfl) (en_an))) dlw_2089 (fun u res H1 locs1 hrv hpo L1 => ?_)
  obtain ⟨hpx, o8, ho9, ρ9, hPa9, hi9, hres⟩ := hpo
  have ho9 := List.mem_singleton.mp ho9
  subst ho9
  obtain ⟨fs', s1, s2⟩ := lw_fs I.h20 I.hs.2.1 hpx
  have h09 : ρ9[0]? = some (.ref (u.1.2 0)) := by rw [hi9 0 (show 0 < 2 by decide), (hpx.1.at I.h20).2]; rfl
  obtain ⟨fx', hwx', f7'⟩ := lw_kx I hpx (by decide +kernel) hwx f7
  have f19' : fs'[29]? = some (.int 2) := lw_exact (lw_hb_ok (b := (29, 2, 2)) (by decide +kernel) L1.hD s1 h09 hPa9) (by decide)
  have f30' : fs'[30]? = some (.int 0) := lw_exact (lw_hb_ok (b := (30, 0, 0)) (by decide +kernel) L1.hD s1 h09 hPa9) (by decide)
  have hg8 : u.2[qo]? = some (u.1.2 qo, .inl (cO, 1, .inr (.inl g9))) := by rw [(hpx.1.at I.ho).2]; exact wr_keep hpx I.ho (by decide +kernel) hg9
  have I1 := lw_IqqE (E' := lw_E) hLP I hpx (by decide +kernel) (lw_qall I.hst (by decide +kernel)) (by decide +kernel) (by decide +kernel) s1 ⟨g9, hg8⟩ (lw_Id I hpx (by decide +kernel)) ⟨fx', _, _, hwx', f7', f19', rfl, by decide⟩
  obtain ⟨r9, rfl⟩ := hrv
  obtain ⟨v9, e9, x9, hx9, l9, u9⟩ := hPa9.2.1 2 _ rfl
  subst hx9
  have er : r9 = x9 := Value.int.inj (Option.some.inj ((hres _ rfl).symm.trans e9))
  have er9 : x9 = 0 := Int32.toInt_inj.mp (by rw [show ((0 : Int32)).toInt = 0 from rfl]; have l9 : (0 : Int) ≤ x9.toInt := l9; have u9 : x9.toInt ≤ (0 : Int) := u9; omega)
  rw [er9] at er
  subst er
  refine W.widen (k := cells + 8) (n := slots + 64) (Nat.add_le_add_left (Nat.le_of_ble_eq_true rfl) _) (Nat.add_le_add_left (Nat.le_of_ble_eq_true rfl) _) ?_
  exact k u 0 H1 locs1 fs' I1 L1 hg8 f30'
set_option maxHeartbeats 4000000 in
theorem le_m_3_1 (hl9 : l.stackTraces = false) (hLP : lw_st LP) (F : lw_Fm p R s m args c D tys cO cD A) (L : lw_H D A s w H locs) (I : lw_I E LP tys cO cD qx qo qd sh w st cx cy fs) (hls : ls.size = 9) (hcs : cells + 8 ≤ R.cells ∧ slots + 64 ≤ R.slots) (a1 : Int32) (hb1 : 2 ≤ a1.toInt ∧ a1.toInt ≤ 2) (he : ∃ fx, w[qx]? = some (sh.2 qx, .inr (12, fx)) ∧ fx[8]? = some (.int 2) ∧ fs[29]? = some (.int 1)) {g9 : Nat → Int64} (hg9 : w[qo]? = some (sh.2 qo, .inl (cO, 1, .inr (.inl g9))))
    (k : ∀ (u : en_H × va_W) (b9 : Int32) (H1 : Heap) (locs1 : List Loc) (fs' : List Value), lw_I lw_E LP tys cO cD qx qo qd u.1 u.2 st cx cy fs' → lw_H D A s u.2 H1 locs1 → u.2[qo]? = some (u.1.2 qo, .inl (cO, 1, .inr (.inl g9))) → fs'[30]? = some (.int 0) → W p l e R s m args below meth c H1 locs1 (cells + 8) (slots + 64) Q (F0 m 2092 ls [.int 1])) :
    W p l e R s m args below meth c H locs cells slots Q (F0 m 2089 ls (([.int a1] : List Value).reverse ++ [.ref (sh.2 0)])) := by
  obtain ⟨fx, hwx, f7, f19⟩ := he
  have l19 : (1 : Int) ≤ (1 : Int32).toInt := by decide
  have u19 : (1 : Int32).toInt ≤ (1 : Int) := by decide
  refine lw_mc (lv' := 1) (ρp := [.ref (sh.2 0), .int a1, .int 1]) (As := [.int a1]) F L (ct_X7_conditions_17 hl9 (cx := cx) (cy := cy)) gm_X7_conditions I.hs.2.1 rfl rfl (Nat.le_of_ble_eq_true rfl) (by decide) ⟨Nat.le_trans (Nat.add_le_add_left (Nat.le_of_ble_eq_true rfl) _) hcs.1, Nat.le_trans (Nat.add_le_add_left (Nat.le_of_ble_eq_true rfl) _) hcs.2⟩ hls rfl (lw_pre I.hs.1 (by decide) (Or.inr (by decide))) (I.hO cx cy) (lw_pa (env := k_X7_conditions_17.2.1.1) (fa := k_X7_conditions_17.2.1.2) ⟨⟨0, I.h20, rfl⟩, ⟨a1, rfl, hb1.1, hb1.2⟩, ⟨1, rfl, l19, u19⟩, trivial⟩ (en_ac (lw_f0 I.hs.2.1 rfl f19 rfl) (en_an))) dlw_2089 (fun u res H1 locs1 hrv hpo L1 => ?_)
  obtain ⟨hpx, o8, ho9, ρ9, hPa9, hi9, hres⟩ := hpo
  have ho9 := List.mem_singleton.mp ho9
  subst ho9
  obtain ⟨fs', s1, s2⟩ := lw_fs I.h20 I.hs.2.1 hpx
  have h09 : ρ9[0]? = some (.ref (u.1.2 0)) := by rw [hi9 0 (show 0 < 2 by decide), (hpx.1.at I.h20).2]; rfl
  obtain ⟨fx', hwx', f7'⟩ := lw_kx I hpx (by decide +kernel) hwx f7
  have f19' : fs'[29]? = some (.int 2) := lw_exact (lw_hb_ok (b := (29, 2, 2)) (by decide +kernel) L1.hD s1 h09 hPa9) (by decide)
  have f30' : fs'[30]? = some (.int 0) := lw_exact (lw_hb_ok (b := (30, 0, 0)) (by decide +kernel) L1.hD s1 h09 hPa9) (by decide)
  have hg8 : u.2[qo]? = some (u.1.2 qo, .inl (cO, 1, .inr (.inl g9))) := by rw [(hpx.1.at I.ho).2]; exact wr_keep hpx I.ho (by decide +kernel) hg9
  have I1 := lw_IqqE (E' := lw_E) hLP I hpx (by decide +kernel) (lw_qall I.hst (by decide +kernel)) (by decide +kernel) (by decide +kernel) s1 ⟨g9, hg8⟩ (lw_Id I hpx (by decide +kernel)) ⟨fx', _, _, hwx', f7', f19', rfl, by decide⟩
  obtain ⟨r9, rfl⟩ := hrv
  obtain ⟨v9, e9, x9, hx9, l9, u9⟩ := hPa9.2.1 2 _ rfl
  subst hx9
  have er : r9 = x9 := Value.int.inj (Option.some.inj ((hres _ rfl).symm.trans e9))
  have er9 : x9 = 1 := Int32.toInt_inj.mp (by rw [show ((1 : Int32)).toInt = 1 from rfl]; have l9 : (1 : Int) ≤ x9.toInt := l9; have u9 : x9.toInt ≤ (1 : Int) := u9; omega)
  rw [er9] at er
  subst er
  refine W.widen (k := cells + 8) (n := slots + 64) (Nat.add_le_add_left (Nat.le_of_ble_eq_true rfl) _) (Nat.add_le_add_left (Nat.le_of_ble_eq_true rfl) _) ?_
  exact k u 0 H1 locs1 fs' I1 L1 hg8 f30'
set_option maxHeartbeats 4000000 in
theorem le_m_3_2 (hl9 : l.stackTraces = false) (hLP : lw_st LP) (F : lw_Fm p R s m args c D tys cO cD A) (L : lw_H D A s w H locs) (I : lw_I E LP tys cO cD qx qo qd sh w st cx cy fs) (hls : ls.size = 9) (hcs : cells + 8 ≤ R.cells ∧ slots + 64 ≤ R.slots) (a1 : Int32) (hb1 : 2 ≤ a1.toInt ∧ a1.toInt ≤ 2) (he : ∃ fx, w[qx]? = some (sh.2 qx, .inr (12, fx)) ∧ fx[8]? = some (.int 2) ∧ fs[29]? = some (.int 2)) {g9 : Nat → Int64} (hg9 : w[qo]? = some (sh.2 qo, .inl (cO, 1, .inr (.inl g9))))
    (k : ∀ (u : en_H × va_W) (b9 : Int32) (H1 : Heap) (locs1 : List Loc) (fs' : List Value), lw_I lw_E LP tys cO cD qx qo qd u.1 u.2 st cx cy fs' → lw_H D A s u.2 H1 locs1 → u.2[qo]? = some (u.1.2 qo, .inl (cO, 1, .inr (.inl g9))) → fs'[30]? = some (.int 0) → W p l e R s m args below meth c H1 locs1 (cells + 8) (slots + 64) Q (F0 m 2092 ls [.int 2])) :
    W p l e R s m args below meth c H locs cells slots Q (F0 m 2089 ls (([.int a1] : List Value).reverse ++ [.ref (sh.2 0)])) := by
  obtain ⟨fx, hwx, f7, f19⟩ := he
  have l19 : (2 : Int) ≤ (2 : Int32).toInt := by decide
  have u19 : (2 : Int32).toInt ≤ (2 : Int) := by decide
  refine lw_mc (lv' := 1) (ρp := [.ref (sh.2 0), .int a1, .int 2]) (As := [.int a1]) F L (ct_X7_conditions_18 hl9 (cx := cx) (cy := cy)) gm_X7_conditions I.hs.2.1 rfl rfl (Nat.le_of_ble_eq_true rfl) (by decide) ⟨Nat.le_trans (Nat.add_le_add_left (Nat.le_of_ble_eq_true rfl) _) hcs.1, Nat.le_trans (Nat.add_le_add_left (Nat.le_of_ble_eq_true rfl) _) hcs.2⟩ hls rfl (lw_pre I.hs.1 (by decide) (Or.inr (by decide))) (I.hO cx cy) (lw_pa (env := k_X7_conditions_18.2.1.1) (fa := k_X7_conditions_18.2.1.2) ⟨⟨0, I.h20, rfl⟩, ⟨a1, rfl, hb1.1, hb1.2⟩, ⟨2, rfl, l19, u19⟩, trivial⟩ (en_ac (lw_f0 I.hs.2.1 rfl f19 rfl) (en_an))) dlw_2089 (fun u res H1 locs1 hrv hpo L1 => ?_)
  obtain ⟨hpx, o8, ho9, ρ9, hPa9, hi9, hres⟩ := hpo
  have ho9 := List.mem_singleton.mp ho9
  subst ho9
  obtain ⟨fs', s1, s2⟩ := lw_fs I.h20 I.hs.2.1 hpx
  have h09 : ρ9[0]? = some (.ref (u.1.2 0)) := by rw [hi9 0 (show 0 < 2 by decide), (hpx.1.at I.h20).2]; rfl
  obtain ⟨fx', hwx', f7'⟩ := lw_kx I hpx (by decide +kernel) hwx f7
  have f19' : fs'[29]? = some (.int 2) := lw_exact (lw_hb_ok (b := (29, 2, 2)) (by decide +kernel) L1.hD s1 h09 hPa9) (by decide)
  have f30' : fs'[30]? = some (.int 0) := lw_exact (lw_hb_ok (b := (30, 0, 0)) (by decide +kernel) L1.hD s1 h09 hPa9) (by decide)
  have hg8 : u.2[qo]? = some (u.1.2 qo, .inl (cO, 1, .inr (.inl g9))) := by rw [(hpx.1.at I.ho).2]; exact wr_keep hpx I.ho (by decide +kernel) hg9
  have I1 := lw_IqqE (E' := lw_E) hLP I hpx (by decide +kernel) (lw_qall I.hst (by decide +kernel)) (by decide +kernel) (by decide +kernel) s1 ⟨g9, hg8⟩ (lw_Id I hpx (by decide +kernel)) ⟨fx', _, _, hwx', f7', f19', rfl, by decide⟩
  obtain ⟨r9, rfl⟩ := hrv
  obtain ⟨v9, e9, x9, hx9, l9, u9⟩ := hPa9.2.1 2 _ rfl
  subst hx9
  have er : r9 = x9 := Value.int.inj (Option.some.inj ((hres _ rfl).symm.trans e9))
  have er9 : x9 = 2 := Int32.toInt_inj.mp (by rw [show ((2 : Int32)).toInt = 2 from rfl]; have l9 : (2 : Int) ≤ x9.toInt := l9; have u9 : x9.toInt ≤ (2 : Int) := u9; omega)
  rw [er9] at er
  subst er
  refine W.widen (k := cells + 8) (n := slots + 64) (Nat.add_le_add_left (Nat.le_of_ble_eq_true rfl) _) (Nat.add_le_add_left (Nat.le_of_ble_eq_true rfl) _) ?_
  exact k u 0 H1 locs1 fs' I1 L1 hg8 f30'
set_option maxHeartbeats 4000000 in
theorem le_m_3_3 (hl9 : l.stackTraces = false) (hLP : lw_st LP) (F : lw_Fm p R s m args c D tys cO cD A) (L : lw_H D A s w H locs) (I : lw_I E LP tys cO cD qx qo qd sh w st cx cy fs) (hls : ls.size = 9) (hcs : cells + 8 ≤ R.cells ∧ slots + 64 ≤ R.slots) (a1 : Int32) (hb1 : 2 ≤ a1.toInt ∧ a1.toInt ≤ 2) (he : ∃ fx, w[qx]? = some (sh.2 qx, .inr (12, fx)) ∧ fx[8]? = some (.int 2) ∧ fs[29]? = some (.int 3)) {g9 : Nat → Int64} (hg9 : w[qo]? = some (sh.2 qo, .inl (cO, 1, .inr (.inl g9))))
    (k : ∀ (u : en_H × va_W) (b9 : Int32) (H1 : Heap) (locs1 : List Loc) (fs' : List Value), lw_I lw_E LP tys cO cD qx qo qd u.1 u.2 st cx cy fs' → lw_H D A s u.2 H1 locs1 → u.2[qo]? = some (u.1.2 qo, .inl (cO, 1, .inr (.inl g9))) → fs'[30]? = some (.int 0) → W p l e R s m args below meth c H1 locs1 (cells + 8) (slots + 64) Q (F0 m 2092 ls [.int 3])) :
    W p l e R s m args below meth c H locs cells slots Q (F0 m 2089 ls (([.int a1] : List Value).reverse ++ [.ref (sh.2 0)])) := by
  obtain ⟨fx, hwx, f7, f19⟩ := he
  have l19 : (3 : Int) ≤ (3 : Int32).toInt := by decide
  have u19 : (3 : Int32).toInt ≤ (3 : Int) := by decide
  refine lw_mc (lv' := 1) (ρp := [.ref (sh.2 0), .int a1, .int 3]) (As := [.int a1]) F L (ct_X7_conditions_19 hl9 (cx := cx) (cy := cy)) gm_X7_conditions I.hs.2.1 rfl rfl (Nat.le_of_ble_eq_true rfl) (by decide) ⟨Nat.le_trans (Nat.add_le_add_left (Nat.le_of_ble_eq_true rfl) _) hcs.1, Nat.le_trans (Nat.add_le_add_left (Nat.le_of_ble_eq_true rfl) _) hcs.2⟩ hls rfl (lw_pre I.hs.1 (by decide) (Or.inr (by decide))) (I.hO cx cy) (lw_pa (env := k_X7_conditions_19.2.1.1) (fa := k_X7_conditions_19.2.1.2) ⟨⟨0, I.h20, rfl⟩, ⟨a1, rfl, hb1.1, hb1.2⟩, ⟨3, rfl, l19, u19⟩, trivial⟩ (en_ac (lw_f0 I.hs.2.1 rfl f19 rfl) (en_an))) dlw_2089 (fun u res H1 locs1 hrv hpo L1 => ?_)
  obtain ⟨hpx, o8, ho9, ρ9, hPa9, hi9, hres⟩ := hpo
  have ho9 := List.mem_singleton.mp ho9
  subst ho9
  obtain ⟨fs', s1, s2⟩ := lw_fs I.h20 I.hs.2.1 hpx
  have h09 : ρ9[0]? = some (.ref (u.1.2 0)) := by rw [hi9 0 (show 0 < 2 by decide), (hpx.1.at I.h20).2]; rfl
  obtain ⟨fx', hwx', f7'⟩ := lw_kx I hpx (by decide +kernel) hwx f7
  have f19' : fs'[29]? = some (.int 2) := lw_exact (lw_hb_ok (b := (29, 2, 2)) (by decide +kernel) L1.hD s1 h09 hPa9) (by decide)
  have f30' : fs'[30]? = some (.int 0) := lw_exact (lw_hb_ok (b := (30, 0, 0)) (by decide +kernel) L1.hD s1 h09 hPa9) (by decide)
  have hg8 : u.2[qo]? = some (u.1.2 qo, .inl (cO, 1, .inr (.inl g9))) := by rw [(hpx.1.at I.ho).2]; exact wr_keep hpx I.ho (by decide +kernel) hg9
  have I1 := lw_IqqE (E' := lw_E) hLP I hpx (by decide +kernel) (lw_qall I.hst (by decide +kernel)) (by decide +kernel) (by decide +kernel) s1 ⟨g9, hg8⟩ (lw_Id I hpx (by decide +kernel)) ⟨fx', _, _, hwx', f7', f19', rfl, by decide⟩
  obtain ⟨r9, rfl⟩ := hrv
  obtain ⟨v9, e9, x9, hx9, l9, u9⟩ := hPa9.2.1 2 _ rfl
  subst hx9
  have er : r9 = x9 := Value.int.inj (Option.some.inj ((hres _ rfl).symm.trans e9))
  have er9 : x9 = 3 := Int32.toInt_inj.mp (by rw [show ((3 : Int32)).toInt = 3 from rfl]; have l9 : (3 : Int) ≤ x9.toInt := l9; have u9 : x9.toInt ≤ (3 : Int) := u9; omega)
  rw [er9] at er
  subst er
  refine W.widen (k := cells + 8) (n := slots + 64) (Nat.add_le_add_left (Nat.le_of_ble_eq_true rfl) _) (Nat.add_le_add_left (Nat.le_of_ble_eq_true rfl) _) ?_
  exact k u 0 H1 locs1 fs' I1 L1 hg8 f30'
set_option maxHeartbeats 4000000 in
theorem le_m_4_m1 (hl9 : l.stackTraces = false) (hLP : lw_st LP) (F : lw_Fm p R s m args c D tys cO cD A) (L : lw_H D A s w H locs) (I : lw_I E LP tys cO cD qx qo qd sh w st cx cy fs) (hls : ls.size = 9) (hcs : cells + 8 ≤ R.cells ∧ slots + 64 ≤ R.slots) (a1 : Int32) (hb1 : 3 ≤ a1.toInt ∧ a1.toInt ≤ 3) (he : ∃ fx, w[qx]? = some (sh.2 qx, .inr (12, fx)) ∧ fx[8]? = some (.int 3) ∧ fs[29]? = some (.int (-1))) {g9 : Nat → Int64} (hg9 : w[qo]? = some (sh.2 qo, .inl (cO, 1, .inr (.inl g9))))
    (k : ∀ (u : en_H × va_W) (b9 : Int32) (H1 : Heap) (locs1 : List Loc) (fs' : List Value), lw_I lw_E LP tys cO cD qx qo qd u.1 u.2 st cx cy fs' → lw_H D A s u.2 H1 locs1 → u.2[qo]? = some (u.1.2 qo, .inl (cO, 1, .inr (.inl g9))) → fs'[30]? = some (.int 0) → W p l e R s m args below meth c H1 locs1 (cells + 8) (slots + 64) Q (F0 m 2092 ls [.int (-1)])) :
    W p l e R s m args below meth c H locs cells slots Q (F0 m 2089 ls (([.int a1] : List Value).reverse ++ [.ref (sh.2 0)])) := by
  obtain ⟨fx, hwx, f7, f19⟩ := he
  have l19 : ((-1) : Int) ≤ ((-1) : Int32).toInt := by decide
  have u19 : ((-1) : Int32).toInt ≤ ((-1) : Int) := by decide
  refine lw_mc (lv' := 1) (ρp := [.ref (sh.2 0), .int a1, .int (-1)]) (As := [.int a1]) F L (ct_X7_conditions_20 hl9 (cx := cx) (cy := cy)) gm_X7_conditions I.hs.2.1 rfl rfl (Nat.le_of_ble_eq_true rfl) (by decide) ⟨Nat.le_trans (Nat.add_le_add_left (Nat.le_of_ble_eq_true rfl) _) hcs.1, Nat.le_trans (Nat.add_le_add_left (Nat.le_of_ble_eq_true rfl) _) hcs.2⟩ hls rfl (lw_pre I.hs.1 (by decide) (Or.inr (by decide))) (I.hO cx cy) (lw_pa (env := k_X7_conditions_20.2.1.1) (fa := k_X7_conditions_20.2.1.2) ⟨⟨0, I.h20, rfl⟩, ⟨a1, rfl, hb1.1, hb1.2⟩, ⟨(-1), rfl, l19, u19⟩, trivial⟩ (en_ac (lw_f0 I.hs.2.1 rfl f19 rfl) (en_an))) dlw_2089 (fun u res H1 locs1 hrv hpo L1 => ?_)
  obtain ⟨hpx, o8, ho9, ρ9, hPa9, hi9, hres⟩ := hpo
  have ho9 := List.mem_singleton.mp ho9
  subst ho9
  obtain ⟨fs', s1, s2⟩ := lw_fs I.h20 I.hs.2.1 hpx
  have h09 : ρ9[0]? = some (.ref (u.1.2 0)) := by rw [hi9 0 (show 0 < 2 by decide), (hpx.1.at I.h20).2]; rfl
  obtain ⟨fx', hwx', f7'⟩ := lw_kx I hpx (by decide +kernel) hwx f7
  have f19' : fs'[29]? = some (.int 3) := lw_exact (lw_hb_ok (b := (29, 3, 3)) (by decide +kernel) L1.hD s1 h09 hPa9) (by decide)
  have f30' : fs'[30]? = some (.int 0) := lw_exact (lw_hb_ok (b := (30, 0, 0)) (by decide +kernel) L1.hD s1 h09 hPa9) (by decide)
  have hg8 : u.2[qo]? = some (u.1.2 qo, .inl (cO, 1, .inr (.inl g9))) := by rw [(hpx.1.at I.ho).2]; exact wr_keep hpx I.ho (by decide +kernel) hg9
  have I1 := lw_IqqE (E' := lw_E) hLP I hpx (by decide +kernel) (lw_qall I.hst (by decide +kernel)) (by decide +kernel) (by decide +kernel) s1 ⟨g9, hg8⟩ (lw_Id I hpx (by decide +kernel)) ⟨fx', _, _, hwx', f7', f19', rfl, by decide⟩
  obtain ⟨r9, rfl⟩ := hrv
  obtain ⟨v9, e9, x9, hx9, l9, u9⟩ := hPa9.2.1 2 _ rfl
  subst hx9
  have er : r9 = x9 := Value.int.inj (Option.some.inj ((hres _ rfl).symm.trans e9))
  have er9 : x9 = (-1) := Int32.toInt_inj.mp (by rw [show (((-1) : Int32)).toInt = (-1) from rfl]; have l9 : ((-1) : Int) ≤ x9.toInt := l9; have u9 : x9.toInt ≤ ((-1) : Int) := u9; omega)
  rw [er9] at er
  subst er
  refine W.widen (k := cells + 8) (n := slots + 64) (Nat.add_le_add_left (Nat.le_of_ble_eq_true rfl) _) (Nat.add_le_add_left (Nat.le_of_ble_eq_true rfl) _) ?_
  exact k u 0 H1 locs1 fs' I1 L1 hg8 f30'
set_option maxHeartbeats 4000000 in
theorem le_m_4_0 (hl9 : l.stackTraces = false) (hLP : lw_st LP) (F : lw_Fm p R s m args c D tys cO cD A) (L : lw_H D A s w H locs) (I : lw_I E LP tys cO cD qx qo qd sh w st cx cy fs) (hls : ls.size = 9) (hcs : cells + 8 ≤ R.cells ∧ slots + 64 ≤ R.slots) (a1 : Int32) (hb1 : 3 ≤ a1.toInt ∧ a1.toInt ≤ 3) (he : ∃ fx, w[qx]? = some (sh.2 qx, .inr (12, fx)) ∧ fx[8]? = some (.int 3) ∧ fs[29]? = some (.int 0)) {g9 : Nat → Int64} (hg9 : w[qo]? = some (sh.2 qo, .inl (cO, 1, .inr (.inl g9))))
    (k : ∀ (u : en_H × va_W) (b9 : Int32) (H1 : Heap) (locs1 : List Loc) (fs' : List Value), lw_I lw_E LP tys cO cD qx qo qd u.1 u.2 st cx cy fs' → lw_H D A s u.2 H1 locs1 → u.2[qo]? = some (u.1.2 qo, .inl (cO, 1, .inr (.inl g9))) → fs'[30]? = some (.int 0) → W p l e R s m args below meth c H1 locs1 (cells + 8) (slots + 64) Q (F0 m 2092 ls [.int 0])) :
    W p l e R s m args below meth c H locs cells slots Q (F0 m 2089 ls (([.int a1] : List Value).reverse ++ [.ref (sh.2 0)])) := by
  obtain ⟨fx, hwx, f7, f19⟩ := he
  have l19 : (0 : Int) ≤ (0 : Int32).toInt := by decide
  have u19 : (0 : Int32).toInt ≤ (0 : Int) := by decide
  refine lw_mc (lv' := 1) (ρp := [.ref (sh.2 0), .int a1, .int 0]) (As := [.int a1]) F L (ct_X7_conditions_21 hl9 (cx := cx) (cy := cy)) gm_X7_conditions I.hs.2.1 rfl rfl (Nat.le_of_ble_eq_true rfl) (by decide) ⟨Nat.le_trans (Nat.add_le_add_left (Nat.le_of_ble_eq_true rfl) _) hcs.1, Nat.le_trans (Nat.add_le_add_left (Nat.le_of_ble_eq_true rfl) _) hcs.2⟩ hls rfl (lw_pre I.hs.1 (by decide) (Or.inr (by decide))) (I.hO cx cy) (lw_pa (env := k_X7_conditions_21.2.1.1) (fa := k_X7_conditions_21.2.1.2) ⟨⟨0, I.h20, rfl⟩, ⟨a1, rfl, hb1.1, hb1.2⟩, ⟨0, rfl, l19, u19⟩, trivial⟩ (en_ac (lw_f0 I.hs.2.1 rfl f19 rfl) (en_an))) dlw_2089 (fun u res H1 locs1 hrv hpo L1 => ?_)
  obtain ⟨hpx, o8, ho9, ρ9, hPa9, hi9, hres⟩ := hpo
  have ho9 := List.mem_singleton.mp ho9
  subst ho9
  obtain ⟨fs', s1, s2⟩ := lw_fs I.h20 I.hs.2.1 hpx
  have h09 : ρ9[0]? = some (.ref (u.1.2 0)) := by rw [hi9 0 (show 0 < 2 by decide), (hpx.1.at I.h20).2]; rfl
  obtain ⟨fx', hwx', f7'⟩ := lw_kx I hpx (by decide +kernel) hwx f7
  have f19' : fs'[29]? = some (.int 3) := lw_exact (lw_hb_ok (b := (29, 3, 3)) (by decide +kernel) L1.hD s1 h09 hPa9) (by decide)
  have f30' : fs'[30]? = some (.int 0) := lw_exact (lw_hb_ok (b := (30, 0, 0)) (by decide +kernel) L1.hD s1 h09 hPa9) (by decide)
  have hg8 : u.2[qo]? = some (u.1.2 qo, .inl (cO, 1, .inr (.inl g9))) := by rw [(hpx.1.at I.ho).2]; exact wr_keep hpx I.ho (by decide +kernel) hg9
  have I1 := lw_IqqE (E' := lw_E) hLP I hpx (by decide +kernel) (lw_qall I.hst (by decide +kernel)) (by decide +kernel) (by decide +kernel) s1 ⟨g9, hg8⟩ (lw_Id I hpx (by decide +kernel)) ⟨fx', _, _, hwx', f7', f19', rfl, by decide⟩
  obtain ⟨r9, rfl⟩ := hrv
  obtain ⟨v9, e9, x9, hx9, l9, u9⟩ := hPa9.2.1 2 _ rfl
  subst hx9
  have er : r9 = x9 := Value.int.inj (Option.some.inj ((hres _ rfl).symm.trans e9))
  have er9 : x9 = 0 := Int32.toInt_inj.mp (by rw [show ((0 : Int32)).toInt = 0 from rfl]; have l9 : (0 : Int) ≤ x9.toInt := l9; have u9 : x9.toInt ≤ (0 : Int) := u9; omega)
  rw [er9] at er
  subst er
  refine W.widen (k := cells + 8) (n := slots + 64) (Nat.add_le_add_left (Nat.le_of_ble_eq_true rfl) _) (Nat.add_le_add_left (Nat.le_of_ble_eq_true rfl) _) ?_
  exact k u 0 H1 locs1 fs' I1 L1 hg8 f30'
set_option maxHeartbeats 4000000 in
theorem le_m_4_1 (hl9 : l.stackTraces = false) (hLP : lw_st LP) (F : lw_Fm p R s m args c D tys cO cD A) (L : lw_H D A s w H locs) (I : lw_I E LP tys cO cD qx qo qd sh w st cx cy fs) (hls : ls.size = 9) (hcs : cells + 8 ≤ R.cells ∧ slots + 64 ≤ R.slots) (a1 : Int32) (hb1 : 3 ≤ a1.toInt ∧ a1.toInt ≤ 3) (he : ∃ fx, w[qx]? = some (sh.2 qx, .inr (12, fx)) ∧ fx[8]? = some (.int 3) ∧ fs[29]? = some (.int 1)) {g9 : Nat → Int64} (hg9 : w[qo]? = some (sh.2 qo, .inl (cO, 1, .inr (.inl g9))))
    (k : ∀ (u : en_H × va_W) (b9 : Int32) (H1 : Heap) (locs1 : List Loc) (fs' : List Value), lw_I lw_E LP tys cO cD qx qo qd u.1 u.2 st cx cy fs' → lw_H D A s u.2 H1 locs1 → u.2[qo]? = some (u.1.2 qo, .inl (cO, 1, .inr (.inl g9))) → fs'[30]? = some (.int 0) → W p l e R s m args below meth c H1 locs1 (cells + 8) (slots + 64) Q (F0 m 2092 ls [.int 1])) :
    W p l e R s m args below meth c H locs cells slots Q (F0 m 2089 ls (([.int a1] : List Value).reverse ++ [.ref (sh.2 0)])) := by
  obtain ⟨fx, hwx, f7, f19⟩ := he
  have l19 : (1 : Int) ≤ (1 : Int32).toInt := by decide
  have u19 : (1 : Int32).toInt ≤ (1 : Int) := by decide
  refine lw_mc (lv' := 1) (ρp := [.ref (sh.2 0), .int a1, .int 1]) (As := [.int a1]) F L (ct_X7_conditions_22 hl9 (cx := cx) (cy := cy)) gm_X7_conditions I.hs.2.1 rfl rfl (Nat.le_of_ble_eq_true rfl) (by decide) ⟨Nat.le_trans (Nat.add_le_add_left (Nat.le_of_ble_eq_true rfl) _) hcs.1, Nat.le_trans (Nat.add_le_add_left (Nat.le_of_ble_eq_true rfl) _) hcs.2⟩ hls rfl (lw_pre I.hs.1 (by decide) (Or.inr (by decide))) (I.hO cx cy) (lw_pa (env := k_X7_conditions_22.2.1.1) (fa := k_X7_conditions_22.2.1.2) ⟨⟨0, I.h20, rfl⟩, ⟨a1, rfl, hb1.1, hb1.2⟩, ⟨1, rfl, l19, u19⟩, trivial⟩ (en_ac (lw_f0 I.hs.2.1 rfl f19 rfl) (en_an))) dlw_2089 (fun u res H1 locs1 hrv hpo L1 => ?_)
  obtain ⟨hpx, o8, ho9, ρ9, hPa9, hi9, hres⟩ := hpo
  have ho9 := List.mem_singleton.mp ho9
  subst ho9
  obtain ⟨fs', s1, s2⟩ := lw_fs I.h20 I.hs.2.1 hpx
  have h09 : ρ9[0]? = some (.ref (u.1.2 0)) := by rw [hi9 0 (show 0 < 2 by decide), (hpx.1.at I.h20).2]; rfl
  obtain ⟨fx', hwx', f7'⟩ := lw_kx I hpx (by decide +kernel) hwx f7
  have f19' : fs'[29]? = some (.int 3) := lw_exact (lw_hb_ok (b := (29, 3, 3)) (by decide +kernel) L1.hD s1 h09 hPa9) (by decide)
  have f30' : fs'[30]? = some (.int 0) := lw_exact (lw_hb_ok (b := (30, 0, 0)) (by decide +kernel) L1.hD s1 h09 hPa9) (by decide)
  have hg8 : u.2[qo]? = some (u.1.2 qo, .inl (cO, 1, .inr (.inl g9))) := by rw [(hpx.1.at I.ho).2]; exact wr_keep hpx I.ho (by decide +kernel) hg9
  have I1 := lw_IqqE (E' := lw_E) hLP I hpx (by decide +kernel) (lw_qall I.hst (by decide +kernel)) (by decide +kernel) (by decide +kernel) s1 ⟨g9, hg8⟩ (lw_Id I hpx (by decide +kernel)) ⟨fx', _, _, hwx', f7', f19', rfl, by decide⟩
  obtain ⟨r9, rfl⟩ := hrv
  obtain ⟨v9, e9, x9, hx9, l9, u9⟩ := hPa9.2.1 2 _ rfl
  subst hx9
  have er : r9 = x9 := Value.int.inj (Option.some.inj ((hres _ rfl).symm.trans e9))
  have er9 : x9 = 1 := Int32.toInt_inj.mp (by rw [show ((1 : Int32)).toInt = 1 from rfl]; have l9 : (1 : Int) ≤ x9.toInt := l9; have u9 : x9.toInt ≤ (1 : Int) := u9; omega)
  rw [er9] at er
  subst er
  refine W.widen (k := cells + 8) (n := slots + 64) (Nat.add_le_add_left (Nat.le_of_ble_eq_true rfl) _) (Nat.add_le_add_left (Nat.le_of_ble_eq_true rfl) _) ?_
  exact k u 0 H1 locs1 fs' I1 L1 hg8 f30'
set_option maxHeartbeats 4000000 in
theorem le_m_4_2 (hl9 : l.stackTraces = false) (hLP : lw_st LP) (F : lw_Fm p R s m args c D tys cO cD A) (L : lw_H D A s w H locs) (I : lw_I E LP tys cO cD qx qo qd sh w st cx cy fs) (hls : ls.size = 9) (hcs : cells + 8 ≤ R.cells ∧ slots + 64 ≤ R.slots) (a1 : Int32) (hb1 : 3 ≤ a1.toInt ∧ a1.toInt ≤ 3) (he : ∃ fx, w[qx]? = some (sh.2 qx, .inr (12, fx)) ∧ fx[8]? = some (.int 3) ∧ fs[29]? = some (.int 2)) {g9 : Nat → Int64} (hg9 : w[qo]? = some (sh.2 qo, .inl (cO, 1, .inr (.inl g9))))
    (k : ∀ (u : en_H × va_W) (b9 : Int32) (H1 : Heap) (locs1 : List Loc) (fs' : List Value), lw_I lw_E LP tys cO cD qx qo qd u.1 u.2 st cx cy fs' → lw_H D A s u.2 H1 locs1 → u.2[qo]? = some (u.1.2 qo, .inl (cO, 1, .inr (.inl g9))) → fs'[30]? = some (.int 0) → W p l e R s m args below meth c H1 locs1 (cells + 8) (slots + 64) Q (F0 m 2092 ls [.int 2])) :
    W p l e R s m args below meth c H locs cells slots Q (F0 m 2089 ls (([.int a1] : List Value).reverse ++ [.ref (sh.2 0)])) := by
  obtain ⟨fx, hwx, f7, f19⟩ := he
  have l19 : (2 : Int) ≤ (2 : Int32).toInt := by decide
  have u19 : (2 : Int32).toInt ≤ (2 : Int) := by decide
  refine lw_mc (lv' := 1) (ρp := [.ref (sh.2 0), .int a1, .int 2]) (As := [.int a1]) F L (ct_X7_conditions_23 hl9 (cx := cx) (cy := cy)) gm_X7_conditions I.hs.2.1 rfl rfl (Nat.le_of_ble_eq_true rfl) (by decide) ⟨Nat.le_trans (Nat.add_le_add_left (Nat.le_of_ble_eq_true rfl) _) hcs.1, Nat.le_trans (Nat.add_le_add_left (Nat.le_of_ble_eq_true rfl) _) hcs.2⟩ hls rfl (lw_pre I.hs.1 (by decide) (Or.inr (by decide))) (I.hO cx cy) (lw_pa (env := k_X7_conditions_23.2.1.1) (fa := k_X7_conditions_23.2.1.2) ⟨⟨0, I.h20, rfl⟩, ⟨a1, rfl, hb1.1, hb1.2⟩, ⟨2, rfl, l19, u19⟩, trivial⟩ (en_ac (lw_f0 I.hs.2.1 rfl f19 rfl) (en_an))) dlw_2089 (fun u res H1 locs1 hrv hpo L1 => ?_)
  obtain ⟨hpx, o8, ho9, ρ9, hPa9, hi9, hres⟩ := hpo
  have ho9 := List.mem_singleton.mp ho9
  subst ho9
  obtain ⟨fs', s1, s2⟩ := lw_fs I.h20 I.hs.2.1 hpx
  have h09 : ρ9[0]? = some (.ref (u.1.2 0)) := by rw [hi9 0 (show 0 < 2 by decide), (hpx.1.at I.h20).2]; rfl
  obtain ⟨fx', hwx', f7'⟩ := lw_kx I hpx (by decide +kernel) hwx f7
  have f19' : fs'[29]? = some (.int 3) := lw_exact (lw_hb_ok (b := (29, 3, 3)) (by decide +kernel) L1.hD s1 h09 hPa9) (by decide)
  have f30' : fs'[30]? = some (.int 0) := lw_exact (lw_hb_ok (b := (30, 0, 0)) (by decide +kernel) L1.hD s1 h09 hPa9) (by decide)
  have hg8 : u.2[qo]? = some (u.1.2 qo, .inl (cO, 1, .inr (.inl g9))) := by rw [(hpx.1.at I.ho).2]; exact wr_keep hpx I.ho (by decide +kernel) hg9
  have I1 := lw_IqqE (E' := lw_E) hLP I hpx (by decide +kernel) (lw_qall I.hst (by decide +kernel)) (by decide +kernel) (by decide +kernel) s1 ⟨g9, hg8⟩ (lw_Id I hpx (by decide +kernel)) ⟨fx', _, _, hwx', f7', f19', rfl, by decide⟩
  obtain ⟨r9, rfl⟩ := hrv
  obtain ⟨v9, e9, x9, hx9, l9, u9⟩ := hPa9.2.1 2 _ rfl
  subst hx9
  have er : r9 = x9 := Value.int.inj (Option.some.inj ((hres _ rfl).symm.trans e9))
  have er9 : x9 = 2 := Int32.toInt_inj.mp (by rw [show ((2 : Int32)).toInt = 2 from rfl]; have l9 : (2 : Int) ≤ x9.toInt := l9; have u9 : x9.toInt ≤ (2 : Int) := u9; omega)
  rw [er9] at er
  subst er
  refine W.widen (k := cells + 8) (n := slots + 64) (Nat.add_le_add_left (Nat.le_of_ble_eq_true rfl) _) (Nat.add_le_add_left (Nat.le_of_ble_eq_true rfl) _) ?_
  exact k u 0 H1 locs1 fs' I1 L1 hg8 f30'
set_option maxHeartbeats 4000000 in
theorem le_m_4_3 (hl9 : l.stackTraces = false) (hLP : lw_st LP) (F : lw_Fm p R s m args c D tys cO cD A) (L : lw_H D A s w H locs) (I : lw_I E LP tys cO cD qx qo qd sh w st cx cy fs) (hls : ls.size = 9) (hcs : cells + 8 ≤ R.cells ∧ slots + 64 ≤ R.slots) (a1 : Int32) (hb1 : 3 ≤ a1.toInt ∧ a1.toInt ≤ 3) (he : ∃ fx, w[qx]? = some (sh.2 qx, .inr (12, fx)) ∧ fx[8]? = some (.int 3) ∧ fs[29]? = some (.int 3)) {g9 : Nat → Int64} (hg9 : w[qo]? = some (sh.2 qo, .inl (cO, 1, .inr (.inl g9))))
    (k : ∀ (u : en_H × va_W) (b9 : Int32) (H1 : Heap) (locs1 : List Loc) (fs' : List Value), lw_I lw_E LP tys cO cD qx qo qd u.1 u.2 st cx cy fs' → lw_H D A s u.2 H1 locs1 → u.2[qo]? = some (u.1.2 qo, .inl (cO, 1, .inr (.inl g9))) → fs'[30]? = some (.int 0) → W p l e R s m args below meth c H1 locs1 (cells + 8) (slots + 64) Q (F0 m 2092 ls [.int 3])) :
    W p l e R s m args below meth c H locs cells slots Q (F0 m 2089 ls (([.int a1] : List Value).reverse ++ [.ref (sh.2 0)])) := by
  obtain ⟨fx, hwx, f7, f19⟩ := he
  have l19 : (3 : Int) ≤ (3 : Int32).toInt := by decide
  have u19 : (3 : Int32).toInt ≤ (3 : Int) := by decide
  refine lw_mc (lv' := 1) (ρp := [.ref (sh.2 0), .int a1, .int 3]) (As := [.int a1]) F L (ct_X7_conditions_24 hl9 (cx := cx) (cy := cy)) gm_X7_conditions I.hs.2.1 rfl rfl (Nat.le_of_ble_eq_true rfl) (by decide) ⟨Nat.le_trans (Nat.add_le_add_left (Nat.le_of_ble_eq_true rfl) _) hcs.1, Nat.le_trans (Nat.add_le_add_left (Nat.le_of_ble_eq_true rfl) _) hcs.2⟩ hls rfl (lw_pre I.hs.1 (by decide) (Or.inr (by decide))) (I.hO cx cy) (lw_pa (env := k_X7_conditions_24.2.1.1) (fa := k_X7_conditions_24.2.1.2) ⟨⟨0, I.h20, rfl⟩, ⟨a1, rfl, hb1.1, hb1.2⟩, ⟨3, rfl, l19, u19⟩, trivial⟩ (en_ac (lw_f0 I.hs.2.1 rfl f19 rfl) (en_an))) dlw_2089 (fun u res H1 locs1 hrv hpo L1 => ?_)
  obtain ⟨hpx, o8, ho9, ρ9, hPa9, hi9, hres⟩ := hpo
  have ho9 := List.mem_singleton.mp ho9
  subst ho9
  obtain ⟨fs', s1, s2⟩ := lw_fs I.h20 I.hs.2.1 hpx
  have h09 : ρ9[0]? = some (.ref (u.1.2 0)) := by rw [hi9 0 (show 0 < 2 by decide), (hpx.1.at I.h20).2]; rfl
  obtain ⟨fx', hwx', f7'⟩ := lw_kx I hpx (by decide +kernel) hwx f7
  have f19' : fs'[29]? = some (.int 3) := lw_exact (lw_hb_ok (b := (29, 3, 3)) (by decide +kernel) L1.hD s1 h09 hPa9) (by decide)
  have f30' : fs'[30]? = some (.int 0) := lw_exact (lw_hb_ok (b := (30, 0, 0)) (by decide +kernel) L1.hD s1 h09 hPa9) (by decide)
  have hg8 : u.2[qo]? = some (u.1.2 qo, .inl (cO, 1, .inr (.inl g9))) := by rw [(hpx.1.at I.ho).2]; exact wr_keep hpx I.ho (by decide +kernel) hg9
  have I1 := lw_IqqE (E' := lw_E) hLP I hpx (by decide +kernel) (lw_qall I.hst (by decide +kernel)) (by decide +kernel) (by decide +kernel) s1 ⟨g9, hg8⟩ (lw_Id I hpx (by decide +kernel)) ⟨fx', _, _, hwx', f7', f19', rfl, by decide⟩
  obtain ⟨r9, rfl⟩ := hrv
  obtain ⟨v9, e9, x9, hx9, l9, u9⟩ := hPa9.2.1 2 _ rfl
  subst hx9
  have er : r9 = x9 := Value.int.inj (Option.some.inj ((hres _ rfl).symm.trans e9))
  have er9 : x9 = 3 := Int32.toInt_inj.mp (by rw [show ((3 : Int32)).toInt = 3 from rfl]; have l9 : (3 : Int) ≤ x9.toInt := l9; have u9 : x9.toInt ≤ (3 : Int) := u9; omega)
  rw [er9] at er
  subst er
  refine W.widen (k := cells + 8) (n := slots + 64) (Nat.add_le_add_left (Nat.le_of_ble_eq_true rfl) _) (Nat.add_le_add_left (Nat.le_of_ble_eq_true rfl) _) ?_
  exact k u 0 H1 locs1 fs' I1 L1 hg8 f30'
set_option maxHeartbeats 4000000 in
theorem le_m_5_m1 (hl9 : l.stackTraces = false) (hLP : lw_st LP) (F : lw_Fm p R s m args c D tys cO cD A) (L : lw_H D A s w H locs) (I : lw_I E LP tys cO cD qx qo qd sh w st cx cy fs) (hls : ls.size = 9) (hcs : cells + 8 ≤ R.cells ∧ slots + 64 ≤ R.slots) (a1 : Int32) (hb1 : (-2147483648) ≤ a1.toInt ∧ a1.toInt ≤ (-2)) (he : ∃ fx, w[qx]? = some (sh.2 qx, .inr (12, fx)) ∧ fx[8]? = some (.int (-1)) ∧ fs[29]? = some (.int (-1))) {g9 : Nat → Int64} (hg9 : w[qo]? = some (sh.2 qo, .inl (cO, 1, .inr (.inl g9))))
    (k : ∀ (u : en_H × va_W) (b9 : Int32) (H1 : Heap) (locs1 : List Loc) (fs' : List Value), lw_I lw_E LP tys cO cD qx qo qd u.1 u.2 st cx cy fs' → lw_H D A s u.2 H1 locs1 → u.2[qo]? = some (u.1.2 qo, .inl (cO, 1, .inr (.inl g9))) → fs'[30]? = some (.int 1) → W p l e R s m args below meth c H1 locs1 (cells + 8) (slots + 64) Q (F0 m 2092 ls [.int b9])) :
    W p l e R s m args below meth c H locs cells slots Q (F0 m 2089 ls (([.int a1] : List Value).reverse ++ [.ref (sh.2 0)])) := by
  obtain ⟨fx, hwx, f7, f19⟩ := he
  have l19 : ((-1) : Int) ≤ ((-1) : Int32).toInt := by decide
  have u19 : ((-1) : Int32).toInt ≤ ((-1) : Int) := by decide
  refine lw_mc (lv' := 1) (ρp := [.ref (sh.2 0), .int a1, .int (-1)]) (As := [.int a1]) F L (ct_X7_conditions_25 hl9 (cx := cx) (cy := cy)) gm_X7_conditions I.hs.2.1 rfl rfl (Nat.le_of_ble_eq_true rfl) (by decide) ⟨Nat.le_trans (Nat.add_le_add_left (Nat.le_of_ble_eq_true rfl) _) hcs.1, Nat.le_trans (Nat.add_le_add_left (Nat.le_of_ble_eq_true rfl) _) hcs.2⟩ hls rfl (lw_pre I.hs.1 (by decide) (Or.inr (by decide))) (I.hO cx cy) (lw_pa (env := k_X7_conditions_25.2.1.1) (fa := k_X7_conditions_25.2.1.2) ⟨⟨0, I.h20, rfl⟩, ⟨a1, rfl, hb1.1, hb1.2⟩, ⟨(-1), rfl, l19, u19⟩, trivial⟩ (en_ac (lw_f0 I.hs.2.1 rfl f19 rfl) (en_an))) dlw_2089 (fun u res H1 locs1 hrv hpo L1 => ?_)
  obtain ⟨hpx, o8, ho9, ρ9, hPa9, hi9, hres⟩ := hpo
  have ho9 := List.mem_singleton.mp ho9
  subst ho9
  obtain ⟨fs', s1, s2⟩ := lw_fs I.h20 I.hs.2.1 hpx
  have h09 : ρ9[0]? = some (.ref (u.1.2 0)) := by rw [hi9 0 (show 0 < 2 by decide), (hpx.1.at I.h20).2]; rfl
  obtain ⟨fx', hwx', f7'⟩ := lw_kx I hpx (by decide +kernel) hwx f7
  have f19' : fs'[29]? = some (.int (-1)) := (s2 29 (by decide +kernel)).trans f19
  have f30' : fs'[30]? = some (.int 1) := lw_exact (lw_hb_ok (b := (30, 1, 1)) (by decide +kernel) L1.hD s1 h09 hPa9) (by decide)
  have hg8 : u.2[qo]? = some (u.1.2 qo, .inl (cO, 1, .inr (.inl g9))) := by rw [(hpx.1.at I.ho).2]; exact wr_keep hpx I.ho (by decide +kernel) hg9
  have I1 := lw_IqqE (E' := lw_E) hLP I hpx (by decide +kernel) (lw_qall I.hst (by decide +kernel)) (by decide +kernel) (by decide +kernel) s1 ⟨g9, hg8⟩ (lw_Id I hpx (by decide +kernel)) ⟨fx', _, _, hwx', f7', f19', rfl, by decide⟩
  obtain ⟨r9, rfl⟩ := hrv
  refine W.widen (k := cells + 8) (n := slots + 64) (Nat.add_le_add_left (Nat.le_of_ble_eq_true rfl) _) (Nat.add_le_add_left (Nat.le_of_ble_eq_true rfl) _) ?_
  exact k u r9 H1 locs1 fs' I1 L1 hg8 f30'
set_option maxHeartbeats 4000000 in
theorem le_m_5_0 (hl9 : l.stackTraces = false) (hLP : lw_st LP) (F : lw_Fm p R s m args c D tys cO cD A) (L : lw_H D A s w H locs) (I : lw_I E LP tys cO cD qx qo qd sh w st cx cy fs) (hls : ls.size = 9) (hcs : cells + 8 ≤ R.cells ∧ slots + 64 ≤ R.slots) (a1 : Int32) (hb1 : (-2147483648) ≤ a1.toInt ∧ a1.toInt ≤ (-2)) (he : ∃ fx, w[qx]? = some (sh.2 qx, .inr (12, fx)) ∧ fx[8]? = some (.int 0) ∧ fs[29]? = some (.int 0)) {g9 : Nat → Int64} (hg9 : w[qo]? = some (sh.2 qo, .inl (cO, 1, .inr (.inl g9))))
    (k : ∀ (u : en_H × va_W) (b9 : Int32) (H1 : Heap) (locs1 : List Loc) (fs' : List Value), lw_I lw_E LP tys cO cD qx qo qd u.1 u.2 st cx cy fs' → lw_H D A s u.2 H1 locs1 → u.2[qo]? = some (u.1.2 qo, .inl (cO, 1, .inr (.inl g9))) → fs'[30]? = some (.int 1) → W p l e R s m args below meth c H1 locs1 (cells + 8) (slots + 64) Q (F0 m 2092 ls [.int b9])) :
    W p l e R s m args below meth c H locs cells slots Q (F0 m 2089 ls (([.int a1] : List Value).reverse ++ [.ref (sh.2 0)])) := by
  obtain ⟨fx, hwx, f7, f19⟩ := he
  have l19 : (0 : Int) ≤ (0 : Int32).toInt := by decide
  have u19 : (0 : Int32).toInt ≤ (0 : Int) := by decide
  refine lw_mc (lv' := 1) (ρp := [.ref (sh.2 0), .int a1, .int 0]) (As := [.int a1]) F L (ct_X7_conditions_26 hl9 (cx := cx) (cy := cy)) gm_X7_conditions I.hs.2.1 rfl rfl (Nat.le_of_ble_eq_true rfl) (by decide) ⟨Nat.le_trans (Nat.add_le_add_left (Nat.le_of_ble_eq_true rfl) _) hcs.1, Nat.le_trans (Nat.add_le_add_left (Nat.le_of_ble_eq_true rfl) _) hcs.2⟩ hls rfl (lw_pre I.hs.1 (by decide) (Or.inr (by decide))) (I.hO cx cy) (lw_pa (env := k_X7_conditions_26.2.1.1) (fa := k_X7_conditions_26.2.1.2) ⟨⟨0, I.h20, rfl⟩, ⟨a1, rfl, hb1.1, hb1.2⟩, ⟨0, rfl, l19, u19⟩, trivial⟩ (en_ac (lw_f0 I.hs.2.1 rfl f19 rfl) (en_an))) dlw_2089 (fun u res H1 locs1 hrv hpo L1 => ?_)
  obtain ⟨hpx, o8, ho9, ρ9, hPa9, hi9, hres⟩ := hpo
  have ho9 := List.mem_singleton.mp ho9
  subst ho9
  obtain ⟨fs', s1, s2⟩ := lw_fs I.h20 I.hs.2.1 hpx
  have h09 : ρ9[0]? = some (.ref (u.1.2 0)) := by rw [hi9 0 (show 0 < 2 by decide), (hpx.1.at I.h20).2]; rfl
  obtain ⟨fx', hwx', f7'⟩ := lw_kx I hpx (by decide +kernel) hwx f7
  have f19' : fs'[29]? = some (.int 0) := (s2 29 (by decide +kernel)).trans f19
  have f30' : fs'[30]? = some (.int 1) := lw_exact (lw_hb_ok (b := (30, 1, 1)) (by decide +kernel) L1.hD s1 h09 hPa9) (by decide)
  have hg8 : u.2[qo]? = some (u.1.2 qo, .inl (cO, 1, .inr (.inl g9))) := by rw [(hpx.1.at I.ho).2]; exact wr_keep hpx I.ho (by decide +kernel) hg9
  have I1 := lw_IqqE (E' := lw_E) hLP I hpx (by decide +kernel) (lw_qall I.hst (by decide +kernel)) (by decide +kernel) (by decide +kernel) s1 ⟨g9, hg8⟩ (lw_Id I hpx (by decide +kernel)) ⟨fx', _, _, hwx', f7', f19', rfl, by decide⟩
  obtain ⟨r9, rfl⟩ := hrv
  refine W.widen (k := cells + 8) (n := slots + 64) (Nat.add_le_add_left (Nat.le_of_ble_eq_true rfl) _) (Nat.add_le_add_left (Nat.le_of_ble_eq_true rfl) _) ?_
  exact k u r9 H1 locs1 fs' I1 L1 hg8 f30'
set_option maxHeartbeats 4000000 in
theorem le_m_5_1 (hl9 : l.stackTraces = false) (hLP : lw_st LP) (F : lw_Fm p R s m args c D tys cO cD A) (L : lw_H D A s w H locs) (I : lw_I E LP tys cO cD qx qo qd sh w st cx cy fs) (hls : ls.size = 9) (hcs : cells + 8 ≤ R.cells ∧ slots + 64 ≤ R.slots) (a1 : Int32) (hb1 : (-2147483648) ≤ a1.toInt ∧ a1.toInt ≤ (-2)) (he : ∃ fx, w[qx]? = some (sh.2 qx, .inr (12, fx)) ∧ fx[8]? = some (.int 1) ∧ fs[29]? = some (.int 1)) {g9 : Nat → Int64} (hg9 : w[qo]? = some (sh.2 qo, .inl (cO, 1, .inr (.inl g9))))
    (k : ∀ (u : en_H × va_W) (b9 : Int32) (H1 : Heap) (locs1 : List Loc) (fs' : List Value), lw_I lw_E LP tys cO cD qx qo qd u.1 u.2 st cx cy fs' → lw_H D A s u.2 H1 locs1 → u.2[qo]? = some (u.1.2 qo, .inl (cO, 1, .inr (.inl g9))) → fs'[30]? = some (.int 1) → W p l e R s m args below meth c H1 locs1 (cells + 8) (slots + 64) Q (F0 m 2092 ls [.int b9])) :
    W p l e R s m args below meth c H locs cells slots Q (F0 m 2089 ls (([.int a1] : List Value).reverse ++ [.ref (sh.2 0)])) := by
  obtain ⟨fx, hwx, f7, f19⟩ := he
  have l19 : (1 : Int) ≤ (1 : Int32).toInt := by decide
  have u19 : (1 : Int32).toInt ≤ (1 : Int) := by decide
  refine lw_mc (lv' := 1) (ρp := [.ref (sh.2 0), .int a1, .int 1]) (As := [.int a1]) F L (ct_X7_conditions_27 hl9 (cx := cx) (cy := cy)) gm_X7_conditions I.hs.2.1 rfl rfl (Nat.le_of_ble_eq_true rfl) (by decide) ⟨Nat.le_trans (Nat.add_le_add_left (Nat.le_of_ble_eq_true rfl) _) hcs.1, Nat.le_trans (Nat.add_le_add_left (Nat.le_of_ble_eq_true rfl) _) hcs.2⟩ hls rfl (lw_pre I.hs.1 (by decide) (Or.inr (by decide))) (I.hO cx cy) (lw_pa (env := k_X7_conditions_27.2.1.1) (fa := k_X7_conditions_27.2.1.2) ⟨⟨0, I.h20, rfl⟩, ⟨a1, rfl, hb1.1, hb1.2⟩, ⟨1, rfl, l19, u19⟩, trivial⟩ (en_ac (lw_f0 I.hs.2.1 rfl f19 rfl) (en_an))) dlw_2089 (fun u res H1 locs1 hrv hpo L1 => ?_)
  obtain ⟨hpx, o8, ho9, ρ9, hPa9, hi9, hres⟩ := hpo
  have ho9 := List.mem_singleton.mp ho9
  subst ho9
  obtain ⟨fs', s1, s2⟩ := lw_fs I.h20 I.hs.2.1 hpx
  have h09 : ρ9[0]? = some (.ref (u.1.2 0)) := by rw [hi9 0 (show 0 < 2 by decide), (hpx.1.at I.h20).2]; rfl
  obtain ⟨fx', hwx', f7'⟩ := lw_kx I hpx (by decide +kernel) hwx f7
  have f19' : fs'[29]? = some (.int 1) := (s2 29 (by decide +kernel)).trans f19
  have f30' : fs'[30]? = some (.int 1) := lw_exact (lw_hb_ok (b := (30, 1, 1)) (by decide +kernel) L1.hD s1 h09 hPa9) (by decide)
  have hg8 : u.2[qo]? = some (u.1.2 qo, .inl (cO, 1, .inr (.inl g9))) := by rw [(hpx.1.at I.ho).2]; exact wr_keep hpx I.ho (by decide +kernel) hg9
  have I1 := lw_IqqE (E' := lw_E) hLP I hpx (by decide +kernel) (lw_qall I.hst (by decide +kernel)) (by decide +kernel) (by decide +kernel) s1 ⟨g9, hg8⟩ (lw_Id I hpx (by decide +kernel)) ⟨fx', _, _, hwx', f7', f19', rfl, by decide⟩
  obtain ⟨r9, rfl⟩ := hrv
  refine W.widen (k := cells + 8) (n := slots + 64) (Nat.add_le_add_left (Nat.le_of_ble_eq_true rfl) _) (Nat.add_le_add_left (Nat.le_of_ble_eq_true rfl) _) ?_
  exact k u r9 H1 locs1 fs' I1 L1 hg8 f30'
set_option maxHeartbeats 4000000 in
theorem le_m_5_2 (hl9 : l.stackTraces = false) (hLP : lw_st LP) (F : lw_Fm p R s m args c D tys cO cD A) (L : lw_H D A s w H locs) (I : lw_I E LP tys cO cD qx qo qd sh w st cx cy fs) (hls : ls.size = 9) (hcs : cells + 8 ≤ R.cells ∧ slots + 64 ≤ R.slots) (a1 : Int32) (hb1 : (-2147483648) ≤ a1.toInt ∧ a1.toInt ≤ (-2)) (he : ∃ fx, w[qx]? = some (sh.2 qx, .inr (12, fx)) ∧ fx[8]? = some (.int 2) ∧ fs[29]? = some (.int 2)) {g9 : Nat → Int64} (hg9 : w[qo]? = some (sh.2 qo, .inl (cO, 1, .inr (.inl g9))))
    (k : ∀ (u : en_H × va_W) (b9 : Int32) (H1 : Heap) (locs1 : List Loc) (fs' : List Value), lw_I lw_E LP tys cO cD qx qo qd u.1 u.2 st cx cy fs' → lw_H D A s u.2 H1 locs1 → u.2[qo]? = some (u.1.2 qo, .inl (cO, 1, .inr (.inl g9))) → fs'[30]? = some (.int 1) → W p l e R s m args below meth c H1 locs1 (cells + 8) (slots + 64) Q (F0 m 2092 ls [.int b9])) :
    W p l e R s m args below meth c H locs cells slots Q (F0 m 2089 ls (([.int a1] : List Value).reverse ++ [.ref (sh.2 0)])) := by
  obtain ⟨fx, hwx, f7, f19⟩ := he
  have l19 : (2 : Int) ≤ (2 : Int32).toInt := by decide
  have u19 : (2 : Int32).toInt ≤ (2 : Int) := by decide
  refine lw_mc (lv' := 1) (ρp := [.ref (sh.2 0), .int a1, .int 2]) (As := [.int a1]) F L (ct_X7_conditions_28 hl9 (cx := cx) (cy := cy)) gm_X7_conditions I.hs.2.1 rfl rfl (Nat.le_of_ble_eq_true rfl) (by decide) ⟨Nat.le_trans (Nat.add_le_add_left (Nat.le_of_ble_eq_true rfl) _) hcs.1, Nat.le_trans (Nat.add_le_add_left (Nat.le_of_ble_eq_true rfl) _) hcs.2⟩ hls rfl (lw_pre I.hs.1 (by decide) (Or.inr (by decide))) (I.hO cx cy) (lw_pa (env := k_X7_conditions_28.2.1.1) (fa := k_X7_conditions_28.2.1.2) ⟨⟨0, I.h20, rfl⟩, ⟨a1, rfl, hb1.1, hb1.2⟩, ⟨2, rfl, l19, u19⟩, trivial⟩ (en_ac (lw_f0 I.hs.2.1 rfl f19 rfl) (en_an))) dlw_2089 (fun u res H1 locs1 hrv hpo L1 => ?_)
  obtain ⟨hpx, o8, ho9, ρ9, hPa9, hi9, hres⟩ := hpo
  have ho9 := List.mem_singleton.mp ho9
  subst ho9
  obtain ⟨fs', s1, s2⟩ := lw_fs I.h20 I.hs.2.1 hpx
  have h09 : ρ9[0]? = some (.ref (u.1.2 0)) := by rw [hi9 0 (show 0 < 2 by decide), (hpx.1.at I.h20).2]; rfl
  obtain ⟨fx', hwx', f7'⟩ := lw_kx I hpx (by decide +kernel) hwx f7
  have f19' : fs'[29]? = some (.int 2) := (s2 29 (by decide +kernel)).trans f19
  have f30' : fs'[30]? = some (.int 1) := lw_exact (lw_hb_ok (b := (30, 1, 1)) (by decide +kernel) L1.hD s1 h09 hPa9) (by decide)
  have hg8 : u.2[qo]? = some (u.1.2 qo, .inl (cO, 1, .inr (.inl g9))) := by rw [(hpx.1.at I.ho).2]; exact wr_keep hpx I.ho (by decide +kernel) hg9
  have I1 := lw_IqqE (E' := lw_E) hLP I hpx (by decide +kernel) (lw_qall I.hst (by decide +kernel)) (by decide +kernel) (by decide +kernel) s1 ⟨g9, hg8⟩ (lw_Id I hpx (by decide +kernel)) ⟨fx', _, _, hwx', f7', f19', rfl, by decide⟩
  obtain ⟨r9, rfl⟩ := hrv
  refine W.widen (k := cells + 8) (n := slots + 64) (Nat.add_le_add_left (Nat.le_of_ble_eq_true rfl) _) (Nat.add_le_add_left (Nat.le_of_ble_eq_true rfl) _) ?_
  exact k u r9 H1 locs1 fs' I1 L1 hg8 f30'
set_option maxHeartbeats 4000000 in
theorem le_m_5_3 (hl9 : l.stackTraces = false) (hLP : lw_st LP) (F : lw_Fm p R s m args c D tys cO cD A) (L : lw_H D A s w H locs) (I : lw_I E LP tys cO cD qx qo qd sh w st cx cy fs) (hls : ls.size = 9) (hcs : cells + 8 ≤ R.cells ∧ slots + 64 ≤ R.slots) (a1 : Int32) (hb1 : (-2147483648) ≤ a1.toInt ∧ a1.toInt ≤ (-2)) (he : ∃ fx, w[qx]? = some (sh.2 qx, .inr (12, fx)) ∧ fx[8]? = some (.int 3) ∧ fs[29]? = some (.int 3)) {g9 : Nat → Int64} (hg9 : w[qo]? = some (sh.2 qo, .inl (cO, 1, .inr (.inl g9))))
    (k : ∀ (u : en_H × va_W) (b9 : Int32) (H1 : Heap) (locs1 : List Loc) (fs' : List Value), lw_I lw_E LP tys cO cD qx qo qd u.1 u.2 st cx cy fs' → lw_H D A s u.2 H1 locs1 → u.2[qo]? = some (u.1.2 qo, .inl (cO, 1, .inr (.inl g9))) → fs'[30]? = some (.int 1) → W p l e R s m args below meth c H1 locs1 (cells + 8) (slots + 64) Q (F0 m 2092 ls [.int b9])) :
    W p l e R s m args below meth c H locs cells slots Q (F0 m 2089 ls (([.int a1] : List Value).reverse ++ [.ref (sh.2 0)])) := by
  obtain ⟨fx, hwx, f7, f19⟩ := he
  have l19 : (3 : Int) ≤ (3 : Int32).toInt := by decide
  have u19 : (3 : Int32).toInt ≤ (3 : Int) := by decide
  refine lw_mc (lv' := 1) (ρp := [.ref (sh.2 0), .int a1, .int 3]) (As := [.int a1]) F L (ct_X7_conditions_29 hl9 (cx := cx) (cy := cy)) gm_X7_conditions I.hs.2.1 rfl rfl (Nat.le_of_ble_eq_true rfl) (by decide) ⟨Nat.le_trans (Nat.add_le_add_left (Nat.le_of_ble_eq_true rfl) _) hcs.1, Nat.le_trans (Nat.add_le_add_left (Nat.le_of_ble_eq_true rfl) _) hcs.2⟩ hls rfl (lw_pre I.hs.1 (by decide) (Or.inr (by decide))) (I.hO cx cy) (lw_pa (env := k_X7_conditions_29.2.1.1) (fa := k_X7_conditions_29.2.1.2) ⟨⟨0, I.h20, rfl⟩, ⟨a1, rfl, hb1.1, hb1.2⟩, ⟨3, rfl, l19, u19⟩, trivial⟩ (en_ac (lw_f0 I.hs.2.1 rfl f19 rfl) (en_an))) dlw_2089 (fun u res H1 locs1 hrv hpo L1 => ?_)
  obtain ⟨hpx, o8, ho9, ρ9, hPa9, hi9, hres⟩ := hpo
  have ho9 := List.mem_singleton.mp ho9
  subst ho9
  obtain ⟨fs', s1, s2⟩ := lw_fs I.h20 I.hs.2.1 hpx
  have h09 : ρ9[0]? = some (.ref (u.1.2 0)) := by rw [hi9 0 (show 0 < 2 by decide), (hpx.1.at I.h20).2]; rfl
  obtain ⟨fx', hwx', f7'⟩ := lw_kx I hpx (by decide +kernel) hwx f7
  have f19' : fs'[29]? = some (.int 3) := (s2 29 (by decide +kernel)).trans f19
  have f30' : fs'[30]? = some (.int 1) := lw_exact (lw_hb_ok (b := (30, 1, 1)) (by decide +kernel) L1.hD s1 h09 hPa9) (by decide)
  have hg8 : u.2[qo]? = some (u.1.2 qo, .inl (cO, 1, .inr (.inl g9))) := by rw [(hpx.1.at I.ho).2]; exact wr_keep hpx I.ho (by decide +kernel) hg9
  have I1 := lw_IqqE (E' := lw_E) hLP I hpx (by decide +kernel) (lw_qall I.hst (by decide +kernel)) (by decide +kernel) (by decide +kernel) s1 ⟨g9, hg8⟩ (lw_Id I hpx (by decide +kernel)) ⟨fx', _, _, hwx', f7', f19', rfl, by decide⟩
  obtain ⟨r9, rfl⟩ := hrv
  refine W.widen (k := cells + 8) (n := slots + 64) (Nat.add_le_add_left (Nat.le_of_ble_eq_true rfl) _) (Nat.add_le_add_left (Nat.le_of_ble_eq_true rfl) _) ?_
  exact k u r9 H1 locs1 fs' I1 L1 hg8 f30'
set_option maxHeartbeats 4000000 in
theorem le_m_6_m1 (hl9 : l.stackTraces = false) (hLP : lw_st LP) (F : lw_Fm p R s m args c D tys cO cD A) (L : lw_H D A s w H locs) (I : lw_I E LP tys cO cD qx qo qd sh w st cx cy fs) (hls : ls.size = 9) (hcs : cells + 8 ≤ R.cells ∧ slots + 64 ≤ R.slots) (a1 : Int32) (hb1 : 4 ≤ a1.toInt ∧ a1.toInt ≤ 2147483647) (he : ∃ fx, w[qx]? = some (sh.2 qx, .inr (12, fx)) ∧ fx[8]? = some (.int (-1)) ∧ fs[29]? = some (.int (-1))) {g9 : Nat → Int64} (hg9 : w[qo]? = some (sh.2 qo, .inl (cO, 1, .inr (.inl g9))))
    (k : ∀ (u : en_H × va_W) (b9 : Int32) (H1 : Heap) (locs1 : List Loc) (fs' : List Value), lw_I lw_E LP tys cO cD qx qo qd u.1 u.2 st cx cy fs' → lw_H D A s u.2 H1 locs1 → u.2[qo]? = some (u.1.2 qo, .inl (cO, 1, .inr (.inl g9))) → fs'[30]? = some (.int 1) → W p l e R s m args below meth c H1 locs1 (cells + 8) (slots + 64) Q (F0 m 2092 ls [.int b9])) :
    W p l e R s m args below meth c H locs cells slots Q (F0 m 2089 ls (([.int a1] : List Value).reverse ++ [.ref (sh.2 0)])) := by
  obtain ⟨fx, hwx, f7, f19⟩ := he
  have l19 : ((-1) : Int) ≤ ((-1) : Int32).toInt := by decide
  have u19 : ((-1) : Int32).toInt ≤ ((-1) : Int) := by decide
  refine lw_mc (lv' := 1) (ρp := [.ref (sh.2 0), .int a1, .int (-1)]) (As := [.int a1]) F L (ct_X7_conditions_30 hl9 (cx := cx) (cy := cy)) gm_X7_conditions I.hs.2.1 rfl rfl (Nat.le_of_ble_eq_true rfl) (by decide) ⟨Nat.le_trans (Nat.add_le_add_left (Nat.le_of_ble_eq_true rfl) _) hcs.1, Nat.le_trans (Nat.add_le_add_left (Nat.le_of_ble_eq_true rfl) _) hcs.2⟩ hls rfl (lw_pre I.hs.1 (by decide) (Or.inr (by decide))) (I.hO cx cy) (lw_pa (env := k_X7_conditions_30.2.1.1) (fa := k_X7_conditions_30.2.1.2) ⟨⟨0, I.h20, rfl⟩, ⟨a1, rfl, hb1.1, hb1.2⟩, ⟨(-1), rfl, l19, u19⟩, trivial⟩ (en_ac (lw_f0 I.hs.2.1 rfl f19 rfl) (en_an))) dlw_2089 (fun u res H1 locs1 hrv hpo L1 => ?_)
  obtain ⟨hpx, o8, ho9, ρ9, hPa9, hi9, hres⟩ := hpo
  have ho9 := List.mem_singleton.mp ho9
  subst ho9
  obtain ⟨fs', s1, s2⟩ := lw_fs I.h20 I.hs.2.1 hpx
  have h09 : ρ9[0]? = some (.ref (u.1.2 0)) := by rw [hi9 0 (show 0 < 2 by decide), (hpx.1.at I.h20).2]; rfl
  obtain ⟨fx', hwx', f7'⟩ := lw_kx I hpx (by decide +kernel) hwx f7
  have f19' : fs'[29]? = some (.int (-1)) := (s2 29 (by decide +kernel)).trans f19
  have f30' : fs'[30]? = some (.int 1) := lw_exact (lw_hb_ok (b := (30, 1, 1)) (by decide +kernel) L1.hD s1 h09 hPa9) (by decide)
  have hg8 : u.2[qo]? = some (u.1.2 qo, .inl (cO, 1, .inr (.inl g9))) := by rw [(hpx.1.at I.ho).2]; exact wr_keep hpx I.ho (by decide +kernel) hg9
  have I1 := lw_IqqE (E' := lw_E) hLP I hpx (by decide +kernel) (lw_qall I.hst (by decide +kernel)) (by decide +kernel) (by decide +kernel) s1 ⟨g9, hg8⟩ (lw_Id I hpx (by decide +kernel)) ⟨fx', _, _, hwx', f7', f19', rfl, by decide⟩
  obtain ⟨r9, rfl⟩ := hrv
  refine W.widen (k := cells + 8) (n := slots + 64) (Nat.add_le_add_left (Nat.le_of_ble_eq_true rfl) _) (Nat.add_le_add_left (Nat.le_of_ble_eq_true rfl) _) ?_
  exact k u r9 H1 locs1 fs' I1 L1 hg8 f30'
set_option maxHeartbeats 4000000 in
theorem le_m_6_0 (hl9 : l.stackTraces = false) (hLP : lw_st LP) (F : lw_Fm p R s m args c D tys cO cD A) (L : lw_H D A s w H locs) (I : lw_I E LP tys cO cD qx qo qd sh w st cx cy fs) (hls : ls.size = 9) (hcs : cells + 8 ≤ R.cells ∧ slots + 64 ≤ R.slots) (a1 : Int32) (hb1 : 4 ≤ a1.toInt ∧ a1.toInt ≤ 2147483647) (he : ∃ fx, w[qx]? = some (sh.2 qx, .inr (12, fx)) ∧ fx[8]? = some (.int 0) ∧ fs[29]? = some (.int 0)) {g9 : Nat → Int64} (hg9 : w[qo]? = some (sh.2 qo, .inl (cO, 1, .inr (.inl g9))))
    (k : ∀ (u : en_H × va_W) (b9 : Int32) (H1 : Heap) (locs1 : List Loc) (fs' : List Value), lw_I lw_E LP tys cO cD qx qo qd u.1 u.2 st cx cy fs' → lw_H D A s u.2 H1 locs1 → u.2[qo]? = some (u.1.2 qo, .inl (cO, 1, .inr (.inl g9))) → fs'[30]? = some (.int 1) → W p l e R s m args below meth c H1 locs1 (cells + 8) (slots + 64) Q (F0 m 2092 ls [.int b9])) :
    W p l e R s m args below meth c H locs cells slots Q (F0 m 2089 ls (([.int a1] : List Value).reverse ++ [.ref (sh.2 0)])) := by
  obtain ⟨fx, hwx, f7, f19⟩ := he
  have l19 : (0 : Int) ≤ (0 : Int32).toInt := by decide
  have u19 : (0 : Int32).toInt ≤ (0 : Int) := by decide
  refine lw_mc (lv' := 1) (ρp := [.ref (sh.2 0), .int a1, .int 0]) (As := [.int a1]) F L (ct_X7_conditions_31 hl9 (cx := cx) (cy := cy)) gm_X7_conditions I.hs.2.1 rfl rfl (Nat.le_of_ble_eq_true rfl) (by decide) ⟨Nat.le_trans (Nat.add_le_add_left (Nat.le_of_ble_eq_true rfl) _) hcs.1, Nat.le_trans (Nat.add_le_add_left (Nat.le_of_ble_eq_true rfl) _) hcs.2⟩ hls rfl (lw_pre I.hs.1 (by decide) (Or.inr (by decide))) (I.hO cx cy) (lw_pa (env := k_X7_conditions_31.2.1.1) (fa := k_X7_conditions_31.2.1.2) ⟨⟨0, I.h20, rfl⟩, ⟨a1, rfl, hb1.1, hb1.2⟩, ⟨0, rfl, l19, u19⟩, trivial⟩ (en_ac (lw_f0 I.hs.2.1 rfl f19 rfl) (en_an))) dlw_2089 (fun u res H1 locs1 hrv hpo L1 => ?_)
  obtain ⟨hpx, o8, ho9, ρ9, hPa9, hi9, hres⟩ := hpo
  have ho9 := List.mem_singleton.mp ho9
  subst ho9
  obtain ⟨fs', s1, s2⟩ := lw_fs I.h20 I.hs.2.1 hpx
  have h09 : ρ9[0]? = some (.ref (u.1.2 0)) := by rw [hi9 0 (show 0 < 2 by decide), (hpx.1.at I.h20).2]; rfl
  obtain ⟨fx', hwx', f7'⟩ := lw_kx I hpx (by decide +kernel) hwx f7
  have f19' : fs'[29]? = some (.int 0) := (s2 29 (by decide +kernel)).trans f19
  have f30' : fs'[30]? = some (.int 1) := lw_exact (lw_hb_ok (b := (30, 1, 1)) (by decide +kernel) L1.hD s1 h09 hPa9) (by decide)
  have hg8 : u.2[qo]? = some (u.1.2 qo, .inl (cO, 1, .inr (.inl g9))) := by rw [(hpx.1.at I.ho).2]; exact wr_keep hpx I.ho (by decide +kernel) hg9
  have I1 := lw_IqqE (E' := lw_E) hLP I hpx (by decide +kernel) (lw_qall I.hst (by decide +kernel)) (by decide +kernel) (by decide +kernel) s1 ⟨g9, hg8⟩ (lw_Id I hpx (by decide +kernel)) ⟨fx', _, _, hwx', f7', f19', rfl, by decide⟩
  obtain ⟨r9, rfl⟩ := hrv
  refine W.widen (k := cells + 8) (n := slots + 64) (Nat.add_le_add_left (Nat.le_of_ble_eq_true rfl) _) (Nat.add_le_add_left (Nat.le_of_ble_eq_true rfl) _) ?_
  exact k u r9 H1 locs1 fs' I1 L1 hg8 f30'
set_option maxHeartbeats 4000000 in
theorem le_m_6_1 (hl9 : l.stackTraces = false) (hLP : lw_st LP) (F : lw_Fm p R s m args c D tys cO cD A) (L : lw_H D A s w H locs) (I : lw_I E LP tys cO cD qx qo qd sh w st cx cy fs) (hls : ls.size = 9) (hcs : cells + 8 ≤ R.cells ∧ slots + 64 ≤ R.slots) (a1 : Int32) (hb1 : 4 ≤ a1.toInt ∧ a1.toInt ≤ 2147483647) (he : ∃ fx, w[qx]? = some (sh.2 qx, .inr (12, fx)) ∧ fx[8]? = some (.int 1) ∧ fs[29]? = some (.int 1)) {g9 : Nat → Int64} (hg9 : w[qo]? = some (sh.2 qo, .inl (cO, 1, .inr (.inl g9))))
    (k : ∀ (u : en_H × va_W) (b9 : Int32) (H1 : Heap) (locs1 : List Loc) (fs' : List Value), lw_I lw_E LP tys cO cD qx qo qd u.1 u.2 st cx cy fs' → lw_H D A s u.2 H1 locs1 → u.2[qo]? = some (u.1.2 qo, .inl (cO, 1, .inr (.inl g9))) → fs'[30]? = some (.int 1) → W p l e R s m args below meth c H1 locs1 (cells + 8) (slots + 64) Q (F0 m 2092 ls [.int b9])) :
    W p l e R s m args below meth c H locs cells slots Q (F0 m 2089 ls (([.int a1] : List Value).reverse ++ [.ref (sh.2 0)])) := by
  obtain ⟨fx, hwx, f7, f19⟩ := he
  have l19 : (1 : Int) ≤ (1 : Int32).toInt := by decide
  have u19 : (1 : Int32).toInt ≤ (1 : Int) := by decide
  refine lw_mc (lv' := 1) (ρp := [.ref (sh.2 0), .int a1, .int 1]) (As := [.int a1]) F L (ct_X7_conditions_32 hl9 (cx := cx) (cy := cy)) gm_X7_conditions I.hs.2.1 rfl rfl (Nat.le_of_ble_eq_true rfl) (by decide) ⟨Nat.le_trans (Nat.add_le_add_left (Nat.le_of_ble_eq_true rfl) _) hcs.1, Nat.le_trans (Nat.add_le_add_left (Nat.le_of_ble_eq_true rfl) _) hcs.2⟩ hls rfl (lw_pre I.hs.1 (by decide) (Or.inr (by decide))) (I.hO cx cy) (lw_pa (env := k_X7_conditions_32.2.1.1) (fa := k_X7_conditions_32.2.1.2) ⟨⟨0, I.h20, rfl⟩, ⟨a1, rfl, hb1.1, hb1.2⟩, ⟨1, rfl, l19, u19⟩, trivial⟩ (en_ac (lw_f0 I.hs.2.1 rfl f19 rfl) (en_an))) dlw_2089 (fun u res H1 locs1 hrv hpo L1 => ?_)
  obtain ⟨hpx, o8, ho9, ρ9, hPa9, hi9, hres⟩ := hpo
  have ho9 := List.mem_singleton.mp ho9
  subst ho9
  obtain ⟨fs', s1, s2⟩ := lw_fs I.h20 I.hs.2.1 hpx
  have h09 : ρ9[0]? = some (.ref (u.1.2 0)) := by rw [hi9 0 (show 0 < 2 by decide), (hpx.1.at I.h20).2]; rfl
  obtain ⟨fx', hwx', f7'⟩ := lw_kx I hpx (by decide +kernel) hwx f7
  have f19' : fs'[29]? = some (.int 1) := (s2 29 (by decide +kernel)).trans f19
  have f30' : fs'[30]? = some (.int 1) := lw_exact (lw_hb_ok (b := (30, 1, 1)) (by decide +kernel) L1.hD s1 h09 hPa9) (by decide)
  have hg8 : u.2[qo]? = some (u.1.2 qo, .inl (cO, 1, .inr (.inl g9))) := by rw [(hpx.1.at I.ho).2]; exact wr_keep hpx I.ho (by decide +kernel) hg9
  have I1 := lw_IqqE (E' := lw_E) hLP I hpx (by decide +kernel) (lw_qall I.hst (by decide +kernel)) (by decide +kernel) (by decide +kernel) s1 ⟨g9, hg8⟩ (lw_Id I hpx (by decide +kernel)) ⟨fx', _, _, hwx', f7', f19', rfl, by decide⟩
  obtain ⟨r9, rfl⟩ := hrv
  refine W.widen (k := cells + 8) (n := slots + 64) (Nat.add_le_add_left (Nat.le_of_ble_eq_true rfl) _) (Nat.add_le_add_left (Nat.le_of_ble_eq_true rfl) _) ?_
  exact k u r9 H1 locs1 fs' I1 L1 hg8 f30'
set_option maxHeartbeats 4000000 in
theorem le_m_6_2 (hl9 : l.stackTraces = false) (hLP : lw_st LP) (F : lw_Fm p R s m args c D tys cO cD A) (L : lw_H D A s w H locs) (I : lw_I E LP tys cO cD qx qo qd sh w st cx cy fs) (hls : ls.size = 9) (hcs : cells + 8 ≤ R.cells ∧ slots + 64 ≤ R.slots) (a1 : Int32) (hb1 : 4 ≤ a1.toInt ∧ a1.toInt ≤ 2147483647) (he : ∃ fx, w[qx]? = some (sh.2 qx, .inr (12, fx)) ∧ fx[8]? = some (.int 2) ∧ fs[29]? = some (.int 2)) {g9 : Nat → Int64} (hg9 : w[qo]? = some (sh.2 qo, .inl (cO, 1, .inr (.inl g9))))
    (k : ∀ (u : en_H × va_W) (b9 : Int32) (H1 : Heap) (locs1 : List Loc) (fs' : List Value), lw_I lw_E LP tys cO cD qx qo qd u.1 u.2 st cx cy fs' → lw_H D A s u.2 H1 locs1 → u.2[qo]? = some (u.1.2 qo, .inl (cO, 1, .inr (.inl g9))) → fs'[30]? = some (.int 1) → W p l e R s m args below meth c H1 locs1 (cells + 8) (slots + 64) Q (F0 m 2092 ls [.int b9])) :
    W p l e R s m args below meth c H locs cells slots Q (F0 m 2089 ls (([.int a1] : List Value).reverse ++ [.ref (sh.2 0)])) := by
  obtain ⟨fx, hwx, f7, f19⟩ := he
  have l19 : (2 : Int) ≤ (2 : Int32).toInt := by decide
  have u19 : (2 : Int32).toInt ≤ (2 : Int) := by decide
  refine lw_mc (lv' := 1) (ρp := [.ref (sh.2 0), .int a1, .int 2]) (As := [.int a1]) F L (ct_X7_conditions_33 hl9 (cx := cx) (cy := cy)) gm_X7_conditions I.hs.2.1 rfl rfl (Nat.le_of_ble_eq_true rfl) (by decide) ⟨Nat.le_trans (Nat.add_le_add_left (Nat.le_of_ble_eq_true rfl) _) hcs.1, Nat.le_trans (Nat.add_le_add_left (Nat.le_of_ble_eq_true rfl) _) hcs.2⟩ hls rfl (lw_pre I.hs.1 (by decide) (Or.inr (by decide))) (I.hO cx cy) (lw_pa (env := k_X7_conditions_33.2.1.1) (fa := k_X7_conditions_33.2.1.2) ⟨⟨0, I.h20, rfl⟩, ⟨a1, rfl, hb1.1, hb1.2⟩, ⟨2, rfl, l19, u19⟩, trivial⟩ (en_ac (lw_f0 I.hs.2.1 rfl f19 rfl) (en_an))) dlw_2089 (fun u res H1 locs1 hrv hpo L1 => ?_)
  obtain ⟨hpx, o8, ho9, ρ9, hPa9, hi9, hres⟩ := hpo
  have ho9 := List.mem_singleton.mp ho9
  subst ho9
  obtain ⟨fs', s1, s2⟩ := lw_fs I.h20 I.hs.2.1 hpx
  have h09 : ρ9[0]? = some (.ref (u.1.2 0)) := by rw [hi9 0 (show 0 < 2 by decide), (hpx.1.at I.h20).2]; rfl
  obtain ⟨fx', hwx', f7'⟩ := lw_kx I hpx (by decide +kernel) hwx f7
  have f19' : fs'[29]? = some (.int 2) := (s2 29 (by decide +kernel)).trans f19
  have f30' : fs'[30]? = some (.int 1) := lw_exact (lw_hb_ok (b := (30, 1, 1)) (by decide +kernel) L1.hD s1 h09 hPa9) (by decide)
  have hg8 : u.2[qo]? = some (u.1.2 qo, .inl (cO, 1, .inr (.inl g9))) := by rw [(hpx.1.at I.ho).2]; exact wr_keep hpx I.ho (by decide +kernel) hg9
  have I1 := lw_IqqE (E' := lw_E) hLP I hpx (by decide +kernel) (lw_qall I.hst (by decide +kernel)) (by decide +kernel) (by decide +kernel) s1 ⟨g9, hg8⟩ (lw_Id I hpx (by decide +kernel)) ⟨fx', _, _, hwx', f7', f19', rfl, by decide⟩
  obtain ⟨r9, rfl⟩ := hrv
  refine W.widen (k := cells + 8) (n := slots + 64) (Nat.add_le_add_left (Nat.le_of_ble_eq_true rfl) _) (Nat.add_le_add_left (Nat.le_of_ble_eq_true rfl) _) ?_
  exact k u r9 H1 locs1 fs' I1 L1 hg8 f30'
set_option maxHeartbeats 4000000 in
theorem le_m_6_3 (hl9 : l.stackTraces = false) (hLP : lw_st LP) (F : lw_Fm p R s m args c D tys cO cD A) (L : lw_H D A s w H locs) (I : lw_I E LP tys cO cD qx qo qd sh w st cx cy fs) (hls : ls.size = 9) (hcs : cells + 8 ≤ R.cells ∧ slots + 64 ≤ R.slots) (a1 : Int32) (hb1 : 4 ≤ a1.toInt ∧ a1.toInt ≤ 2147483647) (he : ∃ fx, w[qx]? = some (sh.2 qx, .inr (12, fx)) ∧ fx[8]? = some (.int 3) ∧ fs[29]? = some (.int 3)) {g9 : Nat → Int64} (hg9 : w[qo]? = some (sh.2 qo, .inl (cO, 1, .inr (.inl g9))))
    (k : ∀ (u : en_H × va_W) (b9 : Int32) (H1 : Heap) (locs1 : List Loc) (fs' : List Value), lw_I lw_E LP tys cO cD qx qo qd u.1 u.2 st cx cy fs' → lw_H D A s u.2 H1 locs1 → u.2[qo]? = some (u.1.2 qo, .inl (cO, 1, .inr (.inl g9))) → fs'[30]? = some (.int 1) → W p l e R s m args below meth c H1 locs1 (cells + 8) (slots + 64) Q (F0 m 2092 ls [.int b9])) :
    W p l e R s m args below meth c H locs cells slots Q (F0 m 2089 ls (([.int a1] : List Value).reverse ++ [.ref (sh.2 0)])) := by
  obtain ⟨fx, hwx, f7, f19⟩ := he
  have l19 : (3 : Int) ≤ (3 : Int32).toInt := by decide
  have u19 : (3 : Int32).toInt ≤ (3 : Int) := by decide
  refine lw_mc (lv' := 1) (ρp := [.ref (sh.2 0), .int a1, .int 3]) (As := [.int a1]) F L (ct_X7_conditions_34 hl9 (cx := cx) (cy := cy)) gm_X7_conditions I.hs.2.1 rfl rfl (Nat.le_of_ble_eq_true rfl) (by decide) ⟨Nat.le_trans (Nat.add_le_add_left (Nat.le_of_ble_eq_true rfl) _) hcs.1, Nat.le_trans (Nat.add_le_add_left (Nat.le_of_ble_eq_true rfl) _) hcs.2⟩ hls rfl (lw_pre I.hs.1 (by decide) (Or.inr (by decide))) (I.hO cx cy) (lw_pa (env := k_X7_conditions_34.2.1.1) (fa := k_X7_conditions_34.2.1.2) ⟨⟨0, I.h20, rfl⟩, ⟨a1, rfl, hb1.1, hb1.2⟩, ⟨3, rfl, l19, u19⟩, trivial⟩ (en_ac (lw_f0 I.hs.2.1 rfl f19 rfl) (en_an))) dlw_2089 (fun u res H1 locs1 hrv hpo L1 => ?_)
  obtain ⟨hpx, o8, ho9, ρ9, hPa9, hi9, hres⟩ := hpo
  have ho9 := List.mem_singleton.mp ho9
  subst ho9
  obtain ⟨fs', s1, s2⟩ := lw_fs I.h20 I.hs.2.1 hpx
  have h09 : ρ9[0]? = some (.ref (u.1.2 0)) := by rw [hi9 0 (show 0 < 2 by decide), (hpx.1.at I.h20).2]; rfl
  obtain ⟨fx', hwx', f7'⟩ := lw_kx I hpx (by decide +kernel) hwx f7
  have f19' : fs'[29]? = some (.int 3) := (s2 29 (by decide +kernel)).trans f19
  have f30' : fs'[30]? = some (.int 1) := lw_exact (lw_hb_ok (b := (30, 1, 1)) (by decide +kernel) L1.hD s1 h09 hPa9) (by decide)
  have hg8 : u.2[qo]? = some (u.1.2 qo, .inl (cO, 1, .inr (.inl g9))) := by rw [(hpx.1.at I.ho).2]; exact wr_keep hpx I.ho (by decide +kernel) hg9
  have I1 := lw_IqqE (E' := lw_E) hLP I hpx (by decide +kernel) (lw_qall I.hst (by decide +kernel)) (by decide +kernel) (by decide +kernel) s1 ⟨g9, hg8⟩ (lw_Id I hpx (by decide +kernel)) ⟨fx', _, _, hwx', f7', f19', rfl, by decide⟩
  obtain ⟨r9, rfl⟩ := hrv
  refine W.widen (k := cells + 8) (n := slots + 64) (Nat.add_le_add_left (Nat.le_of_ble_eq_true rfl) _) (Nat.add_le_add_left (Nat.le_of_ble_eq_true rfl) _) ?_
  exact k u r9 H1 locs1 fs' I1 L1 hg8 f30'
set_option maxHeartbeats 4000000 in
theorem le_t (hl9 : l.stackTraces = false) (hLP : lw_st LP) (F : lw_Fm p R s m args c D tys cO cD A) (L : lw_H D A s w H locs) (I : lw_I E LP tys cO cD qx qo qd sh w st cx cy fs) (hls : ls.size = 9) (hcs : cells + 8 ≤ R.cells ∧ slots + 64 ≤ R.slots) {g9 : Nat → Int64} (hg9 : w[qo]? = some (sh.2 qo, .inl (cO, 1, .inr (.inl g9)))) {t9 : Int32} (f30 : fs[30]? = some (.int t9))
    (k : ∀ (u : en_H × va_W) (H1 : Heap) (locs1 : List Loc) (fs' : List Value), lw_I E LP tys cO cD qx qo qd u.1 u.2 st cx cy fs' → lw_H D A s u.2 H1 locs1 → u.2[qo]? = some (u.1.2 qo, .inl (cO, 1, .inr (.inl g9))) → W p l e R s m args below meth c H1 locs1 (cells + 8) (slots + 64) Q (F0 m 2098 ls [.int t9])) :
    W p l e R s m args below meth c H locs cells slots Q (F0 m 2095 ls (([] : List Value).reverse ++ [.ref (sh.2 0)])) := by
  refine lw_mc (lv' := 0) (ρp := [.ref (sh.2 0)]) (As := []) F L (ct_X7_thrown_0 hl9 (cx := cx) (cy := cy)) gm_X7_thrown I.hs.2.1 rfl rfl (Nat.le_of_ble_eq_true rfl) (by decide) ⟨Nat.le_trans (Nat.add_le_add_left (Nat.le_of_ble_eq_true rfl) _) hcs.1, Nat.le_trans (Nat.add_le_add_left (Nat.le_of_ble_eq_true rfl) _) hcs.2⟩ hls rfl (lw_pre I.hs.1 (by decide) (Or.inr (by decide))) (I.hO cx cy) (lw_pa (env := k_X7_thrown_0.2.1.1) (fa := k_X7_thrown_0.2.1.2) ⟨⟨0, I.h20, rfl⟩, trivial⟩ (en_an)) dlw_2095 (fun u res H1 locs1 hrv hpo L1 => ?_)
  obtain ⟨hpx, o8, ho9, ρ9, hPa9, hi9, hres⟩ := hpo
  have ho9 := List.mem_singleton.mp ho9
  subst ho9
  obtain ⟨fs', s1, s2⟩ := lw_fs I.h20 I.hs.2.1 hpx
  have h09 : ρ9[0]? = some (.ref (u.1.2 0)) := by rw [hi9 0 (show 0 < 1 by decide), (hpx.1.at I.h20).2]; rfl
  have hg8 : u.2[qo]? = some (u.1.2 qo, .inl (cO, 1, .inr (.inl g9))) := by rw [(hpx.1.at I.ho).2]; exact wr_keep hpx I.ho (by decide +kernel) hg9
  obtain ⟨fx, v, v9, hwx, f7, f19, hv⟩ := I.hed
  obtain ⟨fx', hwx', f7'⟩ := lw_kx I hpx (by decide +kernel) hwx f7
  have I1 := lw_IqqE (E' := E) hLP I hpx (by decide +kernel) (lw_qall I.hst (by decide +kernel)) (by decide +kernel) (by decide +kernel) s1 ⟨g9, hg8⟩ (lw_Id I hpx (by decide +kernel)) ⟨fx', _, _, hwx', f7', (s2 29 (by decide +kernel)).trans f19, hv⟩
  obtain ⟨r9, rfl⟩ := hrv
  obtain ⟨q, r8, ci, fs9, v8, b1, b2, b3, b4⟩ := hPa9.2.2 (0, 0, 30, 1, 0, 0) (by decide +kernel)
  have er : r8 = u.1.2 0 := Value.ref.inj (Option.some.inj (b1.symm.trans h09))
  subst er
  have eq : q = 0 := L1.hD.1 q 0 _ _ b2 s1 rfl
  subst eq
  have e9 : fs9 = fs' := (Prod.mk.inj (Sum.inr.inj (Prod.mk.inj (Option.some.inj (b2.symm.trans s1))).2)).2
  subst e9
  have e8 : v8 = .int t9 := Option.some.inj (b3.symm.trans ((s2 30 (by decide +kernel)).trans f30))
  subst e8
  have e7 : r9 = t9 := Value.int.inj (Option.some.inj ((hres _ rfl).symm.trans b4))
  subst e7
  refine W.widen (k := cells + 8) (n := slots + 64) (Nat.add_le_add_left (Nat.le_of_ble_eq_true rfl) _) (Nat.add_le_add_left (Nat.le_of_ble_eq_true rfl) _) ?_
  exact k u H1 locs1 _ I1 L1 hg8
end
