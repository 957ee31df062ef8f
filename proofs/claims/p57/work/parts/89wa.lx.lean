/-! the class's side of the law: its wrappers, and its own methods that throw nothing -/
theorem lw_qall {st : Nat} {md : List (Nat × Nat)} {tk : List Nat} (hst : st ≤ 4) (hq : (lw_qt 0 md tk && lw_qt 1 md tk && lw_qt 2 md tk && lw_qt 3 md tk && lw_qt 4 md tk) = true) : lw_qt st md tk = true := by
  simp only [Bool.and_eq_true] at hq
  obtain rfl | rfl | rfl | rfl | rfl := lw_stc hst
  · exact hq.1.1.1.1
  · exact hq.1.1.1.2
  · exact hq.1.1.2
  · exact hq.1.2
  · exact hq.2
section
variable {p : Program} {l : Launch} {e : Env} {R : Room} {s : State} {m : MethodId} {args : Array Value} {below : List Frame} {meth : Method} {c : Code} {Q : State → Prop}
variable {D : va_G} {tys : List (ClassId × FieldType)} {cO cD : ClassId} {A : Nat → Prop} {sh : en_H} {w : va_W} {H : Heap} {locs : List Loc} {ls : Array Slot} {pc cells slots qx qo qd : Nat} {E : Int32 → Int32 → Prop} {LP : en_H → va_W → Prop}
theorem lw_AA (F : lw_Fm p R s m args c D tys cO cD A) (L : lw_H D A s w H locs) : ∀ q, va_A w H.size q → A q := fun q hq => by
  rcases hq with ⟨j, ej, hj⟩ | hq
  · exact L.hD.2 j _ hj
  · exact F.hA q (Nat.le_trans L.hS.1 hq)
/-- a call of a wrapper -/
theorem lw_wc {P9 : en_H × va_W → Prop} {lv' mc ms ix n mxl : Nat} {hh : List (Nat × Nat × Nat × Nat)} {As : List Value} {y : MethodName} {cy : ByteArray} (F : lw_Fm p R s m args c D tys cO cD A) (L : lw_H D A s w H locs)
    (hM : Met l y (Cond.codeWith y cy mxl (some .int) hh :: en_cw) (en_rm lv' (mc, ms)) (va_Pc As (en_B D vwCl (tys ++ [(cO, .long), (cD, .double)]) w H.size)) (va_Qi (fun (_ : Int32) (u : en_H × va_W) => P9 u) (en_Bw D vwCl (va_A w H.size)) (va_A w H.size)) mc ms (va_A w H.size))
    (hG : GoodIn en_cw (va_wsS RL ix y (Cond.codeWith y cy mxl (some .int) hh :: en_cw)) ∧ (y.cls ≠ "java/lang/invoke/MethodHandle" ∧ y.cls ≠ "java/lang/invoke/VarHandle" ∧ (parseMethodDescriptor y.desc).map (fun d => d.parameters.length) = some n)) (hAl : As.length = n) (hmx : mxl ≤ 41) (hlv : lv' ≤ 40) (hcs : cells + mc ≤ R.cells ∧ slots + ms ≤ R.slots) (hls : ls.size = 9) (hdg : decode cL_law pc = .ok (.invokestatic ix, 3))
    (k : ∀ (u : en_H × va_W) (r9 : Int32) (H1 : Heap) (locs1 : List Loc), P9 u → lw_H D A s u.2 H1 locs1 → W p l e R s m args below meth c H1 locs1 (cells + mc) (slots + ms) Q (F0 m (pc + 3) ls [.int r9])) :
    W p l e R s m args below meth c H locs cells slots Q (F0 m pc ls (As.reverse ++ [])) := by
  have hAA := lw_AA F L
  refine va_calli (a := As.toArray) (vx_runSW (As := As) (rest := []) ⟨F.hx, F.hb, rfl, F.hown, F.hts⟩ hM (vx_cwSW n F.hts hG.1 rfl rfl rfl hG.2 ⟨?_, ?_⟩) ⟨fun a U g mk q => ⟨q.1, q.2.blind⟩, fun U hU hW => ⟨rfl, by rw [hU], by rw [hU]; exact L.hP, va_K.moved hW.alike F.hK, tf.go F.hT L.hS hW hU hAA⟩⟩ rfl hAl (F.hml.trans hls.symm).symm rfl (lv_room (by decide)) hdg hcs) L.hS (fun q _ h => hAA q h) hAA (fun r u t H1 locs1 ht hvm hw hB _ _ hS1 => k u r H1 locs1 hw ⟨by rw [← ht]; exact hB.1, ⟨hB.2.1, fun j q hq => hAA _ (hB.2.2 j q hq)⟩, hS1⟩)
  · show 40 + lv' + 1 ≤ R.frames
    have := F.hR.1; omega
  · show 8 + (mxl + 11) + (400 + 60 * lv') ≤ R.locals
    have := F.hR.2; omega
theorem lw_D9 (L : lw_H D A s w H locs) : va_D (va_A w H.size) w := ⟨L.hD.1, fun j z hz => Or.inl ⟨j, z.2, hz⟩⟩
/-- a call of the class -/
theorem lw_xc {KT : List en_D} {PP : Int32 → Int32 → Prop} {Ω : Nat → en_H → va_W → Prop} {κ : en_K} {rs ix lv' mxl : Nat} {ρp As : List Value} {y : MethodName} {cy : ByteArray} {ret : Option FieldType} {fs : List Value} (F : lw_Fm p R s m args c D tys cO cD A) (L : lw_H D A s w H locs) (hM : en_Ctr l vwCl en_TY0 PP en_om0 Ω KT y (Cond.code y cy mxl ret :: en_cw) (en_rm lv' κ.2.2.2.2.2.1) rs κ) (hV : en_CV en_cw RL ix y RX6 cy mxl ret (κ.1 - 1))
    (hb0 : w[qx]? = some (sh.2 qx, .inr (12, fs))) (hρ : ρp.take κ.1 = .ref (sh.2 qx) :: As) (hAl : As.length = κ.1 - 1) (hmx : mxl ≤ 41) (hlv : lv' ≤ 40) (hcs : cells + κ.2.2.2.2.2.1.1 ≤ R.cells ∧ slots + κ.2.2.2.2.2.1.2 ≤ R.slots) (hls : ls.size = 9) (hex : κ.2.2.2.2.2.2 = []) (hW : en_W PP KT κ.2.2.2.2.1 sh tys (fun _ => False) w) (hΩ : en_Om en_om0 sh Ω) (hPa : en_Pa PP Ω sh w κ.2.1 ρp) (hdg : decode cL_law pc = .ok (.invokevirtual ix, 3))
    (k : ∀ (u : en_H × va_W) (res : Option Value) (H1 : Heap) (locs1 : List Loc), en_rv rs res → en_Po tys PP Ω KT κ sh w ρp res u → lw_H D A s u.2 H1 locs1 → W p l e R s m args below meth c H1 locs1 (cells + κ.2.2.2.2.2.1.1) (slots + κ.2.2.2.2.2.1.2) Q (F0 m (pc + 3) ls (res.toList ++ []))) :
    W p l e R s m args below meth c H locs cells slots Q (F0 m pc ls (As.reverse ++ [.ref (sh.2 qx)])) := by
  refine en_hcV (co := 12) (q0 := qx) (b := sh.2 qx) (rest := []) hM hV rfl rfl hb0 hρ hAl hmx ⟨?_, ?_⟩ hcs (by decide) F.hx F.hb (F.hml.trans hls.symm) F.hts F.hown F.hTY F.hK.pre F.hT L.hP L.hD L.hS F.hA hW hΩ hPa hdg (fun x hx9 => ?_) (fun u res H1 locs1 hrv hpo hP1 hD1 hS1 => k u res H1 locs1 hrv hpo ⟨hP1, hD1, hS1⟩)
  · have := F.hR.1; omega
  · have := F.hR.2; omega
  · rw [hex] at hx9
    exact absurd hx9 List.not_mem_nil
end
section
variable {p : Program} {l : Launch} {e : Env} {R : Room} {s : State} {m : MethodId} {args : Array Value} {below : List Frame} {meth : Method} {c : Code} {Q : State → Prop}
variable {D : va_G} {tys : List (ClassId × FieldType)} {cO cD : ClassId} {A : Nat → Prop} {sh : en_H} {w : va_W} {H : Heap} {locs : List Loc} {ls : Array Slot} {cells slots qx qo qd : Nat} {E : Int32 → Int32 → Prop} {LP : en_H → va_W → Prop} {st : Nat} {cx cy : Int32} {fs : List Value}
set_option maxHeartbeats 4000000 in
theorem lx_again (hl9 : l.stackTraces = false) (a1 : Int32) (hLP : lw_st LP) (F : lw_Fm p R s m args c D tys cO cD A) (L : lw_H D A s w H locs) (I : lw_I E LP tys cO cD qx qo qd sh w st cx cy fs) (hls : ls.size = 9) (hcs : cells + 8 ≤ R.cells ∧ slots + 64 ≤ R.slots)
    (k : ∀ (u : en_H × va_W) (r9 : Int32) (H1 : Heap) (locs1 : List Loc) (fs' : List Value), lw_I E LP tys cO cD qx qo qd u.1 u.2 st cx cy fs' → lw_H D A s u.2 H1 locs1 → W p l e R s m args below meth c H1 locs1 (cells + 8) (slots + 64) Q (F0 m 940 ls [.int r9])) :
    W p l e R s m args below meth c H locs cells slots Q (F0 m 937 ls (([.ref (sh.2 qx), .int a1, .ref (sh.2 qo)] : List Value).reverse ++ [])) := by
  obtain ⟨g0, hw9⟩ := I.hwo
  obtain ⟨fx, v8, v9, hwx, -⟩ := I.hed
  refine lw_wc F L (wr_again hl9 en_Pc_ok (en_Of cx cy) D tys cO cD sh w H.size qx qo fx g0 a1 F.hTY (lw_pre I.hs.1 (by decide) (Or.inr (by decide))) (lw_D9 L) (I.hO cx cy) I.hx hwx I.ho hw9) gx_again rfl (by decide) (by decide) ⟨Nat.le_trans (Nat.add_le_add_left (Nat.le_of_ble_eq_true rfl) _) hcs.1, Nat.le_trans (Nat.add_le_add_left (Nat.le_of_ble_eq_true rfl) _) hcs.2⟩ hls dlw_937 (fun u r9 H1 locs1 hp9 L1 => ?_)
  obtain ⟨hpx, g9, hg9⟩ := hp9
  obtain ⟨fs', I1⟩ := lw_Iqq hLP I hpx (by decide +kernel) (lw_qall I.hst (by decide +kernel)) (by decide +kernel) (by decide +kernel) ⟨g9, by rw [(hpx.1.at I.ho).2]; exact hg9⟩ (lw_Id I hpx (by decide +kernel))
  exact W.widen (k := cells + 8) (n := slots + 64) (Nat.add_le_add_left (Nat.le_of_ble_eq_true rfl) _) (Nat.add_le_add_left (Nat.le_of_ble_eq_true rfl) _) (k u r9 H1 locs1 fs' I1 L1)
set_option maxHeartbeats 4000000 in
theorem lx_area (hl9 : l.stackTraces = false) (a1 : Int32) (a2 : Int32) (a3 : Int32) (a4 : Int32) (a5 : Int32) (a6 : Int32) (hb2 : 0 ≤ a2.toInt ∧ a2.toInt ≤ 65535) (hLP : lw_st LP) (F : lw_Fm p R s m args c D tys cO cD A) (L : lw_H D A s w H locs) (I : lw_I E LP tys cO cD qx qo qd sh w st cx cy fs) (hls : ls.size = 9) (hcs : cells + 8 ≤ R.cells ∧ slots + 64 ≤ R.slots)
    (k : ∀ (u : en_H × va_W) (r9 : Int32) (H1 : Heap) (locs1 : List Loc) (fs' : List Value), lw_I E LP tys cO cD qx qo qd u.1 u.2 st cx cy fs' → lw_H D A s u.2 H1 locs1 → W p l e R s m args below meth c H1 locs1 (cells + 8) (slots + 64) Q (F0 m 417 ls [.int r9])) :
    W p l e R s m args below meth c H locs cells slots Q (F0 m 414 ls (([.ref (sh.2 qx), .int a1, .int a2, .int a3, .int a4, .int a5, .int a6, .ref (sh.2 qo)] : List Value).reverse ++ [])) := by
  obtain ⟨g0, hw9⟩ := I.hwo
  obtain ⟨fx, v8, v9, hwx, -⟩ := I.hed
  refine lw_wc F L (wr_area hl9 en_Pc_ok (en_Of cx cy) D tys cO cD sh w H.size qx qo fx g0 a1 a2 a3 a4 a5 a6 hb2 F.hTY (lw_pre I.hs.1 (by decide) (Or.inr (by decide))) (lw_D9 L) (I.hO cx cy) I.hx hwx I.ho hw9) gx_area rfl (by decide) (by decide) ⟨Nat.le_trans (Nat.add_le_add_left (Nat.le_of_ble_eq_true rfl) _) hcs.1, Nat.le_trans (Nat.add_le_add_left (Nat.le_of_ble_eq_true rfl) _) hcs.2⟩ hls dlw_414 (fun u r9 H1 locs1 hp9 L1 => ?_)
  obtain ⟨hpx, g9, hg9⟩ := hp9
  obtain ⟨fs', I1⟩ := lw_Iqq hLP I hpx (by decide +kernel) (lw_qall I.hst (by decide +kernel)) (by decide +kernel) (by decide +kernel) ⟨g9, by rw [(hpx.1.at I.ho).2]; exact hg9⟩ (lw_Id I hpx (by decide +kernel))
  exact W.widen (k := cells + 8) (n := slots + 64) (Nat.add_le_add_left (Nat.le_of_ble_eq_true rfl) _) (Nat.add_le_add_left (Nat.le_of_ble_eq_true rfl) _) (k u r9 H1 locs1 fs' I1 L1)
set_option maxHeartbeats 4000000 in
theorem lx_aside (hl9 : l.stackTraces = false) (a1 : Int32) (a2 : Int32) (a3 : Int32) (hLP : lw_st LP) (F : lw_Fm p R s m args c D tys cO cD A) (L : lw_H D A s w H locs) (I : lw_I E LP tys cO cD qx qo qd sh w st cx cy fs) (hls : ls.size = 9) (hcs : cells + 8 ≤ R.cells ∧ slots + 64 ≤ R.slots)
    (k : ∀ (u : en_H × va_W) (r9 : Int32) (H1 : Heap) (locs1 : List Loc) (fs' : List Value), lw_I E LP tys cO cD qx qo qd u.1 u.2 st cx cy fs' → lw_H D A s u.2 H1 locs1 → W p l e R s m args below meth c H1 locs1 (cells + 8) (slots + 64) Q (F0 m 1020 ls [.int r9])) :
    W p l e R s m args below meth c H locs cells slots Q (F0 m 1017 ls (([.ref (sh.2 qx), .int a1, .int a2, .int a3, .ref (sh.2 qo)] : List Value).reverse ++ [])) := by
  obtain ⟨g0, hw9⟩ := I.hwo
  obtain ⟨fx, v8, v9, hwx, -⟩ := I.hed
  refine lw_wc F L (wr_aside hl9 en_Pc_ok (en_Of cx cy) D tys cO cD sh w H.size qx qo fx g0 a1 a2 a3 F.hTY (lw_pre I.hs.1 (by decide) (Or.inr (by decide))) (lw_D9 L) (I.hO cx cy) I.hx hwx I.ho hw9) gx_aside rfl (by decide) (by decide) ⟨Nat.le_trans (Nat.add_le_add_left (Nat.le_of_ble_eq_true rfl) _) hcs.1, Nat.le_trans (Nat.add_le_add_left (Nat.le_of_ble_eq_true rfl) _) hcs.2⟩ hls dlw_1017 (fun u r9 H1 locs1 hp9 L1 => ?_)
  obtain ⟨hpx, g9, hg9⟩ := hp9
  obtain ⟨fs', I1⟩ := lw_Iqq hLP I hpx (by decide +kernel) (lw_qall I.hst (by decide +kernel)) (by decide +kernel) (by decide +kernel) ⟨g9, by rw [(hpx.1.at I.ho).2]; exact hg9⟩ (lw_Id I hpx (by decide +kernel))
  exact W.widen (k := cells + 8) (n := slots + 64) (Nat.add_le_add_left (Nat.le_of_ble_eq_true rfl) _) (Nat.add_le_add_left (Nat.le_of_ble_eq_true rfl) _) (k u r9 H1 locs1 fs' I1 L1)
set_option maxHeartbeats 4000000 in
theorem lx_away (hl9 : l.stackTraces = false) (hLP : lw_st LP) (F : lw_Fm p R s m args c D tys cO cD A) (L : lw_H D A s w H locs) (I : lw_I E LP tys cO cD qx qo qd sh w st cx cy fs) (hls : ls.size = 9) (hcs : cells + 8 ≤ R.cells ∧ slots + 64 ≤ R.slots)
    (k : ∀ (u : en_H × va_W) (r9 : Int32) (H1 : Heap) (locs1 : List Loc) (fs' : List Value), lw_I E LP tys cO cD qx qo qd u.1 u.2 st cx cy fs' → lw_H D A s u.2 H1 locs1 → W p l e R s m args below meth c H1 locs1 (cells + 8) (slots + 64) Q (F0 m 720 ls [.int r9])) :
    W p l e R s m args below meth c H locs cells slots Q (F0 m 717 ls (([.ref (sh.2 qx), .ref (sh.2 qo)] : List Value).reverse ++ [])) := by
  obtain ⟨g0, hw9⟩ := I.hwo
  obtain ⟨fx, v8, v9, hwx, -⟩ := I.hed
  refine lw_wc F L (wr_away hl9 en_Pc_ok (en_Of cx cy) D tys cO cD sh w H.size qx qo fx g0 F.hTY (lw_pre I.hs.1 (by decide) (Or.inr (by decide))) (lw_D9 L) (I.hO cx cy) I.hx hwx I.ho hw9) gx_away rfl (by decide) (by decide) ⟨Nat.le_trans (Nat.add_le_add_left (Nat.le_of_ble_eq_true rfl) _) hcs.1, Nat.le_trans (Nat.add_le_add_left (Nat.le_of_ble_eq_true rfl) _) hcs.2⟩ hls dlw_717 (fun u r9 H1 locs1 hp9 L1 => ?_)
  obtain ⟨hpx, g9, hg9⟩ := hp9
  obtain ⟨fs', I1⟩ := lw_Iqq hLP I hpx (by decide +kernel) (lw_qall I.hst (by decide +kernel)) (by decide +kernel) (by decide +kernel) ⟨g9, by rw [(hpx.1.at I.ho).2]; exact hg9⟩ (lw_Id I hpx (by decide +kernel))
  exact W.widen (k := cells + 8) (n := slots + 64) (Nat.add_le_add_left (Nat.le_of_ble_eq_true rfl) _) (Nat.add_le_add_left (Nat.le_of_ble_eq_true rfl) _) (k u r9 H1 locs1 fs' I1 L1)
set_option maxHeartbeats 4000000 in
theorem lx_begin (hl9 : l.stackTraces = false) (a1 : Int32) (hb1 : 0 ≤ a1.toInt ∧ a1.toInt ≤ 65535) (hLP : lw_st LP) (F : lw_Fm p R s m args c D tys cO cD A) (L : lw_H D A s w H locs) (I : lw_I E LP tys cO cD qx qo qd sh w st cx cy fs) (hls : ls.size = 9) (hcs : cells + 8 ≤ R.cells ∧ slots + 64 ≤ R.slots)
    (k : ∀ (u : en_H × va_W) (r9 : Int32) (H1 : Heap) (locs1 : List Loc) (fs' : List Value), lw_I E LP tys cO cD qx qo qd u.1 u.2 st cx cy fs' → lw_H D A s u.2 H1 locs1 → W p l e R s m args below meth c H1 locs1 (cells + 8) (slots + 64) Q (F0 m 681 ls [.int r9])) :
    W p l e R s m args below meth c H locs cells slots Q (F0 m 678 ls (([.ref (sh.2 qx), .int a1, .ref (sh.2 qo)] : List Value).reverse ++ [])) := by
  obtain ⟨g0, hw9⟩ := I.hwo
  obtain ⟨fx, v8, v9, hwx, -⟩ := I.hed
  refine lw_wc F L (wr_begin hl9 en_Pc_ok (en_Of cx cy) D tys cO cD sh w H.size qx qo fx g0 a1 hb1 F.hTY (lw_pre I.hs.1 (by decide) (Or.inr (by decide))) (lw_D9 L) (I.hO cx cy) I.hx hwx I.ho hw9) gx_begin rfl (by decide) (by decide) ⟨Nat.le_trans (Nat.add_le_add_left (Nat.le_of_ble_eq_true rfl) _) hcs.1, Nat.le_trans (Nat.add_le_add_left (Nat.le_of_ble_eq_true rfl) _) hcs.2⟩ hls dlw_678 (fun u r9 H1 locs1 hp9 L1 => ?_)
  obtain ⟨hpx, g9, hg9⟩ := hp9
  obtain ⟨fs', I1⟩ := lw_Iqq hLP I hpx (by decide +kernel) (lw_qall I.hst (by decide +kernel)) (by decide +kernel) (by decide +kernel) ⟨g9, by rw [(hpx.1.at I.ho).2]; exact hg9⟩ (lw_Id I hpx (by decide +kernel))
  exact W.widen (k := cells + 8) (n := slots + 64) (Nat.add_le_add_left (Nat.le_of_ble_eq_true rfl) _) (Nat.add_le_add_left (Nat.le_of_ble_eq_true rfl) _) (k u r9 H1 locs1 fs' I1 L1)
set_option maxHeartbeats 4000000 in
theorem lx_cancel (hl9 : l.stackTraces = false) (a1 : Int32) (hLP : lw_st LP) (F : lw_Fm p R s m args c D tys cO cD A) (L : lw_H D A s w H locs) (I : lw_I E LP tys cO cD qx qo qd sh w st cx cy fs) (hls : ls.size = 9) (hcs : cells + 8 ≤ R.cells ∧ slots + 64 ≤ R.slots)
    (k : ∀ (u : en_H × va_W) (r9 : Int32) (H1 : Heap) (locs1 : List Loc) (fs' : List Value), lw_I E LP tys cO cD qx qo qd u.1 u.2 st cx cy fs' → lw_H D A s u.2 H1 locs1 → W p l e R s m args below meth c H1 locs1 (cells + 8) (slots + 64) Q (F0 m 1426 ls [.int r9])) :
    W p l e R s m args below meth c H locs cells slots Q (F0 m 1423 ls (([.ref (sh.2 qx), .int a1, .ref (sh.2 qo)] : List Value).reverse ++ [])) := by
  obtain ⟨g0, hw9⟩ := I.hwo
  obtain ⟨fx, v8, v9, hwx, -⟩ := I.hed
  refine lw_wc F L (wr_cancel hl9 en_Pc_ok (en_Of cx cy) D tys cO cD sh w H.size qx qo fx g0 a1 F.hTY (lw_pre I.hs.1 (by decide) (Or.inr (by decide))) (lw_D9 L) (I.hO cx cy) I.hx hwx I.ho hw9) gx_cancel rfl (by decide) (by decide) ⟨Nat.le_trans (Nat.add_le_add_left (Nat.le_of_ble_eq_true rfl) _) hcs.1, Nat.le_trans (Nat.add_le_add_left (Nat.le_of_ble_eq_true rfl) _) hcs.2⟩ hls dlw_1423 (fun u r9 H1 locs1 hp9 L1 => ?_)
  obtain ⟨hpx, g9, hg9⟩ := hp9
  obtain ⟨fs', I1⟩ := lw_Iqq hLP I hpx (by decide +kernel) (lw_qall I.hst (by decide +kernel)) (by decide +kernel) (by decide +kernel) ⟨g9, by rw [(hpx.1.at I.ho).2]; exact hg9⟩ (lw_Id I hpx (by decide +kernel))
  exact W.widen (k := cells + 8) (n := slots + 64) (Nat.add_le_add_left (Nat.le_of_ble_eq_true rfl) _) (Nat.add_le_add_left (Nat.le_of_ble_eq_true rfl) _) (k u r9 H1 locs1 fs' I1 L1)
set_option maxHeartbeats 4000000 in
theorem lx_concede (hl9 : l.stackTraces = false) (a1 : Int32) (a2 : Int32) (hb2 : 0 ≤ a2.toInt ∧ a2.toInt ≤ 65535) (hLP : lw_st LP) (F : lw_Fm p R s m args c D tys cO cD A) (L : lw_H D A s w H locs) (I : lw_I E LP tys cO cD qx qo qd sh w st cx cy fs) (hls : ls.size = 9) (hcs : cells + 8 ≤ R.cells ∧ slots + 64 ≤ R.slots)
    (k : ∀ (u : en_H × va_W) (r9 : Int32) (H1 : Heap) (locs1 : List Loc) (fs' : List Value), lw_I E LP tys cO cD qx qo qd u.1 u.2 st cx cy fs' → lw_H D A s u.2 H1 locs1 → W p l e R s m args below meth c H1 locs1 (cells + 8) (slots + 64) Q (F0 m 1461 ls [.int r9])) :
    W p l e R s m args below meth c H locs cells slots Q (F0 m 1458 ls (([.ref (sh.2 qx), .int a1, .int a2, .ref (sh.2 qo)] : List Value).reverse ++ [])) := by
  obtain ⟨g0, hw9⟩ := I.hwo
  obtain ⟨fx, v8, v9, hwx, -⟩ := I.hed
  refine lw_wc F L (wr_concede hl9 en_Pc_ok (en_Of cx cy) D tys cO cD sh w H.size qx qo fx g0 a1 a2 hb2 F.hTY (lw_pre I.hs.1 (by decide) (Or.inr (by decide))) (lw_D9 L) (I.hO cx cy) I.hx hwx I.ho hw9) gx_concede rfl (by decide) (by decide) ⟨Nat.le_trans (Nat.add_le_add_left (Nat.le_of_ble_eq_true rfl) _) hcs.1, Nat.le_trans (Nat.add_le_add_left (Nat.le_of_ble_eq_true rfl) _) hcs.2⟩ hls dlw_1458 (fun u r9 H1 locs1 hp9 L1 => ?_)
  obtain ⟨hpx, g9, hg9⟩ := hp9
  obtain ⟨fs', I1⟩ := lw_Iqq hLP I hpx (by decide +kernel) (lw_qall I.hst (by decide +kernel)) (by decide +kernel) (by decide +kernel) ⟨g9, by rw [(hpx.1.at I.ho).2]; exact hg9⟩ (lw_Id I hpx (by decide +kernel))
  exact W.widen (k := cells + 8) (n := slots + 64) (Nat.add_le_add_left (Nat.le_of_ble_eq_true rfl) _) (Nat.add_le_add_left (Nat.le_of_ble_eq_true rfl) _) (k u r9 H1 locs1 fs' I1 L1)
set_option maxHeartbeats 4000000 in
theorem lx_conditions (hl9 : l.stackTraces = false) (a1 : Int32) (hLP : lw_st LP) (F : lw_Fm p R s m args c D tys cO cD A) (L : lw_H D A s w H locs) (I : lw_I E LP tys cO cD qx qo qd sh w st cx cy fs) (hls : ls.size = 9) (hcs : cells + 8 ≤ R.cells ∧ slots + 64 ≤ R.slots)
    (k : ∀ (u : en_H × va_W) (r9 : Int32) (H1 : Heap) (locs1 : List Loc) (fs' : List Value), lw_I E LP tys cO cD qx qo qd u.1 u.2 st cx cy fs' → lw_H D A s u.2 H1 locs1 → W p l e R s m args below meth c H1 locs1 (cells + 8) (slots + 64) Q (F0 m 2080 ls [.int r9])) :
    W p l e R s m args below meth c H locs cells slots Q (F0 m 2077 ls (([.ref (sh.2 qx), .int a1, .ref (sh.2 qo)] : List Value).reverse ++ [])) := by
  obtain ⟨g0, hw9⟩ := I.hwo
  obtain ⟨fx, v8, v9, hwx, -⟩ := I.hed
  refine lw_wc F L (wr_conditions hl9 en_Pc_ok (en_Of cx cy) D tys cO cD sh w H.size qx qo fx g0 a1 F.hTY (lw_pre I.hs.1 (by decide) (Or.inr (by decide))) (lw_D9 L) (I.hO cx cy) I.hx hwx I.ho hw9) gx_conditions rfl (by decide) (by decide) ⟨Nat.le_trans (Nat.add_le_add_left (Nat.le_of_ble_eq_true rfl) _) hcs.1, Nat.le_trans (Nat.add_le_add_left (Nat.le_of_ble_eq_true rfl) _) hcs.2⟩ hls dlw_2077 (fun u r9 H1 locs1 hp9 L1 => ?_)
  obtain ⟨hpx, g9, hg9⟩ := hp9
  obtain ⟨fs', I1⟩ := lw_Iqq hLP I hpx (by decide +kernel) (lw_qall I.hst (by decide +kernel)) (by decide +kernel) (by decide +kernel) ⟨g9, by rw [(hpx.1.at I.ho).2]; exact hg9⟩ (lw_Id I hpx (by decide +kernel))
  exact W.widen (k := cells + 8) (n := slots + 64) (Nat.add_le_add_left (Nat.le_of_ble_eq_true rfl) _) (Nat.add_le_add_left (Nat.le_of_ble_eq_true rfl) _) (k u r9 H1 locs1 fs' I1 L1)
set_option maxHeartbeats 4000000 in
theorem lx_correct (hl9 : l.stackTraces = false) (a1 : Int32) (hLP : lw_st LP) (F : lw_Fm p R s m args c D tys cO cD A) (L : lw_H D A s w H locs) (I : lw_I E LP tys cO cD qx qo qd sh w st cx cy fs) (hls : ls.size = 9) (hcs : cells + 8 ≤ R.cells ∧ slots + 64 ≤ R.slots)
    (k : ∀ (u : en_H × va_W) (r9 : Int32) (H1 : Heap) (locs1 : List Loc) (fs' : List Value), lw_I E LP tys cO cD qx qo qd u.1 u.2 st cx cy fs' → lw_H D A s u.2 H1 locs1 → W p l e R s m args below meth c H1 locs1 (cells + 8) (slots + 64) Q (F0 m 1220 ls [.int r9])) :
    W p l e R s m args below meth c H locs cells slots Q (F0 m 1217 ls (([.ref (sh.2 qx), .int a1, .ref (sh.2 qo)] : List Value).reverse ++ [])) := by
  obtain ⟨g0, hw9⟩ := I.hwo
  obtain ⟨fx, v8, v9, hwx, -⟩ := I.hed
  refine lw_wc F L (wr_correct hl9 en_Pc_ok (en_Of cx cy) D tys cO cD sh w H.size qx qo fx g0 a1 F.hTY (lw_pre I.hs.1 (by decide) (Or.inr (by decide))) (lw_D9 L) (I.hO cx cy) I.hx hwx I.ho hw9) gx_correct rfl (by decide) (by decide) ⟨Nat.le_trans (Nat.add_le_add_left (Nat.le_of_ble_eq_true rfl) _) hcs.1, Nat.le_trans (Nat.add_le_add_left (Nat.le_of_ble_eq_true rfl) _) hcs.2⟩ hls dlw_1217 (fun u r9 H1 locs1 hp9 L1 => ?_)
  obtain ⟨hpx, g9, hg9⟩ := hp9
  obtain ⟨fs', I1⟩ := lw_Iqq hLP I hpx (by decide +kernel) (lw_qall I.hst (by decide +kernel)) (by decide +kernel) (by decide +kernel) ⟨g9, by rw [(hpx.1.at I.ho).2]; exact hg9⟩ (lw_Id I hpx (by decide +kernel))
  exact W.widen (k := cells + 8) (n := slots + 64) (Nat.add_le_add_left (Nat.le_of_ble_eq_true rfl) _) (Nat.add_le_add_left (Nat.le_of_ble_eq_true rfl) _) (k u r9 H1 locs1 fs' I1 L1)
set_option maxHeartbeats 4000000 in
theorem lx_cut (hl9 : l.stackTraces = false) (a1 : Int32) (hLP : lw_st LP) (F : lw_Fm p R s m args c D tys cO cD A) (L : lw_H D A s w H locs) (I : lw_I E LP tys cO cD qx qo qd sh w st cx cy fs) (hls : ls.size = 9) (hcs : cells + 8 ≤ R.cells ∧ slots + 64 ≤ R.slots)
    (k : ∀ (u : en_H × va_W) (r9 : Int32) (H1 : Heap) (locs1 : List Loc) (fs' : List Value), lw_I E LP tys cO cD qx qo qd u.1 u.2 st cx cy fs' → lw_H D A s u.2 H1 locs1 → W p l e R s m args below meth c H1 locs1 (cells + 8) (slots + 64) Q (F0 m 2052 ls [.int r9])) :
    W p l e R s m args below meth c H locs cells slots Q (F0 m 2049 ls (([.ref (sh.2 qx), .int a1, .ref (sh.2 qo)] : List Value).reverse ++ [])) := by
  obtain ⟨g0, hw9⟩ := I.hwo
  obtain ⟨fx, v8, v9, hwx, -⟩ := I.hed
  refine lw_wc F L (wr_cut hl9 en_Pc_ok (en_Of cx cy) D tys cO cD sh w H.size qx qo fx g0 a1 F.hTY (lw_pre I.hs.1 (by decide) (Or.inr (by decide))) (lw_D9 L) (I.hO cx cy) I.hx hwx I.ho hw9) gx_cut rfl (by decide) (by decide) ⟨Nat.le_trans (Nat.add_le_add_left (Nat.le_of_ble_eq_true rfl) _) hcs.1, Nat.le_trans (Nat.add_le_add_left (Nat.le_of_ble_eq_true rfl) _) hcs.2⟩ hls dlw_2049 (fun u r9 H1 locs1 hp9 L1 => ?_)
  obtain ⟨hpx, g9, hg9⟩ := hp9
  obtain ⟨fs', I1⟩ := lw_Iqq hLP I hpx (by decide +kernel) (lw_qall I.hst (by decide +kernel)) (by decide +kernel) (by decide +kernel) ⟨g9, by rw [(hpx.1.at I.ho).2]; exact hg9⟩ (lw_Id I hpx (by decide +kernel))
  exact W.widen (k := cells + 8) (n := slots + 64) (Nat.add_le_add_left (Nat.le_of_ble_eq_true rfl) _) (Nat.add_le_add_left (Nat.le_of_ble_eq_true rfl) _) (k u r9 H1 locs1 fs' I1 L1)
set_option maxHeartbeats 4000000 in
theorem lx_difference (hl9 : l.stackTraces = false) (a1 : Int32) (a2 : Int32) (hLP : lw_st LP) (F : lw_Fm p R s m args c D tys cO cD A) (L : lw_H D A s w H locs) (I : lw_I E LP tys cO cD qx qo qd sh w st cx cy fs) (hls : ls.size = 9) (hcs : cells + 8 ≤ R.cells ∧ slots + 64 ≤ R.slots)
    (k : ∀ (u : en_H × va_W) (r9 : Int32) (H1 : Heap) (locs1 : List Loc) (fs' : List Value), lw_I E LP tys cO cD qx qo qd u.1 u.2 st cx cy fs' → lw_H D A s u.2 H1 locs1 → W p l e R s m args below meth c H1 locs1 (cells + 8) (slots + 64) Q (F0 m 2166 ls [.int r9])) :
    W p l e R s m args below meth c H locs cells slots Q (F0 m 2163 ls (([.ref (sh.2 qx), .int a1, .int a2, .ref (sh.2 qo)] : List Value).reverse ++ [])) := by
  obtain ⟨g0, hw9⟩ := I.hwo
  obtain ⟨fx, v8, v9, hwx, -⟩ := I.hed
  refine lw_wc F L (wr_difference hl9 en_Pc_ok (en_Of cx cy) D tys cO cD sh w H.size qx qo fx g0 a1 a2 F.hTY (lw_pre I.hs.1 (by decide) (Or.inr (by decide))) (lw_D9 L) (I.hO cx cy) I.hx hwx I.ho hw9) gx_difference rfl (by decide) (by decide) ⟨Nat.le_trans (Nat.add_le_add_left (Nat.le_of_ble_eq_true rfl) _) hcs.1, Nat.le_trans (Nat.add_le_add_left (Nat.le_of_ble_eq_true rfl) _) hcs.2⟩ hls dlw_2163 (fun u r9 H1 locs1 hp9 L1 => ?_)
  obtain ⟨hpx, g9, hg9⟩ := hp9
  obtain ⟨fs', I1⟩ := lw_Iqq hLP I hpx (by decide +kernel) (lw_qall I.hst (by decide +kernel)) (by decide +kernel) (by decide +kernel) ⟨g9, by rw [(hpx.1.at I.ho).2]; exact hg9⟩ (lw_Id I hpx (by decide +kernel))
  exact W.widen (k := cells + 8) (n := slots + 64) (Nat.add_le_add_left (Nat.le_of_ble_eq_true rfl) _) (Nat.add_le_add_left (Nat.le_of_ble_eq_true rfl) _) (k u r9 H1 locs1 fs' I1 L1)
set_option maxHeartbeats 4000000 in
theorem lx_edition (hl9 : l.stackTraces = false) (a1 : Int32) (hb1 : 0 ≤ a1.toInt ∧ a1.toInt ≤ 65535) (hLP : lw_st LP) (F : lw_Fm p R s m args c D tys cO cD A) (L : lw_H D A s w H locs) (I : lw_I E LP tys cO cD qx qo qd sh w st cx cy fs) (hls : ls.size = 9) (hcs : cells + 8 ≤ R.cells ∧ slots + 64 ≤ R.slots)
    (k : ∀ (u : en_H × va_W) (r9 : Int32) (H1 : Heap) (locs1 : List Loc) (fs' : List Value), lw_I E LP tys cO cD qx qo qd u.1 u.2 st cx cy fs' → lw_H D A s u.2 H1 locs1 → W p l e R s m args below meth c H1 locs1 (cells + 8) (slots + 64) Q (F0 m 651 ls [.int r9])) :
    W p l e R s m args below meth c H locs cells slots Q (F0 m 648 ls (([.ref (sh.2 qx), .int a1, .ref (sh.2 qo)] : List Value).reverse ++ [])) := by
  obtain ⟨g0, hw9⟩ := I.hwo
  obtain ⟨fx, v8, v9, hwx, -⟩ := I.hed
  refine lw_wc F L (wr_edition hl9 en_Pc_ok (en_Of cx cy) D tys cO cD sh w H.size qx qo fx g0 a1 hb1 F.hTY (lw_pre I.hs.1 (by decide) (Or.inr (by decide))) (lw_D9 L) (I.hO cx cy) I.hx hwx I.ho hw9) gx_edition rfl (by decide) (by decide) ⟨Nat.le_trans (Nat.add_le_add_left (Nat.le_of_ble_eq_true rfl) _) hcs.1, Nat.le_trans (Nat.add_le_add_left (Nat.le_of_ble_eq_true rfl) _) hcs.2⟩ hls dlw_648 (fun u r9 H1 locs1 hp9 L1 => ?_)
  obtain ⟨hpx, g9, hg9⟩ := hp9
  obtain ⟨fs', I1⟩ := lw_Iqq hLP I hpx (by decide +kernel) (lw_qall I.hst (by decide +kernel)) (by decide +kernel) (by decide +kernel) ⟨g9, by rw [(hpx.1.at I.ho).2]; exact hg9⟩ (lw_Id I hpx (by decide +kernel))
  exact W.widen (k := cells + 8) (n := slots + 64) (Nat.add_le_add_left (Nat.le_of_ble_eq_true rfl) _) (Nat.add_le_add_left (Nat.le_of_ble_eq_true rfl) _) (k u r9 H1 locs1 fs' I1 L1)
set_option maxHeartbeats 4000000 in
theorem lx_free (hl9 : l.stackTraces = false) (a1 : Int32) (a2 : Int32) (a3 : Int32) (hLP : lw_st LP) (F : lw_Fm p R s m args c D tys cO cD A) (L : lw_H D A s w H locs) (I : lw_I E LP tys cO cD qx qo qd sh w st cx cy fs) (hls : ls.size = 9) (hcs : cells + 8 ≤ R.cells ∧ slots + 64 ≤ R.slots)
    (k : ∀ (u : en_H × va_W) (r9 : Int32) (H1 : Heap) (locs1 : List Loc) (fs' : List Value), lw_I E LP tys cO cD qx qo qd u.1 u.2 st cx cy fs' → lw_H D A s u.2 H1 locs1 → W p l e R s m args below meth c H1 locs1 (cells + 8) (slots + 64) Q (F0 m 1128 ls [.int r9])) :
    W p l e R s m args below meth c H locs cells slots Q (F0 m 1125 ls (([.ref (sh.2 qx), .int a1, .int a2, .int a3, .ref (sh.2 qo)] : List Value).reverse ++ [])) := by
  obtain ⟨g0, hw9⟩ := I.hwo
  obtain ⟨fx, v8, v9, hwx, -⟩ := I.hed
  refine lw_wc F L (wr_free hl9 en_Pc_ok (en_Of cx cy) D tys cO cD sh w H.size qx qo fx g0 a1 a2 a3 F.hTY (lw_pre I.hs.1 (by decide) (Or.inr (by decide))) (lw_D9 L) (I.hO cx cy) I.hx hwx I.ho hw9) gx_free rfl (by decide) (by decide) ⟨Nat.le_trans (Nat.add_le_add_left (Nat.le_of_ble_eq_true rfl) _) hcs.1, Nat.le_trans (Nat.add_le_add_left (Nat.le_of_ble_eq_true rfl) _) hcs.2⟩ hls dlw_1125 (fun u r9 H1 locs1 hp9 L1 => ?_)
  obtain ⟨hpx, g9, hg9⟩ := hp9
  obtain ⟨fs', I1⟩ := lw_Iqq hLP I hpx (by decide +kernel) (lw_qall I.hst (by decide +kernel)) (by decide +kernel) (by decide +kernel) ⟨g9, by rw [(hpx.1.at I.ho).2]; exact hg9⟩ (lw_Id I hpx (by decide +kernel))
  exact W.widen (k := cells + 8) (n := slots + 64) (Nat.add_le_add_left (Nat.le_of_ble_eq_true rfl) _) (Nat.add_le_add_left (Nat.le_of_ble_eq_true rfl) _) (k u r9 H1 locs1 fs' I1 L1)
set_option maxHeartbeats 4000000 in
theorem lx_gets (hl9 : l.stackTraces = false) (a1 : Int32) (a2 : Int32) (hLP : lw_st LP) (F : lw_Fm p R s m args c D tys cO cD A) (L : lw_H D A s w H locs) (I : lw_I E LP tys cO cD qx qo qd sh w st cx cy fs) (hls : ls.size = 9) (hcs : cells + 8 ≤ R.cells ∧ slots + 64 ≤ R.slots)
    (k : ∀ (u : en_H × va_W) (r9 : Int32) (H1 : Heap) (locs1 : List Loc) (fs' : List Value), lw_I E LP tys cO cD qx qo qd u.1 u.2 st cx cy fs' → lw_H D A s u.2 H1 locs1 → W p l e R s m args below meth c H1 locs1 (cells + 8) (slots + 64) Q (F0 m 591 ls [.int r9])) :
    W p l e R s m args below meth c H locs cells slots Q (F0 m 588 ls (([.ref (sh.2 qx), .int a1, .int a2, .ref (sh.2 qo)] : List Value).reverse ++ [])) := by
  obtain ⟨g0, hw9⟩ := I.hwo
  obtain ⟨fx, v8, v9, hwx, -⟩ := I.hed
  refine lw_wc F L (wr_gets hl9 en_Pc_ok (en_Of cx cy) D tys cO cD sh w H.size qx qo fx g0 a1 a2 F.hTY (lw_pre I.hs.1 (by decide) (Or.inr (by decide))) (lw_D9 L) (I.hO cx cy) I.hx hwx I.ho hw9) gx_gets rfl (by decide) (by decide) ⟨Nat.le_trans (Nat.add_le_add_left (Nat.le_of_ble_eq_true rfl) _) hcs.1, Nat.le_trans (Nat.add_le_add_left (Nat.le_of_ble_eq_true rfl) _) hcs.2⟩ hls dlw_588 (fun u r9 H1 locs1 hp9 L1 => ?_)
  obtain ⟨hpx, g9, hg9⟩ := hp9
  obtain ⟨fs', I1⟩ := lw_Iqq hLP I hpx (by decide +kernel) (lw_qall I.hst (by decide +kernel)) (by decide +kernel) (by decide +kernel) ⟨g9, by rw [(hpx.1.at I.ho).2]; exact hg9⟩ (lw_Id I hpx (by decide +kernel))
  exact W.widen (k := cells + 8) (n := slots + 64) (Nat.add_le_add_left (Nat.le_of_ble_eq_true rfl) _) (Nat.add_le_add_left (Nat.le_of_ble_eq_true rfl) _) (k u r9 H1 locs1 fs' I1 L1)
end
