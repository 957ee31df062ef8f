section
variable {p : Program} {l : Launch} {e : Env} {R : Room} {s : State} {m : MethodId} {args : Array Value} {below : List Frame} {meth : Method} {c : Code} {Q : State → Prop}
variable {D : va_G} {tys : List (ClassId × FieldType)} {cO cD : ClassId} {A : Nat → Prop} {sh : en_H} {w : va_W} {H : Heap} {locs : List Loc} {ls : Array Slot} {cells slots qx qo qd : Nat} {E : Int32 → Int32 → Prop} {cL : ClassId} {e0 ca : Nat} {af : Nat → Nat} {am ax ao ad b Ln i st : Nat} {xs : Nat → Int32} {cx cy : Int32} {fs : List Value}
set_option maxHeartbeats 4000000 in
theorem lx_nextHole (hl9 : l.stackTraces = false) (F : lw_Fm p R s m args c D tys cO cD A) (L : lw_H D A s w H locs) (I : lw_I E (lw_LA (lw_LR tys cL e0 af qx qo qd) am ax ao ad qx qo qd) tys cO cD qx qo qd sh w st cx cy fs) (hls : ls.size = 9) (hcs : cells + 8 ≤ R.cells ∧ slots + 64 ≤ R.slots)
    (k : ∀ (u : en_H × va_W) (r9 : Int32) (H1 : Heap) (locs1 : List Loc) (fs' : List Value), lw_I E (lw_LA (lw_LR tys cL e0 af qx qo qd) am ax ao ad qx qo qd) tys cO cD qx qo qd u.1 u.2 st cx cy fs' → lw_H D A s u.2 H1 locs1 → W p l e R s m args below meth c H1 locs1 (cells + 8) (slots + 64) Q (F0 m 1490 ls [.int r9])) :
    W p l e R s m args below meth c H locs cells slots Q (F0 m 1487 ls (([.ref (sh.2 qx), .ref (sh.2 qo)] : List Value).reverse ++ [])) := by
  obtain ⟨⟨hLL, hR, e66, e138, e139⟩, hlen, em, ex, eo, ed⟩ := I.hl
  subst e66
  subst e138
  subst e139
  obtain ⟨hs, fx, fs9, hc, pc, bg, ix, ar, ck, rr, mk, hX, hM, hlk, hon⟩ := hR
  have efs : fs9 = fs := (Prod.mk.inj (Sum.inr.inj (Prod.mk.inj (Option.some.inj (hM.1.1.symm.trans I.hs.2.1))).2)).2
  subst efs
  have I0 := I.lp (LP' := lw_LA (lw_LL cL e0 af) am ax ao ad 66 138 139) ⟨hLL, hlen, em, ex, eo, ed⟩
  have hst0 : lw_stw [] (lw_LA (lw_LL cL e0 af) am ax ao ad 66 138 139) := lw_LA_st lw_LL_st
  obtain ⟨g0, hw9⟩ := I.hwo
  by_cases hbg : bg = 0
  · skip
    refine lw_wcE F L (wr_nextHole_z hl9 en_Pc_ok (en_Of cx cy) D tys cO cD sh w H.size 66 138 fx g0 F.hTY (lw_pre I.hs.1 (by decide) (Or.inr (by decide))) (lw_D9 L) (I.hO cx cy) I.hx hX.1.1 I.ho hw9 (hon hbg) ⟨by decide, by decide⟩) gx_nextHole rfl (by decide) (by decide) ⟨Nat.le_trans (Nat.add_le_add_left (Nat.le_of_ble_eq_true rfl) _) hcs.1, Nat.le_trans (Nat.add_le_add_left (Nat.le_of_ble_eq_true rfl) _) hcs.2⟩ hls dlw_1487 (fun u r9 H1 locs1 hp9 L1 => ?_)
    obtain ⟨hpx, g9, hg9⟩ := hp9
    obtain ⟨fs', I1⟩ := lw_Iqq hst0 I0 hpx (by decide +kernel) (lw_qall I.hst (by decide +kernel)) (by decide +kernel) (by decide +kernel) ⟨g9, by rw [(hpx.1.at I.ho).2]; exact hg9⟩ (lw_Id I0 hpx (by decide +kernel))
    have hM1 := kx_bM hpx hs hM (by decide +kernel) I1
    rw [← kx_st1 I hM] at hM1
    obtain ⟨fx2, hX2, e11⟩ := kx_bX hpx hs hX (by decide +kernel)
    have hR2 : kx_R tys u.1 u.2 := ⟨hs.gr hpx.1, fx2, fs', hc, pc, bg, ix, ar, ck, rr, mk, hX2, hM1, hlk, fun hb => e11.trans (hon hb)⟩
    have I2 := I1.lp (LP' := lw_LA (lw_LR tys cL e0 af 66 138 139) am ax ao ad 66 138 139) ⟨⟨I1.hl.1, hR2, rfl, rfl, rfl⟩, I1.hl.2⟩
    refine W.widen (k := cells + 8) (n := slots + 64) (Nat.add_le_add_left (Nat.le_of_ble_eq_true rfl) _) (Nat.add_le_add_left (Nat.le_of_ble_eq_true rfl) _) ?_
    exact k u r9 H1 locs1 fs' I2 L1
  · skip
    refine lw_wcE F L ((wr_nextHole hl9 en_Pc_ok (en_Of cx cy) D tys cO cD sh w H.size 66 138 fx g0 F.hTY (lw_pre I.hs.1 (by decide) (Or.inr (by decide))) (lw_D9 L) (I.hO cx cy) I.hx hX.1.1 I.ho hw9)) gx_nextHole rfl (by decide) (by decide) ⟨Nat.le_trans (Nat.add_le_add_left (Nat.le_of_ble_eq_true rfl) _) hcs.1, Nat.le_trans (Nat.add_le_add_left (Nat.le_of_ble_eq_true rfl) _) hcs.2⟩ hls dlw_1487 (fun u r9 H1 locs1 hp9 L1 => ?_)
    obtain ⟨hpx, g9, hg9⟩ := hp9
    obtain ⟨fs', I1⟩ := lw_Iqq hst0 I0 hpx (by decide +kernel) (lw_qall I.hst (by decide +kernel)) (by decide +kernel) (by decide +kernel) ⟨g9, by rw [(hpx.1.at I.ho).2]; exact hg9⟩ (lw_Id I0 hpx (by decide +kernel))
    have hM1 := kx_bM hpx hs hM (by decide +kernel) I1
    rw [← kx_st1 I hM] at hM1
    obtain ⟨fx2, hX2⟩ := kx_bX2 hpx hs hX (by decide +kernel)
    have hR2 : kx_R tys u.1 u.2 := ⟨hs.gr hpx.1, fx2, fs', hc, pc, bg, ix, ar, ck, rr, mk, hX2, hM1, hlk, fun hb => absurd hb hbg⟩
    have I2 := I1.lp (LP' := lw_LA (lw_LR tys cL e0 af 66 138 139) am ax ao ad 66 138 139) ⟨⟨I1.hl.1, hR2, rfl, rfl, rfl⟩, I1.hl.2⟩
    refine W.widen (k := cells + 8) (n := slots + 64) (Nat.add_le_add_left (Nat.le_of_ble_eq_true rfl) _) (Nat.add_le_add_left (Nat.le_of_ble_eq_true rfl) _) ?_
    exact k u r9 H1 locs1 fs' I2 L1
end
