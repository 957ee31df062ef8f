section
variable {p : Program} {l : Launch} {e : Env} {R : Room} {s : State} {m : MethodId} {args : Array Value} {below : List Frame} {meth : Method} {c : Code} {Q : State → Prop}
variable {D : va_G} {tys : List (ClassId × FieldType)} {cO cD : ClassId} {A : Nat → Prop} {sh : en_H} {w : va_W} {H : Heap} {locs : List Loc} {ls : Array Slot} {cells slots qx qo qd : Nat} {cL : ClassId} {e0 ca : Nat} {af : Nat → Nat} {am ax ao ad b Ln i st : Nat} {xs : Nat → Int32} {cx cy : Int32} {fs : List Value}
set_option maxHeartbeats 4000000 in
theorem lc_55 (hl9 : l.stackTraces = false) (F : lw_Fm p R s m args c D tys cO cD A) (X : lw_X b Ln xs s A i) (L : lw_H D A s w H locs) (I : lw_I lw_E (lw_LA (lw_LR tys cL e0 af qx qo qd) am ax ao ad qx qo qd) tys cO cD qx qo qd sh w st cx cy fs) (hl : lv_has ls 9 (lw_lv b ax am ao ad i)) (hcs : cells + 100 ≤ R.cells ∧ slots + 1000 ≤ R.slots)
    (k : ∀ (u : en_H × va_W) (H1 : Heap) (locs1 : List Loc) (ls1 : Array Slot) (st' : Nat) (cx' cy' : Int32) (fs' : List Value), lw_I lw_E (lw_LA (lw_LR tys cL e0 af qx qo qd) am ax ao ad qx qo qd) tys cO cD qx qo qd u.1 u.2 st' cx' cy' fs' → lw_H D A s u.2 H1 locs1 → lv_has ls1 9 (lw_lv b ax am ao ad i) → W p l e R s m args below meth c H1 locs1 (cells + 100) (slots + 1000) Q (F0 m 2329 ls1 [])) :
    W p l e R s m args below meth c H locs cells slots Q (F0 m 2316 ls []) := by
  have hx := F.hx
  have hb := F.hb
  have hls := hl.1
  have hcs0 := hcs
  refine lv_aload_n hx hb (show decode cL_law 2316 = .ok (.aload_n 1, 1) from by decide +kernel) rfl (lv_at hl 1 rfl) ?_
  obtain ⟨⟨hLL, hR, e66, e138, e139⟩, hlen, em, ex, eo, ed⟩ := I.hl
  subst e66
  subst e138
  subst e139
  have I0 := I.lp (LP' := lw_LA (lw_LL cL e0 af) am ax ao ad 66 138 139) ⟨hLL, hlen, em, ex, eo, ed⟩
  have hst0 : lw_stw [] (lw_LA (lw_LL cL e0 af) am ax ao ad 66 138 139) := lw_LA_st lw_LL_st
  rw [← ex]
  have G : kx_G p s m args c cL_law RL D tys A := ⟨F.hx, F.hb, F.hts, F.hown, F.hK.pre, F.hT, F.hA⟩
  obtain ⟨dt, hX⟩ := ks_mk I0 hR F.hTY
  have hcs : cells + 8 ≤ R.cells ∧ slots + 64 ≤ R.slots := ⟨by omega, by omega⟩
  refine kx_cV (As := []) (rest := []) (q := 66) (ci := 12) G L (kx_X6_isSound hl9 D (kx_D1 L) hX) gm_X6_isSound hX.o rfl rfl rfl (F.hml.trans hls.symm) ⟨by have := F.hR.1; omega, by have := F.hR.2; omega⟩ ⟨Nat.le_trans (Nat.add_le_add_left (Nat.le_of_ble_eq_true rfl) _) hcs.1, Nat.le_trans (Nat.add_le_add_left (Nat.le_of_ble_eq_true rfl) _) hcs.2⟩ (Nat.le_of_ble_eq_true rfl) dlw_2317 (fun _ _ _ _ _ h9 => h9.elim) (fun res w1 H1 locs1 hrv hq L1 => ?_)
  obtain ⟨ew1, er1⟩ := hq
  subst er1
  rw [ew1] at L1
  refine W.widen (k := cells + 8) (n := slots + 64) (Nat.add_le_add_left (Nat.le_of_ble_eq_true rfl) _) (Nat.add_le_add_left (Nat.le_of_ble_eq_true rfl) _) ?_
  show W _ _ _ _ _ _ _ _ _ _ _ _ _ _ _ (F0 m 2320 ls [.int 1])
  refine lv_aload_n hx hb (show decode cL_law 2320 = .ok (.aload_n 2, 1) from by decide +kernel) rfl (lv_at hl 2 rfl) ?_
  rw [← em]
  have hcs : (cells + 8) + 8 ≤ R.cells ∧ (slots + 64) + 64 ≤ R.slots := ⟨by omega, by omega⟩
  refine kx_cV (As := []) (rest := [.int 1]) (q := 0) (ci := 13) G L1 (kx_X7_isSound hl9 D (kx_D1 L1) I.hs.2.1 (ks_ml I0)) gm_X7_isSound I.hs.2.1 rfl rfl rfl (F.hml.trans hls.symm) ⟨by have := F.hR.1; omega, by have := F.hR.2; omega⟩ ⟨Nat.le_trans (Nat.add_le_add_left (Nat.le_of_ble_eq_true rfl) _) hcs.1, Nat.le_trans (Nat.add_le_add_left (Nat.le_of_ble_eq_true rfl) _) hcs.2⟩ (Nat.le_of_ble_eq_true rfl) dlw_2321 (fun _ _ _ _ _ h9 => h9.elim) (fun res w2 H2 locs2 hrv2 hq2 L2 => ?_)
  obtain ⟨er2, fs1, hT⟩ := hq2
  subst er2
  show W _ _ _ _ _ _ _ _ _ _ _ _ _ _ _ (F0 m 2324 ls [.int 1, .int 1])
  have I2 := kx_tI hst0 I0 hT
  have hR2 : kx_R tys sh w2 := ks_Rof hR fun j hj => hT.2.2.2.2.2 j (by omega)
  have I3 := I2.lp (LP' := lw_LA (lw_LR tys cL e0 af 66 138 139) am ax ao ad 66 138 139) ⟨⟨I2.hl.1, hR2, rfl, rfl, rfl⟩, I2.hl.2⟩
  refine lv_icmp_eq (tgt := 2329) hx hb (show decode cL_law 2324 = .ok (.if_icmp .eq 5, 3) from by decide +kernel) (by decide) (fun _ => ?_) (fun h => absurd rfl h)
  refine W.widen (k := cells + 100) (n := slots + 1000) (by omega) (by omega) ?_
  exact k (sh, w2) _ _ _ _ _ _ _ I3 L2 (lv_sub hl [0, 1, 2, 3, 4, 5] rfl)
end
