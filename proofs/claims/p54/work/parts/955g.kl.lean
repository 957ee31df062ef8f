section
variable {p : Program} {l : Launch} {e : Env} {R : Room} {s : State} {m : MethodId} {args : Array Value} {below : List Frame} {meth : Method} {c : Code} {Q : State → Prop}
variable {D : va_G} {tys : List (ClassId × FieldType)} {cO cD : ClassId} {A : Nat → Prop} {sh : en_H} {w : va_W} {H : Heap} {locs : List Loc} {ls : Array Slot} {cells slots : Nat} {E : Int32 → Int32 → Prop} {LP : en_H → va_W → Prop} {st : Nat} {cx cy : Int32} {fs fx : List Value}
variable {hc pc hm pm : Nat} {bg bm : Int32} {ix ar : Nat → Int32} {ck rr mk : Nat → Nat → Int32}
set_option maxHeartbeats 4000000 in
theorem km_hole (hl9 : l.stackTraces = false) (a1 : Int32) (a2 : Int32) (a3 : Int32) (a4 : Int32) (a5 : Int32) (a6 : Int32) (hLP : lw_stw [] LP) (F : lw_Fm p R s m args c D tys cO cD A) (L : lw_H D A s w H locs) (I : lw_I E LP tys cO cD 66 138 139 sh w st cx cy fs) (hs : kx_sh sh) (hX : kx_X tys sh w fx hc pc bg ix ar ck) (hM : kx_M tys sh w fs hm pm bg rr mk) {g : Nat → Int64} (hw9 : w[138]? = some (sh.2 138, .inl (cO, 1, .inr (.inl g)))) (hls : ls.size = 9) (hcs : cells + 8 ≤ R.cells ∧ slots + 64 ≤ R.slots)
    (k : ∀ (sh2 : en_H) (w2 : va_W) (v t : Int32) (H1 : Heap) (locs1 : List Loc) (fs2 : List Value) (hm2 pm2 : Nat) (rr2 mk2 : Nat → Nat → Int32), lw_I E LP tys cO cD 66 138 139 sh2 w2 st cx cy fs2 → lw_H D A s w2 H1 locs1 → kx_sh sh2 → kx_X tys sh2 w2 fx hc pc bg ix ar ck → kx_M tys sh2 w2 fs2 hm2 pm2 bg rr2 mk2 → fs2[30]? = some (.int t) → w2[138]? = some (sh2.2 138, .inl (cO, 1, .inr (.inl g))) → kx_om_hole hm pm bg rr mk a1 a2 a3 a4 a5 a6 v t hm2 pm2 rr2 mk2 → W p l e R s m args below meth c H1 locs1 (cells + 8) (slots + 64) Q (F0 m 369 ls [.int v])) :
    W p l e R s m args below meth c H locs cells slots Q (F0 m 366 ls (([.int a1, .int a2, .int a3, .int a4, .int a5, .int a6] : List Value).reverse ++ [.ref (sh.2 0)])) := by
  have G : kx_G p s m args c cL_law RL D tys A := ⟨F.hx, F.hb, F.hts, F.hown, F.hK.pre, F.hT, F.hA⟩
  have hwl : 138 < w.length := (List.getElem?_eq_some_iff.mp hw9).1
  have fM := hM.1
  have hc9 : hm ≤ 9 := fM.2.2.2.2.2.2.2.1
  have hp9 : pm ≤ 6 := fM.2.2.2.2.2.2.2.2.1
  refine kx_cV (As := [.int a1, .int a2, .int a3, .int a4, .int a5, .int a6]) (rest := []) (q := 0) (ci := 13) G L (kx_X7_hole hl9 D (kx_D1 L) hM) gm_X7_hole hM.1.1 rfl rfl rfl (F.hml.trans hls.symm) ⟨by have := F.hR.1; omega, by have := F.hR.2; omega⟩ ⟨Nat.le_trans (Nat.add_le_add_left (Nat.le_of_ble_eq_true rfl) _) hcs.1, Nat.le_trans (Nat.add_le_add_left (Nat.le_of_ble_eq_true rfl) _) hcs.2⟩ (by decide) dlw_366 (fun _ _ _ _ _ h9 => h9.elim) (fun res w1 H1 locs1 hrv hq L1 => ?_)
  refine W.widen (k := cells + 8) (n := slots + 64) (Nat.add_le_add_left (Nat.le_of_ble_eq_true rfl) _) (Nat.add_le_add_left (Nat.le_of_ble_eq_true rfl) _) ?_
  rcases hq with ⟨er, fs1, t, hT, ho⟩ | ⟨er, h1, h2, h3, h4, fs1, r9, cI, g9, hM1, h30, gff, hn, htI, hr9, hot⟩
  · subst er
    show W _ _ _ _ _ _ _ _ _ _ _ _ _ _ _ (F0 m 369 ls [.int 0])
    have I2 := kx_tI hLP I hT
    exact k sh w1 _ _ H1 locs1 fs1 hm pm rr mk I2 L1 hs (hX.of fun j a b => hT.2.2.2.2.2 j (by omega)) (hM.t hT) hT.2.2.1 ((hT.2.2.2.2.2 138 (by decide)).trans hw9) ⟨rfl, Or.inl ⟨rfl, rfl, rfl, ho⟩⟩
  · subst er
    show W _ _ _ _ _ _ _ _ _ _ _ _ _ _ _ (F0 m 369 ls [.int (nI hm)])
    have e0 := kx_bg0 I hM h2
    subst e0
    have hg : en_Gr [45] sh (en_shx sh 45 r9) := en_shx_gr (by decide) (by decide)
    obtain ⟨c1, c2, c3, c4, c5⟩ := id h1
    have ecu := kx_cup I hM
    have I2 := kx_gI (h := hm) (k := 45) (kd := .inr (0, 7, .inr ([(-2147483648, 2147483647), (-2147483648, 2147483647), (-2147483648, 2147483647), (-2147483648, 2147483647), (-2147483648, 2147483647), (-2147483648, 2147483647), (-2147483648, 2147483647)], []))) hLP I hs hM hM1 h3 (by rw [kx_rw_self]; exact ⟨⟨c3.1, c3.2.1⟩, ⟨c3.2.2.1, c3.2.2.2⟩, ⟨c4.1, c4.2.1⟩, ⟨c4.2.2.1, c4.2.2.2⟩⟩) (fun i _ => by rw [kx_rw_self]; exact Or.inr ⟨by decide, by decide⟩) (fun j hj => by by_cases ej : j = hm; rw [ej, kx_rw_self]; exact fun z => c5 z; rw [kx_rw_ne ej]; exact ecu j (by omega)) h30 gff hn hr9 (by decide) (by decide) rfl (kx_C45 htI) hot
    exact k (en_shx sh 45 r9) w1 _ _ H1 locs1 fs1 (hm + 1) pm _ _ I2 L1 (hs.gr hg) ((hX.of fun j a b => hot j (by omega) (by omega) (by omega) (by omega)).g hg hs) (hM1.g hg hs) h30 (by rw [(hg.at I.ho).2]; exact (hot 138 hwl (by omega) (by omega) (by omega)).trans hw9) ⟨rfl, Or.inr ⟨rfl, h1, ⟨h2, h3⟩, h4, rfl, rfl, rfl, rfl⟩⟩
set_option maxHeartbeats 4000000 in
theorem km_area (hl9 : l.stackTraces = false) (a1 : Int32) (a2 : Int32) (a3 : Int32) (a4 : Int32) (a5 : Int32) (a6 : Int32) (hb2 : 0 ≤ a2.toInt ∧ a2.toInt ≤ 65535) (hLP : lw_stw [] LP) (F : lw_Fm p R s m args c D tys cO cD A) (L : lw_H D A s w H locs) (I : lw_I E LP tys cO cD 66 138 139 sh w st cx cy fs) (hs : kx_sh sh) (hX : kx_X tys sh w fx hc pc bg ix ar ck) (hM : kx_M tys sh w fs hm pm bg rr mk) {g : Nat → Int64} (hw9 : w[138]? = some (sh.2 138, .inl (cO, 1, .inr (.inl g)))) (hls : ls.size = 9) (hcs : cells + 8 ≤ R.cells ∧ slots + 64 ≤ R.slots)
    (k : ∀ (sh2 : en_H) (w2 : va_W) (v t : Int32) (H1 : Heap) (locs1 : List Loc) (fs2 : List Value) (hm2 pm2 : Nat) (rr2 mk2 : Nat → Nat → Int32), lw_I E LP tys cO cD 66 138 139 sh2 w2 st cx cy fs2 → lw_H D A s w2 H1 locs1 → kx_sh sh2 → kx_X tys sh2 w2 fx hc pc bg ix ar ck → kx_M tys sh2 w2 fs2 hm2 pm2 bg rr2 mk2 → fs2[30]? = some (.int t) → w2[138]? = some (sh2.2 138, .inl (cO, 1, .inr (.inl g))) → kx_om_area hm pm bg rr mk a1 a2 a3 a4 a5 a6 v t hm2 pm2 rr2 mk2 → W p l e R s m args below meth c H1 locs1 (cells + 8) (slots + 64) Q (F0 m 461 ls [.int v])) :
    W p l e R s m args below meth c H locs cells slots Q (F0 m 458 ls (([.int a1, .int a2, .int a3, .int a4, .int a5, .int a6] : List Value).reverse ++ [.ref (sh.2 0)])) := by
  have G : kx_G p s m args c cL_law RL D tys A := ⟨F.hx, F.hb, F.hts, F.hown, F.hK.pre, F.hT, F.hA⟩
  have hwl : 138 < w.length := (List.getElem?_eq_some_iff.mp hw9).1
  have fM := hM.1
  have hc9 : hm ≤ 9 := fM.2.2.2.2.2.2.2.1
  have hp9 : pm ≤ 6 := fM.2.2.2.2.2.2.2.2.1
  refine kx_cV (As := [.int a1, .int a2, .int a3, .int a4, .int a5, .int a6]) (rest := []) (q := 0) (ci := 13) G L (kx_X7_area hl9 D (kx_D1 L) hM hb2.1 hb2.2) gm_X7_area hM.1.1 rfl rfl rfl (F.hml.trans hls.symm) ⟨by have := F.hR.1; omega, by have := F.hR.2; omega⟩ ⟨Nat.le_trans (Nat.add_le_add_left (Nat.le_of_ble_eq_true rfl) _) hcs.1, Nat.le_trans (Nat.add_le_add_left (Nat.le_of_ble_eq_true rfl) _) hcs.2⟩ (by decide) dlw_458 (fun _ _ _ _ _ h9 => h9.elim) (fun res w1 H1 locs1 hrv hq L1 => ?_)
  refine W.widen (k := cells + 8) (n := slots + 64) (Nat.add_le_add_left (Nat.le_of_ble_eq_true rfl) _) (Nat.add_le_add_left (Nat.le_of_ble_eq_true rfl) _) ?_
  rcases hq with ⟨er, ⟨r9, cX, g9, hn, htX, hr9, hg9⟩, fs1, t, ⟨q1, q2, q3, q4, q5⟩, ho⟩ | ⟨er, ⟨r9, cX, g9, hn, htX, hr9, hg9⟩, h1, h2, h3, fs1, hM1, h30, gff, hot⟩
  · subst er
    show W _ _ _ _ _ _ _ _ _ _ _ _ _ _ _ (F0 m 461 ls [.int 0])
    have hg : en_Gr [43] sh (en_shx sh 43 r9) := en_shx_gr (by decide) (by decide)
    have I2 := kx_aI hLP I hn htX hr9 hg9 q1 q2 q3 q4 q5
    have hM2 : kx_M tys sh w1 fs1 hm pm bg rr mk := kx_M.fl hM q1 q2 q4 (fun j hj h0 => q5 j (by omega) h0)
    exact k (en_shx sh 43 r9) w1 _ _ H1 locs1 fs1 hm pm rr mk I2 L1 (hs.gr hg) ((hX.of fun j a b => q5 j (by omega) (by omega)).g hg hs) (hM2.g hg hs) q3 (by rw [(hg.at I.ho).2]; exact (q5 138 hwl (by omega)).trans hw9) ⟨rfl, rfl, Or.inl ⟨rfl, rfl, ho⟩⟩
  · subst er
    show W _ _ _ _ _ _ _ _ _ _ _ _ _ _ _ (F0 m 461 ls [.int (rr a1.toInt.toNat 6 + 1)])
    have e0 := kx_bg0 I hM h3.1
    subst e0
    have hg : en_Gr [43] sh (en_shx sh 43 r9) := en_shx_gr (by decide) (by decide)
    have hh : a1.toInt.toNat < hm := by omega
    have erb := kx_rbo (h := a1.toInt.toNat) I hs hM (by omega)
    have ecu := kx_cup I hM
    have I2 := kx_gI (h := a1.toInt.toNat) (k := 43) (kd := .inr (1, 9, .inl (.inl (0, 65535, 0, 0)))) hLP I hs hM hM1 (by omega) (kx_ra_rb erb) (fun i _ => kx_ck_b hb2) (fun j hj => by rw [kx_ra_ne (i := 2) (by decide), kx_ra_ne (i := 3) (by decide), kx_ra_ne (i := 4) (by decide), kx_ra_ne (i := 5) (by decide)]; exact ecu j hj) h30 (fun j _ h => gff j h) hn hr9 (by decide) (by decide) rfl (kx_C43 htX hg9) hot
    exact k (en_shx sh 43 r9) w1 _ _ H1 locs1 fs1 hm pm _ _ I2 L1 (hs.gr hg) ((hX.of fun j a b => hot j (by omega) (by omega) (by omega) (by omega)).g hg hs) (hM1.g hg hs) h30 (by rw [(hg.at I.ho).2]; exact (hot 138 hwl (by omega) (by omega) (by omega)).trans hw9) ⟨rfl, rfl, Or.inr ⟨rfl, h1, h2, h3, rfl, rfl, rfl⟩⟩
set_option maxHeartbeats 4000000 in
theorem km_player (hl9 : l.stackTraces = false) (hLP : lw_stw [] LP) (F : lw_Fm p R s m args c D tys cO cD A) (L : lw_H D A s w H locs) (I : lw_I E LP tys cO cD 66 138 139 sh w st cx cy fs) (hs : kx_sh sh) (hX : kx_X tys sh w fx hc pc bg ix ar ck) (hM : kx_M tys sh w fs hm pm bg rr mk) {g : Nat → Int64} (hw9 : w[138]? = some (sh.2 138, .inl (cO, 1, .inr (.inl g)))) (hls : ls.size = 9) (hcs : cells + 8 ≤ R.cells ∧ slots + 64 ≤ R.slots)
    (k : ∀ (sh2 : en_H) (w2 : va_W) (v t : Int32) (H1 : Heap) (locs1 : List Loc) (fs2 : List Value) (hm2 pm2 : Nat) (rr2 mk2 : Nat → Nat → Int32), lw_I E LP tys cO cD 66 138 139 sh2 w2 st cx cy fs2 → lw_H D A s w2 H1 locs1 → kx_sh sh2 → kx_X tys sh2 w2 fx hc pc bg ix ar ck → kx_M tys sh2 w2 fs2 hm2 pm2 bg rr2 mk2 → fs2[30]? = some (.int t) → w2[138]? = some (sh2.2 138, .inl (cO, 1, .inr (.inl g))) → kx_om_player hm pm bg rr mk v t hm2 pm2 rr2 mk2 → W p l e R s m args below meth c H1 locs1 (cells + 8) (slots + 64) Q (F0 m 529 ls [.int v])) :
    W p l e R s m args below meth c H locs cells slots Q (F0 m 526 ls (([] : List Value).reverse ++ [.ref (sh.2 0)])) := by
  have G : kx_G p s m args c cL_law RL D tys A := ⟨F.hx, F.hb, F.hts, F.hown, F.hK.pre, F.hT, F.hA⟩
  have hwl : 138 < w.length := (List.getElem?_eq_some_iff.mp hw9).1
  have fM := hM.1
  have hc9 : hm ≤ 9 := fM.2.2.2.2.2.2.2.1
  have hp9 : pm ≤ 6 := fM.2.2.2.2.2.2.2.2.1
  refine kx_cV (As := []) (rest := []) (q := 0) (ci := 13) G L (kx_X7_player hl9 D (kx_D1 L) hM) gm_X7_player hM.1.1 rfl rfl rfl (F.hml.trans hls.symm) ⟨by have := F.hR.1; omega, by have := F.hR.2; omega⟩ ⟨Nat.le_trans (Nat.add_le_add_left (Nat.le_of_ble_eq_true rfl) _) hcs.1, Nat.le_trans (Nat.add_le_add_left (Nat.le_of_ble_eq_true rfl) _) hcs.2⟩ (by decide) dlw_526 (fun _ _ _ _ _ h9 => h9.elim) (fun res w1 H1 locs1 hrv hq L1 => ?_)
  refine W.widen (k := cells + 8) (n := slots + 64) (Nat.add_le_add_left (Nat.le_of_ble_eq_true rfl) _) (Nat.add_le_add_left (Nat.le_of_ble_eq_true rfl) _) ?_
  rcases hq with ⟨er, fs1, t, hT, et, h1⟩ | ⟨er, h1, h2, fs1, hM1, h30, gff, hn, hot⟩
  · subst er
    show W _ _ _ _ _ _ _ _ _ _ _ _ _ _ _ (F0 m 529 ls [.int 0])
    have I2 := kx_tI hLP I hT
    exact k sh w1 _ _ H1 locs1 fs1 hm pm rr mk I2 L1 hs (hX.of fun j a b => hT.2.2.2.2.2 j (by omega)) (hM.t hT) hT.2.2.1 ((hT.2.2.2.2.2 138 (by decide)).trans hw9) ⟨rfl, rfl, rfl, Or.inl ⟨rfl, et, h1⟩⟩
  · subst er
    show W _ _ _ _ _ _ _ _ _ _ _ _ _ _ _ (F0 m 529 ls [.int (nI pm)])
    have e0 := kx_bg0 I hM h1
    subst e0
    have I2 := kx_pI hLP I hM1.1.1 (hM1.1.2.1.trans hM.1.2.1.symm) h30 gff (k := pm + 1) (by omega) hM1.1.2.2.2.2.2.1 hn hot
    exact k sh w1 _ _ H1 locs1 fs1 hm (pm + 1) rr mk I2 L1 hs (hX.of fun j a b => hot j (by omega)) hM1 h30 ((hot 138 (by decide)).trans hw9) ⟨rfl, rfl, rfl, Or.inr ⟨rfl, ⟨h1, h2⟩, rfl, rfl⟩⟩
end
