section
variable {p : Program} {l : Launch} {e : Env} {R : Room} {s : State} {m : MethodId} {args : Array Value} {below : List Frame} {meth : Method} {c : Code} {Q : State → Prop}
variable {D : va_G} {tys : List (ClassId × FieldType)} {cO cD : ClassId} {A : Nat → Prop} {sh : en_H} {w : va_W} {H : Heap} {locs : List Loc} {ls : Array Slot} {cells slots : Nat} {E : Int32 → Int32 → Prop} {LP : en_H → va_W → Prop} {st : Nat} {cx cy : Int32} {fs fx : List Value}
variable {hc pc hm pm : Nat} {bg bm : Int32} {ix ar : Nat → Int32} {ck rr mk : Nat → Nat → Int32}
set_option maxHeartbeats 4000000 in
theorem kc_hole (hl9 : l.stackTraces = false) (a1 : Int32) (a2 : Int32) (a3 : Int32) (a4 : Int32) (a5 : Int32) (a6 : Int32) (hLP : lw_stw [] LP) (F : lw_Fm p R s m args c D tys cO cD A) (L : lw_H D A s w H locs) (I : lw_I E LP tys cO cD 66 138 139 sh w st cx cy fs) (hs : kx_sh sh) (hX : kx_X tys sh w fx hc pc bg ix ar ck) (hls : ls.size = 9) (hcs : cells + 8 ≤ R.cells ∧ slots + 64 ≤ R.slots)
    (k : ∀ (w1 : va_W) (r : Int32) (H1 : Heap) (locs1 : List Loc) (fx1 : List Value) (hc1 pc1 : Nat) (ix1 ar1 : Nat → Int32) (ck1 : Nat → Nat → Int32) (g : Nat → Int64), lw_I E LP tys cO cD 66 138 139 sh w1 st cx cy fs → lw_H D A s w1 H1 locs1 → kx_X tys sh w1 fx1 hc1 pc1 bg ix1 ar1 ck1 → (∀ j, j < 66 → w1[j]? = w[j]?) → fx1[11]? = fx[11]? → w1[138]? = some (sh.2 138, .inl (cO, 1, .inr (.inl g))) → kx_ox_hole hc pc bg ix ar ck a1 a2 a3 a4 a5 a6 r (g 0) hc1 pc1 ix1 ar1 ck1 → W p l e R s m args below meth c H1 locs1 (cells + 8) (slots + 64) Q (F0 m 326 ls [.int r])) :
    W p l e R s m args below meth c H locs cells slots Q (F0 m 323 ls (([.ref (sh.2 66), .int a1, .int a2, .int a3, .int a4, .int a5, .int a6, .ref (sh.2 138)] : List Value).reverse ++ [])) := by
  obtain ⟨g0, hw9⟩ := I.hwo
  have fX := hX.1
  have hc9 : hc ≤ 9 := fX.2.2.2.2.2.2.1
  refine lw_wcE F L (wk_hole hl9 D tys cO cD sh w H.size g0 a1 a2 a3 a4 a5 a6 hX (lw_D9 L) hw9 F.hTY) gx_hole rfl (by decide) (by decide) ⟨Nat.le_trans (Nat.add_le_add_left (Nat.le_of_ble_eq_true rfl) _) hcs.1, Nat.le_trans (Nat.add_le_add_left (Nat.le_of_ble_eq_true rfl) _) hcs.2⟩ hls dlw_323 (fun u r9 H1 locs1 hp9 L1 => ?_)
  obtain ⟨-, hp⟩ := hp9
  refine W.widen (k := cells + 8) (n := slots + 64) (Nat.add_le_add_left (Nat.le_of_ble_eq_true rfl) _) (Nat.add_le_add_left (Nat.le_of_ble_eq_true rfl) _) ?_
  rcases hp with ⟨er, h1, ew⟩ | ⟨er, h1, h2, ew⟩ | ⟨er, h1, h2, h3, ew⟩ | ⟨er, h1, h2, h3, fx1, g, hX1, h138, hg, hlen, ho, hf⟩
  · rw [ew] at L1
    exact k w r9 H1 locs1 fx hc pc ix ar ck g0 I L1 hX (fun _ _ => rfl) rfl hw9 ⟨rfl, rfl, rfl, Or.inl ⟨rfl, rfl, Or.inl ⟨er, h1⟩⟩⟩
  · rw [ew] at L1
    exact k w r9 H1 locs1 fx hc pc ix ar ck g0 I L1 hX (fun _ _ => rfl) rfl hw9 ⟨rfl, rfl, rfl, Or.inl ⟨rfl, rfl, Or.inr (Or.inl ⟨er, h1, h2⟩)⟩⟩
  · rw [ew] at L1
    exact k w r9 H1 locs1 fx hc pc ix ar ck g0 I L1 hX (fun _ _ => rfl) rfl hw9 ⟨rfl, rfl, rfl, Or.inl ⟨rfl, rfl, Or.inr (Or.inr ⟨er, h1, h2, h3⟩)⟩⟩
  · have I1 := kx_xI (h := hc) hLP I hs hX hX1 h2.2 (fun i _ => Or.inl rfl) h138 hlen (fun j a b _ d => ho j a b d) (fun j a _ => hf j a)
    exact k u.2 r9 H1 locs1 fx1 (hc + 1) pc (va_up ix hc a2) ar ck g I1 L1 hX1 (fun j hj => ho j (by omega) (by omega) (by omega)) (hf 11 (by decide)) h138 ⟨rfl, rfl, rfl, Or.inr ⟨er, h1, h2, h3, rfl, rfl, hg⟩⟩
set_option maxHeartbeats 4000000 in
theorem kc_area (hl9 : l.stackTraces = false) (a1 : Int32) (a2 : Int32) (a3 : Int32) (a4 : Int32) (a5 : Int32) (a6 : Int32) (hb2 : 0 ≤ a2.toInt ∧ a2.toInt ≤ 65535) (hLP : lw_stw [] LP) (F : lw_Fm p R s m args c D tys cO cD A) (L : lw_H D A s w H locs) (I : lw_I E LP tys cO cD 66 138 139 sh w st cx cy fs) (hs : kx_sh sh) (hX : kx_X tys sh w fx hc pc bg ix ar ck) (hls : ls.size = 9) (hcs : cells + 8 ≤ R.cells ∧ slots + 64 ≤ R.slots)
    (k : ∀ (w1 : va_W) (r : Int32) (H1 : Heap) (locs1 : List Loc) (fx1 : List Value) (hc1 pc1 : Nat) (ix1 ar1 : Nat → Int32) (ck1 : Nat → Nat → Int32) (g : Nat → Int64), lw_I E LP tys cO cD 66 138 139 sh w1 st cx cy fs → lw_H D A s w1 H1 locs1 → kx_X tys sh w1 fx1 hc1 pc1 bg ix1 ar1 ck1 → (∀ j, j < 66 → w1[j]? = w[j]?) → fx1[11]? = fx[11]? → w1[138]? = some (sh.2 138, .inl (cO, 1, .inr (.inl g))) → kx_ox_area hc pc bg ix ar ck a1 a2 a3 a4 a5 a6 r (g 0) hc1 pc1 ix1 ar1 ck1 → W p l e R s m args below meth c H1 locs1 (cells + 8) (slots + 64) Q (F0 m 417 ls [.int r])) :
    W p l e R s m args below meth c H locs cells slots Q (F0 m 414 ls (([.ref (sh.2 66), .int a1, .int a2, .int a3, .int a4, .int a5, .int a6, .ref (sh.2 138)] : List Value).reverse ++ [])) := by
  obtain ⟨g0, hw9⟩ := I.hwo
  have fX := hX.1
  have hc9 : hc ≤ 9 := fX.2.2.2.2.2.2.1
  refine lw_wcE F L (wk_area hl9 D tys cO cD sh w H.size g0 a1 a2 a3 a4 a5 a6 hb2 hX (lw_D9 L) hw9 F.hTY) gx_area rfl (by decide) (by decide) ⟨Nat.le_trans (Nat.add_le_add_left (Nat.le_of_ble_eq_true rfl) _) hcs.1, Nat.le_trans (Nat.add_le_add_left (Nat.le_of_ble_eq_true rfl) _) hcs.2⟩ hls dlw_414 (fun u r9 H1 locs1 hp9 L1 => ?_)
  obtain ⟨-, hp⟩ := hp9
  refine W.widen (k := cells + 8) (n := slots + 64) (Nat.add_le_add_left (Nat.le_of_ble_eq_true rfl) _) (Nat.add_le_add_left (Nat.le_of_ble_eq_true rfl) _) ?_
  rcases hp with ⟨er, h1, ew⟩ | ⟨er, h1, h2, ew⟩ | ⟨er, h1, h2, h3, ew⟩ | ⟨er, h1, h2, h3, g, hX1, h138, hg, hlen, ho⟩
  · rw [ew] at L1
    exact k w r9 H1 locs1 fx hc pc ix ar ck g0 I L1 hX (fun _ _ => rfl) rfl hw9 ⟨rfl, rfl, rfl, Or.inl ⟨rfl, rfl, Or.inl ⟨er, h1⟩⟩⟩
  · rw [ew] at L1
    exact k w r9 H1 locs1 fx hc pc ix ar ck g0 I L1 hX (fun _ _ => rfl) rfl hw9 ⟨rfl, rfl, rfl, Or.inl ⟨rfl, rfl, Or.inr (Or.inl ⟨er, h1, h2⟩)⟩⟩
  · rw [ew] at L1
    exact k w r9 H1 locs1 fx hc pc ix ar ck g0 I L1 hX (fun _ _ => rfl) rfl hw9 ⟨rfl, rfl, rfl, Or.inl ⟨rfl, rfl, Or.inr (Or.inr ⟨er, h1, h2, h3⟩)⟩⟩
  · have hh : a1.toInt.toNat < 9 := by omega
    have I1 := kx_xI (h := a1.toInt.toNat) hLP I hs hX hX1 hh (fun i _ => kx_ck_b hb2) h138 hlen (fun j _ b c d => ho j b c d) (fun _ _ _ => rfl)
    exact k u.2 r9 H1 locs1 fx hc pc ix _ _ g I1 L1 hX1 (fun j hj => ho j (by omega) (by omega) (by omega)) rfl h138 ⟨rfl, rfl, rfl, Or.inr ⟨er, h1, h2, h3, rfl, rfl, hg⟩⟩
set_option maxHeartbeats 4000000 in
theorem kc_player (hl9 : l.stackTraces = false) (hLP : lw_stw [] LP) (F : lw_Fm p R s m args c D tys cO cD A) (L : lw_H D A s w H locs) (I : lw_I E LP tys cO cD 66 138 139 sh w st cx cy fs) (hs : kx_sh sh) (hX : kx_X tys sh w fx hc pc bg ix ar ck) (hls : ls.size = 9) (hcs : cells + 8 ≤ R.cells ∧ slots + 64 ≤ R.slots)
    (k : ∀ (w1 : va_W) (r : Int32) (H1 : Heap) (locs1 : List Loc) (fx1 : List Value) (hc1 pc1 : Nat) (ix1 ar1 : Nat → Int32) (ck1 : Nat → Nat → Int32) (g : Nat → Int64), lw_I E LP tys cO cD 66 138 139 sh w1 st cx cy fs → lw_H D A s w1 H1 locs1 → kx_X tys sh w1 fx1 hc1 pc1 bg ix1 ar1 ck1 → (∀ j, j < 66 → w1[j]? = w[j]?) → fx1[11]? = fx[11]? → w1[138]? = some (sh.2 138, .inl (cO, 1, .inr (.inl g))) → kx_ox_player hc pc bg ix ar ck r (g 0) hc1 pc1 ix1 ar1 ck1 → W p l e R s m args below meth c H1 locs1 (cells + 8) (slots + 64) Q (F0 m 523 ls [.int r])) :
    W p l e R s m args below meth c H locs cells slots Q (F0 m 520 ls (([.ref (sh.2 66), .ref (sh.2 138)] : List Value).reverse ++ [])) := by
  obtain ⟨g0, hw9⟩ := I.hwo
  have fX := hX.1
  have hc9 : hc ≤ 9 := fX.2.2.2.2.2.2.1
  refine lw_wcE F L (wk_player hl9 D tys cO cD sh w H.size g0 hX (lw_D9 L) hw9 F.hTY) gx_player rfl (by decide) (by decide) ⟨Nat.le_trans (Nat.add_le_add_left (Nat.le_of_ble_eq_true rfl) _) hcs.1, Nat.le_trans (Nat.add_le_add_left (Nat.le_of_ble_eq_true rfl) _) hcs.2⟩ hls dlw_520 (fun u r9 H1 locs1 hp9 L1 => ?_)
  obtain ⟨-, hp⟩ := hp9
  refine W.widen (k := cells + 8) (n := slots + 64) (Nat.add_le_add_left (Nat.le_of_ble_eq_true rfl) _) (Nat.add_le_add_left (Nat.le_of_ble_eq_true rfl) _) ?_
  rcases hp with ⟨er, h1, ew⟩ | ⟨er, h1, fx1, g, hX1, h138, hg, hlen, ho, hf⟩
  · rw [ew] at L1
    exact k w r9 H1 locs1 fx hc pc ix ar ck g0 I L1 hX (fun _ _ => rfl) rfl hw9 ⟨rfl, rfl, rfl, rfl, Or.inl ⟨rfl, er, h1⟩⟩
  · have I1 := kx_xI (h := 0) hLP I hs hX hX1 (by decide) (fun i _ => Or.inl rfl) h138 hlen (fun j a _ _ d => ho j a d) (fun j _ b => hf j b)
    exact k u.2 r9 H1 locs1 fx1 hc (pc + 1) ix ar ck g I1 L1 hX1 (fun j hj => ho j (by omega) (by omega)) (hf 11 (by decide)) h138 ⟨rfl, rfl, rfl, rfl, Or.inr ⟨er, h1, rfl, hg⟩⟩
end
