/-- what the lists stand on, along the law -/
def lw_G (cL : ClassId) (e0 ca : Nat) (af : Nat → Nat) (D : va_G) (tys : List (ClassId × FieldType)) (cO cD : ClassId) (A : Nat → Prop) (s : State) : Prop := va_K D vwCl ((tys ++ [(cO, .long), (cD, .double)]) ++ [(cL, .object "java/lang/Object")]) s ∧ li_f e0 ca (af, fun _ => False) A s s.heap
theorem lw_tyA {tys : List (ClassId × FieldType)} {a b c : ClassId × FieldType} {t : Nat} {x : ClassId × FieldType} (h : tys[t]? = some x) : ((tys ++ [a, b]) ++ [c])[t]? = some x := by
  have hlt := (List.getElem?_eq_some_iff.mp h).1
  rw [List.getElem?_append_left (by rw [List.length_append]; omega), List.getElem?_append_left hlt]
  exact h
theorem lw_ty9 {tys : List (ClassId × FieldType)} {a b c : ClassId × FieldType} (h : tys.map Prod.snd = en_TY0) : ((tys ++ [a, b]) ++ [c])[9]? = some c := by
  have hl := wr_tl h
  rw [List.getElem?_append_right (by rw [List.length_append, hl]; exact Nat.le_refl 9), List.length_append, hl]
  rfl
theorem cwl1947 : Cond.methodLink RL 366 yX7_post ∈ en_cw := cw_at 1947 (by decide +kernel) (by decide +kernel)
theorem cwl1948 : Cond.instanceMethod yX7_post ∈ en_cw := cw_at 1948 (by decide +kernel) (by decide +kernel)
theorem cwl1949 : Cond.selects RX7 yX7_post yX7_post ∈ en_cw := cw_at 1949 (by decide +kernel) (by decide +kernel)
theorem cwl1950 : Cond.code yX7_post cX7_post 11 (some .int) ∈ en_cw := cw_at 1950 (by decide +kernel) (by decide +kernel)
theorem cwl2315 : Cond.methodLink RL 369 yX7_difference ∈ en_cw := cw_at 2315 (by decide +kernel) (by decide +kernel)
theorem cwl2316 : Cond.instanceMethod yX7_difference ∈ en_cw := cw_at 2316 (by decide +kernel) (by decide +kernel)
theorem cwl2317 : Cond.selects RX7 yX7_difference yX7_difference ∈ en_cw := cw_at 2317 (by decide +kernel) (by decide +kernel)
theorem cwl2318 : Cond.code yX7_difference cX7_difference 3 (some .int) ∈ en_cw := cw_at 2318 (by decide +kernel) (by decide +kernel)
theorem cwl2319 : Cond.methodLink RL 372 yX7_index ∈ en_cw := cw_at 2319 (by decide +kernel) (by decide +kernel)
theorem cwl2320 : Cond.instanceMethod yX7_index ∈ en_cw := cw_at 2320 (by decide +kernel) (by decide +kernel)
theorem cwl2321 : Cond.selects RX7 yX7_index yX7_index ∈ en_cw := cw_at 2321 (by decide +kernel) (by decide +kernel)
theorem cwl2322 : Cond.code yX7_index cX7_index 2 (some .int) ∈ en_cw := cw_at 2322 (by decide +kernel) (by decide +kernel)
theorem cwl2323 : Cond.methodLink RL 375 yX7_lowIndex ∈ en_cw := cw_at 2323 (by decide +kernel) (by decide +kernel)
theorem cwl2324 : Cond.instanceMethod yX7_lowIndex ∈ en_cw := cw_at 2324 (by decide +kernel) (by decide +kernel)
theorem cwl2325 : Cond.selects RX7 yX7_lowIndex yX7_lowIndex ∈ en_cw := cw_at 2325 (by decide +kernel) (by decide +kernel)
theorem cwl2326 : Cond.code yX7_lowIndex cX7_lowIndex 2 (some .int) ∈ en_cw := cw_at 2326 (by decide +kernel) (by decide +kernel)
theorem dlw_2141 : decode cL_law 2141 = .ok (.invokevirtual 366, 3) := by decide +kernel
theorem gm_X7_post : en_CV en_cw RL 366 yX7_post RX7 cX7_post 11 (some .int) 3 := en_gv cwl1947 cwl1948 cwl1949 cwl82 cwl1950 ⟨rfl, by decide, by decide, by decide +kernel⟩
theorem dlw_2181 : decode cL_law 2181 = .ok (.invokevirtual 369, 3) := by decide +kernel
theorem gm_X7_difference : en_CV en_cw RL 369 yX7_difference RX7 cX7_difference 3 (some .int) 2 := en_gv cwl2315 cwl2316 cwl2317 cwl82 cwl2318 ⟨rfl, by decide, by decide, by decide +kernel⟩
theorem dlw_2209 : decode cL_law 2209 = .ok (.invokevirtual 372, 3) := by decide +kernel
theorem gm_X7_index : en_CV en_cw RL 372 yX7_index RX7 cX7_index 2 (some .int) 1 := en_gv cwl2319 cwl2320 cwl2321 cwl82 cwl2322 ⟨rfl, by decide, by decide, by decide +kernel⟩
theorem dlw_2237 : decode cL_law 2237 = .ok (.invokevirtual 375, 3) := by decide +kernel
theorem gm_X7_lowIndex : en_CV en_cw RL 375 yX7_lowIndex RX7 cX7_lowIndex 2 (some .int) 1 := en_gv cwl2323 cwl2324 cwl2325 cwl82 cwl2326 ⟨rfl, by decide, by decide, by decide +kernel⟩
section
variable {p : Program} {l : Launch} {e : Env} {R : Room} {s : State} {m : MethodId} {args : Array Value} {below : List Frame} {meth : Method} {c : Code} {Q : State → Prop}
variable {D : va_G} {tys : List (ClassId × FieldType)} {cO cD : ClassId} {A : Nat → Prop} {sh : en_H} {w : va_W} {H : Heap} {locs : List Loc} {ls : Array Slot} {cells slots qx qo qd : Nat} {E : Int32 → Int32 → Prop} {cL : ClassId} {e0 ca : Nat} {af : Nat → Nat} {am ax ao ad st : Nat} {cx cy : Int32} {fs : List Value}
set_option maxHeartbeats 4000000 in
theorem lm_X7_post (G : lw_G cL e0 ca af D tys cO cD A s) (a1 : Int32) (a2 : Int32) (a3 : Int32) (F : lw_Fm p R s m args c D tys cO cD A) (L : lw_H D A s w H locs) (I : lw_I E (lw_LA (lw_LR tys cL e0 af qx qo qd) am ax ao ad qx qo qd) tys cO cD qx qo qd sh w st cx cy fs) (hls : ls.size = 9) (hcs : cells + 80 ≤ R.cells ∧ slots + 900 ≤ R.slots)
    (k : ∀ (u : en_H × va_W) (res : Option Value) (H1 : Heap) (locs1 : List Loc) (st' : Nat) (cx' cy' : Int32) (fs' : List Value), en_rv 0 res → lw_I E (lw_LA (lw_LR tys cL e0 af qx qo qd) am ax ao ad qx qo qd) tys cO cD qx qo qd u.1 u.2 st' cx' cy' fs' → lw_H D A s u.2 H1 locs1 → W p l e R s m args below meth c H1 locs1 (cells + 80) (slots + 900) Q (F0 m 2144 ls (res.toList ++ []))) :
    W p l e R s m args below meth c H locs cells slots Q (F0 m 2141 ls (([.int a1, .int a2, .int a3] : List Value).reverse ++ [.ref (sh.2 0)])) := by
  obtain ⟨cI, cZ, cR, nh, xp, x29, pHc, pWr, pS, pO, pP, pIx, pLo, qa, nn, hPO⟩ := lw_po F.hTY I I.hl.1.1
  have hPO' := hPO
  obtain ⟨⟨ht0, ht2, ht5⟩, hk, hqq, hf, hc, hxp, hnh, hB, hBB, hd1, hLs, hneq, hqw⟩ := hPO'
  have hM := li_X7_post l D ((tys ++ [(cO, .long), (cD, .double)]) ++ [(cL, .object "java/lang/Object")]) w H.size e0 ca (af, fun q => lw_k54 sh w q ∨ w.length ≤ q) ⟨L.hD.1, fun j z hz => Or.inl ⟨j, z.2, hz⟩⟩ (sh.2 0) fs a1 a2 a3 (lw_BB pIx pLo pP qa) cL cI cZ cR nh xp x29 (sh.2 1) (sh.2 pHc) (sh.2 pWr) (sh.2 pS) (sh.2 pO) (sh.2 pP) (sh.2 pIx) (sh.2 pLo) (sh.2 19) pHc pWr pS pO pP pIx pLo (fun j => sh.2 (21 + j)) qa nn 9 I.hs.2.1 (lw_tyA ht0) (lw_tyA ht2) (lw_tyA ht5) (lw_ty9 F.hTY) hf hc hxp hnh hB hBB hd1 hLs hneq hqw (fun z h => Or.inr h)
  refine li_cV (As := [.int a1, .int a2, .int a3]) (rest := []) hM gm_X7_post (va_recv G.1 L.hP (ci := 13) (q0 := 0) rfl I.hs.2.1) rfl ⟨?_, ?_⟩ hcs (by decide) F.hx F.hb (F.hml.trans hls.symm) F.hts F.hown G.1 F.hT G.2 L.hP L.hD L.hS F.hA dlw_2141 (fun res w1 H1 locs1 hrv hq hP1 hD1 hS1 => ?_)
  · have := F.hR.1; omega
  · have := F.hR.2; omega
  · obtain ⟨sh1, fs1, I1⟩ := lw_bkL I hPO hq
    exact k (sh1, w1) res H1 locs1 st cx cy fs1 hrv I1 ⟨hP1, hD1, hS1⟩
set_option maxHeartbeats 4000000 in
theorem lm_X7_difference (G : lw_G cL e0 ca af D tys cO cD A s) (a1 : Int32) (a2 : Int32) (F : lw_Fm p R s m args c D tys cO cD A) (L : lw_H D A s w H locs) (I : lw_I E (lw_LA (lw_LR tys cL e0 af qx qo qd) am ax ao ad qx qo qd) tys cO cD qx qo qd sh w st cx cy fs) (hls : ls.size = 9) (hcs : cells + 80 ≤ R.cells ∧ slots + 900 ≤ R.slots)
    (k : ∀ (u : en_H × va_W) (res : Option Value) (H1 : Heap) (locs1 : List Loc) (st' : Nat) (cx' cy' : Int32) (fs' : List Value), en_rv 0 res → lw_I E (lw_LA (lw_LR tys cL e0 af qx qo qd) am ax ao ad qx qo qd) tys cO cD qx qo qd u.1 u.2 st' cx' cy' fs' → lw_H D A s u.2 H1 locs1 → W p l e R s m args below meth c H1 locs1 (cells + 80) (slots + 900) Q (F0 m 2184 ls (res.toList ++ []))) :
    W p l e R s m args below meth c H locs cells slots Q (F0 m 2181 ls (([.int a1, .int a2] : List Value).reverse ++ [.ref (sh.2 0)])) := by
  obtain ⟨cI, cZ, cR, nh, xp, x29, pHc, pWr, pS, pO, pP, pIx, pLo, qa, nn, hPO⟩ := lw_po F.hTY I I.hl.1.1
  have hPO' := hPO
  obtain ⟨⟨ht0, ht2, ht5⟩, hk, hqq, hf, hc, hxp, hnh, hB, hBB, hd1, hLs, hneq, hqw⟩ := hPO'
  have hM := li_X7_difference l D ((tys ++ [(cO, .long), (cD, .double)]) ++ [(cL, .object "java/lang/Object")]) w H.size e0 ca (af, fun q => lw_k54 sh w q ∨ w.length ≤ q) ⟨L.hD.1, fun j z hz => Or.inl ⟨j, z.2, hz⟩⟩ (sh.2 0) fs a1 a2 (lw_BB pIx pLo pP qa) cL cI cZ cR nh xp x29 (sh.2 1) (sh.2 pHc) (sh.2 pWr) (sh.2 pS) (sh.2 pO) (sh.2 pP) (sh.2 pIx) (sh.2 pLo) (sh.2 19) pHc pWr pS pO pP pIx pLo (fun j => sh.2 (21 + j)) qa nn 9 I.hs.2.1 (lw_tyA ht0) (lw_ty9 F.hTY) hf hc hxp hB hBB hd1 hLs
  refine li_cV (As := [.int a1, .int a2]) (rest := []) hM gm_X7_difference (va_recv G.1 L.hP (ci := 13) (q0 := 0) rfl I.hs.2.1) rfl ⟨?_, ?_⟩ hcs (by decide) F.hx F.hb (F.hml.trans hls.symm) F.hts F.hown G.1 F.hT G.2 L.hP L.hD L.hS F.hA dlw_2181 (fun res w1 H1 locs1 hrv hq hP1 hD1 hS1 => ?_)
  · have := F.hR.1; omega
  · have := F.hR.2; omega
  · obtain ⟨sh1, fs1, I1⟩ := lw_bkL I hPO hq
    exact k (sh1, w1) res H1 locs1 st cx cy fs1 hrv I1 ⟨hP1, hD1, hS1⟩
set_option maxHeartbeats 4000000 in
theorem lm_X7_index (G : lw_G cL e0 ca af D tys cO cD A s) (a1 : Int32) (F : lw_Fm p R s m args c D tys cO cD A) (L : lw_H D A s w H locs) (I : lw_I E (lw_LA (lw_LR tys cL e0 af qx qo qd) am ax ao ad qx qo qd) tys cO cD qx qo qd sh w st cx cy fs) (hls : ls.size = 9) (hcs : cells + 80 ≤ R.cells ∧ slots + 900 ≤ R.slots)
    (k : ∀ (u : en_H × va_W) (res : Option Value) (H1 : Heap) (locs1 : List Loc) (st' : Nat) (cx' cy' : Int32) (fs' : List Value), en_rv 0 res → lw_I E (lw_LA (lw_LR tys cL e0 af qx qo qd) am ax ao ad qx qo qd) tys cO cD qx qo qd u.1 u.2 st' cx' cy' fs' → lw_H D A s u.2 H1 locs1 → W p l e R s m args below meth c H1 locs1 (cells + 80) (slots + 900) Q (F0 m 2212 ls (res.toList ++ []))) :
    W p l e R s m args below meth c H locs cells slots Q (F0 m 2209 ls (([.int a1] : List Value).reverse ++ [.ref (sh.2 0)])) := by
  obtain ⟨cI, cZ, cR, nh, xp, x29, pHc, pWr, pS, pO, pP, pIx, pLo, qa, nn, hPO⟩ := lw_po F.hTY I I.hl.1.1
  have hPO' := hPO
  obtain ⟨⟨ht0, ht2, ht5⟩, hk, hqq, hf, hc, hxp, hnh, hB, hBB, hd1, hLs, hneq, hqw⟩ := hPO'
  have hM := li_X7_index l D ((tys ++ [(cO, .long), (cD, .double)]) ++ [(cL, .object "java/lang/Object")]) w H.size e0 ca (af, fun q => lw_k54 sh w q ∨ w.length ≤ q) ⟨L.hD.1, fun j z hz => Or.inl ⟨j, z.2, hz⟩⟩ (sh.2 0) fs a1 (lw_BB pIx pLo pP qa) cL cI cZ cR nh xp x29 (sh.2 1) (sh.2 pHc) (sh.2 pWr) (sh.2 pS) (sh.2 pO) (sh.2 pP) (sh.2 pIx) (sh.2 pLo) (sh.2 19) pHc pWr pS pO pP pIx pLo (fun j => sh.2 (21 + j)) qa nn 9 I.hs.2.1 (lw_tyA ht0) (lw_ty9 F.hTY) hf hc hxp hB hBB hd1 hLs
  refine li_cV (As := [.int a1]) (rest := []) hM gm_X7_index (va_recv G.1 L.hP (ci := 13) (q0 := 0) rfl I.hs.2.1) rfl ⟨?_, ?_⟩ hcs (by decide) F.hx F.hb (F.hml.trans hls.symm) F.hts F.hown G.1 F.hT G.2 L.hP L.hD L.hS F.hA dlw_2209 (fun res w1 H1 locs1 hrv hq hP1 hD1 hS1 => ?_)
  · have := F.hR.1; omega
  · have := F.hR.2; omega
  · obtain ⟨sh1, fs1, I1⟩ := lw_bkL I hPO hq
    exact k (sh1, w1) res H1 locs1 st cx cy fs1 hrv I1 ⟨hP1, hD1, hS1⟩
set_option maxHeartbeats 4000000 in
theorem lm_X7_lowIndex (G : lw_G cL e0 ca af D tys cO cD A s) (a1 : Int32) (F : lw_Fm p R s m args c D tys cO cD A) (L : lw_H D A s w H locs) (I : lw_I E (lw_LA (lw_LR tys cL e0 af qx qo qd) am ax ao ad qx qo qd) tys cO cD qx qo qd sh w st cx cy fs) (hls : ls.size = 9) (hcs : cells + 80 ≤ R.cells ∧ slots + 900 ≤ R.slots)
    (k : ∀ (u : en_H × va_W) (res : Option Value) (H1 : Heap) (locs1 : List Loc) (st' : Nat) (cx' cy' : Int32) (fs' : List Value), en_rv 0 res → lw_I E (lw_LA (lw_LR tys cL e0 af qx qo qd) am ax ao ad qx qo qd) tys cO cD qx qo qd u.1 u.2 st' cx' cy' fs' → lw_H D A s u.2 H1 locs1 → W p l e R s m args below meth c H1 locs1 (cells + 80) (slots + 900) Q (F0 m 2240 ls (res.toList ++ []))) :
    W p l e R s m args below meth c H locs cells slots Q (F0 m 2237 ls (([.int a1] : List Value).reverse ++ [.ref (sh.2 0)])) := by
  obtain ⟨cI, cZ, cR, nh, xp, x29, pHc, pWr, pS, pO, pP, pIx, pLo, qa, nn, hPO⟩ := lw_po F.hTY I I.hl.1.1
  have hPO' := hPO
  obtain ⟨⟨ht0, ht2, ht5⟩, hk, hqq, hf, hc, hxp, hnh, hB, hBB, hd1, hLs, hneq, hqw⟩ := hPO'
  have hM := li_X7_lowIndex l D ((tys ++ [(cO, .long), (cD, .double)]) ++ [(cL, .object "java/lang/Object")]) w H.size e0 ca (af, fun q => lw_k54 sh w q ∨ w.length ≤ q) ⟨L.hD.1, fun j z hz => Or.inl ⟨j, z.2, hz⟩⟩ (sh.2 0) fs a1 (lw_BB pIx pLo pP qa) cL cI cZ cR nh xp x29 (sh.2 1) (sh.2 pHc) (sh.2 pWr) (sh.2 pS) (sh.2 pO) (sh.2 pP) (sh.2 pIx) (sh.2 pLo) (sh.2 19) pHc pWr pS pO pP pIx pLo (fun j => sh.2 (21 + j)) qa nn 9 I.hs.2.1 (lw_tyA ht0) (lw_ty9 F.hTY) hf hc hxp hB hBB hd1 hLs
  refine li_cV (As := [.int a1]) (rest := []) hM gm_X7_lowIndex (va_recv G.1 L.hP (ci := 13) (q0 := 0) rfl I.hs.2.1) rfl ⟨?_, ?_⟩ hcs (by decide) F.hx F.hb (F.hml.trans hls.symm) F.hts F.hown G.1 F.hT G.2 L.hP L.hD L.hS F.hA dlw_2237 (fun res w1 H1 locs1 hrv hq hP1 hD1 hS1 => ?_)
  · have := F.hR.1; omega
  · have := F.hR.2; omega
  · obtain ⟨sh1, fs1, I1⟩ := lw_bkL I hPO hq
    exact k (sh1, w1) res H1 locs1 st cx cy fs1 hrv I1 ⟨hP1, hD1, hS1⟩
end
