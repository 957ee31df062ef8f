section
variable {p : Program} {l : Launch} {e : Env} {R : Room} {s : State} {m : MethodId} {args : Array Value} {below : List Frame} {meth : Method} {c : Code} {Q : State → Prop}
variable {D : va_G} {tys : List (ClassId × FieldType)} {cO cD : ClassId} {A : Nat → Prop} {sh : en_H} {w : va_W} {H : Heap} {locs : List Loc} {ls : Array Slot} {cells slots qx qo qd : Nat} {E : Int32 → Int32 → Prop} {cL : ClassId} {e0 ca : Nat} {af : Nat → Nat} {am ax ao ad b Ln i st : Nat} {xs : Nat → Int32} {cx cy : Int32} {fs : List Value}
set_option maxHeartbeats 4000000 in
theorem lx_post (hl9 : l.stackTraces = false) (a1 a2 a3 : Int32) (F : lw_Fm p R s m args c D tys cO cD A) (L : lw_H D A s w H locs) (I : lw_I E (lw_LA (lw_LR tys cL e0 af qx qo qd) am ax ao ad qx qo qd) tys cO cD qx qo qd sh w st cx cy fs) (hls : ls.size = 9) (hcs : cells + 8 ≤ R.cells ∧ slots + 64 ≤ R.slots)
    (k : ∀ (u : en_H × va_W) (r9 : Int32) (H1 : Heap) (locs1 : List Loc) (fs' : List Value), lw_I E (lw_LA (lw_LR tys cL e0 af qx qo qd) am ax ao ad qx qo qd) tys cO cD qx qo qd u.1 u.2 st cx cy fs' → lw_H D A s u.2 H1 locs1 → W p l e R s m args below meth c H1 locs1 (cells + 8) (slots + 64) Q (F0 m 2120 ls [.int r9])) :
    W p l e R s m args below meth c H locs cells slots Q (F0 m 2117 ls (([.ref (sh.2 qx), .int a1, .int a2, .int a3, .ref (sh.2 qo)] : List Value).reverse ++ [])) := by
  obtain ⟨⟨hLL, hR, e66, e138, e139⟩, hlen, em, ex, eo, ed⟩ := I.hl
  subst e66
  subst e138
  subst e139
  have I0 := I.lp (LP' := lw_LA (lw_LL cL e0 af) am ax ao ad 66 138 139) ⟨hLL, hlen, em, ex, eo, ed⟩
  have hst0 : lw_stw [] (lw_LA (lw_LL cL e0 af) am ax ao ad 66 138 139) := lw_LA_st lw_LL_st
  obtain ⟨dt, hX⟩ := ks_mk I0 hR F.hTY
  obtain ⟨g0, hw9⟩ := I.hwo
  refine lw_wcE F L (wk_post hl9 D tys cO cD sh w H.size g0 a1 a2 a3 hX (lw_D9 L) hw9 F.hTY) gx_post rfl (by decide) (by decide) ⟨Nat.le_trans (Nat.add_le_add_left (Nat.le_of_ble_eq_true rfl) _) hcs.1, Nat.le_trans (Nat.add_le_add_left (Nat.le_of_ble_eq_true rfl) _) hcs.2⟩ hls dlw_2117 (fun u r9 H1 locs1 hp9 L1 => ?_)
  obtain ⟨-, hp⟩ := hp9
  refine W.widen (k := cells + 8) (n := slots + 64) (Nat.add_le_add_left (Nat.le_of_ble_eq_true rfl) _) (Nat.add_le_add_left (Nat.le_of_ble_eq_true rfl) _) ?_
  rcases hp with ew | ⟨pj, g, hp6, hG, h138⟩
  · rw [ew] at L1
    exact k (sh, w) r9 H1 locs1 fs I L1
  · have I1 := ks_pI hst0 I0 hR hp6 hG h138
    have hR2 := ks_Rp hR hp6 hG
    have I2 := I1.lp (LP' := lw_LA (lw_LR tys cL e0 af 66 138 139) am ax ao ad 66 138 139) ⟨⟨I1.hl.1, hR2, rfl, rfl, rfl⟩, I1.hl.2⟩
    exact k (sh, u.2) r9 H1 locs1 fs I2 L1
end
