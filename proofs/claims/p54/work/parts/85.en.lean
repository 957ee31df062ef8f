/-! calls by contract, by hand: in any frame -/
section
variable {p : Program} {l : Launch} {e : Env} {R : Room} {s : State} {m : MethodId} {args : Array Value} {below : List Frame} {meth : Method} {c : Code} {Q : State → Prop} {cc : ByteArray}
variable {D : va_G} {cl : List vw_C} {tys : List (ClassId × FieldType)} {PP : Int32 → Int32 → Prop} {Ω : Nat → en_H → va_W → Prop} {KT : List en_D} {om : List (Nat × Nat × Nat)} {sh : en_H} {A : Nat → Prop} {H0 : Heap} {ws : va_W} {H : Heap} {locs : List Loc} {ls : Array Slot} {pc cells slots : Nat} {TY : List FieldType}
/-- the result as its sort says -/
def en_rv (rs : Nat) (res : Option Value) : Prop := match rs with
  | 0 => ∃ r, res = some (.int r)
  | 1 => ∃ r, res = some (.long r)
  | 2 => ∃ r, res = some (.float r)
  | 3 => ∃ r, res = some (.double r)
  | _ => res = none
theorem en_hc {κ : en_K} {rs : Nat} {ρp st0 st : List Value} {av : Array Value} (hD : va_D A ws) (hS : va_S A H0 H locs) (hA : ∀ q, H0.size ≤ q → A q)
    (hr : vx_Run p l e R s m args below meth c H locs cells slots κ.2.2.2.2.2.1.1 κ.2.2.2.2.2.1.2 (F0 m pc ls st0) st (en_Q rs D cl tys PP Ω KT κ sh ws ρp (va_A ws H.size) av) (en_XC D cl tys PP KT κ.2.2.2.2.1 κ.2.2.2.1 κ.2.2.2.2.2.2 sh ws (va_A ws H.size)) (va_A ws H.size))
    (kx : ∀ x ∈ κ.2.2.2.2.2.2, ∀ (ce : Cell) (q9 : Addr) (u : en_H × va_W) (H1 : Heap) (locs1 : List Loc), en_Px tys PP KT κ.2.2.2.2.1 κ.2.2.2.1 sh ws u → va_P D cl u.2 H1 → va_D A u.2 → va_S A H0 H1 locs1 → H1[q9]? = some ce → ce.vm = .none → s.vm.findClass (en_xn x) = some ce.cls → vx_W p l e R s m args below meth c H1 locs1 (cells + κ.2.2.2.2.2.1.1) (slots + κ.2.2.2.2.2.1.2) Q (F0 m pc ls st) q9)
    (k : ∀ (u : en_H × va_W) (res : Option Value) (H1 : Heap) (locs1 : List Loc), en_rv rs res → en_Po tys PP Ω KT κ sh ws ρp res u → va_P D cl u.2 H1 → va_D A u.2 → va_S A H0 H1 locs1 → W p l e R s m args below meth c H1 locs1 (cells + κ.2.2.2.2.2.1.1) (slots + κ.2.2.2.2.2.1.2) Q (F0 m (pc + 3) ls (res.toList ++ st))) :
    W p l e R s m args below meth c H locs cells slots Q (F0 m pc ls st0) := by
  have hSz : H0.size ≤ H.size := hS.1
  have hAA : ∀ q, va_A ws H.size q → A q := fun q hq => by
    rcases hq with ⟨j, ej, hj⟩ | hq
    · exact hD.2 j _ hj
    · exact hA q (Nat.le_trans hSz hq)
  have h1 : ∀ q, q < H.size → va_A ws H.size q → A q := fun q _ h => hAA q h
  have kx' : ∀ (E : String) (ce : Cell) (q9 : Addr) (u : en_H × va_W) (t : State) (H1 : Heap) (locs1 : List Loc), t.heap = H1 → s.vm.Alike t.vm → en_Px tys PP KT κ.2.2.2.2.1 κ.2.2.2.1 sh ws u → ((∃ x ∈ κ.2.2.2.2.2.2, E = en_xn x) ∧ en_Bw D cl (va_A ws H.size) u t) → H.size ≤ H1.size → (∀ q : Nat, q < H.size → ¬ va_A ws H.size q → H1[q]? = H[q]?) → va_S A H0 H1 locs1 → H1[q9]? = some ce → ce.vm = .none → s.vm.findClass E = some ce.cls → vx_W p l e R s m args below meth c H1 locs1 (cells + κ.2.2.2.2.2.1.1) (slots + κ.2.2.2.2.2.1.2) Q (F0 m pc ls st) q9 := by
    intro E ce q9 u t H1 locs1 ht _ hpx hB _ _ hS hcell hv hcl
    obtain ⟨⟨x, hx, rfl⟩, hB1, hB2⟩ := hB
    exact kx x hx ce q9 u H1 locs1 hpx (by rw [← ht]; exact hB1) ⟨hB2.1, fun j q hq => hAA _ (hB2.2 j q hq)⟩ hS hcell hv hcl
  have fin : ∀ (u : en_H × va_W) (t : State), va_D (va_A ws H.size) u.2 → va_D A u.2 := fun u t h => ⟨h.1, fun j q hq => hAA _ (h.2 j q hq)⟩
  match rs with
  | 0 => exact vx_calli (a := av) hr hS h1 hAA h1 kx' (fun r u t H1 locs1 ht hvm hw hB _ _ hS1 => k u (some (.int r)) H1 locs1 ⟨r, rfl⟩ hw (by rw [← ht]; exact hB.1) (fin u t hB.2) hS1)
  | 1 => exact vx_calll (a := av) hr hS h1 hAA h1 kx' (fun r u t H1 locs1 ht hvm hw hB _ _ hS1 => k u (some (.long r)) H1 locs1 ⟨r, rfl⟩ hw (by rw [← ht]; exact hB.1) (fin u t hB.2) hS1)
  | 2 => exact vx_callf (a := av) hr hS h1 hAA h1 kx' (fun r u t H1 locs1 ht hvm hw hB _ _ hS1 => k u (some (.float r)) H1 locs1 ⟨r, rfl⟩ hw (by rw [← ht]; exact hB.1) (fin u t hB.2) hS1)
  | 3 => exact vx_calld (a := av) hr hS h1 hAA h1 kx' (fun r u t H1 locs1 ht hvm hw hB _ _ hS1 => k u (some (.double r)) H1 locs1 ⟨r, rfl⟩ hw (by rw [← ht]; exact hB.1) (fin u t hB.2) hS1)
  | n + 4 => exact vx_callv (a := av) hr hS h1 hAA h1 kx' (fun u t H1 locs1 ht hvm hw hB _ _ hS1 => k u none H1 locs1 rfl hw (by rw [← ht]; exact hB.1) (fin u t hB.2) hS1)
theorem en_hpre {lv' : Nat} {κ : en_K} {ρp : List Value} {y : MethodName} {wl : List Cond} {rs : Nat} (hM : en_Ctr l cl TY PP om Ω KT y wl (en_rm lv' κ.2.2.2.2.2.1) rs κ) (hTY : tys.map Prod.snd = TY) (hK : va_K D cl tys s) (hT : tf A s s.heap) (hP : va_P D cl ws H) (hD : va_D A ws) (hS : va_S A s.heap H locs) (hA : ∀ q, s.heap.size ≤ q → A q) (hW : en_W PP KT κ.2.2.2.2.1 sh tys (fun _ => False) ws) (hΩ : en_Om om sh Ω) (hPa : en_Pa PP Ω sh ws κ.2.1 ρp) :
    vx_Met l y wl (en_rm lv' κ.2.2.2.2.2.1) (va_Pc (ρp.take κ.1) (en_B D cl tys ws H.size)) (en_Q rs D cl tys PP Ω KT κ sh ws ρp (va_A ws H.size)) (en_XC D cl tys PP KT κ.2.2.2.2.1 κ.2.2.2.1 κ.2.2.2.2.2.2 sh ws (va_A ws H.size)) κ.2.2.2.2.2.1.1 κ.2.2.2.2.2.1.2 (va_A ws H.size) ∧ ∀ U : State, U.heap = H → s.WarmedH U.vm → en_B D cl tys ws H.size U := by
  have hAA : ∀ q, va_A ws H.size q → A q := fun q hq => by
    rcases hq with ⟨j, ej, hj⟩ | hq
    · exact hD.2 j _ hj
    · exact hA q (Nat.le_trans hS.1 hq)
  exact ⟨hM D tys sh ws H.size ρp hTY hW ⟨hD.1, fun j z hz => Or.inl ⟨j, z.2, hz⟩⟩ hΩ hPa, fun U hU hWm => ⟨by rw [hU], by rw [hU]; exact hP, va_K.moved hWm.alike hK, tf.go hT hS hWm hU hAA⟩⟩
/-- a call with a receiver -/
theorem en_hcV {own : String} {CW : List Cond} {lv' ix q0 co : Nat} {κ : en_K} {rs mxl : Nat} {ρp rest As : List Value} {y : MethodName} {C : String} {cy : ByteArray} {ret : Option FieldType} {b : Nat} {fs : List Value} {r : vw_C} (hM : en_Ctr l cl TY PP om Ω KT y (Cond.code y cy mxl ret :: CW) (en_rm lv' κ.2.2.2.2.2.1) rs κ) (hV : en_CV CW own ix y C cy mxl ret (κ.1 - 1))
    (hr : cl[co]? = some r) (hrC : r.1 = C) (hb0 : ws[q0]? = some (b, .inr (co, fs))) (hρ : ρp.take κ.1 = .ref b :: As) (hAl : As.length = κ.1 - 1) (hmx : mxl ≤ 41) (hlv : 41 + lv' ≤ R.frames ∧ 460 + 60 * lv' ≤ R.locals) (hcs : cells + κ.2.2.2.2.2.1.1 ≤ R.cells ∧ slots + κ.2.2.2.2.2.1.2 ≤ R.slots) (hwt : (rest.map fun v => v.category).sum ≤ 8)
    (hexec : p.tables.exec = Jvm.exec) (hb : c.code = cc) (hml : c.maxLocals = ls.size) (hts : ∀ w ∈ CW, w.before args s = true) (hown : s.vm.findClass own = some m.cls) (hTY : tys.map Prod.snd = TY) (hK : va_K D cl tys s) (hT : tf A s s.heap) (hP : va_P D cl ws H) (hD : va_D A ws) (hS : va_S A s.heap H locs) (hA : ∀ q, s.heap.size ≤ q → A q) (hW : en_W PP KT κ.2.2.2.2.1 sh tys (fun _ => False) ws) (hΩ : en_Om om sh Ω) (hPa : en_Pa PP Ω sh ws κ.2.1 ρp) (hdg : decode cc pc = .ok (.invokevirtual ix, 3))
    (kx : ∀ x ∈ κ.2.2.2.2.2.2, ∀ (ce : Cell) (q9 : Addr) (u : en_H × va_W) (H1 : Heap) (locs1 : List Loc), en_Px tys PP KT κ.2.2.2.2.1 κ.2.2.2.1 sh ws u → va_P D cl u.2 H1 → va_D A u.2 → va_S A s.heap H1 locs1 → H1[q9]? = some ce → ce.vm = .none → s.vm.findClass (en_xn x) = some ce.cls → vx_W p l e R s m args below meth c H1 locs1 (cells + κ.2.2.2.2.2.1.1) (slots + κ.2.2.2.2.2.1.2) Q (F0 m pc ls rest) q9)
    (k : ∀ (u : en_H × va_W) (res : Option Value) (H1 : Heap) (locs1 : List Loc), en_rv rs res → en_Po tys PP Ω KT κ sh ws ρp res u → va_P D cl u.2 H1 → va_D A u.2 → va_S A s.heap H1 locs1 → W p l e R s m args below meth c H1 locs1 (cells + κ.2.2.2.2.2.1.1) (slots + κ.2.2.2.2.2.1.2) Q (F0 m (pc + 3) ls (res.toList ++ rest))) :
    W p l e R s m args below meth c H locs cells slots Q (F0 m pc ls (As.reverse ++ .ref b :: rest)) := by
  obtain ⟨hMM, hpre⟩ := en_hpre hM hTY hK hT hP hD hS hA hW hΩ hPa
  rw [hρ] at hMM
  subst hrC
  obtain ⟨hG, hd⟩ := hV
  refine en_hc hD hS hA (vx_runV (As := As) (rest := rest) (b := b) (C := r.1) ⟨hexec, hb, rfl, hown, hts⟩ hMM (cwV (κ.1 - 1) hts hG rfl rfl rfl hd ⟨?_, ?_⟩) ⟨fun a U g mk q => ⟨q.1, q.2.blind⟩, va_recv hK hP (ci := co) (q0 := q0) hr hb0, fun U hU hW => ⟨rfl, hpre U hU hW⟩⟩ rfl hAl hml.symm rfl (lv_room hwt) hdg hcs) kx k
  · show 40 + lv' + 1 ≤ R.frames
    omega
  · show 8 + (mxl + 11) + (400 + 60 * lv') ≤ R.locals
    omega
/-- a static call -/
theorem en_hcS {own : String} {CW : List Cond} {lv' ix : Nat} {κ : en_K} {rs mxl : Nat} {ρp rest As : List Value} {y : MethodName} {cy : ByteArray} {ret : Option FieldType} (hM : en_Ctr l cl TY PP om Ω KT y (Cond.code y cy mxl ret :: CW) (en_rm lv' κ.2.2.2.2.2.1) rs κ) (hV : en_CZ CW own ix y cy mxl ret κ.1)
    (hρ : ρp.take κ.1 = As) (hAl : As.length = κ.1) (hmx : mxl ≤ 41) (hlv : 41 + lv' ≤ R.frames ∧ 460 + 60 * lv' ≤ R.locals) (hcs : cells + κ.2.2.2.2.2.1.1 ≤ R.cells ∧ slots + κ.2.2.2.2.2.1.2 ≤ R.slots) (hwt : (rest.map fun v => v.category).sum ≤ 8)
    (hexec : p.tables.exec = Jvm.exec) (hb : c.code = cc) (hml : c.maxLocals = ls.size) (hts : ∀ w ∈ CW, w.before args s = true) (hown : s.vm.findClass own = some m.cls) (hTY : tys.map Prod.snd = TY) (hK : va_K D cl tys s) (hT : tf A s s.heap) (hP : va_P D cl ws H) (hD : va_D A ws) (hS : va_S A s.heap H locs) (hA : ∀ q, s.heap.size ≤ q → A q) (hW : en_W PP KT κ.2.2.2.2.1 sh tys (fun _ => False) ws) (hΩ : en_Om om sh Ω) (hPa : en_Pa PP Ω sh ws κ.2.1 ρp) (hdg : decode cc pc = .ok (.invokestatic ix, 3))
    (kx : ∀ x ∈ κ.2.2.2.2.2.2, ∀ (ce : Cell) (q9 : Addr) (u : en_H × va_W) (H1 : Heap) (locs1 : List Loc), en_Px tys PP KT κ.2.2.2.2.1 κ.2.2.2.1 sh ws u → va_P D cl u.2 H1 → va_D A u.2 → va_S A s.heap H1 locs1 → H1[q9]? = some ce → ce.vm = .none → s.vm.findClass (en_xn x) = some ce.cls → vx_W p l e R s m args below meth c H1 locs1 (cells + κ.2.2.2.2.2.1.1) (slots + κ.2.2.2.2.2.1.2) Q (F0 m pc ls rest) q9)
    (k : ∀ (u : en_H × va_W) (res : Option Value) (H1 : Heap) (locs1 : List Loc), en_rv rs res → en_Po tys PP Ω KT κ sh ws ρp res u → va_P D cl u.2 H1 → va_D A u.2 → va_S A s.heap H1 locs1 → W p l e R s m args below meth c H1 locs1 (cells + κ.2.2.2.2.2.1.1) (slots + κ.2.2.2.2.2.1.2) Q (F0 m (pc + 3) ls (res.toList ++ rest))) :
    W p l e R s m args below meth c H locs cells slots Q (F0 m pc ls (As.reverse ++ rest)) := by
  obtain ⟨hMM, hpre⟩ := en_hpre hM hTY hK hT hP hD hS hA hW hΩ hPa
  rw [hρ] at hMM
  obtain ⟨hG, hd⟩ := hV
  refine en_hc hD hS hA (vx_runS (As := As) (rest := rest) ⟨hexec, hb, rfl, hown, hts⟩ hMM (va_cwS κ.1 hts hG rfl rfl rfl hd ⟨?_, ?_⟩) ⟨fun a U g mk q => ⟨q.1, q.2.blind⟩, fun U hU hW => ⟨rfl, hpre U hU hW⟩⟩ rfl hAl hml.symm rfl (lv_room hwt) hdg hcs) kx k
  · show 40 + lv' + 1 ≤ R.frames
    omega
  · show 8 + (mxl + 11) + (400 + 60 * lv') ≤ R.locals
    omega
end
