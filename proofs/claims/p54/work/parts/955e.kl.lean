theorem dlw_323 : decode cL_law 323 = .ok (.invokestatic 205, 3) := by decide +kernel
theorem gx_hole : GoodIn en_cw (va_wsS RL 205 yL_hole (Cond.codeWith yL_hole cL_hole 9 (some .int) [(0, 18, 21, 13), (0, 18, 25, 15), (0, 18, 29, 17)] :: en_cw)) ∧ (yL_hole.cls ≠ "java/lang/invoke/MethodHandle" ∧ yL_hole.cls ≠ "java/lang/invoke/VarHandle" ∧ (parseMethodDescriptor yL_hole.desc).map (fun d => d.parameters.length) = some 8) := ⟨cw_g (cw_c cwl495 (cw_c cwl496 (cw_c cwl74 (cw_c cwl497 fun _ h => h)))), by decide, by decide, by decide +kernel⟩
theorem dlw_414 : decode cL_law 414 = .ok (.invokestatic 211, 3) := by decide +kernel
theorem gx_area : GoodIn en_cw (va_wsS RL 211 yL_area (Cond.codeWith yL_area cL_area 9 (some .int) [(0, 18, 21, 23), (0, 18, 25, 13), (0, 18, 29, 15)] :: en_cw)) ∧ (yL_area.cls ≠ "java/lang/invoke/MethodHandle" ∧ yL_area.cls ≠ "java/lang/invoke/VarHandle" ∧ (parseMethodDescriptor yL_area.desc).map (fun d => d.parameters.length) = some 8) := ⟨cw_g (cw_c cwl616 (cw_c cwl617 (cw_c cwl74 (cw_c cwl618 fun _ h => h)))), by decide, by decide, by decide +kernel⟩
theorem dlw_520 : decode cL_law 520 = .ok (.invokestatic 219, 3) := by decide +kernel
theorem gx_player : GoodIn en_cw (va_wsS RL 219 yL_player (Cond.codeWith yL_player cL_player 3 (some .int) [(0, 8, 11, 15)] :: en_cw)) ∧ (yL_player.cls ≠ "java/lang/invoke/MethodHandle" ∧ yL_player.cls ≠ "java/lang/invoke/VarHandle" ∧ (parseMethodDescriptor yL_player.desc).map (fun d => d.parameters.length) = some 2) := ⟨cw_g (cw_c cwl684 (cw_c cwl685 (cw_c cwl74 (cw_c cwl686 fun _ h => h)))), by decide, by decide, by decide +kernel⟩
theorem dlw_678 : decode cL_law 678 = .ok (.invokestatic 238, 3) := by decide +kernel
theorem gx_begin : GoodIn en_cw (va_wsS RL 238 yL_begin (Cond.codeWith yL_begin cL_begin 4 (some .int) [(0, 9, 12, 13), (0, 9, 15, 17)] :: en_cw)) ∧ (yL_begin.cls ≠ "java/lang/invoke/MethodHandle" ∧ yL_begin.cls ≠ "java/lang/invoke/VarHandle" ∧ (parseMethodDescriptor yL_begin.desc).map (fun d => d.parameters.length) = some 3) := ⟨cw_g (cw_c cwl721 (cw_c cwl722 (cw_c cwl74 (cw_c cwl723 fun _ h => h)))), by decide, by decide, by decide +kernel⟩
theorem dlw_1487 : decode cL_law 1487 = .ok (.invokestatic 304, 3) := by decide +kernel
theorem gx_nextHole : GoodIn en_cw (va_wsS RL 304 yL_nextHole (Cond.codeWith yL_nextHole cL_nextHole 3 (some .int) [(0, 8, 11, 15), (0, 8, 14, 17)] :: en_cw)) ∧ (yL_nextHole.cls ≠ "java/lang/invoke/MethodHandle" ∧ yL_nextHole.cls ≠ "java/lang/invoke/VarHandle" ∧ (parseMethodDescriptor yL_nextHole.desc).map (fun d => d.parameters.length) = some 2) := ⟨cw_g (cw_c cwl1082 (cw_c cwl1083 (cw_c cwl74 (cw_c cwl1084 fun _ h => h)))), by decide, by decide, by decide +kernel⟩
theorem dlw_366 : decode cL_law 366 = .ok (.invokevirtual 210, 3) := by decide +kernel
theorem gm_X7_hole : en_CV en_cw RL 210 yX7_hole RX7 cX7_hole 11 (some .int) 6 := en_gv cwl1592 cwl1593 cwl1594 cwl82 cwl1595 ⟨rfl, by decide, by decide, by decide +kernel⟩
theorem dlw_458 : decode cL_law 458 = .ok (.invokevirtual 214, 3) := by decide +kernel
theorem gm_X7_area : en_CV en_cw RL 214 yX7_area RX7 cX7_area 10 (some .int) 6 := en_gv cwl1607 cwl1608 cwl1609 cwl82 cwl1610 ⟨rfl, by decide, by decide, by decide +kernel⟩
theorem dlw_526 : decode cL_law 526 = .ok (.invokevirtual 222, 3) := by decide +kernel
theorem gm_X7_player : en_CV en_cw RL 222 yX7_player RX7 cX7_player 1 (some .int) 0 := en_gv cwl1622 cwl1623 cwl1624 cwl82 cwl1625 ⟨rfl, by decide, by decide, by decide +kernel⟩
theorem dlw_691 : decode cL_law 691 = .ok (.invokevirtual 240, 3) := by decide +kernel
theorem gm_X7_begin : en_CV en_cw RL 240 yX7_begin RX7 cX7_begin 4 (some .int) 1 := en_gv cwl1650 cwl1651 cwl1652 cwl82 cwl1653 ⟨rfl, by decide, by decide, by decide +kernel⟩
/-! what the two do, side by side -/
def kx_ox_hole (hc pc : Nat) (bg : Int32) (ix ar : Nat → Int32) (ck : Nat → Nat → Int32) (a1 : Int32) (a2 : Int32) (a3 : Int32) (a4 : Int32) (a5 : Int32) (a6 : Int32) (r : Int32) (o : Int64) (hc1 pc1 : Nat) (ix1 ar1 : Nat → Int32) (ck1 : Nat → Nat → Int32) : Prop := pc1 = pc ∧ ar1 = ar ∧ ck1 = ck ∧ ((hc1 = hc ∧ ix1 = ix ∧ ((r = 1 ∧ ¬ kx_hg a1 a2 a3 a4 a5 a6) ∨ (r = 2 ∧ kx_hg a1 a2 a3 a4 a5 a6 ∧ ¬ (bg = 0 ∧ hc < 9)) ∨ (r = 3 ∧ kx_hg a1 a2 a3 a4 a5 a6 ∧ (bg = 0 ∧ hc < 9) ∧ ∃ j, j < hc ∧ ix j = a2))) ∨ (r = 0 ∧ kx_hg a1 a2 a3 a4 a5 a6 ∧ (bg = 0 ∧ hc < 9) ∧ (∀ j, j < hc → ¬ ix j = a2) ∧ hc1 = hc + 1 ∧ ix1 = va_up ix hc a2 ∧ o = (nI hc).toInt64))
def kx_om_hole (hc pc : Nat) (bg : Int32) (rr mk : Nat → Nat → Int32) (a1 : Int32) (a2 : Int32) (a3 : Int32) (a4 : Int32) (a5 : Int32) (a6 : Int32) (v t : Int32) (hc1 pc1 : Nat) (rr1 mk1 : Nat → Nat → Int32) : Prop := pc1 = pc ∧ ((hc1 = hc ∧ rr1 = rr ∧ mk1 = mk ∧ ((t = 1 ∧ ¬ kx_hg a1 a2 a3 a4 a5 a6) ∨ (t = 2 ∧ kx_hg a1 a2 a3 a4 a5 a6 ∧ ¬ (bg = 0 ∧ hc < 9)) ∨ (t = 3 ∧ kx_hg a1 a2 a3 a4 a5 a6 ∧ (bg = 0 ∧ hc < 9) ∧ ∃ j, j < hc ∧ rr j 1 = a2))) ∨ (t = 0 ∧ kx_hg a1 a2 a3 a4 a5 a6 ∧ (bg = 0 ∧ hc < 9) ∧ (∀ j, j < hc → ¬ rr j 1 = a2) ∧ v = nI hc ∧ hc1 = hc + 1 ∧ rr1 = kx_rw rr hc (kx_row a1 a2 a3 a4 a5 a6) ∧ mk1 = kx_rw mk hc (fun _ => 46)))
def kx_ox_area (hc pc : Nat) (bg : Int32) (ix ar : Nat → Int32) (ck : Nat → Nat → Int32) (a1 : Int32) (a2 : Int32) (a3 : Int32) (a4 : Int32) (a5 : Int32) (a6 : Int32) (r : Int32) (o : Int64) (hc1 pc1 : Nat) (ix1 ar1 : Nat → Int32) (ck1 : Nat → Nat → Int32) : Prop := hc1 = hc ∧ pc1 = pc ∧ ix1 = ix ∧ ((ar1 = ar ∧ ck1 = ck ∧ ((r = 1 ∧ ¬ (0 ≤ a1.toInt ∧ a1.toInt < (hc : Int))) ∨ (r = 2 ∧ (0 ≤ a1.toInt ∧ a1.toInt < (hc : Int)) ∧ ¬ kx_ag a2 a3 a4 a5 a6) ∨ (r = 3 ∧ (0 ≤ a1.toInt ∧ a1.toInt < (hc : Int)) ∧ kx_ag a2 a3 a4 a5 a6 ∧ ¬ (bg = 0 ∧ (ar a1.toInt.toNat).toInt < 12)))) ∨ (r = 0 ∧ (0 ≤ a1.toInt ∧ a1.toInt < (hc : Int)) ∧ kx_ag a2 a3 a4 a5 a6 ∧ (bg = 0 ∧ (ar a1.toInt.toNat).toInt < 12) ∧ ar1 = va_up ar a1.toInt.toNat (ar a1.toInt.toNat + 1) ∧ ck1 = kx_ck ck a1.toInt.toNat a2 a3 a4 a5 a6 ∧ o = (ar a1.toInt.toNat + 1).toInt64))
def kx_om_area (hc pc : Nat) (bg : Int32) (rr mk : Nat → Nat → Int32) (a1 : Int32) (a2 : Int32) (a3 : Int32) (a4 : Int32) (a5 : Int32) (a6 : Int32) (v t : Int32) (hc1 pc1 : Nat) (rr1 mk1 : Nat → Nat → Int32) : Prop := hc1 = hc ∧ pc1 = pc ∧ ((rr1 = rr ∧ mk1 = mk ∧ ((t = 1 ∧ ¬ (0 ≤ a1.toInt ∧ a1.toInt < (hc : Int))) ∨ (t = 2 ∧ (0 ≤ a1.toInt ∧ a1.toInt < (hc : Int)) ∧ ¬ kx_ag a2 a3 a4 a5 a6) ∨ (t = 3 ∧ (0 ≤ a1.toInt ∧ a1.toInt < (hc : Int)) ∧ kx_ag a2 a3 a4 a5 a6 ∧ ¬ (bg = 0 ∧ ¬ rr a1.toInt.toNat 6 = 12)))) ∨ (t = 0 ∧ (0 ≤ a1.toInt ∧ a1.toInt < (hc : Int)) ∧ kx_ag a2 a3 a4 a5 a6 ∧ (bg = 0 ∧ ¬ rr a1.toInt.toNat 6 = 12) ∧ v = rr a1.toInt.toNat 6 + 1 ∧ rr1 = kx_ra rr a1.toInt.toNat ∧ mk1 = kx_ck mk a1.toInt.toNat a2 a3 a4 a5 a6))
def kx_ox_player (hc pc : Nat) (bg : Int32) (ix ar : Nat → Int32) (ck : Nat → Nat → Int32) (r : Int32) (o : Int64) (hc1 pc1 : Nat) (ix1 ar1 : Nat → Int32) (ck1 : Nat → Nat → Int32) : Prop := hc1 = hc ∧ ix1 = ix ∧ ar1 = ar ∧ ck1 = ck ∧ ((pc1 = pc ∧ r = 1 ∧ ¬ (bg = 0 ∧ pc < 6)) ∨ (r = 0 ∧ (bg = 0 ∧ pc < 6) ∧ pc1 = pc + 1 ∧ o = (nI pc).toInt64))
def kx_om_player (hc pc : Nat) (bg : Int32) (rr mk : Nat → Nat → Int32) (v t : Int32) (hc1 pc1 : Nat) (rr1 mk1 : Nat → Nat → Int32) : Prop := hc1 = hc ∧ rr1 = rr ∧ mk1 = mk ∧ ((pc1 = pc ∧ t = 1 ∧ ¬ (bg = 0 ∧ pc < 6)) ∨ (t = 0 ∧ (bg = 0 ∧ pc < 6) ∧ v = nI pc ∧ pc1 = pc + 1))
theorem kx_two_hole {hc pc hc1 pc1 hc2 pc2 : Nat} {bg : Int32} {ix ar ix1 ar1 : Nat → Int32} {ck ck1 rr mk rr2 mk2 : Nat → Nat → Int32} {a1 : Int32} {a2 : Int32} {a3 : Int32} {a4 : Int32} {a5 : Int32} {a6 : Int32} {r v t : Int32} {o : Int64} (hl : kx_lk hc ix ar ck rr mk) (hx : kx_ox_hole hc pc bg ix ar ck a1 a2 a3 a4 a5 a6 r o hc1 pc1 ix1 ar1 ck1) (hm : kx_om_hole hc pc bg rr mk a1 a2 a3 a4 a5 a6 v t hc2 pc2 rr2 mk2) (h9 : hc ≤ 9) : r = t ∧ (r = 0 → o = v.toInt64) ∧ hc1 = hc2 ∧ pc1 = pc2 ∧ kx_lk hc1 ix1 ar1 ck1 rr2 mk2 := by
  obtain ⟨e1, e2, e3, hx⟩ := hx
  obtain ⟨e4, hm⟩ := hm
  rw [e1, e2, e3, e4]
  have hi : (∃ j, j < hc ∧ ix j = a2) ↔ ∃ j, j < hc ∧ rr j 1 = a2 := ⟨fun ⟨j, h, e⟩ => ⟨j, h, (hl.2.1 j h).1.symm.trans e⟩, fun ⟨j, h, e⟩ => ⟨j, h, (hl.2.1 j h).1.trans e⟩⟩
  have ha : ∀ {P : Prop}, (∃ j, j < hc ∧ ix j = a2) → (∀ j, j < hc → ¬ ix j = a2) → P := fun ⟨j, h, e⟩ g => absurd e (g j h)
  have hb : ∀ {P : Prop}, (∃ j, j < hc ∧ rr j 1 = a2) → (∀ j, j < hc → ¬ rr j 1 = a2) → P := fun ⟨j, h, e⟩ g => absurd e (g j h)
  rcases hx with ⟨f1, f2, hx⟩ | ⟨fr, x1, x2, x3, f1, f2, fo⟩
  · rw [f1, f2]
    rcases hm with ⟨g1, g2, g3, hm⟩ | ⟨ft, y1, y2, y3, g0, g1, g2, g3⟩
    · rw [g1, g2, g3]
      rcases hx with ⟨fr, x1⟩ | ⟨fr, x1, x2⟩ | ⟨fr, x1, x2, x3⟩
      · rcases hm with ⟨ft, y1⟩ | ⟨ft, y1, y2⟩ | ⟨ft, y1, y2, y3⟩
        · exact ⟨fr.trans ft.symm, fun h => absurd (fr.symm.trans h) (by decide), rfl, rfl, hl⟩
        · exact absurd y1 x1
        · exact absurd y1 x1
      · rcases hm with ⟨ft, y1⟩ | ⟨ft, y1, y2⟩ | ⟨ft, y1, y2, y3⟩
        · exact absurd x1 y1
        · exact ⟨fr.trans ft.symm, fun h => absurd (fr.symm.trans h) (by decide), rfl, rfl, hl⟩
        · exact absurd y2 x2
      · rcases hm with ⟨ft, y1⟩ | ⟨ft, y1, y2⟩ | ⟨ft, y1, y2, y3⟩
        · exact absurd x1 y1
        · exact absurd x2 y2
        · exact ⟨fr.trans ft.symm, fun h => absurd (fr.symm.trans h) (by decide), rfl, rfl, hl⟩
    · rcases hx with ⟨fr, x1⟩ | ⟨fr, x1, x2⟩ | ⟨fr, x1, x2, x3⟩
      · exact absurd y1 x1
      · exact absurd y2 x2
      · exact hb (hi.mp x3) y3
  · rw [f1, f2]
    rcases hm with ⟨g1, g2, g3, hm⟩ | ⟨ft, y1, y2, y3, g0, g1, g2, g3⟩
    · rcases hm with ⟨ft, y1⟩ | ⟨ft, y1, y2⟩ | ⟨ft, y1, y2, y3⟩
      · exact absurd x1 y1
      · exact absurd x2 y2
      · exact ha (hi.mpr y3) x3
    · rw [g1, g2, g3, g0, fo]
      exact ⟨fr.trans ft.symm, fun _ => rfl, rfl, rfl, hl.hole x2.2⟩
theorem kx_two_area {hc pc hc1 pc1 hc2 pc2 : Nat} {bg : Int32} {ix ar ix1 ar1 : Nat → Int32} {ck ck1 rr mk rr2 mk2 : Nat → Nat → Int32} {a1 : Int32} {a2 : Int32} {a3 : Int32} {a4 : Int32} {a5 : Int32} {a6 : Int32} {r v t : Int32} {o : Int64} (hl : kx_lk hc ix ar ck rr mk) (hx : kx_ox_area hc pc bg ix ar ck a1 a2 a3 a4 a5 a6 r o hc1 pc1 ix1 ar1 ck1) (hm : kx_om_area hc pc bg rr mk a1 a2 a3 a4 a5 a6 v t hc2 pc2 rr2 mk2) (h9 : hc ≤ 9) : r = t ∧ (r = 0 → o = v.toInt64) ∧ hc1 = hc2 ∧ pc1 = pc2 ∧ kx_lk hc1 ix1 ar1 ck1 rr2 mk2 := by
  obtain ⟨e1, e2, e3, hx⟩ := hx
  obtain ⟨e4, e5, hm⟩ := hm
  rw [e1, e2, e3, e4, e5]
  have hi : (0 ≤ a1.toInt ∧ a1.toInt < (hc : Int)) → ((bg = 0 ∧ (ar a1.toInt.toNat).toInt < 12) ↔ (bg = 0 ∧ ¬ rr a1.toInt.toNat 6 = 12)) := fun hin => by
    have hlt : a1.toInt.toNat < hc := by omega
    have e9 := (hl.2.1 _ hlt).2.1
    have b9 := hl.1 a1.toInt.toNat (by omega)
    rw [← e9]
    refine ⟨fun h => ⟨h.1, fun h9 => ?_⟩, fun h => ⟨h.1, ?_⟩⟩
    · have h8 := h.2
      rw [h9] at h8
      exact absurd h8 (by decide)
    · have h8 : ¬ (ar a1.toInt.toNat).toInt = 12 := fun h9 => h.2 (Int32.toInt_inj.mp (by rw [h9]; decide))
      omega
  rcases hx with ⟨f1, f2, hx⟩ | ⟨fr, x1, x2, x3, f1, f2, fo⟩
  · rw [f1, f2]
    rcases hm with ⟨g2, g3, hm⟩ | ⟨ft, y1, y2, y3, g0, g2, g3⟩
    · rw [g2, g3]
      rcases hx with ⟨fr, x1⟩ | ⟨fr, x1, x2⟩ | ⟨fr, x1, x2, x3⟩
      · rcases hm with ⟨ft, y1⟩ | ⟨ft, y1, y2⟩ | ⟨ft, y1, y2, y3⟩
        · exact ⟨fr.trans ft.symm, fun h => absurd (fr.symm.trans h) (by decide), rfl, rfl, hl⟩
        · exact absurd y1 x1
        · exact absurd y1 x1
      · rcases hm with ⟨ft, y1⟩ | ⟨ft, y1, y2⟩ | ⟨ft, y1, y2, y3⟩
        · exact absurd x1 y1
        · exact ⟨fr.trans ft.symm, fun h => absurd (fr.symm.trans h) (by decide), rfl, rfl, hl⟩
        · exact absurd y2 x2
      · rcases hm with ⟨ft, y1⟩ | ⟨ft, y1, y2⟩ | ⟨ft, y1, y2, y3⟩
        · exact absurd x1 y1
        · exact absurd x2 y2
        · exact ⟨fr.trans ft.symm, fun h => absurd (fr.symm.trans h) (by decide), rfl, rfl, hl⟩
    · rcases hx with ⟨fr, x1⟩ | ⟨fr, x1, x2⟩ | ⟨fr, x1, x2, x3⟩
      · exact absurd y1 x1
      · exact absurd y2 x2
      · exact absurd ((hi x1).mpr y3) x3
  · rw [f1, f2]
    rcases hm with ⟨g2, g3, hm⟩ | ⟨ft, y1, y2, y3, g0, g2, g3⟩
    · rcases hm with ⟨ft, y1⟩ | ⟨ft, y1, y2⟩ | ⟨ft, y1, y2, y3⟩
      · exact absurd x1 y1
      · exact absurd x2 y2
      · exact absurd ((hi x1).mp x3) y3
    · rw [g2, g3, g0, fo]
      have hlt : a1.toInt.toNat < hc := by omega
      exact ⟨fr.trans ft.symm, fun _ => by rw [(hl.2.1 _ hlt).2.1], rfl, rfl, hl.area hlt x3.2 (by omega)⟩
theorem kx_two_player {hc pc hc1 pc1 hc2 pc2 : Nat} {bg : Int32} {ix ar ix1 ar1 : Nat → Int32} {ck ck1 rr mk rr2 mk2 : Nat → Nat → Int32} {r v t : Int32} {o : Int64} (hl : kx_lk hc ix ar ck rr mk) (hx : kx_ox_player hc pc bg ix ar ck r o hc1 pc1 ix1 ar1 ck1) (hm : kx_om_player hc pc bg rr mk v t hc2 pc2 rr2 mk2) (h9 : hc ≤ 9) : r = t ∧ (r = 0 → o = v.toInt64) ∧ hc1 = hc2 ∧ pc1 = pc2 ∧ kx_lk hc1 ix1 ar1 ck1 rr2 mk2 := by
  obtain ⟨e1, e2, e3, e4, hx⟩ := hx
  obtain ⟨e5, e6, e7, hm⟩ := hm
  rw [e1, e2, e3, e4, e5, e6, e7]
  rcases hx with ⟨f1, fr, x1⟩ | ⟨fr, x1, f1, fo⟩
  · rw [f1]
    rcases hm with ⟨g1, ft, y1⟩ | ⟨ft, y1, g0, g1⟩
    · rw [g1]
      exact ⟨fr.trans ft.symm, fun h => absurd (fr.symm.trans h) (by decide), rfl, rfl, hl⟩
    · exact absurd y1 x1
  · rw [f1]
    rcases hm with ⟨g1, ft, y1⟩ | ⟨ft, y1, g0, g1⟩
    · exact absurd x1 y1
    · rw [g1, g0, fo]
      exact ⟨fr.trans ft.symm, fun _ => rfl, rfl, rfl, hl⟩
theorem kx_ck_b {ck : Nat → Nat → Int32} {h i : Nat} {k l lo r hi : Int32} (hk : 0 ≤ k.toInt ∧ k.toInt ≤ 65535) : kx_ck ck h k l lo r hi h i = ck h i ∨ (0 ≤ (kx_ck ck h k l lo r hi h i).toInt ∧ (kx_ck ck h k l lo r hi h i).toInt ≤ 65535) := by
  have e : kx_ck ck h k l lo r hi h i = kx_pt (ck h) k l.toInt.toNat lo.toInt.toNat r.toInt.toNat hi.toInt.toNat i := if_pos rfl
  rw [e]
  unfold kx_pt
  by_cases c : l.toInt.toNat ≤ i % 30 ∧ i % 30 ≤ r.toInt.toNat ∧ lo.toInt.toNat ≤ i / 30 ∧ i / 30 ≤ hi.toInt.toNat
  · rw [if_pos c]
    exact Or.inr hk
  · rw [if_neg c]
    exact Or.inl rfl
theorem kx_rw_self {rr : Nat → Nat → Int32} {h : Nat} {r : Nat → Int32} : kx_rw rr h r h = r := by
  funext i
  unfold kx_rw
  exact if_pos rfl
theorem kx_rw_ne {rr : Nat → Nat → Int32} {h j : Nat} {r : Nat → Int32} (hj : ¬ j = h) : kx_rw rr h r j = rr j := by
  funext i
  unfold kx_rw
  exact if_neg hj
theorem kx_ra_ne {rr : Nat → Nat → Int32} {h j i : Nat} (hi : ¬ i = 6) : kx_ra rr h j i = rr j i := by
  unfold kx_ra
  exact if_neg fun z => hi z.2
theorem kx_ra_rb {rr : Nat → Nat → Int32} {h j : Nat} (hr : kx_rb (rr j)) : kx_rb (kx_ra rr h j) := by
  unfold kx_rb
  rw [kx_ra_ne (i := 2) (by decide), kx_ra_ne (i := 3) (by decide), kx_ra_ne (i := 4) (by decide), kx_ra_ne (i := 5) (by decide)]
  exact hr
theorem kx_C45 {PP : Int32 → Int32 → Prop} {sh : en_H} {tys : List (ClassId × FieldType)} {a : Nat} {cI : ClassId} {g : Nat → Int32} (hI : tys[0]? = some (cI, .int)) : en_C PP (en_shx sh 45 a) tys (.inr (0, 7, .inr ([(-2147483648, 2147483647), (-2147483648, 2147483647), (-2147483648, 2147483647), (-2147483648, 2147483647), (-2147483648, 2147483647), (-2147483648, 2147483647), (-2147483648, 2147483647)], []))) (.inl (cI, 7, .inl g)) := by
  refine ⟨by rw [hI]; rfl, rfl, rfl, fun j r hj => ?_, fun m hm => absurd hm List.not_mem_nil⟩
  have hr : r = (-2147483648, 2147483647) := by
    match j, hj with
    | 0, hj => exact (Option.some.inj hj).symm
    | 1, hj => exact (Option.some.inj hj).symm
    | 2, hj => exact (Option.some.inj hj).symm
    | 3, hj => exact (Option.some.inj hj).symm
    | 4, hj => exact (Option.some.inj hj).symm
    | 5, hj => exact (Option.some.inj hj).symm
    | 6, hj => exact (Option.some.inj hj).symm
    | n + 7, hj => simp at hj
  rw [hr]
  exact ⟨en_lo _, en_hi _⟩
/-- another reference's cells where only its own fields but the watched ones change -/
theorem kx_M.fl {tys : List (ClassId × FieldType)} {sh : en_H} {w w1 : va_W} {fs fs1 : List Value} {hc pc : Nat} {bg : Int32} {rr mk : Nat → Nat → Int32} (h : kx_M tys sh w fs hc pc bg rr mk) (g1 : w1[0]? = some (sh.2 0, .inr (13, fs1))) (g2 : fs1.length = fs.length) (g4 : ∀ j, j ≠ 30 → fs1[j]? = fs[j]?) (g : ∀ j, j < 37 → j ≠ 0 → w1[j]? = w[j]?) : kx_M tys sh w1 fs1 hc pc bg rr mk := by
  obtain ⟨⟨a1, a2, a3, a4, a5, a6, a7, a8⟩, ⟨cR, f, b1, b2, b3⟩, ⟨cR2, f2, c1, c2, c3⟩, d, e⟩ := h
  refine ⟨⟨g1, g2.trans a2, (g4 0 (by decide)).trans a3, (g4 1 (by decide)).trans a4, (g4 16 (by decide)).trans a5, (g4 17 (by decide)).trans a6, (g4 21 (by decide)).trans a7, a8⟩, ⟨cR, f, b1, (g 1 (by decide) (by decide)).trans b2, b3⟩, ⟨cR2, f2, c1, (g 27 (by decide) (by decide)).trans c2, c3⟩, fun j hj => ?_, fun j hj => ?_⟩
  · obtain ⟨cI, gg, x1, x2, x3⟩ := d j hj
    exact ⟨cI, gg, x1, (g (2 + j) (by omega) (by omega)).trans x2, x3⟩
  · obtain ⟨cI, gg, x1, x2, x3⟩ := e j hj
    exact ⟨cI, gg, x1, (g (28 + j) (by omega) (by omega)).trans x2, x3⟩
theorem kx_bX2 {tys : List (ClassId × FieldType)} {sh : en_H} {w : va_W} {fx : List Value} {hc pc : Nat} {bg : Int32} {ix ar : Nat → Int32} {ck : Nat → Nat → Int32} {tk : List Nat} {md : List (Nat × Nat)} {PP : Int32 → Int32 → Prop} {KT : List en_D} {u : en_H × va_W} (h : en_Px tys PP KT tk md sh w u) (hs : kx_sh sh) (hX : kx_X tys sh w fx hc pc bg ix ar ck) (hm : ∀ z ∈ (0, 10) :: kx_wX, z ∉ md) : ∃ fx2, kx_X tys u.1 u.2 fx2 hc pc bg ix ar ck := by
  obtain ⟨fx', -, x2, x3⟩ := hX.st h.2.2 h.1 hs fun z hz => hm z (List.mem_cons_of_mem _ hz)
  exact ⟨fx', x3 bg ((x2 10 (hm _ (by decide))).trans hX.1.2.2.2.2.2.1) hX.1.2.2.2.2.2.2.2.2⟩
theorem kx_ckb {E : Int32 → Int32 → Prop} {LP : en_H → va_W → Prop} {tys : List (ClassId × FieldType)} {cO cD : ClassId} {qx qo qd : Nat} {sh : en_H} {w : va_W} {st : Nat} {cx cy : Int32} {fs fx : List Value} {hc pc : Nat} {bg : Int32} {ix ar : Nat → Int32} {ck : Nat → Nat → Int32} (I : lw_I E LP tys cO cD qx qo qd sh w st cx cy fs) (hs : kx_sh sh) (hX : kx_X tys sh w fx hc pc bg ix ar ck) : ∀ j, j < 9 → ∀ i, i < 600 → 0 ≤ (ck j i).toInt ∧ (ck j i).toInt ≤ 65535 := fun j hj i hi => by
  obtain ⟨e9, a9, b9⟩ := I.hs.1.2 _ 6 (hs.2 j hj).2.2.2
  obtain ⟨kd, c1, c2⟩ := b9 (by decide) (fun z => z)
  rw [lw_KT_eq st 6 (by decide) (by decide)] at c1
  have ek := Option.some.inj (c1.symm.trans (show en_KT[6]? = some (.inr (1, 600, .inl (.inl (0, 65535, 0, 0)))) from rfl))
  subst ek
  obtain ⟨cX, g, x1, x2, x3⟩ := hX.2.2.2 j hj
  have ee := (Prod.mk.inj (Option.some.inj (a9.symm.trans x2))).2
  subst ee
  rw [← x3 i hi]
  exact c2.2.2 i hi
theorem kx_mkb {E : Int32 → Int32 → Prop} {LP : en_H → va_W → Prop} {tys : List (ClassId × FieldType)} {cO cD : ClassId} {qx qo qd : Nat} {sh : en_H} {w : va_W} {st : Nat} {cx cy : Int32} {fs : List Value} {hc pc : Nat} {bg : Int32} {rr mk : Nat → Nat → Int32} (I : lw_I E LP tys cO cD qx qo qd sh w st cx cy fs) (hs : kx_sh sh) (hM : kx_M tys sh w fs hc pc bg rr mk) : ∀ j, j < 9 → ∀ i, i < 600 → 0 ≤ (mk j i).toInt ∧ (mk j i).toInt ≤ 65535 := fun j hj i hi => by
  obtain ⟨e9, a9, b9⟩ := I.hs.1.2 _ 24 (hs.2 j hj).2.1
  obtain ⟨kd, c1, c2⟩ := b9 (by decide) (fun z => z)
  rw [lw_KT_eq st 24 (by decide) (by decide)] at c1
  have ek := Option.some.inj (c1.symm.trans (show en_KT[24]? = some (.inr (1, 600, .inl (.inl (0, 65535, 0, 0)))) from rfl))
  subst ek
  obtain ⟨cX, g, x1, x2, x3⟩ := hM.2.2.2.2 j hj
  have ee := (Prod.mk.inj (Option.some.inj (a9.symm.trans x2))).2
  subst ee
  rw [← x3 i hi]
  exact c2.2.2 i hi
/-- the class's begin: whether a round is begun afterwards; n9: whether one was on -/
def kx_ox_begin (hc pc : Nat) (bg a1 n9 b1 : Int32) : Prop := (b1 = bg ∧ ¬ ((a1.toInt = 115 ∧ 1 ≤ hc ∧ 1 ≤ pc ∧ n9 = 0) ∨ (a1.toInt = 109 ∧ 1 ≤ hc ∧ pc = 2 ∧ n9 = 0))) ∨ (b1 = 1 ∧ ((a1.toInt = 115 ∧ 1 ≤ hc ∧ 1 ≤ pc ∧ n9 = 0) ∨ (a1.toInt = 109 ∧ 1 ≤ hc ∧ pc = 2 ∧ n9 = 0)))
def kx_om_begin (hc pc : Nat) (bg a1 b1 : Int32) : Prop := (bg = 1 ∧ b1 = 1) ∨ (bg = 0 ∧ ((b1 = 1 ∧ ((a1.toInt = 115 ∧ 1 ≤ hc ∧ 1 ≤ pc) ∨ (a1.toInt = 109 ∧ 1 ≤ hc ∧ pc = 2))) ∨ (b1 = 0 ∧ ¬ ((a1.toInt = 115 ∧ 1 ≤ hc ∧ 1 ≤ pc) ∨ (a1.toInt = 109 ∧ 1 ≤ hc ∧ pc = 2)))))
theorem kx_two_begin {hc pc : Nat} {bg a1 n9 b1 b2 : Int32} (hx : kx_ox_begin hc pc bg a1 n9 b1) (hm : kx_om_begin hc pc bg a1 b2) (h0 : bg = 0 → n9 = 0) : b1 = b2 := by
  rcases hm with ⟨h1, h2⟩ | ⟨h1, h2⟩
  · rcases hx with ⟨g1, -⟩ | ⟨g1, -⟩
    · rw [g1, h1, h2]
    · rw [g1, h2]
  · have hn := h0 h1
    rcases hx with ⟨g1, g2⟩ | ⟨g1, g2⟩
    · rcases h2 with ⟨h3, h4⟩ | ⟨h3, h4⟩
      · refine absurd ?_ g2
        rcases h4 with ⟨z1, z2, z3⟩ | ⟨z1, z2, z3⟩
        · exact Or.inl ⟨z1, z2, z3, hn⟩
        · exact Or.inr ⟨z1, z2, z3, hn⟩
      · rw [g1, h1, h3]
    · rcases h2 with ⟨h3, h4⟩ | ⟨h3, h4⟩
      · rw [g1, h3]
      · refine absurd ?_ h4
        rcases g2 with ⟨z1, z2, z3, -⟩ | ⟨z1, z2, z3, -⟩
        · exact Or.inl ⟨z1, z2, z3⟩
        · exact Or.inr ⟨z1, z2, z3⟩
section
variable {tys : List (ClassId × FieldType)} {cO cD : ClassId} {A : Nat → Prop} {sh sh' : en_H} {w : va_W} {qx qo qd : Nat} {E : Int32 → Int32 → Prop} {LP LP' : en_H → va_W → Prop} {st : Nat} {cx cy : Int32} {fs fx : List Value} {tk : List Nat} {md : List (Nat × Nat)} {PP : Int32 → Int32 → Prop} {KT : List en_D}
variable {hc pc hm pm : Nat} {bg : Int32} {ix ar : Nat → Int32} {ck rr mk : Nat → Nat → Int32} {u : en_H × va_W}
theorem kx_bX (h : en_Px tys PP KT tk md sh w u) (hs : kx_sh sh) (hX : kx_X tys sh w fx hc pc bg ix ar ck) (hm : ∀ z ∈ (0, 10) :: (0, 11) :: kx_wX, z ∉ md) : ∃ fx2, kx_X tys u.1 u.2 fx2 hc pc bg ix ar ck ∧ fx2[11]? = fx[11]? := by
  obtain ⟨fx', -, x2, x3⟩ := hX.st h.2.2 h.1 hs fun z hz => hm z (List.mem_cons_of_mem _ (List.mem_cons_of_mem _ hz))
  exact ⟨fx', x3 bg ((x2 10 (hm _ (by decide))).trans hX.1.2.2.2.2.2.1) hX.1.2.2.2.2.2.2.2.2, x2 11 (hm _ (by decide))⟩
/-- begun by the class -/
theorem kx_bX1 (h : en_Px tys PP KT tk md sh w u) (hs : kx_sh sh) (hX : kx_X tys sh w fx hc pc bg ix ar ck) (hm : ∀ z ∈ kx_wX, z ∉ md) {qo' : Nat} (h10 : ∃ fx', u.2[66]? = some (u.1.2 66, .inr (12, fx')) ∧ fx'[10]? = some (.int 1)) : ∃ fx2, kx_X tys u.1 u.2 fx2 hc pc 1 ix ar ck := by
  obtain ⟨fx', y1, y2⟩ := h10
  obtain ⟨fx2, x1, x2, x3⟩ := hX.st h.2.2 h.1 hs hm
  have e : fx2 = fx' := (Prod.mk.inj (Sum.inr.inj (Prod.mk.inj (Option.some.inj (x1.symm.trans y1))).2)).2
  subst e
  exact ⟨fx2, x3 1 y2 (Or.inr rfl)⟩
theorem kx_stb (I : lw_I E LP tys cO cD qx qo qd sh w st cx cy fs) : fs[21]? = some (.int (if st = 0 then 0 else 1)) := by
  by_cases h : st = 0
  · rw [if_pos h]
    subst h
    obtain ⟨x, a, b, c⟩ := I.hs.2.2.1 (21, 0, 0) (by decide)
    have b : (0 : Int) ≤ x.toInt := b
    have c : x.toInt ≤ (0 : Int) := c
    rw [show (0 : Int32) = x from Int32.toInt_inj.mp (by rw [show (0 : Int32).toInt = 0 from rfl]; omega)]
    exact a
  · rw [if_neg h]
    obtain ⟨x, a, b, c⟩ := lw_b21 (by omega) I.hst I.hs.2.2.1
    have b : (1 : Int) ≤ x.toInt := b
    have c : x.toInt ≤ (1 : Int) := c
    rw [show (1 : Int32) = x from Int32.toInt_inj.mp (by rw [show (1 : Int32).toInt = 1 from rfl]; omega)]
    exact a
theorem kx_bM {st2 : Nat} {cx2 cy2 : Int32} {fs2 : List Value} (h : en_Px tys PP KT tk md sh w u) (hs : kx_sh sh) (hM : kx_M tys sh w fs hm pm bg rr mk) (hmd : ∀ z ∈ kx_wM, z ∉ md) (I2 : lw_I E LP tys cO cD qx qo qd u.1 u.2 st2 cx2 cy2 fs2) : kx_M tys u.1 u.2 fs2 hm pm (if st2 = 0 then 0 else 1) rr mk := by
  obtain ⟨fs', x1, -, x3⟩ := hM.st h.2.2 h.1 hs hmd
  have e : fs' = fs2 := (Prod.mk.inj (Sum.inr.inj (Prod.mk.inj (Option.some.inj (x1.symm.trans I2.hs.2.1))).2)).2
  subst e
  refine x3 _ (kx_stb I2) ?_
  split
  · exact Or.inl rfl
  · exact Or.inr rfl
theorem kx_st1 (I : lw_I E LP tys cO cD qx qo qd sh w st cx cy fs) (hM : kx_M tys sh w fs hm pm bg rr mk) : bg = if st = 0 then 0 else 1 := Value.int.inj (Option.some.inj (hM.1.2.2.2.2.2.2.1.symm.trans (kx_stb I)))
theorem kx_on (I : lw_I E LP tys cO cD 66 qo qd sh w st cx cy fs) (hX : kx_X tys sh w fx hc pc bg ix ar ck) : ∃ n9 : Int32, fx[11]? = some (.int n9) ∧ (0 : Int) ≤ n9.toInt ∧ n9.toInt ≤ 1 := by
  obtain ⟨e, a, b⟩ := I.hs.1.2 66 0 I.hx
  obtain ⟨kd, c1, c2⟩ := b (by decide) (fun z => z)
  have e9 : e = .inr (12, fx) := (Prod.mk.inj (Option.some.inj (a.symm.trans hX.1.1))).2
  subst e9
  rw [lw_KT_eq st 0 (by decide) (by decide)] at c1
  obtain ⟨ts, h1, h2⟩ : ∃ ts : List en_A, en_KT[0]? = some (.inl (12, ts)) ∧ ts[11]? = some (.inl (0, 1, 0, 0)) := ⟨_, rfl, rfl⟩
  have e := Option.some.inj (h1.symm.trans c1)
  subst e
  have hl : 11 < fx.length := by rw [hX.1.2.1]; decide
  have hv := List.getElem?_eq_getElem hl
  obtain ⟨x, q1, q2, q3⟩ := c2.2.2 11 _ _ h2 hv
  exact ⟨x, by rw [hv, q1], q2, q3⟩
end
