def k_X7_divisor_20 : en_K := (2, ([.inl (0, 29, 0, 0), .inl (1, 19, 0, 0)], []), [([.inl (0, 29, 0, 0), .inl (1, 19, 0, 0), .inl (1, 19, 0, 0)], [(6, 1, 0, 0, 0, 0)])], [], [], (0, 0), [])
def u_X7_divisor_20 : List en_U := []
def x_X7_divisor_20 : en_Cx := ((en_KT, en_TY0, en_om0), en_FTX7, en_PTX7, [(211, false, 0, 0, 18, k_X7_divisor_18)], en_LTX7, en_LLX7, en_TTX7, en_ACX7)
def m_X7_divisor_20 : en_Mx := (k_X7_divisor_20, 19, 2, (0, 0), tb_X7_divisor, [])
set_option maxRecDepth 100000 in
theorem ck_X7_divisor_20 : en_all x_X7_divisor_20 m_X7_divisor_20 u_X7_divisor_20 11 = true := by decide +kernel
theorem ct_X7_divisor_20 {l : Launch} (hl : l.stackTraces = false) {cx cy : Int32} : en_Ctr l vwCl en_TY0 (en_Pc cx cy) en_om0 (en_Of cx cy) en_KT yX7_divisor (Cond.code yX7_divisor cX7_divisor 2 (some .int) :: en_cw) (en_rm 19 (0, 0)) 0 k_X7_divisor_20 :=
  en_main (X := x_X7_divisor_20) (M := m_X7_divisor_20) en_Pc_ok en_f32_ok en_f64_ok hl (by decide +kernel) ⟨en_FTX7_ok, en_PTX7_ok, en_ac (⟨yX7_divisor, RX7, cX7_divisor, 2, (some .int), by decide, ct_X7_divisor_18 hl, fun h => Bool.noConfusion h, fun _ => gc_RX7_211s⟩) en_an, en_LTX7_ok, en_LLX7_ok, en_TTX7_ok hl, ⟨cw256, cw147⟩, en_ACX7_ok⟩ de_X7_divisor ck_X7_divisor_20
def k_X7_divisor_h : en_K := (2, ([.inl (0, 29, 0, 0), .inl (0, 19, 0, 0), .inl ((-29), 29, 0, 0), .inl ((-19), 19, 0, 0), .inl (0, 29, 0, 0), .inl (0, 29, 0, 0), .inl (0, 19, 0, 0), .inl (0, 19, 0, 0)], [(16, 2, 0, 0, 0, 0), (16, 3, 1, 0, 0, 0), (13, 4, 5, 2, 0, 0), (13, 6, 7, 3, 0, 0), (2, 4, 6, 0, 0, 0), (14, 5, 0, 0, 0, 0), (15, 7, 0, 0, 0, 0)]), [([.inl (0, 29, 0, 0), .inl (0, 19, 0, 0), .inl (1, 29, 0, 0)], [])], [], [], (0, 0), [])
set_option maxRecDepth 4000 in
theorem ct_X7_divisor_h {l : Launch} (hl : l.stackTraces = false) {cx cy : Int32} : en_Ctr l vwCl en_TY0 (en_Pc cx cy) en_om0 (en_Of cx cy) en_KT yX7_divisor (Cond.code yX7_divisor cX7_divisor 2 (some .int) :: en_cw) (en_rm 19 (0, 0)) 0 k_X7_divisor_h := by
  refine en_Ctr.by fun D tys sh w sz ρ hTY hW hD hΩ hPa => ?_
  obtain ⟨q1, q2, q3⟩ := hPa
  obtain ⟨va, a1, a, rfl, a2, a3⟩ := q2 0 _ rfl
  obtain ⟨vb, b1, b, rfl, b2, b3⟩ := q2 1 _ rfl
  have hz : (0 : Int32).toInt = 0 := by decide
  have ne : ∀ {x : Int32}, ¬ x = 0 → ¬ x.toInt = 0 := fun h e => h (Int32.toInt_inj.mp (by omega))
  by_cases ha0 : a = 0
  rotate_left
  · have ha1 : 1 ≤ a.toInt := by
      have h1 := ne ha0
      have h2 : (0 : Int) ≤ a.toInt := a2
      omega
    refine ⟨k_X7_divisor_19, ρ.take 2, ct_X7_divisor_19 hl, ⟨by rw [List.length_take, q1]; rfl, fun i a9 ha => ?_, fun f hf => absurd hf List.not_mem_nil⟩, by rw [List.take_take]; rfl, rfl, fun u res A' hpx hDu hΩu o ho ρ' hPo hi hv => ?_⟩
    · match i with
      | 0 => exact ⟨.int a, by rw [List.getElem?_take_of_lt (by decide)]; exact a1, by have e := Option.some.inj ha; rw [← e]; exact ⟨a, rfl, ha1, a3⟩⟩
      | 1 => exact ⟨.int b, by rw [List.getElem?_take_of_lt (by decide)]; exact b1, by have e := Option.some.inj ha; rw [← e]; exact ⟨b, rfl, b2, b3⟩⟩
      | n + 2 => cases ha
    · have ho := List.mem_singleton.mp ho
      subst ho
      obtain ⟨p1, p2, p3⟩ := hPo
      refine ⟨_, List.mem_singleton.mpr rfl, ρ', ⟨p1, fun i a9 ha => ?_, fun f hf => absurd hf List.not_mem_nil⟩, fun i hi' => ?_, hv⟩
      · match i with
        | 0 =>
          have e := Option.some.inj ha
          rw [← e]
          exact ⟨.int a, by rw [hi 0 (by decide), List.getElem?_take_of_lt (by decide)]; exact a1, a, rfl, a2, a3⟩
        | 1 =>
          have e := Option.some.inj ha
          rw [← e]
          exact ⟨.int b, by rw [hi 1 (by decide), List.getElem?_take_of_lt (by decide)]; exact b1, b, rfl, b2, b3⟩
        | 2 =>
          have e := Option.some.inj ha
          rw [← e]
          obtain ⟨v, v1, x, rfl, v2, v3⟩ := p2 2 _ rfl
          refine ⟨_, v1, x, rfl, v2, ?_⟩
          exact Int.le_trans v3 (by decide)
        | n + 3 => cases ha
      · have h1 : i < 2 := hi'
        rw [hi i h1, List.getElem?_take_of_lt h1]
  · by_cases hb0 : b = 0
    rotate_left
    · have hb1 : 1 ≤ b.toInt := by
        have h1 := ne hb0
        have h2 : (0 : Int) ≤ b.toInt := b2
        omega
      refine ⟨k_X7_divisor_20, ρ.take 2, ct_X7_divisor_20 hl, ⟨by rw [List.length_take, q1]; rfl, fun i a9 ha => ?_, fun f hf => absurd hf List.not_mem_nil⟩, by rw [List.take_take]; rfl, rfl, fun u res A' hpx hDu hΩu o ho ρ' hPo hi hv => ?_⟩
      · match i with
        | 0 => exact ⟨.int a, by rw [List.getElem?_take_of_lt (by decide)]; exact a1, by have e := Option.some.inj ha; rw [← e]; exact ⟨a, rfl, a2, a3⟩⟩
        | 1 => exact ⟨.int b, by rw [List.getElem?_take_of_lt (by decide)]; exact b1, by have e := Option.some.inj ha; rw [← e]; exact ⟨b, rfl, hb1, b3⟩⟩
        | n + 2 => cases ha
      · have ho := List.mem_singleton.mp ho
        subst ho
        obtain ⟨p1, p2, p3⟩ := hPo
        refine ⟨_, List.mem_singleton.mpr rfl, ρ', ⟨p1, fun i a9 ha => ?_, fun f hf => absurd hf List.not_mem_nil⟩, fun i hi' => ?_, hv⟩
        · match i with
          | 0 =>
            have e := Option.some.inj ha
            rw [← e]
            exact ⟨.int a, by rw [hi 0 (by decide), List.getElem?_take_of_lt (by decide)]; exact a1, a, rfl, a2, a3⟩
          | 1 =>
            have e := Option.some.inj ha
            rw [← e]
            exact ⟨.int b, by rw [hi 1 (by decide), List.getElem?_take_of_lt (by decide)]; exact b1, b, rfl, b2, b3⟩
          | 2 =>
            have e := Option.some.inj ha
            rw [← e]
            obtain ⟨v, v1, x, rfl, v2, v3⟩ := p2 2 _ rfl
            refine ⟨_, v1, x, rfl, v2, ?_⟩
            exact Int.le_trans v3 (by decide)
          | n + 3 => cases ha
        · have h1 : i < 2 := hi'
          rw [hi i h1, List.getElem?_take_of_lt h1]
    · exfalso
      obtain ⟨dx, a', u1, u2, u3⟩ := q3 (16, 2, 0, 0, 0, 0) (by decide)
      obtain ⟨dy, b', w1, w2, w3⟩ := q3 (16, 3, 1, 0, 0, 0) (by decide)
      obtain ⟨X, c, s1, s2, s3⟩ := q3 (13, 4, 5, 2, 0, 0) (by decide)
      obtain ⟨Y, d, t1, t2, t3⟩ := q3 (13, 6, 7, 3, 0, 0) (by decide)
      obtain ⟨X', Y', r1, r2, r3⟩ := q3 (2, 4, 6, 0, 0, 0) (by decide)
      obtain ⟨c', d9, m1, m2, m3⟩ := q3 (14, 5, 0, 0, 0, 0) (by decide)
      obtain ⟨c9, d', n1, n2, n3⟩ := q3 (15, 7, 0, 0, 0, 0) (by decide)
      have i1 : a' = a := Value.int.inj (Option.some.inj (u2.symm.trans a1))
      have i2 : b' = b := Value.int.inj (Option.some.inj (w2.symm.trans b1))
      have i3 : dx = X - c := Value.int.inj (Option.some.inj (u1.symm.trans s3))
      have i4 : dy = Y - d := Value.int.inj (Option.some.inj (w1.symm.trans t3))
      have i5 : X' = X := Value.int.inj (Option.some.inj (r1.symm.trans s1))
      have i6 : Y' = Y := Value.int.inj (Option.some.inj (r2.symm.trans t1))
      have i7 : c' = c := Value.int.inj (Option.some.inj (m1.symm.trans s2))
      have i8 : d' = d := Value.int.inj (Option.some.inj (n1.symm.trans t2))
      subst i1 i2 i3 i4 i5 i6 i7 i8
      have hc : c' = cx := Classical.byContradiction fun h => m3 ⟨m2, fun z => h z.1⟩
      have hd : d' = cy := Classical.byContradiction fun h => n3 ⟨n2, fun z => h z.2⟩
      have hX : X' = c' := by
        have := Classical.byContradiction fun h : ¬ (X' - c' = 0) => u3 h ha0
        have h9 := Int32.sub_add_cancel X' c'
        rw [this, Int32.zero_add] at h9
        exact h9.symm
      have hY : Y' = d' := by
        have := Classical.byContradiction fun h : ¬ (Y' - d' = 0) => w3 h hb0
        have h9 := Int32.sub_add_cancel Y' d'
        rw [this, Int32.zero_add] at h9
        exact h9.symm
      exact r3.2 ⟨hX.trans hc, hY.trans hd⟩
def k_X7_beginHole_h0 : en_K := (1, ([.inr (.inl 20), .inl (0, 0, 0, 0), .inl (1, 9, 0, 0)], [(0, 0, 25, 1, 0, 0), (0, 0, 16, 2, 0, 0), (5, 1, 0, 0, 0, 0)]), [([.inr (.inl 20)], [(5, 1, 0, 0, 0, 0), (5, 2, 0, 0, 0, 0)])], [(20, 27), (20, 28), (27, 0)], [20, 21, 22, 26, 27], (0, 0), [])
theorem ct_X7_beginHole_h0 {l : Launch} (hl : l.stackTraces = false) {cx cy : Int32} : en_Ctr l vwCl en_TY0 (en_Pc cx cy) en_om0 (en_Of cx cy) en_KTp yX7_beginHole (Cond.code yX7_beginHole cX7_beginHole 6 none :: en_cw) (en_rm 0 (0, 0)) 4 k_X7_beginHole_h0 := en_bh (a := 0) (by decide)
def k_X7_beginHole_h1 : en_K := (1, ([.inr (.inl 20), .inl (0, 1, 0, 0), .inl (2, 9, 0, 0)], [(0, 0, 25, 1, 0, 0), (0, 0, 16, 2, 0, 0), (5, 1, 0, 0, 0, 0)]), [([.inr (.inl 20)], [(5, 1, 0, 0, 0, 0), (5, 2, 0, 0, 0, 0)])], [(20, 27), (20, 28), (27, 0)], [20, 21, 22, 26, 27], (0, 0), [])
theorem ct_X7_beginHole_h1 {l : Launch} (hl : l.stackTraces = false) {cx cy : Int32} : en_Ctr l vwCl en_TY0 (en_Pc cx cy) en_om0 (en_Of cx cy) en_KTp yX7_beginHole (Cond.code yX7_beginHole cX7_beginHole 6 none :: en_cw) (en_rm 0 (0, 0)) 4 k_X7_beginHole_h1 := en_bh (a := 1) (by decide)
def k_X7_beginHole_h2 : en_K := (1, ([.inr (.inl 20), .inl (0, 2, 0, 0), .inl (3, 9, 0, 0)], [(0, 0, 25, 1, 0, 0), (0, 0, 16, 2, 0, 0), (5, 1, 0, 0, 0, 0)]), [([.inr (.inl 20)], [(5, 1, 0, 0, 0, 0), (5, 2, 0, 0, 0, 0)])], [(20, 27), (20, 28), (27, 0)], [20, 21, 22, 26, 27], (0, 0), [])
theorem ct_X7_beginHole_h2 {l : Launch} (hl : l.stackTraces = false) {cx cy : Int32} : en_Ctr l vwCl en_TY0 (en_Pc cx cy) en_om0 (en_Of cx cy) en_KTp yX7_beginHole (Cond.code yX7_beginHole cX7_beginHole 6 none :: en_cw) (en_rm 0 (0, 0)) 4 k_X7_beginHole_h2 := en_bh (a := 2) (by decide)
def k_X7_beginHole_h3 : en_K := (1, ([.inr (.inl 20), .inl (0, 3, 0, 0), .inl (4, 9, 0, 0)], [(0, 0, 25, 1, 0, 0), (0, 0, 16, 2, 0, 0), (5, 1, 0, 0, 0, 0)]), [([.inr (.inl 20)], [(5, 1, 0, 0, 0, 0), (5, 2, 0, 0, 0, 0)])], [(20, 27), (20, 28), (27, 0)], [20, 21, 22, 26, 27], (0, 0), [])
theorem ct_X7_beginHole_h3 {l : Launch} (hl : l.stackTraces = false) {cx cy : Int32} : en_Ctr l vwCl en_TY0 (en_Pc cx cy) en_om0 (en_Of cx cy) en_KTp yX7_beginHole (Cond.code yX7_beginHole cX7_beginHole 6 none :: en_cw) (en_rm 0 (0, 0)) 4 k_X7_beginHole_h3 := en_bh (a := 3) (by decide)
def k_X7_beginHole_h4 : en_K := (1, ([.inr (.inl 20), .inl (0, 4, 0, 0), .inl (5, 9, 0, 0)], [(0, 0, 25, 1, 0, 0), (0, 0, 16, 2, 0, 0), (5, 1, 0, 0, 0, 0)]), [([.inr (.inl 20)], [(5, 1, 0, 0, 0, 0), (5, 2, 0, 0, 0, 0)])], [(20, 27), (20, 28), (27, 0)], [20, 21, 22, 26, 27], (0, 0), [])
theorem ct_X7_beginHole_h4 {l : Launch} (hl : l.stackTraces = false) {cx cy : Int32} : en_Ctr l vwCl en_TY0 (en_Pc cx cy) en_om0 (en_Of cx cy) en_KTp yX7_beginHole (Cond.code yX7_beginHole cX7_beginHole 6 none :: en_cw) (en_rm 0 (0, 0)) 4 k_X7_beginHole_h4 := en_bh (a := 4) (by decide)
def k_X7_beginHole_h5 : en_K := (1, ([.inr (.inl 20), .inl (0, 5, 0, 0), .inl (6, 9, 0, 0)], [(0, 0, 25, 1, 0, 0), (0, 0, 16, 2, 0, 0), (5, 1, 0, 0, 0, 0)]), [([.inr (.inl 20)], [(5, 1, 0, 0, 0, 0), (5, 2, 0, 0, 0, 0)])], [(20, 27), (20, 28), (27, 0)], [20, 21, 22, 26, 27], (0, 0), [])
theorem ct_X7_beginHole_h5 {l : Launch} (hl : l.stackTraces = false) {cx cy : Int32} : en_Ctr l vwCl en_TY0 (en_Pc cx cy) en_om0 (en_Of cx cy) en_KTp yX7_beginHole (Cond.code yX7_beginHole cX7_beginHole 6 none :: en_cw) (en_rm 0 (0, 0)) 4 k_X7_beginHole_h5 := en_bh (a := 5) (by decide)
def k_X7_beginHole_h6 : en_K := (1, ([.inr (.inl 20), .inl (0, 6, 0, 0), .inl (7, 9, 0, 0)], [(0, 0, 25, 1, 0, 0), (0, 0, 16, 2, 0, 0), (5, 1, 0, 0, 0, 0)]), [([.inr (.inl 20)], [(5, 1, 0, 0, 0, 0), (5, 2, 0, 0, 0, 0)])], [(20, 27), (20, 28), (27, 0)], [20, 21, 22, 26, 27], (0, 0), [])
theorem ct_X7_beginHole_h6 {l : Launch} (hl : l.stackTraces = false) {cx cy : Int32} : en_Ctr l vwCl en_TY0 (en_Pc cx cy) en_om0 (en_Of cx cy) en_KTp yX7_beginHole (Cond.code yX7_beginHole cX7_beginHole 6 none :: en_cw) (en_rm 0 (0, 0)) 4 k_X7_beginHole_h6 := en_bh (a := 6) (by decide)
def k_X7_beginHole_h7 : en_K := (1, ([.inr (.inl 20), .inl (0, 7, 0, 0), .inl (8, 9, 0, 0)], [(0, 0, 25, 1, 0, 0), (0, 0, 16, 2, 0, 0), (5, 1, 0, 0, 0, 0)]), [([.inr (.inl 20)], [(5, 1, 0, 0, 0, 0), (5, 2, 0, 0, 0, 0)])], [(20, 27), (20, 28), (27, 0)], [20, 21, 22, 26, 27], (0, 0), [])
theorem ct_X7_beginHole_h7 {l : Launch} (hl : l.stackTraces = false) {cx cy : Int32} : en_Ctr l vwCl en_TY0 (en_Pc cx cy) en_om0 (en_Of cx cy) en_KTp yX7_beginHole (Cond.code yX7_beginHole cX7_beginHole 6 none :: en_cw) (en_rm 0 (0, 0)) 4 k_X7_beginHole_h7 := en_bh (a := 7) (by decide)
def k_X7_beginHole_h8 : en_K := (1, ([.inr (.inl 20), .inl (0, 8, 0, 0), .inl (9, 9, 0, 0)], [(0, 0, 25, 1, 0, 0), (0, 0, 16, 2, 0, 0), (5, 1, 0, 0, 0, 0)]), [([.inr (.inl 20)], [(5, 1, 0, 0, 0, 0), (5, 2, 0, 0, 0, 0)])], [(20, 27), (20, 28), (27, 0)], [20, 21, 22, 26, 27], (0, 0), [])
theorem ct_X7_beginHole_h8 {l : Launch} (hl : l.stackTraces = false) {cx cy : Int32} : en_Ctr l vwCl en_TY0 (en_Pc cx cy) en_om0 (en_Of cx cy) en_KTp yX7_beginHole (Cond.code yX7_beginHole cX7_beginHole 6 none :: en_cw) (en_rm 0 (0, 0)) 4 k_X7_beginHole_h8 := en_bh (a := 8) (by decide)
def tb_X7_isIn : en_Tb := [
  (16, [(0, .iload_n 0, 1), (1, .iload_n 1, 1), (2, .if_icmp .lt 12, 3), (5, .iload_n 0, 1), (6, .iload_n 2, 1), (7, .if_icmp .gt 7, 3), (10, .iconst 1, 1), (11, .goto 4, 3), (14, .iconst 0, 1), (15, .ireturn, 1)])]
set_option maxRecDepth 40000 in
theorem de_X7_isIn : en_De tb_X7_isIn cX7_isIn := by
  unfold en_De
  decide +kernel
def k_X7_isIn_0 : en_K := (3, ([.inl ((-2147483648), 2147483647, 0, 0), .inl (0, 0, 0, 0), .inl ((-1), 5, 0, 0)], []), [([.inl ((-2147483648), 2147483647, 0, 0), .inl (0, 0, 0, 0), .inl ((-1), 5, 0, 0), .inl (0, 0, 0, 0)], []), ([.inl (0, 5, 0, 0), .inl (0, 0, 0, 0), .inl (0, 5, 0, 0), .inl (1, 1, 0, 0)], [])], [], [], (0, 0), [])
def u_X7_isIn_0 : List en_U := []
def x_X7_isIn_0 : en_Cx := ((en_KT, en_TY0, en_om0), en_FTX7, en_PTX7, [], en_LTX7, en_LLX7, en_TTX7, en_ACX7)
def m_X7_isIn_0 : en_Mx := (k_X7_isIn_0, 0, 3, (0, 2), tb_X7_isIn, [])
set_option maxRecDepth 100000 in
theorem ck_X7_isIn_0 : en_all x_X7_isIn_0 m_X7_isIn_0 u_X7_isIn_0 12 = true := by decide +kernel
theorem ct_X7_isIn_0 {l : Launch} (hl : l.stackTraces = false) {cx cy : Int32} : en_Ctr l vwCl en_TY0 (en_Pc cx cy) en_om0 (en_Of cx cy) en_KT yX7_isIn (Cond.code yX7_isIn cX7_isIn 3 (some .boolean) :: en_cw) (en_rm 0 (0, 0)) 0 k_X7_isIn_0 :=
  en_main (X := x_X7_isIn_0) (M := m_X7_isIn_0) en_Pc_ok en_f32_ok en_f64_ok hl (by decide +kernel) ⟨en_FTX7_ok, en_PTX7_ok, en_an, en_LTX7_ok, en_LLX7_ok, en_TTX7_ok hl, ⟨cw256, cw147⟩, en_ACX7_ok⟩ de_X7_isIn ck_X7_isIn_0
def tb_X7_isNoPlayer : en_Tb := [
  (20, [(0, .iload_n 1, 1), (1, .iconst 0, 1), (2, .aload_n 0, 1), (3, .getfield 89, 3), (6, .iconst 1, 1), (7, .isub, 1), (8, .invokestatic 82, 3), (11, .ifCond .ne 7, 3), (14, .iconst 1, 1), (15, .goto 4, 3), (18, .iconst 0, 1), (19, .ireturn, 1)])]
set_option maxRecDepth 40000 in
theorem de_X7_isNoPlayer : en_De tb_X7_isNoPlayer cX7_isNoPlayer := by
  unfold en_De
  decide +kernel
def k_X7_isNoPlayer_0 : en_K := (2, ([.inr (.inl 20), .inl ((-2147483648), 2147483647, 0, 0)], []), [([.inr (.inl 20), .inl (0, 5, 0, 0), .inl (0, 0, 0, 0), .inl (1, 6, 0, 0)], [(0, 0, 17, 3, 0, 0)]), ([.inr (.inl 20), .inl ((-2147483648), 2147483647, 0, 0), .inl (1, 1, 0, 0)], [])], [], [20], (0, 0), [])
def u_X7_isNoPlayer_0 : List en_U := []
def x_X7_isNoPlayer_0 : en_Cx := ((en_KT, en_TY0, en_om0), en_FTX7, en_PTX7, [(82, false, 0, 0, 0, k_X7_isIn_0)], en_LTX7, en_LLX7, en_TTX7, en_ACX7)
def m_X7_isNoPlayer_0 : en_Mx := (k_X7_isNoPlayer_0, 1, 2, (0, 2), tb_X7_isNoPlayer, [])
set_option maxRecDepth 100000 in
theorem ck_X7_isNoPlayer_0 : en_all x_X7_isNoPlayer_0 m_X7_isNoPlayer_0 u_X7_isNoPlayer_0 14 = true := by decide +kernel
theorem ct_X7_isNoPlayer_0 {l : Launch} (hl : l.stackTraces = false) {cx cy : Int32} : en_Ctr l vwCl en_TY0 (en_Pc cx cy) en_om0 (en_Of cx cy) en_KT yX7_isNoPlayer (Cond.code yX7_isNoPlayer cX7_isNoPlayer 2 (some .boolean) :: en_cw) (en_rm 1 (0, 0)) 0 k_X7_isNoPlayer_0 :=
  en_main (X := x_X7_isNoPlayer_0) (M := m_X7_isNoPlayer_0) en_Pc_ok en_f32_ok en_f64_ok hl (by decide +kernel) ⟨en_FTX7_ok, en_PTX7_ok, en_ac (⟨yX7_isIn, RX7, cX7_isIn, 3, (some .boolean), by decide, ct_X7_isIn_0 hl, fun h => Bool.noConfusion h, fun _ => gc_RX7_82s⟩) en_an, en_LTX7_ok, en_LLX7_ok, en_TTX7_ok hl, ⟨cw256, cw147⟩, en_ACX7_ok⟩ de_X7_isNoPlayer ck_X7_isNoPlayer_0
def tb_X7_isThrown : en_Tb := [
  (15, [(0, .aload_n 0, 1), (1, .iload_n 1, 1), (2, .ifCond .eq 7, 3), (5, .iload_n 2, 1), (6, .goto 4, 3), (9, .iconst 0, 1), (10, .putfield 79, 3), (13, .iload_n 1, 1), (14, .ireturn, 1)])]
set_option maxRecDepth 40000 in
theorem de_X7_isThrown : en_De tb_X7_isThrown cX7_isThrown := by
  unfold en_De
  decide +kernel
def k_X7_isThrown_0 : en_K := (3, ([.inr (.inl 20), .inl (1, 1, 0, 0), .inl (1, 1, 0, 0)], []), [([.inr (.inl 20), .inl (1, 1, 0, 0), .inl (1, 1, 0, 0), .inl (1, 1, 0, 0)], [(0, 0, 30, 2, 0, 0), (6, 1, 0, 0, 0, 0)])], [(20, 30)], [20], (0, 0), [])
def u_X7_isThrown_0 : List en_U := []
def x_X7_isThrown_0 : en_Cx := ((en_KT, en_TY0, en_om0), en_FTX7, en_PTX7, [], en_LTX7, en_LLX7, en_TTX7, en_ACX7)
def m_X7_isThrown_0 : en_Mx := (k_X7_isThrown_0, 0, 3, (0, 2), tb_X7_isThrown, [])
set_option maxRecDepth 100000 in
theorem ck_X7_isThrown_0 : en_all x_X7_isThrown_0 m_X7_isThrown_0 u_X7_isThrown_0 11 = true := by decide +kernel
theorem ct_X7_isThrown_0 {l : Launch} (hl : l.stackTraces = false) {cx cy : Int32} : en_Ctr l vwCl en_TY0 (en_Pc cx cy) en_om0 (en_Of cx cy) en_KT yX7_isThrown (Cond.code yX7_isThrown cX7_isThrown 3 (some .boolean) :: en_cw) (en_rm 0 (0, 0)) 0 k_X7_isThrown_0 :=
  en_main (X := x_X7_isThrown_0) (M := m_X7_isThrown_0) en_Pc_ok en_f32_ok en_f64_ok hl (by decide +kernel) ⟨en_FTX7_ok, en_PTX7_ok, en_an, en_LTX7_ok, en_LLX7_ok, en_TTX7_ok hl, ⟨cw256, cw147⟩, en_ACX7_ok⟩ de_X7_isThrown ck_X7_isThrown_0
