def tb_X7_cupX : en_Tb := [
  (12, [(0, .aload_n 0, 1), (1, .getfield 11, 3), (4, .aload_n 0, 1), (5, .getfield 92, 3), (8, .aaload, 1), (9, .iconst 2, 1), (10, .iaload, 1), (11, .ireturn, 1)])]
set_option maxRecDepth 40000 in
theorem de_X7_cupX : en_De tb_X7_cupX cX7_cupX := by
  unfold en_De
  decide +kernel
def k_X7_cupX_0 : en_K := (1, ([.inr (.inl 20), .inl (0, 8, 0, 0)], [(0, 0, 25, 1, 0, 0), (5, 0, 0, 0, 0, 0)]), [([.inr (.inl 20), .inl (0, 29, 0, 0), .inr (.inl 21), .inl (0, 8, 0, 0), .inr (.inl 22)], [(0, 0, 0, 2, 0, 0), (0, 0, 25, 3, 0, 0), (4, 2, 3, 4, 0, 0), (1, 4, 2, 1, 0, 0), (5, 0, 0, 0, 0, 0)])], [], [20, 21, 22], (0, 0), [])
def u_X7_cupX_0 : List en_U := []
def x_X7_cupX_0 : en_Cx := ((en_KT, en_TY0, en_om0), en_FTX7, en_PTX7, [], en_LTX7, en_LLX7, en_TTX7, en_ACX7)
def m_X7_cupX_0 : en_Mx := (k_X7_cupX_0, 0, 1, (0, 0), tb_X7_cupX, [])
set_option maxRecDepth 100000 in
theorem ck_X7_cupX_0 : en_all x_X7_cupX_0 m_X7_cupX_0 u_X7_cupX_0 11 = true := by decide +kernel
theorem ct_X7_cupX_0 {l : Launch} (hl : l.stackTraces = false) {cx cy : Int32} : en_Ctr l vwCl en_TY0 (en_Pc cx cy) en_om0 (en_Of cx cy) en_KT yX7_cupX (Cond.code yX7_cupX cX7_cupX 1 (some .int) :: en_cw) (en_rm 0 (0, 0)) 0 k_X7_cupX_0 :=
  en_main (X := x_X7_cupX_0) (M := m_X7_cupX_0) en_Pc_ok en_f32_ok en_f64_ok hl (by decide +kernel) ⟨en_FTX7_ok, en_PTX7_ok, en_an, en_LTX7_ok, en_LLX7_ok, en_TTX7_ok hl, ⟨cw256, cw147⟩, en_ACX7_ok⟩ de_X7_cupX ck_X7_cupX_0
def k_X7_cupX_h : en_K := (1, ([.inr (.inl 20), .inl (0, 8, 0, 0)], [(0, 0, 25, 1, 0, 0), (5, 0, 0, 0, 0, 0)]), [([.inr (.inl 20), .inl (0, 29, 0, 0)], [(14, 1, 0, 0, 0, 0)])], [], [20, 21, 22], (0, 0), [])
theorem ct_X7_cupX_h {l : Launch} (hl : l.stackTraces = false) {cx cy : Int32} : en_Ctr l vwCl en_TY0 (en_Pc cx cy) en_om0 (en_Of cx cy) en_KT yX7_cupX (Cond.code yX7_cupX cX7_cupX 1 (some .int) :: en_cw) (en_rm 0 (0, 0)) 0 k_X7_cupX_h := by
  refine en_Ctr.by fun D tys sh w sz ρ hTY hW hD hΩ hPa => ⟨k_X7_cupX_0, ρ, ct_X7_cupX_0 hl, hPa, rfl, rfl, fun u res A' hpx hDu hΩu o ho ρ' hPo hi hv => ?_⟩
  have ho := List.mem_singleton.mp ho
  subst ho
  obtain ⟨p1, p2, p3⟩ := hPo
  obtain ⟨g, g1, g2, g3, g4⟩ := en_cup (z := 0) hpx.2.1 (by decide) hDu hΩu (p3 (5, 0, 0, 0, 0, 0) (by decide)) (p2 0 _ rfl) (p2 4 _ rfl) (p3 (0, 0, 0, 2, 0, 0) (by decide)) (p3 (0, 0, 25, 3, 0, 0) (by decide)) (p3 (4, 2, 3, 4, 0, 0) (by decide)) (p3 (1, 4, 2, 1, 0, 0) (by decide))
  refine ⟨_, List.mem_singleton.mpr rfl, ρ'.take 2, ⟨by rw [List.length_take, p1]; rfl, fun i a ha => ?_, fun f hf => ?_⟩, fun i hi' => ?_, fun v hv' => ?_⟩
  · match i with
    | 0 => obtain ⟨v, v1, v2⟩ := p2 0 _ rfl; exact ⟨v, by rw [List.getElem?_take_of_lt (by decide)]; exact v1, by have e := Option.some.inj ha; rw [← e]; exact v2⟩
    | 1 => obtain ⟨v, v1, v2⟩ := p2 1 _ rfl; exact ⟨v, by rw [List.getElem?_take_of_lt (by decide)]; exact v1, by have e := Option.some.inj ha; rw [← e]; exact v2⟩
    | n + 2 => cases ha
  · have hf := List.mem_singleton.mp hf
    subst hf
    exact ⟨cx, cy, by rw [List.getElem?_take_of_lt (by decide)]; have g1 : ρ'[1]? = some (.int (g 2)) := g1; rw [g2] at g1; exact g1, g4, fun z => z.2 ⟨rfl, rfl⟩⟩
  · have h1 : i < 1 := hi'
    rw [List.getElem?_take_of_lt (by omega)]
    exact hi i h1
  · show (ρ'.take 2)[1]? = _
    rw [List.getElem?_take_of_lt (by decide)]
    exact hv v hv' 
def tb_X7_cupY : en_Tb := [
  (12, [(0, .aload_n 0, 1), (1, .getfield 11, 3), (4, .aload_n 0, 1), (5, .getfield 92, 3), (8, .aaload, 1), (9, .iconst 3, 1), (10, .iaload, 1), (11, .ireturn, 1)])]
set_option maxRecDepth 40000 in
theorem de_X7_cupY : en_De tb_X7_cupY cX7_cupY := by
  unfold en_De
  decide +kernel
def k_X7_cupY_0 : en_K := (1, ([.inr (.inl 20), .inl (0, 8, 0, 0)], [(0, 0, 25, 1, 0, 0), (5, 0, 0, 0, 0, 0)]), [([.inr (.inl 20), .inl (0, 19, 0, 0), .inr (.inl 21), .inl (0, 8, 0, 0), .inr (.inl 22)], [(0, 0, 0, 2, 0, 0), (0, 0, 25, 3, 0, 0), (4, 2, 3, 4, 0, 0), (1, 4, 3, 1, 0, 0), (5, 0, 0, 0, 0, 0)])], [], [20, 21, 22], (0, 0), [])
def u_X7_cupY_0 : List en_U := []
def x_X7_cupY_0 : en_Cx := ((en_KT, en_TY0, en_om0), en_FTX7, en_PTX7, [], en_LTX7, en_LLX7, en_TTX7, en_ACX7)
def m_X7_cupY_0 : en_Mx := (k_X7_cupY_0, 0, 1, (0, 0), tb_X7_cupY, [])
set_option maxRecDepth 100000 in
theorem ck_X7_cupY_0 : en_all x_X7_cupY_0 m_X7_cupY_0 u_X7_cupY_0 11 = true := by decide +kernel
theorem ct_X7_cupY_0 {l : Launch} (hl : l.stackTraces = false) {cx cy : Int32} : en_Ctr l vwCl en_TY0 (en_Pc cx cy) en_om0 (en_Of cx cy) en_KT yX7_cupY (Cond.code yX7_cupY cX7_cupY 1 (some .int) :: en_cw) (en_rm 0 (0, 0)) 0 k_X7_cupY_0 :=
  en_main (X := x_X7_cupY_0) (M := m_X7_cupY_0) en_Pc_ok en_f32_ok en_f64_ok hl (by decide +kernel) ⟨en_FTX7_ok, en_PTX7_ok, en_an, en_LTX7_ok, en_LLX7_ok, en_TTX7_ok hl, ⟨cw256, cw147⟩, en_ACX7_ok⟩ de_X7_cupY ck_X7_cupY_0
def k_X7_cupY_h : en_K := (1, ([.inr (.inl 20), .inl (0, 8, 0, 0)], [(0, 0, 25, 1, 0, 0), (5, 0, 0, 0, 0, 0)]), [([.inr (.inl 20), .inl (0, 19, 0, 0)], [(15, 1, 0, 0, 0, 0)])], [], [20, 21, 22], (0, 0), [])
theorem ct_X7_cupY_h {l : Launch} (hl : l.stackTraces = false) {cx cy : Int32} : en_Ctr l vwCl en_TY0 (en_Pc cx cy) en_om0 (en_Of cx cy) en_KT yX7_cupY (Cond.code yX7_cupY cX7_cupY 1 (some .int) :: en_cw) (en_rm 0 (0, 0)) 0 k_X7_cupY_h := by
  refine en_Ctr.by fun D tys sh w sz ρ hTY hW hD hΩ hPa => ⟨k_X7_cupY_0, ρ, ct_X7_cupY_0 hl, hPa, rfl, rfl, fun u res A' hpx hDu hΩu o ho ρ' hPo hi hv => ?_⟩
  have ho := List.mem_singleton.mp ho
  subst ho
  obtain ⟨p1, p2, p3⟩ := hPo
  obtain ⟨g, g1, g2, g3, g4⟩ := en_cup (z := 1) hpx.2.1 (by decide) hDu hΩu (p3 (5, 0, 0, 0, 0, 0) (by decide)) (p2 0 _ rfl) (p2 4 _ rfl) (p3 (0, 0, 0, 2, 0, 0) (by decide)) (p3 (0, 0, 25, 3, 0, 0) (by decide)) (p3 (4, 2, 3, 4, 0, 0) (by decide)) (p3 (1, 4, 3, 1, 0, 0) (by decide))
  refine ⟨_, List.mem_singleton.mpr rfl, ρ'.take 2, ⟨by rw [List.length_take, p1]; rfl, fun i a ha => ?_, fun f hf => ?_⟩, fun i hi' => ?_, fun v hv' => ?_⟩
  · match i with
    | 0 => obtain ⟨v, v1, v2⟩ := p2 0 _ rfl; exact ⟨v, by rw [List.getElem?_take_of_lt (by decide)]; exact v1, by have e := Option.some.inj ha; rw [← e]; exact v2⟩
    | 1 => obtain ⟨v, v1, v2⟩ := p2 1 _ rfl; exact ⟨v, by rw [List.getElem?_take_of_lt (by decide)]; exact v1, by have e := Option.some.inj ha; rw [← e]; exact v2⟩
    | n + 2 => cases ha
  · have hf := List.mem_singleton.mp hf
    subst hf
    exact ⟨cx, cy, by rw [List.getElem?_take_of_lt (by decide)]; have g1 : ρ'[1]? = some (.int (g 3)) := g1; rw [g3] at g1; exact g1, g4, fun z => z.2 ⟨rfl, rfl⟩⟩
  · have h1 : i < 1 := hi'
    rw [List.getElem?_take_of_lt (by omega)]
    exact hi i h1
  · show (ρ'.take 2)[1]? = _
    rw [List.getElem?_take_of_lt (by decide)]
    exact hv v hv' 
def tb_X7_isCup : en_Tb := [
  (22, [(0, .iload_n 1, 1), (1, .aload_n 0, 1), (2, .invokevirtual 95, 3), (5, .if_icmp .ne 15, 3), (8, .iload_n 2, 1), (9, .aload_n 0, 1), (10, .invokevirtual 99, 3), (13, .if_icmp .ne 7, 3), (16, .iconst 1, 1), (17, .goto 4, 3), (20, .iconst 0, 1), (21, .ireturn, 1)])]
set_option maxRecDepth 40000 in
theorem de_X7_isCup : en_De tb_X7_isCup cX7_isCup := by
  unfold en_De
  decide +kernel
def k_X7_isCup_0 : en_K := (3, ([.inr (.inl 20), .inl (0, 29, 0, 0), .inl (0, 19, 0, 0), .inl (0, 8, 0, 0)], [(0, 0, 25, 3, 0, 0), (5, 0, 0, 0, 0, 0)]), [([.inr (.inl 20), .inl (0, 29, 0, 0), .inl (0, 19, 0, 0), .inl (0, 0, 0, 0), .inl (0, 29, 0, 0)], [(12, 1, 4, 0, 0, 0), (14, 4, 0, 0, 0, 0)]), ([.inr (.inl 20), .inl (0, 29, 0, 0), .inl (0, 19, 0, 0), .inl (0, 0, 0, 0), .inl (0, 19, 0, 0)], [(12, 2, 4, 0, 0, 0), (15, 4, 0, 0, 0, 0)]), ([.inr (.inl 20), .inl (0, 29, 0, 0), .inl (0, 19, 0, 0), .inl (1, 1, 0, 0)], [])], [], [20, 21, 22], (0, 0), [])
def u_X7_isCup_0 : List en_U := []
def x_X7_isCup_0 : en_Cx := ((en_KT, en_TY0, en_om0), en_FTX7, en_PTX7, [(95, true, 13, 0, 0, k_X7_cupX_h), (99, true, 13, 0, 0, k_X7_cupY_h)], en_LTX7, en_LLX7, en_TTX7, en_ACX7)
def m_X7_isCup_0 : en_Mx := (k_X7_isCup_0, 1, 3, (0, 2), tb_X7_isCup, [])
set_option maxRecDepth 100000 in
theorem ck_X7_isCup_0 : en_all x_X7_isCup_0 m_X7_isCup_0 u_X7_isCup_0 14 = true := by decide +kernel
theorem ct_X7_isCup_0 {l : Launch} (hl : l.stackTraces = false) {cx cy : Int32} : en_Ctr l vwCl en_TY0 (en_Pc cx cy) en_om0 (en_Of cx cy) en_KT yX7_isCup (Cond.code yX7_isCup cX7_isCup 3 (some .boolean) :: en_cw) (en_rm 1 (0, 0)) 0 k_X7_isCup_0 :=
  en_main (X := x_X7_isCup_0) (M := m_X7_isCup_0) en_Pc_ok en_f32_ok en_f64_ok hl (by decide +kernel) ⟨en_FTX7_ok, en_PTX7_ok, en_ac (⟨yX7_cupX, RX7, cX7_cupX, 1, (some .int), by decide, ct_X7_cupX_h hl, fun _ => ⟨gc_RX7_95v, by decide, _, rfl, rfl⟩, fun h => Bool.noConfusion h⟩) (en_ac (⟨yX7_cupY, RX7, cX7_cupY, 1, (some .int), by decide, ct_X7_cupY_h hl, fun _ => ⟨gc_RX7_99v, by decide, _, rfl, rfl⟩, fun h => Bool.noConfusion h⟩) en_an), en_LTX7_ok, en_LLX7_ok, en_TTX7_ok hl, ⟨cw256, cw147⟩, en_ACX7_ok⟩ de_X7_isCup ck_X7_isCup_0
def k_X7_isCup_h : en_K := (3, ([.inr (.inl 20), .inl (0, 29, 0, 0), .inl (0, 19, 0, 0), .inl (0, 8, 0, 0)], [(0, 0, 25, 3, 0, 0), (5, 0, 0, 0, 0, 0)]), [([.inr (.inl 20), .inl (0, 29, 0, 0), .inl (0, 19, 0, 0), .inl (0, 0, 0, 0)], [(2, 1, 2, 0, 0, 0)]), ([.inr (.inl 20), .inl (0, 29, 0, 0), .inl (0, 19, 0, 0), .inl (1, 1, 0, 0)], [])], [], [20, 21, 22], (0, 0), [])
theorem ct_X7_isCup_h {l : Launch} (hl : l.stackTraces = false) {cx cy : Int32} : en_Ctr l vwCl en_TY0 (en_Pc cx cy) en_om0 (en_Of cx cy) en_KT yX7_isCup (Cond.code yX7_isCup cX7_isCup 3 (some .boolean) :: en_cw) (en_rm 1 (0, 0)) 0 k_X7_isCup_h := by
  refine en_Ctr.by fun D tys sh w sz ρ hTY hW hD hΩ hPa => ⟨k_X7_isCup_0, ρ, ct_X7_isCup_0 hl, hPa, rfl, rfl, fun u res A' hpx hDu hΩu o ho ρ' hPo hi hv => ?_⟩
  rcases List.mem_cons.mp ho with rfl | ho
  · obtain ⟨p1, p2, p3⟩ := hPo
    obtain ⟨vx, x1, x, rfl, x2, x3⟩ := p2 1 _ rfl
    obtain ⟨vy, y1, y, rfl, y2, y3⟩ := p2 2 _ rfl
    obtain ⟨a0, c0, n1, n2, n3⟩ := p3 (12, 1, 4, 0, 0, 0) (by decide)
    obtain ⟨a1, b1, m1, m2, m3⟩ := p3 (14, 4, 0, 0, 0, 0) (by decide)
    have hne : ¬ (x = cx ∧ y = cy) := fun hxy => by
      have e1 : a0 = x := Value.int.inj (Option.some.inj (n1.symm.trans x1))
      have e2 : c0 = a1 := Value.int.inj (Option.some.inj (n2.symm.trans m1))
      refine m3 ⟨m2, fun hc => n3 ?_⟩
      rw [e1, e2, hxy.1, hc.1]
    refine ⟨_, List.mem_cons_self, ρ'.take 4, ⟨by rw [List.length_take, p1]; rfl, fun i a ha => ?_, fun f hf => ?_⟩, fun i hi' => ?_, fun v hv' => ?_⟩
    · have hlt : i < 4 := (List.getElem?_eq_some_iff.mp ha).1
      rw [List.getElem?_take_of_lt hlt]
      refine p2 i a ?_
      match i, hlt with
      | 0, _ => exact ha
      | 1, _ => exact ha
      | 2, _ => exact ha
      | 3, _ => exact ha
    · have hf := List.mem_singleton.mp hf
      subst hf
      exact ⟨x, y, by rw [List.getElem?_take_of_lt (by decide)]; exact x1, by rw [List.getElem?_take_of_lt (by decide)]; exact y1, ⟨x2, x3, y2, y3⟩, hne⟩
    · have h1 : i < 3 := hi'
      rw [List.getElem?_take_of_lt (by omega)]
      exact hi i h1
    · show (ρ'.take 4)[3]? = _
      rw [List.getElem?_take_of_lt (by decide)]
      exact hv v hv'
  rcases List.mem_cons.mp ho with rfl | ho
  · obtain ⟨p1, p2, p3⟩ := hPo
    obtain ⟨vx, x1, x, rfl, x2, x3⟩ := p2 1 _ rfl
    obtain ⟨vy, y1, y, rfl, y2, y3⟩ := p2 2 _ rfl
    obtain ⟨a0, c0, n1, n2, n3⟩ := p3 (12, 2, 4, 0, 0, 0) (by decide)
    obtain ⟨a1, b1, m1, m2, m3⟩ := p3 (15, 4, 0, 0, 0, 0) (by decide)
    have hne : ¬ (x = cx ∧ y = cy) := fun hxy => by
      have e1 : a0 = y := Value.int.inj (Option.some.inj (n1.symm.trans y1))
      have e2 : c0 = b1 := Value.int.inj (Option.some.inj (n2.symm.trans m1))
      refine m3 ⟨m2, fun hc => n3 ?_⟩
      rw [e1, e2, hxy.2, hc.2]
    refine ⟨_, List.mem_cons_self, ρ'.take 4, ⟨by rw [List.length_take, p1]; rfl, fun i a ha => ?_, fun f hf => ?_⟩, fun i hi' => ?_, fun v hv' => ?_⟩
    · have hlt : i < 4 := (List.getElem?_eq_some_iff.mp ha).1
      rw [List.getElem?_take_of_lt hlt]
      refine p2 i a ?_
      match i, hlt with
      | 0, _ => exact ha
      | 1, _ => exact ha
      | 2, _ => exact ha
      | 3, _ => exact ha
    · have hf := List.mem_singleton.mp hf
      subst hf
      exact ⟨x, y, by rw [List.getElem?_take_of_lt (by decide)]; exact x1, by rw [List.getElem?_take_of_lt (by decide)]; exact y1, ⟨x2, x3, y2, y3⟩, hne⟩
    · have h1 : i < 3 := hi'
      rw [List.getElem?_take_of_lt (by omega)]
      exact hi i h1
    · show (ρ'.take 4)[3]? = _
      rw [List.getElem?_take_of_lt (by decide)]
      exact hv v hv'
  have ho := List.mem_singleton.mp ho
  subst ho
  exact ⟨_, List.mem_cons_of_mem _ List.mem_cons_self, ρ', hPo, hi, hv⟩
def k_J9_abs_0f7a4_1 : en_K := (1, ([.inl ((-29), 29, 0, 0)], []), [([.inl ((-29), 29, 0, 0), .inl (0, 29, 0, 0)], [(16, 0, 1, 0, 0, 0)])], [], [], (0, 0), [])
def u_J9_abs_0f7a4_1 : List en_U := []
def x_J9_abs_0f7a4_1 : en_Cx := ((en_KT, en_TY0, en_om0), en_FTJ9, en_PTJ9, [], en_LTJ9, en_LLJ9, en_TTJ9, en_ACJ9)
def m_J9_abs_0f7a4_1 : en_Mx := (k_J9_abs_0f7a4_1, 0, 1, (0, 0), tb_J9_abs_0f7a4, [])
set_option maxRecDepth 100000 in
theorem ck_J9_abs_0f7a4_1 : en_all x_J9_abs_0f7a4_1 m_J9_abs_0f7a4_1 u_J9_abs_0f7a4_1 9 = true := by decide +kernel
theorem ct_J9_abs_0f7a4_1 {l : Launch} (hl : l.stackTraces = false) {PP : Int32 → Int32 → Prop} (hPP : en_P0 PP) (Ω : Nat → en_H → va_W → Prop) : en_Ctr l vwCl en_TY0 PP en_om0 Ω en_KT yJ9_abs_0f7a4 (Cond.code yJ9_abs_0f7a4 cJ9_abs_0f7a4 1 (some .int) :: en_cw) (en_rm 0 (0, 0)) 0 k_J9_abs_0f7a4_1 :=
  en_main (X := x_J9_abs_0f7a4_1) (M := m_J9_abs_0f7a4_1) hPP en_f32_ok en_f64_ok hl (by decide +kernel) ⟨en_FTJ9_ok, en_PTJ9_ok, en_an, en_LTJ9_ok, en_LLJ9_ok, en_TTJ9_ok hl, ⟨cw256, cw147⟩, en_ACJ9_ok⟩ de_J9_abs_0f7a4 ck_J9_abs_0f7a4_1
def k_J9_abs_0f7a4_2 : en_K := (1, ([.inl ((-19), 19, 0, 0)], []), [([.inl ((-19), 19, 0, 0), .inl (0, 19, 0, 0)], [(16, 0, 1, 0, 0, 0)])], [], [], (0, 0), [])
def u_J9_abs_0f7a4_2 : List en_U := []
def x_J9_abs_0f7a4_2 : en_Cx := ((en_KT, en_TY0, en_om0), en_FTJ9, en_PTJ9, [], en_LTJ9, en_LLJ9, en_TTJ9, en_ACJ9)
def m_J9_abs_0f7a4_2 : en_Mx := (k_J9_abs_0f7a4_2, 0, 1, (0, 0), tb_J9_abs_0f7a4, [])
set_option maxRecDepth 100000 in
theorem ck_J9_abs_0f7a4_2 : en_all x_J9_abs_0f7a4_2 m_J9_abs_0f7a4_2 u_J9_abs_0f7a4_2 9 = true := by decide +kernel
theorem ct_J9_abs_0f7a4_2 {l : Launch} (hl : l.stackTraces = false) {PP : Int32 → Int32 → Prop} (hPP : en_P0 PP) (Ω : Nat → en_H → va_W → Prop) : en_Ctr l vwCl en_TY0 PP en_om0 Ω en_KT yJ9_abs_0f7a4 (Cond.code yJ9_abs_0f7a4 cJ9_abs_0f7a4 1 (some .int) :: en_cw) (en_rm 0 (0, 0)) 0 k_J9_abs_0f7a4_2 :=
  en_main (X := x_J9_abs_0f7a4_2) (M := m_J9_abs_0f7a4_2) hPP en_f32_ok en_f64_ok hl (by decide +kernel) ⟨en_FTJ9_ok, en_PTJ9_ok, en_an, en_LTJ9_ok, en_LLJ9_ok, en_TTJ9_ok hl, ⟨cw256, cw147⟩, en_ACJ9_ok⟩ de_J9_abs_0f7a4 ck_J9_abs_0f7a4_2
def tb_X7_divisor : en_Tb := [
  (16, [(0, .iload_n 1, 1), (1, .ifCond .ne 7, 3), (4, .iload_n 0, 1), (5, .goto 10, 3), (8, .iload_n 1, 1), (9, .iload_n 0, 1), (10, .iload_n 1, 1), (11, .irem, 1), (12, .invokestatic 211, 3), (15, .ireturn, 1)])]
set_option maxRecDepth 40000 in
theorem de_X7_divisor : en_De tb_X7_divisor cX7_divisor := by
  unfold en_De
  decide +kernel
def k_X7_divisor_0 : en_K := (2, ([.inl (1, 1, 0, 0), .inl (0, 0, 0, 0)], []), [([.inl (1, 1, 0, 0), .inl (0, 0, 0, 0), .inl (1, 1, 0, 0)], [])], [], [], (0, 0), [])
def u_X7_divisor_0 : List en_U := []
def x_X7_divisor_0 : en_Cx := ((en_KT, en_TY0, en_om0), en_FTX7, en_PTX7, [], en_LTX7, en_LLX7, en_TTX7, en_ACX7)
def m_X7_divisor_0 : en_Mx := (k_X7_divisor_0, 0, 2, (0, 0), tb_X7_divisor, [])
set_option maxRecDepth 100000 in
theorem ck_X7_divisor_0 : en_all x_X7_divisor_0 m_X7_divisor_0 u_X7_divisor_0 8 = true := by decide +kernel
theorem ct_X7_divisor_0 {l : Launch} (hl : l.stackTraces = false) {cx cy : Int32} : en_Ctr l vwCl en_TY0 (en_Pc cx cy) en_om0 (en_Of cx cy) en_KT yX7_divisor (Cond.code yX7_divisor cX7_divisor 2 (some .int) :: en_cw) (en_rm 0 (0, 0)) 0 k_X7_divisor_0 :=
  en_main (X := x_X7_divisor_0) (M := m_X7_divisor_0) en_Pc_ok en_f32_ok en_f64_ok hl (by decide +kernel) ⟨en_FTX7_ok, en_PTX7_ok, en_an, en_LTX7_ok, en_LLX7_ok, en_TTX7_ok hl, ⟨cw256, cw147⟩, en_ACX7_ok⟩ de_X7_divisor ck_X7_divisor_0
def k_X7_divisor_1 : en_K := (2, ([.inl (1, 2, 0, 0), .inl (0, 1, 0, 0)], []), [([.inl (1, 2, 0, 0), .inl (0, 1, 0, 0), .inl (1, 2, 0, 0)], [])], [], [], (0, 0), [])
def u_X7_divisor_1 : List en_U := []
def x_X7_divisor_1 : en_Cx := ((en_KT, en_TY0, en_om0), en_FTX7, en_PTX7, [(211, false, 0, 0, 0, k_X7_divisor_0)], en_LTX7, en_LLX7, en_TTX7, en_ACX7)
def m_X7_divisor_1 : en_Mx := (k_X7_divisor_1, 1, 2, (0, 0), tb_X7_divisor, [])
set_option maxRecDepth 100000 in
theorem ck_X7_divisor_1 : en_all x_X7_divisor_1 m_X7_divisor_1 u_X7_divisor_1 11 = true := by decide +kernel
theorem ct_X7_divisor_1 {l : Launch} (hl : l.stackTraces = false) {cx cy : Int32} : en_Ctr l vwCl en_TY0 (en_Pc cx cy) en_om0 (en_Of cx cy) en_KT yX7_divisor (Cond.code yX7_divisor cX7_divisor 2 (some .int) :: en_cw) (en_rm 1 (0, 0)) 0 k_X7_divisor_1 :=
  en_main (X := x_X7_divisor_1) (M := m_X7_divisor_1) en_Pc_ok en_f32_ok en_f64_ok hl (by decide +kernel) ⟨en_FTX7_ok, en_PTX7_ok, en_ac (⟨yX7_divisor, RX7, cX7_divisor, 2, (some .int), by decide, ct_X7_divisor_0 hl, fun h => Bool.noConfusion h, fun _ => gc_RX7_211s⟩) en_an, en_LTX7_ok, en_LLX7_ok, en_TTX7_ok hl, ⟨cw256, cw147⟩, en_ACX7_ok⟩ de_X7_divisor ck_X7_divisor_1
def k_X7_divisor_2 : en_K := (2, ([.inl (1, 3, 0, 0), .inl (0, 2, 0, 0)], []), [([.inl (1, 3, 0, 0), .inl (0, 2, 0, 0), .inl (1, 3, 0, 0)], [])], [], [], (0, 0), [])
def u_X7_divisor_2 : List en_U := []
def x_X7_divisor_2 : en_Cx := ((en_KT, en_TY0, en_om0), en_FTX7, en_PTX7, [(211, false, 0, 0, 1, k_X7_divisor_1)], en_LTX7, en_LLX7, en_TTX7, en_ACX7)
def m_X7_divisor_2 : en_Mx := (k_X7_divisor_2, 2, 2, (0, 0), tb_X7_divisor, [])
set_option maxRecDepth 100000 in
theorem ck_X7_divisor_2 : en_all x_X7_divisor_2 m_X7_divisor_2 u_X7_divisor_2 11 = true := by decide +kernel
theorem ct_X7_divisor_2 {l : Launch} (hl : l.stackTraces = false) {cx cy : Int32} : en_Ctr l vwCl en_TY0 (en_Pc cx cy) en_om0 (en_Of cx cy) en_KT yX7_divisor (Cond.code yX7_divisor cX7_divisor 2 (some .int) :: en_cw) (en_rm 2 (0, 0)) 0 k_X7_divisor_2 :=
  en_main (X := x_X7_divisor_2) (M := m_X7_divisor_2) en_Pc_ok en_f32_ok en_f64_ok hl (by decide +kernel) ⟨en_FTX7_ok, en_PTX7_ok, en_ac (⟨yX7_divisor, RX7, cX7_divisor, 2, (some .int), by decide, ct_X7_divisor_1 hl, fun h => Bool.noConfusion h, fun _ => gc_RX7_211s⟩) en_an, en_LTX7_ok, en_LLX7_ok, en_TTX7_ok hl, ⟨cw256, cw147⟩, en_ACX7_ok⟩ de_X7_divisor ck_X7_divisor_2
def k_X7_divisor_3 : en_K := (2, ([.inl (1, 4, 0, 0), .inl (0, 3, 0, 0)], []), [([.inl (1, 4, 0, 0), .inl (0, 3, 0, 0), .inl (1, 4, 0, 0)], [])], [], [], (0, 0), [])
def u_X7_divisor_3 : List en_U := []
def x_X7_divisor_3 : en_Cx := ((en_KT, en_TY0, en_om0), en_FTX7, en_PTX7, [(211, false, 0, 0, 2, k_X7_divisor_2)], en_LTX7, en_LLX7, en_TTX7, en_ACX7)
def m_X7_divisor_3 : en_Mx := (k_X7_divisor_3, 3, 2, (0, 0), tb_X7_divisor, [])
set_option maxRecDepth 100000 in
theorem ck_X7_divisor_3 : en_all x_X7_divisor_3 m_X7_divisor_3 u_X7_divisor_3 11 = true := by decide +kernel
theorem ct_X7_divisor_3 {l : Launch} (hl : l.stackTraces = false) {cx cy : Int32} : en_Ctr l vwCl en_TY0 (en_Pc cx cy) en_om0 (en_Of cx cy) en_KT yX7_divisor (Cond.code yX7_divisor cX7_divisor 2 (some .int) :: en_cw) (en_rm 3 (0, 0)) 0 k_X7_divisor_3 :=
  en_main (X := x_X7_divisor_3) (M := m_X7_divisor_3) en_Pc_ok en_f32_ok en_f64_ok hl (by decide +kernel) ⟨en_FTX7_ok, en_PTX7_ok, en_ac (⟨yX7_divisor, RX7, cX7_divisor, 2, (some .int), by decide, ct_X7_divisor_2 hl, fun h => Bool.noConfusion h, fun _ => gc_RX7_211s⟩) en_an, en_LTX7_ok, en_LLX7_ok, en_TTX7_ok hl, ⟨cw256, cw147⟩, en_ACX7_ok⟩ de_X7_divisor ck_X7_divisor_3
def k_X7_divisor_4 : en_K := (2, ([.inl (1, 5, 0, 0), .inl (0, 4, 0, 0)], []), [([.inl (1, 5, 0, 0), .inl (0, 4, 0, 0), .inl (1, 5, 0, 0)], [])], [], [], (0, 0), [])
def u_X7_divisor_4 : List en_U := []
def x_X7_divisor_4 : en_Cx := ((en_KT, en_TY0, en_om0), en_FTX7, en_PTX7, [(211, false, 0, 0, 3, k_X7_divisor_3)], en_LTX7, en_LLX7, en_TTX7, en_ACX7)
def m_X7_divisor_4 : en_Mx := (k_X7_divisor_4, 4, 2, (0, 0), tb_X7_divisor, [])
set_option maxRecDepth 100000 in
theorem ck_X7_divisor_4 : en_all x_X7_divisor_4 m_X7_divisor_4 u_X7_divisor_4 11 = true := by decide +kernel
theorem ct_X7_divisor_4 {l : Launch} (hl : l.stackTraces = false) {cx cy : Int32} : en_Ctr l vwCl en_TY0 (en_Pc cx cy) en_om0 (en_Of cx cy) en_KT yX7_divisor (Cond.code yX7_divisor cX7_divisor 2 (some .int) :: en_cw) (en_rm 4 (0, 0)) 0 k_X7_divisor_4 :=
  en_main (X := x_X7_divisor_4) (M := m_X7_divisor_4) en_Pc_ok en_f32_ok en_f64_ok hl (by decide +kernel) ⟨en_FTX7_ok, en_PTX7_ok, en_ac (⟨yX7_divisor, RX7, cX7_divisor, 2, (some .int), by decide, ct_X7_divisor_3 hl, fun h => Bool.noConfusion h, fun _ => gc_RX7_211s⟩) en_an, en_LTX7_ok, en_LLX7_ok, en_TTX7_ok hl, ⟨cw256, cw147⟩, en_ACX7_ok⟩ de_X7_divisor ck_X7_divisor_4
def k_X7_divisor_5 : en_K := (2, ([.inl (1, 6, 0, 0), .inl (0, 5, 0, 0)], []), [([.inl (1, 6, 0, 0), .inl (0, 5, 0, 0), .inl (1, 6, 0, 0)], [])], [], [], (0, 0), [])
def u_X7_divisor_5 : List en_U := []
def x_X7_divisor_5 : en_Cx := ((en_KT, en_TY0, en_om0), en_FTX7, en_PTX7, [(211, false, 0, 0, 4, k_X7_divisor_4)], en_LTX7, en_LLX7, en_TTX7, en_ACX7)
def m_X7_divisor_5 : en_Mx := (k_X7_divisor_5, 5, 2, (0, 0), tb_X7_divisor, [])
set_option maxRecDepth 100000 in
theorem ck_X7_divisor_5 : en_all x_X7_divisor_5 m_X7_divisor_5 u_X7_divisor_5 11 = true := by decide +kernel
theorem ct_X7_divisor_5 {l : Launch} (hl : l.stackTraces = false) {cx cy : Int32} : en_Ctr l vwCl en_TY0 (en_Pc cx cy) en_om0 (en_Of cx cy) en_KT yX7_divisor (Cond.code yX7_divisor cX7_divisor 2 (some .int) :: en_cw) (en_rm 5 (0, 0)) 0 k_X7_divisor_5 :=
  en_main (X := x_X7_divisor_5) (M := m_X7_divisor_5) en_Pc_ok en_f32_ok en_f64_ok hl (by decide +kernel) ⟨en_FTX7_ok, en_PTX7_ok, en_ac (⟨yX7_divisor, RX7, cX7_divisor, 2, (some .int), by decide, ct_X7_divisor_4 hl, fun h => Bool.noConfusion h, fun _ => gc_RX7_211s⟩) en_an, en_LTX7_ok, en_LLX7_ok, en_TTX7_ok hl, ⟨cw256, cw147⟩, en_ACX7_ok⟩ de_X7_divisor ck_X7_divisor_5
