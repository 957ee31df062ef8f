def tb_X7_strokes : en_Tb := [
  (22, [(0, .aload_n 0, 1), (1, .iload_n 1, 1), (2, .invokevirtual 245, 3), (5, .ifCond .eq 7, 3), (8, .iconst 0, 1), (9, .goto 12, 3), (12, .aload_n 0, 1), (13, .getfield 23, 3), (16, .iload_n 1, 1), (17, .aaload, 1), (18, .bipush 7, 2), (20, .iaload, 1), (21, .ireturn, 1)])]
set_option maxRecDepth 40000 in
theorem de_X7_strokes : en_De tb_X7_strokes cX7_strokes := by
  unfold en_De
  decide +kernel
def k_X7_strokes_0 : en_K := (2, ([.inr (.inl 20), .inl ((-2147483648), 2147483647, 0, 0), .inl (0, 0, 0, 0)], [(0, 0, 22, 2, 0, 0)]), [([.inr (.inl 20), .inl ((-2147483648), 2147483647, 0, 0), .inl (0, 0, 0, 0)], [])], [(20, 30)], [20], (0, 0), [])
def u_X7_strokes_0 : List en_U := []
def x_X7_strokes_0 : en_Cx := ((en_KT, en_TY0, en_om0), en_FTX7, en_PTX7, [(245, true, 13, 0, 2, k_X7_isNone_0)], en_LTX7, en_LLX7, en_TTX7, en_ACX7)
def m_X7_strokes_0 : en_Mx := (k_X7_strokes_0, 3, 2, (0, 0), tb_X7_strokes, [])
set_option maxRecDepth 100000 in
theorem ck_X7_strokes_0 : en_all x_X7_strokes_0 m_X7_strokes_0 u_X7_strokes_0 10 = true := by decide +kernel
theorem ct_X7_strokes_0 {l : Launch} (hl : l.stackTraces = false) {cx cy : Int32} : en_Ctr l vwCl en_TY0 (en_Pc cx cy) en_om0 (en_Of cx cy) en_KT yX7_strokes (Cond.code yX7_strokes cX7_strokes 2 (some .int) :: en_cw) (en_rm 3 (0, 0)) 0 k_X7_strokes_0 :=
  en_main (X := x_X7_strokes_0) (M := m_X7_strokes_0) en_Pc_ok en_f32_ok en_f64_ok hl (by decide +kernel) ⟨en_FTX7_ok, en_PTX7_ok, en_ac (⟨yX7_isNone, RX7, cX7_isNone, 2, (some .boolean), by decide, ct_X7_isNone_0 hl, fun _ => ⟨gc_RX7_245v, by decide, _, rfl, rfl⟩, fun h => Bool.noConfusion h⟩) en_an, en_LTX7_ok, en_LLX7_ok, en_TTX7_ok hl, ⟨cw256, cw147⟩, en_ACX7_ok⟩ de_X7_strokes ck_X7_strokes_0
def k_X7_strokes_1 : en_K := (2, ([.inr (.inl 20), .inl ((-2147483648), 2147483647, 0, 0), .inl (1, 1, 0, 0)], [(0, 0, 22, 2, 0, 0), (5, 0, 0, 0, 0, 0)]), [([.inr (.inl 20), .inl ((-2147483648), 2147483647, 0, 0), .inl ((-2147483648), 2147483647, 0, 0)], [(5, 0, 0, 0, 0, 0)])], [(20, 30)], [20, 26, 27], (0, 0), [])
def u_X7_strokes_1 : List en_U := []
def x_X7_strokes_1 : en_Cx := ((en_KT, en_TY0, en_om0), en_FTX7, en_PTX7, [(245, true, 13, 0, 2, k_X7_isNone_1)], en_LTX7, en_LLX7, en_TTX7, en_ACX7)
def m_X7_strokes_1 : en_Mx := (k_X7_strokes_1, 3, 2, (0, 0), tb_X7_strokes, [])
set_option maxRecDepth 100000 in
theorem ck_X7_strokes_1 : en_all x_X7_strokes_1 m_X7_strokes_1 u_X7_strokes_1 14 = true := by decide +kernel
theorem ct_X7_strokes_1 {l : Launch} (hl : l.stackTraces = false) {cx cy : Int32} : en_Ctr l vwCl en_TY0 (en_Pc cx cy) en_om0 (en_Of cx cy) en_KT yX7_strokes (Cond.code yX7_strokes cX7_strokes 2 (some .int) :: en_cw) (en_rm 3 (0, 0)) 0 k_X7_strokes_1 :=
  en_main (X := x_X7_strokes_1) (M := m_X7_strokes_1) en_Pc_ok en_f32_ok en_f64_ok hl (by decide +kernel) ⟨en_FTX7_ok, en_PTX7_ok, en_ac (⟨yX7_isNone, RX7, cX7_isNone, 2, (some .boolean), by decide, ct_X7_isNone_1 hl, fun _ => ⟨gc_RX7_245v, by decide, _, rfl, rfl⟩, fun h => Bool.noConfusion h⟩) en_an, en_LTX7_ok, en_LLX7_ok, en_TTX7_ok hl, ⟨cw256, cw147⟩, en_ACX7_ok⟩ de_X7_strokes ck_X7_strokes_1
