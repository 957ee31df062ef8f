def k_X7_isMatchOver_1 : en_K := (1, ([.inr (.inl 20), .inl (1, 9, 0, 0), .inl (1, 1, 0, 0)], [(0, 0, 16, 1, 0, 0), (0, 0, 22, 2, 0, 0), (5, 0, 0, 0, 0, 0)]), [([.inr (.inl 20), .inl (0, 0, 0, 0)], [(5, 0, 0, 0, 0, 0)]), ([.inr (.inl 20), .inl (1, 1, 0, 0), .inl (109, 109, 0, 0)], [(0, 0, 20, 2, 0, 0), (5, 0, 0, 0, 0, 0)])], [(20, 30)], [20, 42], (0, 0), [])
def u_X7_isMatchOver_1 : List en_U := []
def x_X7_isMatchOver_1 : en_Cx := ((en_KT, en_TY0, en_om0), en_FTX7, en_PTX7, [(110, true, 13, 0, 0, k_X7_isThrown_3), (110, true, 13, 0, 0, k_X7_isThrown_4), (218, false, 0, 0, 0, k_J9_abs_0f7a4_0), (236, true, 13, 0, 0, k_X7_upNow_0)], en_LTX7, en_LLX7, en_TTX7, en_ACX7)
def m_X7_isMatchOver_1 : en_Mx := (k_X7_isMatchOver_1, 1, 2, (0, 2), tb_X7_isMatchOver, [])
set_option maxRecDepth 100000 in
theorem ck_X7_isMatchOver_1 : en_all x_X7_isMatchOver_1 m_X7_isMatchOver_1 u_X7_isMatchOver_1 42 = true := by decide +kernel
theorem ct_X7_isMatchOver_1 {l : Launch} (hl : l.stackTraces = false) {cx cy : Int32} : en_Ctr l vwCl en_TY0 (en_Pc cx cy) en_om0 (en_Of cx cy) en_KT yX7_isMatchOver (Cond.code yX7_isMatchOver cX7_isMatchOver 2 (some .boolean) :: en_cw) (en_rm 1 (0, 0)) 0 k_X7_isMatchOver_1 :=
  en_main (X := x_X7_isMatchOver_1) (M := m_X7_isMatchOver_1) en_Pc_ok en_f32_ok en_f64_ok hl (by decide +kernel) ⟨en_FTX7_ok, en_PTX7_ok, en_ac (⟨yX7_isThrown, RX7, cX7_isThrown, 3, (some .boolean), by decide, ct_X7_isThrown_3 hl, fun _ => ⟨gc_RX7_110v, by decide, _, rfl, rfl⟩, fun h => Bool.noConfusion h⟩) (en_ac (⟨yX7_isThrown, RX7, cX7_isThrown, 3, (some .boolean), by decide, ct_X7_isThrown_4 hl, fun _ => ⟨gc_RX7_110v, by decide, _, rfl, rfl⟩, fun h => Bool.noConfusion h⟩) (en_ac (⟨yJ9_abs_0f7a4, RJ9, cJ9_abs_0f7a4, 1, (some .int), by decide, ct_J9_abs_0f7a4_0 hl en_Pc_ok _, fun h => Bool.noConfusion h, fun _ => gc_RX7_218s⟩) (en_ac (⟨yX7_upNow, RX7, cX7_upNow, 3, (some .int), by decide, ct_X7_upNow_0 hl, fun _ => ⟨gc_RX7_236v, by decide, _, rfl, rfl⟩, fun h => Bool.noConfusion h⟩) en_an))), en_LTX7_ok, en_LLX7_ok, en_TTX7_ok hl, ⟨cw256, cw147⟩, en_ACX7_ok⟩ de_X7_isMatchOver ck_X7_isMatchOver_1
def tb_X7_isOut : en_Tb := [
  (28, [(0, .aload_n 0, 1), (1, .aload_n 0, 1), (2, .iload_n 1, 1), (3, .invokevirtual 132, 3), (6, .iconst 1, 1), (7, .invokevirtual 110, 3), (10, .ifCond .ne 16, 3), (13, .aload_n 0, 1), (14, .getfield 42, 3), (17, .iload_n 1, 1), (18, .baload, 1), (19, .ifCond .eq 7, 3), (22, .iconst 1, 1), (23, .goto 4, 3), (26, .iconst 0, 1), (27, .ireturn, 1)])]
set_option maxRecDepth 40000 in
theorem de_X7_isOut : en_De tb_X7_isOut cX7_isOut := by
  unfold en_De
  decide +kernel
def k_X7_isOut_0 : en_K := (2, ([.inr (.inl 20), .inl ((-2147483648), 2147483647, 0, 0)], []), [([.inr (.inl 20), .inl ((-2147483648), 2147483647, 0, 0), .inl (0, 0, 0, 0)], []), ([.inr (.inl 20), .inl (0, 5, 0, 0), .inl (1, 1, 0, 0), .inl (1, 6, 0, 0)], [(0, 0, 17, 3, 0, 0)])], [(20, 30)], [20, 36], (0, 0), [])
def u_X7_isOut_0 : List en_U := []
def x_X7_isOut_0 : en_Cx := ((en_KT, en_TY0, en_om0), en_FTX7, en_PTX7, [(110, true, 13, 0, 0, k_X7_isThrown_0), (110, true, 13, 0, 0, k_X7_isThrown_1), (132, true, 13, 0, 1, k_X7_isNoPlayer_0)], en_LTX7, en_LLX7, en_TTX7, en_ACX7)
def m_X7_isOut_0 : en_Mx := (k_X7_isOut_0, 2, 2, (0, 2), tb_X7_isOut, [])
set_option maxRecDepth 100000 in
theorem ck_X7_isOut_0 : en_all x_X7_isOut_0 m_X7_isOut_0 u_X7_isOut_0 18 = true := by decide +kernel
theorem ct_X7_isOut_0 {l : Launch} (hl : l.stackTraces = false) {cx cy : Int32} : en_Ctr l vwCl en_TY0 (en_Pc cx cy) en_om0 (en_Of cx cy) en_KT yX7_isOut (Cond.code yX7_isOut cX7_isOut 2 (some .boolean) :: en_cw) (en_rm 2 (0, 0)) 0 k_X7_isOut_0 :=
  en_main (X := x_X7_isOut_0) (M := m_X7_isOut_0) en_Pc_ok en_f32_ok en_f64_ok hl (by decide +kernel) ⟨en_FTX7_ok, en_PTX7_ok, en_ac (⟨yX7_isThrown, RX7, cX7_isThrown, 3, (some .boolean), by decide, ct_X7_isThrown_0 hl, fun _ => ⟨gc_RX7_110v, by decide, _, rfl, rfl⟩, fun h => Bool.noConfusion h⟩) (en_ac (⟨yX7_isThrown, RX7, cX7_isThrown, 3, (some .boolean), by decide, ct_X7_isThrown_1 hl, fun _ => ⟨gc_RX7_110v, by decide, _, rfl, rfl⟩, fun h => Bool.noConfusion h⟩) (en_ac (⟨yX7_isNoPlayer, RX7, cX7_isNoPlayer, 2, (some .boolean), by decide, ct_X7_isNoPlayer_0 hl, fun _ => ⟨gc_RX7_132v, by decide, _, rfl, rfl⟩, fun h => Bool.noConfusion h⟩) en_an)), en_LTX7_ok, en_LLX7_ok, en_TTX7_ok hl, ⟨cw256, cw147⟩, en_ACX7_ok⟩ de_X7_isOut ck_X7_isOut_0
def k_X7_isOut_1 : en_K := (2, ([.inr (.inl 20), .inl ((-2147483648), 2147483647, 0, 0)], [(5, 0, 0, 0, 0, 0)]), [([.inr (.inl 20), .inl ((-2147483648), 2147483647, 0, 0), .inl (0, 0, 0, 0)], [(5, 0, 0, 0, 0, 0)]), ([.inr (.inl 20), .inl (0, 5, 0, 0), .inl (1, 1, 0, 0), .inl (1, 6, 0, 0)], [(0, 0, 17, 3, 0, 0), (5, 0, 0, 0, 0, 0)])], [(20, 30)], [20, 36], (0, 0), [])
def u_X7_isOut_1 : List en_U := []
def x_X7_isOut_1 : en_Cx := ((en_KT, en_TY0, en_om0), en_FTX7, en_PTX7, [(110, true, 13, 0, 0, k_X7_isThrown_3), (110, true, 13, 0, 0, k_X7_isThrown_4), (132, true, 13, 0, 1, k_X7_isNoPlayer_1)], en_LTX7, en_LLX7, en_TTX7, en_ACX7)
def m_X7_isOut_1 : en_Mx := (k_X7_isOut_1, 2, 2, (0, 2), tb_X7_isOut, [])
set_option maxRecDepth 100000 in
theorem ck_X7_isOut_1 : en_all x_X7_isOut_1 m_X7_isOut_1 u_X7_isOut_1 18 = true := by decide +kernel
theorem ct_X7_isOut_1 {l : Launch} (hl : l.stackTraces = false) {cx cy : Int32} : en_Ctr l vwCl en_TY0 (en_Pc cx cy) en_om0 (en_Of cx cy) en_KT yX7_isOut (Cond.code yX7_isOut cX7_isOut 2 (some .boolean) :: en_cw) (en_rm 2 (0, 0)) 0 k_X7_isOut_1 :=
  en_main (X := x_X7_isOut_1) (M := m_X7_isOut_1) en_Pc_ok en_f32_ok en_f64_ok hl (by decide +kernel) ⟨en_FTX7_ok, en_PTX7_ok, en_ac (⟨yX7_isThrown, RX7, cX7_isThrown, 3, (some .boolean), by decide, ct_X7_isThrown_3 hl, fun _ => ⟨gc_RX7_110v, by decide, _, rfl, rfl⟩, fun h => Bool.noConfusion h⟩) (en_ac (⟨yX7_isThrown, RX7, cX7_isThrown, 3, (some .boolean), by decide, ct_X7_isThrown_4 hl, fun _ => ⟨gc_RX7_110v, by decide, _, rfl, rfl⟩, fun h => Bool.noConfusion h⟩) (en_ac (⟨yX7_isNoPlayer, RX7, cX7_isNoPlayer, 2, (some .boolean), by decide, ct_X7_isNoPlayer_1 hl, fun _ => ⟨gc_RX7_132v, by decide, _, rfl, rfl⟩, fun h => Bool.noConfusion h⟩) en_an)), en_LTX7_ok, en_LLX7_ok, en_TTX7_ok hl, ⟨cw256, cw147⟩, en_ACX7_ok⟩ de_X7_isOut ck_X7_isOut_1
def tb_X7_isSound : en_Tb := [
  (7, [(0, .aload_n 0, 1), (1, .iconst 0, 1), (2, .putfield 79, 3), (5, .iconst 1, 1), (6, .ireturn, 1)])]
set_option maxRecDepth 40000 in
theorem de_X7_isSound : en_De tb_X7_isSound cX7_isSound := by
  unfold en_De
  decide +kernel
def k_X7_isSound_0 : en_K := (1, ([.inr (.inl 20)], []), [([.inr (.inl 20), .inl (1, 1, 0, 0)], [])], [(20, 30)], [20], (0, 0), [])
def u_X7_isSound_0 : List en_U := []
def x_X7_isSound_0 : en_Cx := ((en_KT, en_TY0, en_om0), en_FTX7, en_PTX7, [], en_LTX7, en_LLX7, en_TTX7, en_ACX7)
def m_X7_isSound_0 : en_Mx := (k_X7_isSound_0, 0, 1, (0, 2), tb_X7_isSound, [])
set_option maxRecDepth 100000 in
theorem ck_X7_isSound_0 : en_all x_X7_isSound_0 m_X7_isSound_0 u_X7_isSound_0 8 = true := by decide +kernel
theorem ct_X7_isSound_0 {l : Launch} (hl : l.stackTraces = false) {cx cy : Int32} : en_Ctr l vwCl en_TY0 (en_Pc cx cy) en_om0 (en_Of cx cy) en_KT yX7_isSound (Cond.code yX7_isSound cX7_isSound 1 (some .boolean) :: en_cw) (en_rm 0 (0, 0)) 0 k_X7_isSound_0 :=
  en_main (X := x_X7_isSound_0) (M := m_X7_isSound_0) en_Pc_ok en_f32_ok en_f64_ok hl (by decide +kernel) ⟨en_FTX7_ok, en_PTX7_ok, en_an, en_LTX7_ok, en_LLX7_ok, en_TTX7_ok hl, ⟨cw256, cw147⟩, en_ACX7_ok⟩ de_X7_isSound ck_X7_isSound_0
def k_X7_isSound_1 : en_K := (1, ([.inr (.inl 20)], [(5, 0, 0, 0, 0, 0)]), [([.inr (.inl 20), .inl (1, 1, 0, 0)], [(5, 0, 0, 0, 0, 0)])], [(20, 30)], [20], (0, 0), [])
def u_X7_isSound_1 : List en_U := []
def x_X7_isSound_1 : en_Cx := ((en_KT, en_TY0, en_om0), en_FTX7, en_PTX7, [], en_LTX7, en_LLX7, en_TTX7, en_ACX7)
def m_X7_isSound_1 : en_Mx := (k_X7_isSound_1, 0, 1, (0, 2), tb_X7_isSound, [])
set_option maxRecDepth 100000 in
theorem ck_X7_isSound_1 : en_all x_X7_isSound_1 m_X7_isSound_1 u_X7_isSound_1 8 = true := by decide +kernel
theorem ct_X7_isSound_1 {l : Launch} (hl : l.stackTraces = false) {cx cy : Int32} : en_Ctr l vwCl en_TY0 (en_Pc cx cy) en_om0 (en_Of cx cy) en_KT yX7_isSound (Cond.code yX7_isSound cX7_isSound 1 (some .boolean) :: en_cw) (en_rm 0 (0, 0)) 0 k_X7_isSound_1 :=
  en_main (X := x_X7_isSound_1) (M := m_X7_isSound_1) en_Pc_ok en_f32_ok en_f64_ok hl (by decide +kernel) ⟨en_FTX7_ok, en_PTX7_ok, en_an, en_LTX7_ok, en_LLX7_ok, en_TTX7_ok hl, ⟨cw256, cw147⟩, en_ACX7_ok⟩ de_X7_isSound ck_X7_isSound_1
def tb_X7_kindAt : en_Tb := [
  (30, [(0, .aload_n 0, 1), (1, .aload_n 0, 1), (2, .iload_n 1, 1), (3, .invokevirtual 128, 3), (6, .ifCond .ne 11, 3), (9, .iload_n 2, 1), (10, .iload_n 3, 1), (11, .invokestatic 106, 3), (14, .ifCond .ne 7, 3), (17, .iconst 1, 1), (18, .goto 4, 3), (21, .iconst 0, 1), (22, .iconst 1, 1), (23, .invokevirtual 110, 3), (26, .ifCond .eq 8, 3), (29, .bipush 32, 2)]), 
  (48, [(31, .goto 16, 3), (34, .aload_n 0, 1), (35, .getfield 16, 3), (38, .iload_n 1, 1), (39, .aaload, 1), (40, .iload_n 3, 1), (41, .bipush 30, 2), (43, .imul, 1), (44, .iload_n 2, 1), (45, .iadd, 1), (46, .caload, 1), (47, .ireturn, 1)])]
set_option maxRecDepth 40000 in
theorem de_X7_kindAt : en_De tb_X7_kindAt cX7_kindAt := by
  unfold en_De
  decide +kernel
def k_X7_kindAt_0 : en_K := (4, ([.inr (.inl 20), .inl ((-2147483648), 2147483647, 0, 0), .inl ((-2147483648), 2147483647, 0, 0), .inl ((-2147483648), 2147483647, 0, 0)], []), [([.inr (.inl 20), .inl ((-2147483648), 2147483647, 0, 0), .inl ((-2147483648), 2147483647, 0, 0), .inl ((-2147483648), 2147483647, 0, 0), .inl (0, 65535, 0, 0)], [])], [(20, 30)], [20, 23, 24], (0, 0), [])
def u_X7_kindAt_0 : List en_U := []
def x_X7_kindAt_0 : en_Cx := ((en_KT, en_TY0, en_om0), en_FTX7, en_PTX7, [(106, false, 0, 0, 1, k_X7_isCell_0), (110, true, 13, 0, 0, k_X7_isThrown_0), (110, true, 13, 0, 0, k_X7_isThrown_1), (128, true, 13, 0, 1, k_X7_isNoHole_0)], en_LTX7, en_LLX7, en_TTX7, en_ACX7)
def m_X7_kindAt_0 : en_Mx := (k_X7_kindAt_0, 2, 4, (0, 1), tb_X7_kindAt, [])
set_option maxRecDepth 100000 in
theorem ck_X7_kindAt_0 : en_all x_X7_kindAt_0 m_X7_kindAt_0 u_X7_kindAt_0 27 = true := by decide +kernel
theorem ct_X7_kindAt_0 {l : Launch} (hl : l.stackTraces = false) {cx cy : Int32} : en_Ctr l vwCl en_TY0 (en_Pc cx cy) en_om0 (en_Of cx cy) en_KT yX7_kindAt (Cond.code yX7_kindAt cX7_kindAt 4 (some .char) :: en_cw) (en_rm 2 (0, 0)) 0 k_X7_kindAt_0 :=
  en_main (X := x_X7_kindAt_0) (M := m_X7_kindAt_0) en_Pc_ok en_f32_ok en_f64_ok hl (by decide +kernel) ⟨en_FTX7_ok, en_PTX7_ok, en_ac (⟨yX7_isCell, RX7, cX7_isCell, 2, (some .boolean), by decide, ct_X7_isCell_0 hl, fun h => Bool.noConfusion h, fun _ => gc_RX7_106s⟩) (en_ac (⟨yX7_isThrown, RX7, cX7_isThrown, 3, (some .boolean), by decide, ct_X7_isThrown_0 hl, fun _ => ⟨gc_RX7_110v, by decide, _, rfl, rfl⟩, fun h => Bool.noConfusion h⟩) (en_ac (⟨yX7_isThrown, RX7, cX7_isThrown, 3, (some .boolean), by decide, ct_X7_isThrown_1 hl, fun _ => ⟨gc_RX7_110v, by decide, _, rfl, rfl⟩, fun h => Bool.noConfusion h⟩) (en_ac (⟨yX7_isNoHole, RX7, cX7_isNoHole, 2, (some .boolean), by decide, ct_X7_isNoHole_0 hl, fun _ => ⟨gc_RX7_128v, by decide, _, rfl, rfl⟩, fun h => Bool.noConfusion h⟩) en_an))), en_LTX7_ok, en_LLX7_ok, en_TTX7_ok hl, ⟨cw256, cw147⟩, en_ACX7_ok⟩ de_X7_kindAt ck_X7_kindAt_0
def k_X7_kindAt_1 : en_K := (4, ([.inr (.inl 20), .inl ((-2147483648), 2147483647, 0, 0), .inl ((-2147483648), 2147483647, 0, 0), .inl ((-2147483648), 2147483647, 0, 0), .inl (1, 9, 0, 0)], [(0, 0, 16, 4, 0, 0), (5, 0, 0, 0, 0, 0)]), [([.inr (.inl 20), .inl ((-2147483648), 2147483647, 0, 0), .inl ((-2147483648), 2147483647, 0, 0), .inl ((-2147483648), 2147483647, 0, 0), .inl (0, 65535, 0, 0)], [(5, 0, 0, 0, 0, 0)])], [(20, 30)], [20, 23, 24], (0, 0), [])
def u_X7_kindAt_1 : List en_U := []
def x_X7_kindAt_1 : en_Cx := ((en_KT, en_TY0, en_om0), en_FTX7, en_PTX7, [(106, false, 0, 0, 1, k_X7_isCell_1), (110, true, 13, 0, 0, k_X7_isThrown_3), (110, true, 13, 0, 0, k_X7_isThrown_4), (128, true, 13, 0, 1, k_X7_isNoHole_21)], en_LTX7, en_LLX7, en_TTX7, en_ACX7)
def m_X7_kindAt_1 : en_Mx := (k_X7_kindAt_1, 2, 4, (0, 1), tb_X7_kindAt, [])
set_option maxRecDepth 100000 in
theorem ck_X7_kindAt_1 : en_all x_X7_kindAt_1 m_X7_kindAt_1 u_X7_kindAt_1 27 = true := by decide +kernel
theorem ct_X7_kindAt_1 {l : Launch} (hl : l.stackTraces = false) {cx cy : Int32} : en_Ctr l vwCl en_TY0 (en_Pc cx cy) en_om0 (en_Of cx cy) en_KT yX7_kindAt (Cond.code yX7_kindAt cX7_kindAt 4 (some .char) :: en_cw) (en_rm 2 (0, 0)) 0 k_X7_kindAt_1 :=
  en_main (X := x_X7_kindAt_1) (M := m_X7_kindAt_1) en_Pc_ok en_f32_ok en_f64_ok hl (by decide +kernel) ⟨en_FTX7_ok, en_PTX7_ok, en_ac (⟨yX7_isCell, RX7, cX7_isCell, 2, (some .boolean), by decide, ct_X7_isCell_1 hl, fun h => Bool.noConfusion h, fun _ => gc_RX7_106s⟩) (en_ac (⟨yX7_isThrown, RX7, cX7_isThrown, 3, (some .boolean), by decide, ct_X7_isThrown_3 hl, fun _ => ⟨gc_RX7_110v, by decide, _, rfl, rfl⟩, fun h => Bool.noConfusion h⟩) (en_ac (⟨yX7_isThrown, RX7, cX7_isThrown, 3, (some .boolean), by decide, ct_X7_isThrown_4 hl, fun _ => ⟨gc_RX7_110v, by decide, _, rfl, rfl⟩, fun h => Bool.noConfusion h⟩) (en_ac (⟨yX7_isNoHole, RX7, cX7_isNoHole, 2, (some .boolean), by decide, ct_X7_isNoHole_21 hl, fun _ => ⟨gc_RX7_128v, by decide, _, rfl, rfl⟩, fun h => Bool.noConfusion h⟩) en_an))), en_LTX7_ok, en_LLX7_ok, en_TTX7_ok hl, ⟨cw256, cw147⟩, en_ACX7_ok⟩ de_X7_kindAt ck_X7_kindAt_1
def tb_X7_isNone : en_Tb := [
  (28, [(0, .aload_n 0, 1), (1, .aload_n 0, 1), (2, .iload_n 1, 1), (3, .invokevirtual 132, 3), (6, .iconst 1, 1), (7, .invokevirtual 110, 3), (10, .ifCond .ne 23, 3), (13, .aload_n 0, 1), (14, .aload_n 0, 1), (15, .getfield 135, 3), (18, .ifCond .ne 7, 3), (21, .iconst 1, 1), (22, .goto 4, 3), (25, .iconst 0, 1), (26, .iconst 2, 1), (27, .invokevirtual 110, 3)]), 
  (39, [(30, .ifCond .eq 7, 3), (33, .iconst 1, 1), (34, .goto 4, 3), (37, .iconst 0, 1), (38, .ireturn, 1)])]
set_option maxRecDepth 40000 in
theorem de_X7_isNone : en_De tb_X7_isNone cX7_isNone := by
  unfold en_De
  decide +kernel
def k_X7_isNone_0 : en_K := (2, ([.inr (.inl 20), .inl ((-2147483648), 2147483647, 0, 0), .inl (0, 0, 0, 0)], [(0, 0, 22, 2, 0, 0)]), [([.inr (.inl 20), .inl ((-2147483648), 2147483647, 0, 0), .inl (1, 1, 0, 0)], [])], [(20, 30)], [20], (0, 0), [])
def u_X7_isNone_0 : List en_U := []
def x_X7_isNone_0 : en_Cx := ((en_KT, en_TY0, en_om0), en_FTX7, en_PTX7, [(110, true, 13, 0, 0, k_X7_isThrown_0), (110, true, 13, 0, 0, k_X7_isThrown_1), (110, true, 13, 0, 0, k_X7_isThrown_2), (132, true, 13, 0, 1, k_X7_isNoPlayer_0)], en_LTX7, en_LLX7, en_TTX7, en_ACX7)
def m_X7_isNone_0 : en_Mx := (k_X7_isNone_0, 2, 2, (0, 2), tb_X7_isNone, [])
set_option maxRecDepth 100000 in
theorem ck_X7_isNone_0 : en_all x_X7_isNone_0 m_X7_isNone_0 u_X7_isNone_0 22 = true := by decide +kernel
theorem ct_X7_isNone_0 {l : Launch} (hl : l.stackTraces = false) {cx cy : Int32} : en_Ctr l vwCl en_TY0 (en_Pc cx cy) en_om0 (en_Of cx cy) en_KT yX7_isNone (Cond.code yX7_isNone cX7_isNone 2 (some .boolean) :: en_cw) (en_rm 2 (0, 0)) 0 k_X7_isNone_0 :=
  en_main (X := x_X7_isNone_0) (M := m_X7_isNone_0) en_Pc_ok en_f32_ok en_f64_ok hl (by decide +kernel) ⟨en_FTX7_ok, en_PTX7_ok, en_ac (⟨yX7_isThrown, RX7, cX7_isThrown, 3, (some .boolean), by decide, ct_X7_isThrown_0 hl, fun _ => ⟨gc_RX7_110v, by decide, _, rfl, rfl⟩, fun h => Bool.noConfusion h⟩) (en_ac (⟨yX7_isThrown, RX7, cX7_isThrown, 3, (some .boolean), by decide, ct_X7_isThrown_1 hl, fun _ => ⟨gc_RX7_110v, by decide, _, rfl, rfl⟩, fun h => Bool.noConfusion h⟩) (en_ac (⟨yX7_isThrown, RX7, cX7_isThrown, 3, (some .boolean), by decide, ct_X7_isThrown_2 hl, fun _ => ⟨gc_RX7_110v, by decide, _, rfl, rfl⟩, fun h => Bool.noConfusion h⟩) (en_ac (⟨yX7_isNoPlayer, RX7, cX7_isNoPlayer, 2, (some .boolean), by decide, ct_X7_isNoPlayer_0 hl, fun _ => ⟨gc_RX7_132v, by decide, _, rfl, rfl⟩, fun h => Bool.noConfusion h⟩) en_an))), en_LTX7_ok, en_LLX7_ok, en_TTX7_ok hl, ⟨cw256, cw147⟩, en_ACX7_ok⟩ de_X7_isNone ck_X7_isNone_0
def tb_X7_lie : en_Tb := [
  (27, [(0, .aload_n 0, 1), (1, .iload_n 1, 1), (2, .invokevirtual 245, 3), (5, .ifCond .ne 42, 3), (8, .aload_n 0, 1), (9, .aload_n 0, 1), (10, .getfield 23, 3), (13, .iload_n 1, 1), (14, .aaload, 1), (15, .iconst 0, 1), (16, .iaload, 1), (17, .bipush 110, 2), (19, .if_icmp .eq 20, 3), (22, .aload_n 0, 1), (23, .getfield 23, 3), (26, .iload_n 1, 1)]), 
  (54, [(27, .aaload, 1), (28, .iconst 0, 1), (29, .iaload, 1), (30, .bipush 108, 2), (32, .if_icmp .eq 7, 3), (35, .iconst 1, 1), (36, .goto 4, 3), (39, .iconst 0, 1), (40, .iconst 3, 1), (41, .invokevirtual 110, 3), (44, .ifCond .eq 5, 3), (47, .iconst 0, 1), (48, .ireturn, 1), (49, .aload_n 0, 1), (50, .getfield 23, 3), (53, .iload_n 1, 1)]), 
  (66, [(54, .aaload, 1), (55, .iload_n 2, 1), (56, .ifCond .eq 7, 3), (59, .iconst 1, 1), (60, .goto 4, 3), (63, .iconst 2, 1), (64, .iaload, 1), (65, .ireturn, 1)])]
set_option maxRecDepth 40000 in
theorem de_X7_lie : en_De tb_X7_lie cX7_lie := by
  unfold en_De
  decide +kernel
def k_X7_lie_0 : en_K := (3, ([.inr (.inl 20), .inl ((-2147483648), 2147483647, 0, 0), .inl (0, 1, 0, 0), .inl (0, 0, 0, 0)], [(0, 0, 22, 3, 0, 0)]), [([.inr (.inl 20), .inl ((-2147483648), 2147483647, 0, 0), .inl (0, 1, 0, 0), .inl (0, 0, 0, 0)], [])], [(20, 30)], [20], (0, 0), [])
def u_X7_lie_0 : List en_U := []
def x_X7_lie_0 : en_Cx := ((en_KT, en_TY0, en_om0), en_FTX7, en_PTX7, [(245, true, 13, 0, 2, k_X7_isNone_0)], en_LTX7, en_LLX7, en_TTX7, en_ACX7)
def m_X7_lie_0 : en_Mx := (k_X7_lie_0, 3, 3, (0, 0), tb_X7_lie, [])
set_option maxRecDepth 100000 in
theorem ck_X7_lie_0 : en_all x_X7_lie_0 m_X7_lie_0 u_X7_lie_0 9 = true := by decide +kernel
theorem ct_X7_lie_0 {l : Launch} (hl : l.stackTraces = false) {cx cy : Int32} : en_Ctr l vwCl en_TY0 (en_Pc cx cy) en_om0 (en_Of cx cy) en_KT yX7_lie (Cond.code yX7_lie cX7_lie 3 (some .int) :: en_cw) (en_rm 3 (0, 0)) 0 k_X7_lie_0 :=
  en_main (X := x_X7_lie_0) (M := m_X7_lie_0) en_Pc_ok en_f32_ok en_f64_ok hl (by decide +kernel) ⟨en_FTX7_ok, en_PTX7_ok, en_ac (⟨yX7_isNone, RX7, cX7_isNone, 2, (some .boolean), by decide, ct_X7_isNone_0 hl, fun _ => ⟨gc_RX7_245v, by decide, _, rfl, rfl⟩, fun h => Bool.noConfusion h⟩) en_an, en_LTX7_ok, en_LLX7_ok, en_TTX7_ok hl, ⟨cw256, cw147⟩, en_ACX7_ok⟩ de_X7_lie ck_X7_lie_0
def k_X7_isNone_1 : en_K := (2, ([.inr (.inl 20), .inl ((-2147483648), 2147483647, 0, 0), .inl (1, 1, 0, 0)], [(0, 0, 22, 2, 0, 0), (5, 0, 0, 0, 0, 0)]), [([.inr (.inl 20), .inl (0, 5, 0, 0), .inl (0, 0, 0, 0), .inl (1, 6, 0, 0)], [(0, 0, 17, 3, 0, 0), (5, 0, 0, 0, 0, 0)]), ([.inr (.inl 20), .inl ((-2147483648), 2147483647, 0, 0), .inl (1, 1, 0, 0)], [(5, 0, 0, 0, 0, 0)])], [(20, 30)], [20], (0, 0), [])
def u_X7_isNone_1 : List en_U := []
def x_X7_isNone_1 : en_Cx := ((en_KT, en_TY0, en_om0), en_FTX7, en_PTX7, [(110, true, 13, 0, 0, k_X7_isThrown_3), (110, true, 13, 0, 0, k_X7_isThrown_4), (110, true, 13, 0, 0, k_X7_isThrown_5), (132, true, 13, 0, 1, k_X7_isNoPlayer_1)], en_LTX7, en_LLX7, en_TTX7, en_ACX7)
def m_X7_isNone_1 : en_Mx := (k_X7_isNone_1, 2, 2, (0, 2), tb_X7_isNone, [])
set_option maxRecDepth 100000 in
theorem ck_X7_isNone_1 : en_all x_X7_isNone_1 m_X7_isNone_1 u_X7_isNone_1 20 = true := by decide +kernel
theorem ct_X7_isNone_1 {l : Launch} (hl : l.stackTraces = false) {cx cy : Int32} : en_Ctr l vwCl en_TY0 (en_Pc cx cy) en_om0 (en_Of cx cy) en_KT yX7_isNone (Cond.code yX7_isNone cX7_isNone 2 (some .boolean) :: en_cw) (en_rm 2 (0, 0)) 0 k_X7_isNone_1 :=
  en_main (X := x_X7_isNone_1) (M := m_X7_isNone_1) en_Pc_ok en_f32_ok en_f64_ok hl (by decide +kernel) ⟨en_FTX7_ok, en_PTX7_ok, en_ac (⟨yX7_isThrown, RX7, cX7_isThrown, 3, (some .boolean), by decide, ct_X7_isThrown_3 hl, fun _ => ⟨gc_RX7_110v, by decide, _, rfl, rfl⟩, fun h => Bool.noConfusion h⟩) (en_ac (⟨yX7_isThrown, RX7, cX7_isThrown, 3, (some .boolean), by decide, ct_X7_isThrown_4 hl, fun _ => ⟨gc_RX7_110v, by decide, _, rfl, rfl⟩, fun h => Bool.noConfusion h⟩) (en_ac (⟨yX7_isThrown, RX7, cX7_isThrown, 3, (some .boolean), by decide, ct_X7_isThrown_5 hl, fun _ => ⟨gc_RX7_110v, by decide, _, rfl, rfl⟩, fun h => Bool.noConfusion h⟩) (en_ac (⟨yX7_isNoPlayer, RX7, cX7_isNoPlayer, 2, (some .boolean), by decide, ct_X7_isNoPlayer_1 hl, fun _ => ⟨gc_RX7_132v, by decide, _, rfl, rfl⟩, fun h => Bool.noConfusion h⟩) en_an))), en_LTX7_ok, en_LLX7_ok, en_TTX7_ok hl, ⟨cw256, cw147⟩, en_ACX7_ok⟩ de_X7_isNone ck_X7_isNone_1
def k_X7_lie_1 : en_K := (3, ([.inr (.inl 20), .inl ((-2147483648), 2147483647, 0, 0), .inl (0, 1, 0, 0), .inl (1, 1, 0, 0)], [(0, 0, 22, 3, 0, 0), (5, 0, 0, 0, 0, 0)]), [([.inr (.inl 20), .inl ((-2147483648), 2147483647, 0, 0), .inl (0, 1, 0, 0), .inl (0, 29, 0, 0)], [(5, 0, 0, 0, 0, 0)])], [(20, 30)], [20, 26, 27], (0, 0), [])
def u_X7_lie_1 : List en_U := []
def x_X7_lie_1 : en_Cx := ((en_KT, en_TY0, en_om0), en_FTX7, en_PTX7, [(110, true, 13, 0, 0, k_X7_isThrown_6), (110, true, 13, 0, 0, k_X7_isThrown_7), (245, true, 13, 0, 2, k_X7_isNone_1)], en_LTX7, en_LLX7, en_TTX7, en_ACX7)
def m_X7_lie_1 : en_Mx := (k_X7_lie_1, 3, 3, (0, 0), tb_X7_lie, [])
set_option maxRecDepth 100000 in
theorem ck_X7_lie_1 : en_all x_X7_lie_1 m_X7_lie_1 u_X7_lie_1 38 = true := by decide +kernel
theorem ct_X7_lie_1 {l : Launch} (hl : l.stackTraces = false) {cx cy : Int32} : en_Ctr l vwCl en_TY0 (en_Pc cx cy) en_om0 (en_Of cx cy) en_KT yX7_lie (Cond.code yX7_lie cX7_lie 3 (some .int) :: en_cw) (en_rm 3 (0, 0)) 0 k_X7_lie_1 :=
  en_main (X := x_X7_lie_1) (M := m_X7_lie_1) en_Pc_ok en_f32_ok en_f64_ok hl (by decide +kernel) ⟨en_FTX7_ok, en_PTX7_ok, en_ac (⟨yX7_isThrown, RX7, cX7_isThrown, 3, (some .boolean), by decide, ct_X7_isThrown_6 hl, fun _ => ⟨gc_RX7_110v, by decide, _, rfl, rfl⟩, fun h => Bool.noConfusion h⟩) (en_ac (⟨yX7_isThrown, RX7, cX7_isThrown, 3, (some .boolean), by decide, ct_X7_isThrown_7 hl, fun _ => ⟨gc_RX7_110v, by decide, _, rfl, rfl⟩, fun h => Bool.noConfusion h⟩) (en_ac (⟨yX7_isNone, RX7, cX7_isNone, 2, (some .boolean), by decide, ct_X7_isNone_1 hl, fun _ => ⟨gc_RX7_245v, by decide, _, rfl, rfl⟩, fun h => Bool.noConfusion h⟩) en_an)), en_LTX7_ok, en_LLX7_ok, en_TTX7_ok hl, ⟨cw256, cw147⟩, en_ACX7_ok⟩ de_X7_lie ck_X7_lie_1
def tb_X7_line : en_Tb := [
  (29, [(0, .aload_n 0, 1), (1, .aload_n 0, 1), (2, .iload_n 1, 1), (3, .invokevirtual 132, 3), (6, .iconst 1, 1), (7, .invokevirtual 110, 3), (10, .ifCond .ne 72, 3), (13, .aload_n 0, 1), (14, .iload_n 2, 1), (15, .iconst 1, 1), (16, .bipush 9, 2), (18, .invokestatic 82, 3), (21, .ifCond .ne 7, 3), (24, .iconst 1, 1), (25, .goto 4, 3), (28, .iconst 0, 1)]), 
  (59, [(29, .iconst 2, 1), (30, .invokevirtual 110, 3), (33, .ifCond .ne 49, 3), (36, .aload_n 0, 1), (37, .aload_n 0, 1), (38, .getfield 135, 3), (41, .ifCond .ne 7, 3), (44, .iconst 1, 1), (45, .goto 4, 3), (48, .iconst 0, 1), (49, .iconst 3, 1), (50, .invokevirtual 110, 3), (53, .ifCond .ne 29, 3), (56, .aload_n 0, 1), (57, .aload_n 0, 1), (58, .aload_n 0, 1)]), 
  (89, [(59, .getfield 23, 3), (62, .iload_n 1, 1), (63, .aaload, 1), (64, .invokevirtual 214, 3), (67, .ifCond .ne 7, 3), (70, .iconst 1, 1), (71, .goto 4, 3), (74, .iconst 0, 1), (75, .iconst 4, 1), (76, .invokevirtual 110, 3), (79, .ifCond .eq 5, 3), (82, .iconst 0, 1), (83, .ireturn, 1), (84, .aload_n 0, 1), (85, .getfield 23, 3), (88, .iload_n 1, 1)]), 
  (110, [(89, .aaload, 1), (90, .astore_n 3, 1), (91, .aload_n 3, 1), (92, .iconst 1, 1), (93, .iaload, 1), (94, .aload_n 0, 1), (95, .invokevirtual 95, 3), (98, .isub, 1), (99, .istore 4, 2), (101, .aload_n 3, 1), (102, .iconst 2, 1), (103, .iaload, 1), (104, .aload_n 0, 1), (105, .invokevirtual 99, 3), (108, .isub, 1), (109, .istore 5, 2)]), 
  (138, [(111, .iload 4, 2), (113, .invokestatic 218, 3), (116, .iload 5, 2), (118, .invokestatic 218, 3), (121, .invokestatic 211, 3), (124, .istore 6, 2), (126, .aload_n 3, 1), (127, .iconst 1, 1), (128, .iaload, 1), (129, .iload_n 2, 1), (130, .iload 4, 2), (132, .iload 6, 2), (134, .idiv, 1), (135, .imul, 1), (136, .iadd, 1), (137, .istore 7, 2)]), 
  (162, [(139, .aload_n 3, 1), (140, .iconst 2, 1), (141, .iaload, 1), (142, .iload_n 2, 1), (143, .iload 5, 2), (145, .iload 6, 2), (147, .idiv, 1), (148, .imul, 1), (149, .iadd, 1), (150, .istore 8, 2), (152, .aload_n 0, 1), (153, .aload_n 0, 1), (154, .iload 7, 2), (156, .iload 8, 2), (158, .invokevirtual 223, 3), (161, .ifCond .ne 7, 3)]), 
  (191, [(164, .iconst 1, 1), (165, .goto 4, 3), (168, .iconst 0, 1), (169, .iconst 4, 1), (170, .invokevirtual 110, 3), (173, .ifCond .eq 7, 3), (176, .iconst 0, 1), (177, .goto 13, 3), (180, .aload_n 0, 1), (181, .aload_n 3, 1), (182, .iload 7, 2), (184, .iload 8, 2), (186, .iconst 1, 1), (187, .invokevirtual 226, 3), (190, .ireturn, 1)])]
set_option maxRecDepth 40000 in
theorem de_X7_line : en_De tb_X7_line cX7_line := by
  unfold en_De
  decide +kernel
def k_X7_line_0 : en_K := (3, ([.inr (.inl 20), .inl ((-2147483648), 2147483647, 0, 0), .inl ((-2147483648), 2147483647, 0, 0), .inl (0, 0, 0, 0)], [(0, 0, 22, 3, 0, 0)]), [([.inr (.inl 20), .inl ((-2147483648), 2147483647, 0, 0), .inl ((-2147483648), 2147483647, 0, 0), .inl (0, 0, 0, 0)], [])], [(20, 30)], [20], (0, 0), [])
def u_X7_line_0 : List en_U := []
def x_X7_line_0 : en_Cx := ((en_KT, en_TY0, en_om0), en_FTX7, en_PTX7, [(82, false, 0, 0, 0, k_X7_isIn_36), (110, true, 13, 0, 0, k_X7_isThrown_0), (110, true, 13, 0, 0, k_X7_isThrown_1), (110, true, 13, 0, 0, k_X7_isThrown_2), (110, true, 13, 0, 0, k_X7_isThrown_8), (110, true, 13, 0, 0, k_X7_isThrown_9), (132, true, 13, 0, 1, k_X7_isNoPlayer_0)], en_LTX7, en_LLX7, en_TTX7, en_ACX7)
def m_X7_line_0 : en_Mx := (k_X7_line_0, 2, 9, (0, 0), tb_X7_line, [])
set_option maxRecDepth 100000 in
theorem ck_X7_line_0 : en_all x_X7_line_0 m_X7_line_0 u_X7_line_0 31 = true := by decide +kernel
theorem ct_X7_line_0 {l : Launch} (hl : l.stackTraces = false) {cx cy : Int32} : en_Ctr l vwCl en_TY0 (en_Pc cx cy) en_om0 (en_Of cx cy) en_KT yX7_line (Cond.code yX7_line cX7_line 9 (some .int) :: en_cw) (en_rm 2 (0, 0)) 0 k_X7_line_0 :=
  en_main (X := x_X7_line_0) (M := m_X7_line_0) en_Pc_ok en_f32_ok en_f64_ok hl (by decide +kernel) ⟨en_FTX7_ok, en_PTX7_ok, en_ac (⟨yX7_isIn, RX7, cX7_isIn, 3, (some .boolean), by decide, ct_X7_isIn_36 hl, fun h => Bool.noConfusion h, fun _ => gc_RX7_82s⟩) (en_ac (⟨yX7_isThrown, RX7, cX7_isThrown, 3, (some .boolean), by decide, ct_X7_isThrown_0 hl, fun _ => ⟨gc_RX7_110v, by decide, _, rfl, rfl⟩, fun h => Bool.noConfusion h⟩) (en_ac (⟨yX7_isThrown, RX7, cX7_isThrown, 3, (some .boolean), by decide, ct_X7_isThrown_1 hl, fun _ => ⟨gc_RX7_110v, by decide, _, rfl, rfl⟩, fun h => Bool.noConfusion h⟩) (en_ac (⟨yX7_isThrown, RX7, cX7_isThrown, 3, (some .boolean), by decide, ct_X7_isThrown_2 hl, fun _ => ⟨gc_RX7_110v, by decide, _, rfl, rfl⟩, fun h => Bool.noConfusion h⟩) (en_ac (⟨yX7_isThrown, RX7, cX7_isThrown, 3, (some .boolean), by decide, ct_X7_isThrown_8 hl, fun _ => ⟨gc_RX7_110v, by decide, _, rfl, rfl⟩, fun h => Bool.noConfusion h⟩) (en_ac (⟨yX7_isThrown, RX7, cX7_isThrown, 3, (some .boolean), by decide, ct_X7_isThrown_9 hl, fun _ => ⟨gc_RX7_110v, by decide, _, rfl, rfl⟩, fun h => Bool.noConfusion h⟩) (en_ac (⟨yX7_isNoPlayer, RX7, cX7_isNoPlayer, 2, (some .boolean), by decide, ct_X7_isNoPlayer_0 hl, fun _ => ⟨gc_RX7_132v, by decide, _, rfl, rfl⟩, fun h => Bool.noConfusion h⟩) en_an)))))), en_LTX7_ok, en_LLX7_ok, en_TTX7_ok hl, ⟨cw256, cw147⟩, en_ACX7_ok⟩ de_X7_line ck_X7_line_0
def k_X7_isIn_37 : en_K := (3, ([.inl ((-2147483648), 2147483647, 0, 0), .inl (1, 1, 0, 0), .inl (9, 9, 0, 0)], [(5, 0, 0, 0, 0, 0)]), [([.inl ((-2147483648), 2147483647, 0, 0), .inl (1, 1, 0, 0), .inl (9, 9, 0, 0), .inl (0, 0, 0, 0)], [(5, 0, 0, 0, 0, 0)]), ([.inl (1, 9, 0, 0), .inl (1, 1, 0, 0), .inl (9, 9, 0, 0), .inl (1, 1, 0, 0)], [(5, 0, 0, 0, 0, 0)])], [], [], (0, 0), [])
def u_X7_isIn_37 : List en_U := []
def x_X7_isIn_37 : en_Cx := ((en_KT, en_TY0, en_om0), en_FTX7, en_PTX7, [], en_LTX7, en_LLX7, en_TTX7, en_ACX7)
def m_X7_isIn_37 : en_Mx := (k_X7_isIn_37, 0, 3, (0, 2), tb_X7_isIn, [])
set_option maxRecDepth 100000 in
theorem ck_X7_isIn_37 : en_all x_X7_isIn_37 m_X7_isIn_37 u_X7_isIn_37 12 = true := by decide +kernel
theorem ct_X7_isIn_37 {l : Launch} (hl : l.stackTraces = false) {cx cy : Int32} : en_Ctr l vwCl en_TY0 (en_Pc cx cy) en_om0 (en_Of cx cy) en_KT yX7_isIn (Cond.code yX7_isIn cX7_isIn 3 (some .boolean) :: en_cw) (en_rm 0 (0, 0)) 0 k_X7_isIn_37 :=
  en_main (X := x_X7_isIn_37) (M := m_X7_isIn_37) en_Pc_ok en_f32_ok en_f64_ok hl (by decide +kernel) ⟨en_FTX7_ok, en_PTX7_ok, en_an, en_LTX7_ok, en_LLX7_ok, en_TTX7_ok hl, ⟨cw256, cw147⟩, en_ACX7_ok⟩ de_X7_isIn ck_X7_isIn_37
def k_X7_isAllowed_1 : en_K := (3, ([.inr (.inl 20), .inl ((-2147483648), 2147483647, 0, 0), .inl ((-2147483648), 2147483647, 0, 0), .inl (0, 8, 0, 0)], [(0, 0, 25, 3, 0, 0), (5, 0, 0, 0, 0, 0)]), [([.inr (.inl 20), .inl ((-2147483648), 2147483647, 0, 0), .inl ((-2147483648), 2147483647, 0, 0), .inl (0, 0, 0, 0)], [(5, 0, 0, 0, 0, 0)]), ([.inr (.inl 20), .inl (0, 29, 0, 0), .inl (0, 19, 0, 0), .inl (1, 1, 0, 0)], [(2, 1, 2, 0, 0, 0), (5, 0, 0, 0, 0, 0)])], [], [20, 21, 22, 23, 24], (0, 0), [])
def u_X7_isAllowed_1 : List en_U := []
def x_X7_isAllowed_1 : en_Cx := ((en_KT, en_TY0, en_om0), en_FTX7, en_PTX7, [(106, false, 0, 0, 1, k_X7_isCell_1), (175, true, 13, 0, 0, k_X7_kind_0), (187, true, 13, 0, 1, k_X7_isCup_h)], en_LTX7, en_LLX7, en_TTX7, en_ACX7)
def m_X7_isAllowed_1 : en_Mx := (k_X7_isAllowed_1, 2, 3, (0, 2), tb_X7_isAllowed, [])
set_option maxRecDepth 100000 in
theorem ck_X7_isAllowed_1 : en_all x_X7_isAllowed_1 m_X7_isAllowed_1 u_X7_isAllowed_1 33 = true := by decide +kernel
theorem ct_X7_isAllowed_1 {l : Launch} (hl : l.stackTraces = false) {cx cy : Int32} : en_Ctr l vwCl en_TY0 (en_Pc cx cy) en_om0 (en_Of cx cy) en_KT yX7_isAllowed (Cond.code yX7_isAllowed cX7_isAllowed 3 (some .boolean) :: en_cw) (en_rm 2 (0, 0)) 0 k_X7_isAllowed_1 :=
  en_main (X := x_X7_isAllowed_1) (M := m_X7_isAllowed_1) en_Pc_ok en_f32_ok en_f64_ok hl (by decide +kernel) ⟨en_FTX7_ok, en_PTX7_ok, en_ac (⟨yX7_isCell, RX7, cX7_isCell, 2, (some .boolean), by decide, ct_X7_isCell_1 hl, fun h => Bool.noConfusion h, fun _ => gc_RX7_106s⟩) (en_ac (⟨yX7_kind, RX7, cX7_kind, 3, (some .char), by decide, ct_X7_kind_0 hl, fun _ => ⟨gc_RX7_175v, by decide, _, rfl, rfl⟩, fun h => Bool.noConfusion h⟩) (en_ac (⟨yX7_isCup, RX7, cX7_isCup, 3, (some .boolean), by decide, ct_X7_isCup_h hl, fun _ => ⟨gc_RX7_187v, by decide, _, rfl, rfl⟩, fun h => Bool.noConfusion h⟩) en_an)), en_LTX7_ok, en_LLX7_ok, en_TTX7_ok hl, ⟨cw256, cw147⟩, en_ACX7_ok⟩ de_X7_isAllowed ck_X7_isAllowed_1
