def k_X7_isIn_32 : en_K := (3, ([.inl ((-2147483648), 2147483647, 0, 0), .inl (1, 1, 0, 0), .inl (6, 6, 0, 0)], []), [([.inl ((-2147483648), 2147483647, 0, 0), .inl (1, 1, 0, 0), .inl (6, 6, 0, 0), .inl (0, 0, 0, 0)], []), ([.inl (1, 6, 0, 0), .inl (1, 1, 0, 0), .inl (6, 6, 0, 0), .inl (1, 1, 0, 0)], [])], [], [], (0, 0), [])
def u_X7_isIn_32 : List en_U := []
def x_X7_isIn_32 : en_Cx := ((en_KT, en_TY0, en_om0), en_FTX7, en_PTX7, [], en_LTX7, en_LLX7, en_TTX7, en_ACX7)
def m_X7_isIn_32 : en_Mx := (k_X7_isIn_32, 0, 3, (0, 2), tb_X7_isIn, [])
set_option maxRecDepth 100000 in
theorem ck_X7_isIn_32 : en_all x_X7_isIn_32 m_X7_isIn_32 u_X7_isIn_32 12 = true := by decide +kernel
theorem ct_X7_isIn_32 {l : Launch} (hl : l.stackTraces = false) {cx cy : Int32} : en_Ctr l vwCl en_TY0 (en_Pc cx cy) en_om0 (en_Of cx cy) en_KT yX7_isIn (Cond.code yX7_isIn cX7_isIn 3 (some .boolean) :: en_cw) (en_rm 0 (0, 0)) 0 k_X7_isIn_32 :=
  en_main (X := x_X7_isIn_32) (M := m_X7_isIn_32) en_Pc_ok en_f32_ok en_f64_ok hl (by decide +kernel) ⟨en_FTX7_ok, en_PTX7_ok, en_an, en_LTX7_ok, en_LLX7_ok, en_TTX7_ok hl, ⟨cw256, cw147⟩, en_ACX7_ok⟩ de_X7_isIn ck_X7_isIn_32
def tb_X7_isRanked : en_Tb := [
  (24, [(0, .aload_n 0, 1), (1, .getfield 38, 3), (4, .iload_n 1, 1), (5, .baload, 1), (6, .ifCond .eq 16, 3), (9, .aload_n 0, 1), (10, .getfield 42, 3), (13, .iload_n 1, 1), (14, .baload, 1), (15, .ifCond .ne 7, 3), (18, .iconst 1, 1), (19, .goto 4, 3), (22, .iconst 0, 1), (23, .ireturn, 1)])]
set_option maxRecDepth 40000 in
theorem de_X7_isRanked : en_De tb_X7_isRanked cX7_isRanked := by
  unfold en_De
  decide +kernel
def k_X7_isRanked_0 : en_K := (2, ([.inr (.inl 20), .inl (0, 5, 0, 0)], []), [([.inr (.inl 20), .inl (0, 5, 0, 0), .inl (0, 0, 0, 0)], []), ([.inr (.inl 20), .inl (0, 5, 0, 0), .inl (1, 1, 0, 0)], [])], [], [20, 35, 36], (0, 0), [])
def u_X7_isRanked_0 : List en_U := []
def x_X7_isRanked_0 : en_Cx := ((en_KT, en_TY0, en_om0), en_FTX7, en_PTX7, [], en_LTX7, en_LLX7, en_TTX7, en_ACX7)
def m_X7_isRanked_0 : en_Mx := (k_X7_isRanked_0, 0, 2, (0, 2), tb_X7_isRanked, [])
set_option maxRecDepth 100000 in
theorem ck_X7_isRanked_0 : en_all x_X7_isRanked_0 m_X7_isRanked_0 u_X7_isRanked_0 16 = true := by decide +kernel
theorem ct_X7_isRanked_0 {l : Launch} (hl : l.stackTraces = false) {cx cy : Int32} : en_Ctr l vwCl en_TY0 (en_Pc cx cy) en_om0 (en_Of cx cy) en_KT yX7_isRanked (Cond.code yX7_isRanked cX7_isRanked 2 (some .boolean) :: en_cw) (en_rm 0 (0, 0)) 0 k_X7_isRanked_0 :=
  en_main (X := x_X7_isRanked_0) (M := m_X7_isRanked_0) en_Pc_ok en_f32_ok en_f64_ok hl (by decide +kernel) ⟨en_FTX7_ok, en_PTX7_ok, en_an, en_LTX7_ok, en_LLX7_ok, en_TTX7_ok hl, ⟨cw256, cw147⟩, en_ACX7_ok⟩ de_X7_isRanked ck_X7_isRanked_0
def tb_X7_sumFrom : en_Tb := [
  (25, [(0, .iconst 0, 1), (1, .istore_n 3, 1), (2, .iload_n 2, 1), (3, .istore 4, 2), (5, .iload 4, 2), (7, .aload_n 0, 1), (8, .getfield 86, 3), (11, .if_icmp .ge 21, 3), (14, .iload_n 3, 1), (15, .aload_n 0, 1), (16, .getfield 35, 3), (19, .iload_n 1, 1), (20, .aaload, 1), (21, .iload 4, 2), (23, .iaload, 1), (24, .iadd, 1)]), 
  (34, [(25, .istore_n 3, 1), (26, .iinc 4 1, 3), (29, .goto (-24), 3), (32, .iload_n 3, 1), (33, .ireturn, 1)])]
set_option maxRecDepth 40000 in
theorem de_X7_sumFrom : en_De tb_X7_sumFrom cX7_sumFrom := by
  unfold en_De
  decide +kernel
def k_X7_sumFrom_0 : en_K := (3, ([.inr (.inl 20), .inl (0, 5, 0, 0), .inl (0, 9, 0, 0)], []), [([.inr (.inl 20), .inl (0, 5, 0, 0), .inl (0, 9, 0, 0), .inl ((-2147483648), 2147483647, 0, 0)], [])], [], [20, 33, 34], (0, 0), [])
def u_X7_sumFrom_0 : List en_U := [
  (5, ([.inr (.inl 20), .inl (0, 5, 0, 0), .inl (0, 9, 0, 0), .inl (0, 9, 0, 0), .inl ((-2147483648), 2147483647, 0, 0)], []), [(0, 0), (1, 1), (2, 2), (4, 3), (3, 4)], (0, 0), [((-2), 3)], 22)]
def x_X7_sumFrom_0 : en_Cx := ((en_KT, en_TY0, en_om0), en_FTX7, en_PTX7, [], en_LTX7, en_LLX7, en_TTX7, en_ACX7)
def m_X7_sumFrom_0 : en_Mx := (k_X7_sumFrom_0, 0, 5, (0, 0), tb_X7_sumFrom, [])
set_option maxRecDepth 100000 in
theorem ck_X7_sumFrom_0 : en_all x_X7_sumFrom_0 m_X7_sumFrom_0 u_X7_sumFrom_0 18 = true := by decide +kernel
theorem ct_X7_sumFrom_0 {l : Launch} (hl : l.stackTraces = false) {cx cy : Int32} : en_Ctr l vwCl en_TY0 (en_Pc cx cy) en_om0 (en_Of cx cy) en_KT yX7_sumFrom (Cond.code yX7_sumFrom cX7_sumFrom 5 (some .int) :: en_cw) (en_rm 0 (0, 0)) 0 k_X7_sumFrom_0 :=
  en_main (X := x_X7_sumFrom_0) (M := m_X7_sumFrom_0) en_Pc_ok en_f32_ok en_f64_ok hl (by decide +kernel) ⟨en_FTX7_ok, en_PTX7_ok, en_an, en_LTX7_ok, en_LLX7_ok, en_TTX7_ok hl, ⟨cw256, cw147⟩, en_ACX7_ok⟩ de_X7_sumFrom ck_X7_sumFrom_0
def tb_X7_rankOf : en_Tb := [
  (24, [(0, .iconst 1, 1), (1, .istore_n 2, 1), (2, .iconst 0, 1), (3, .istore_n 3, 1), (4, .iload_n 3, 1), (5, .aload_n 0, 1), (6, .getfield 89, 3), (9, .if_icmp .ge 40, 3), (12, .iload_n 2, 1), (13, .aload_n 0, 1), (14, .iload_n 3, 1), (15, .invokevirtual 272, 3), (18, .ifCond .eq 22, 3), (21, .aload_n 0, 1), (22, .iload_n 3, 1), (23, .iconst 0, 1)]), 
  (51, [(24, .invokevirtual 255, 3), (27, .aload_n 0, 1), (28, .iload_n 1, 1), (29, .iconst 0, 1), (30, .invokevirtual 255, 3), (33, .if_icmp .ge 7, 3), (36, .iconst 1, 1), (37, .goto 4, 3), (40, .iconst 0, 1), (41, .iadd, 1), (42, .istore_n 2, 1), (43, .iinc 3 1, 3), (46, .goto (-42), 3), (49, .iload_n 2, 1), (50, .ireturn, 1)])]
set_option maxRecDepth 40000 in
theorem de_X7_rankOf : en_De tb_X7_rankOf cX7_rankOf := by
  unfold en_De
  decide +kernel
def k_X7_rankOf_0 : en_K := (2, ([.inr (.inl 20), .inl (0, 5, 0, 0)], []), [([.inr (.inl 20), .inl (0, 5, 0, 0), .inl ((-2147483648), 2147483647, 0, 0)], [])], [], [20, 33, 34, 35, 36], (0, 0), [])
def u_X7_rankOf_0 : List en_U := [
  (4, ([.inr (.inl 20), .inl (0, 5, 0, 0), .inl (0, 6, 0, 0), .inl ((-2147483648), 2147483647, 0, 0)], []), [(0, 0), (1, 1), (3, 2), (2, 3)], (0, 0), [((-2), 2)], 16)]
def x_X7_rankOf_0 : en_Cx := ((en_KT, en_TY0, en_om0), en_FTX7, en_PTX7, [(255, true, 13, 0, 0, k_X7_sumFrom_0), (272, true, 13, 0, 0, k_X7_isRanked_0)], en_LTX7, en_LLX7, en_TTX7, en_ACX7)
def m_X7_rankOf_0 : en_Mx := (k_X7_rankOf_0, 1, 4, (0, 0), tb_X7_rankOf, [])
set_option maxRecDepth 100000 in
theorem ck_X7_rankOf_0 : en_all x_X7_rankOf_0 m_X7_rankOf_0 u_X7_rankOf_0 27 = true := by decide +kernel
theorem ct_X7_rankOf_0 {l : Launch} (hl : l.stackTraces = false) {cx cy : Int32} : en_Ctr l vwCl en_TY0 (en_Pc cx cy) en_om0 (en_Of cx cy) en_KT yX7_rankOf (Cond.code yX7_rankOf cX7_rankOf 4 (some .int) :: en_cw) (en_rm 1 (0, 0)) 0 k_X7_rankOf_0 :=
  en_main (X := x_X7_rankOf_0) (M := m_X7_rankOf_0) en_Pc_ok en_f32_ok en_f64_ok hl (by decide +kernel) ⟨en_FTX7_ok, en_PTX7_ok, en_ac (⟨yX7_sumFrom, RX7, cX7_sumFrom, 5, (some .int), by decide, ct_X7_sumFrom_0 hl, fun _ => ⟨gc_RX7_255v, by decide, _, rfl, rfl⟩, fun h => Bool.noConfusion h⟩) (en_ac (⟨yX7_isRanked, RX7, cX7_isRanked, 2, (some .boolean), by decide, ct_X7_isRanked_0 hl, fun _ => ⟨gc_RX7_272v, by decide, _, rfl, rfl⟩, fun h => Bool.noConfusion h⟩) en_an), en_LTX7_ok, en_LLX7_ok, en_TTX7_ok hl, ⟨cw256, cw147⟩, en_ACX7_ok⟩ de_X7_rankOf ck_X7_rankOf_0
def tb_X7_cut : en_Tb := [
  (27, [(0, .aload_n 0, 1), (1, .iload_n 1, 1), (2, .iconst 1, 1), (3, .bipush 6, 2), (5, .invokestatic 82, 3), (8, .ifCond .ne 7, 3), (11, .iconst 1, 1), (12, .goto 4, 3), (15, .iconst 0, 1), (16, .iconst 1, 1), (17, .invokevirtual 110, 3), (20, .ifCond .eq 5, 3), (23, .iconst 0, 1), (24, .ireturn, 1), (25, .iconst 0, 1), (26, .istore_n 2, 1)]), 
  (53, [(27, .iconst 0, 1), (28, .istore_n 3, 1), (29, .iload_n 3, 1), (30, .aload_n 0, 1), (31, .getfield 89, 3), (34, .if_icmp .ge 34, 3), (37, .iload_n 2, 1), (38, .aload_n 0, 1), (39, .iload_n 3, 1), (40, .invokevirtual 272, 3), (43, .ifCond .eq 16, 3), (46, .aload_n 0, 1), (47, .iload_n 3, 1), (48, .invokevirtual 275, 3), (51, .iload_n 1, 1), (52, .if_icmp .gt 7, 3)]), 
  (70, [(55, .iconst 1, 1), (56, .goto 4, 3), (59, .iconst 0, 1), (60, .iadd, 1), (61, .istore_n 2, 1), (62, .iinc 3 1, 3), (65, .goto (-36), 3), (68, .iload_n 2, 1), (69, .ireturn, 1)])]
set_option maxRecDepth 40000 in
theorem de_X7_cut : en_De tb_X7_cut cX7_cut := by
  unfold en_De
  decide +kernel
def k_X7_cut_0 : en_K := (2, ([.inr (.inl 20), .inl ((-2147483648), 2147483647, 0, 0)], []), [([.inr (.inl 20), .inl ((-2147483648), 2147483647, 0, 0), .inl ((-2147483648), 2147483647, 0, 0)], [])], [(20, 30)], [20, 33, 34, 35, 36], (0, 0), [])
def u_X7_cut_0 : List en_U := [
  (29, ([.inr (.inl 20), .inl (1, 6, 0, 0), .inl (0, 6, 0, 0), .inl ((-2147483648), 2147483647, 0, 0)], []), [(0, 0), (1, 1), (3, 2), (2, 3)], (0, 0), [((-2), 2)], 16)]
def x_X7_cut_0 : en_Cx := ((en_KT, en_TY0, en_om0), en_FTX7, en_PTX7, [(82, false, 0, 0, 0, k_X7_isIn_32), (110, true, 13, 0, 0, k_X7_isThrown_0), (110, true, 13, 0, 0, k_X7_isThrown_1), (272, true, 13, 0, 0, k_X7_isRanked_0), (275, true, 13, 0, 1, k_X7_rankOf_0)], en_LTX7, en_LLX7, en_TTX7, en_ACX7)
def m_X7_cut_0 : en_Mx := (k_X7_cut_0, 2, 4, (0, 0), tb_X7_cut, [])
set_option maxRecDepth 100000 in
theorem ck_X7_cut_0 : en_all x_X7_cut_0 m_X7_cut_0 u_X7_cut_0 23 = true := by decide +kernel
theorem ct_X7_cut_0 {l : Launch} (hl : l.stackTraces = false) {cx cy : Int32} : en_Ctr l vwCl en_TY0 (en_Pc cx cy) en_om0 (en_Of cx cy) en_KT yX7_cut (Cond.code yX7_cut cX7_cut 4 (some .int) :: en_cw) (en_rm 2 (0, 0)) 0 k_X7_cut_0 :=
  en_main (X := x_X7_cut_0) (M := m_X7_cut_0) en_Pc_ok en_f32_ok en_f64_ok hl (by decide +kernel) ⟨en_FTX7_ok, en_PTX7_ok, en_ac (⟨yX7_isIn, RX7, cX7_isIn, 3, (some .boolean), by decide, ct_X7_isIn_32 hl, fun h => Bool.noConfusion h, fun _ => gc_RX7_82s⟩) (en_ac (⟨yX7_isThrown, RX7, cX7_isThrown, 3, (some .boolean), by decide, ct_X7_isThrown_0 hl, fun _ => ⟨gc_RX7_110v, by decide, _, rfl, rfl⟩, fun h => Bool.noConfusion h⟩) (en_ac (⟨yX7_isThrown, RX7, cX7_isThrown, 3, (some .boolean), by decide, ct_X7_isThrown_1 hl, fun _ => ⟨gc_RX7_110v, by decide, _, rfl, rfl⟩, fun h => Bool.noConfusion h⟩) (en_ac (⟨yX7_isRanked, RX7, cX7_isRanked, 2, (some .boolean), by decide, ct_X7_isRanked_0 hl, fun _ => ⟨gc_RX7_272v, by decide, _, rfl, rfl⟩, fun h => Bool.noConfusion h⟩) (en_ac (⟨yX7_rankOf, RX7, cX7_rankOf, 4, (some .int), by decide, ct_X7_rankOf_0 hl, fun _ => ⟨gc_RX7_275v, by decide, _, rfl, rfl⟩, fun h => Bool.noConfusion h⟩) en_an)))), en_LTX7_ok, en_LLX7_ok, en_TTX7_ok hl, ⟨cw256, cw147⟩, en_ACX7_ok⟩ de_X7_cut ck_X7_cut_0
def k_X7_isIn_33 : en_K := (3, ([.inl ((-2147483648), 2147483647, 0, 0), .inl (1, 1, 0, 0), .inl (6, 6, 0, 0)], [(5, 0, 0, 0, 0, 0)]), [([.inl ((-2147483648), 2147483647, 0, 0), .inl (1, 1, 0, 0), .inl (6, 6, 0, 0), .inl (0, 0, 0, 0)], [(5, 0, 0, 0, 0, 0)]), ([.inl (1, 6, 0, 0), .inl (1, 1, 0, 0), .inl (6, 6, 0, 0), .inl (1, 1, 0, 0)], [(5, 0, 0, 0, 0, 0)])], [], [], (0, 0), [])
def u_X7_isIn_33 : List en_U := []
def x_X7_isIn_33 : en_Cx := ((en_KT, en_TY0, en_om0), en_FTX7, en_PTX7, [], en_LTX7, en_LLX7, en_TTX7, en_ACX7)
def m_X7_isIn_33 : en_Mx := (k_X7_isIn_33, 0, 3, (0, 2), tb_X7_isIn, [])
set_option maxRecDepth 100000 in
theorem ck_X7_isIn_33 : en_all x_X7_isIn_33 m_X7_isIn_33 u_X7_isIn_33 12 = true := by decide +kernel
theorem ct_X7_isIn_33 {l : Launch} (hl : l.stackTraces = false) {cx cy : Int32} : en_Ctr l vwCl en_TY0 (en_Pc cx cy) en_om0 (en_Of cx cy) en_KT yX7_isIn (Cond.code yX7_isIn cX7_isIn 3 (some .boolean) :: en_cw) (en_rm 0 (0, 0)) 0 k_X7_isIn_33 :=
  en_main (X := x_X7_isIn_33) (M := m_X7_isIn_33) en_Pc_ok en_f32_ok en_f64_ok hl (by decide +kernel) ⟨en_FTX7_ok, en_PTX7_ok, en_an, en_LTX7_ok, en_LLX7_ok, en_TTX7_ok hl, ⟨cw256, cw147⟩, en_ACX7_ok⟩ de_X7_isIn ck_X7_isIn_33
def k_X7_isRanked_1 : en_K := (2, ([.inr (.inl 20), .inl (0, 5, 0, 0)], [(5, 0, 0, 0, 0, 0)]), [([.inr (.inl 20), .inl (0, 5, 0, 0), .inl (0, 0, 0, 0)], [(5, 0, 0, 0, 0, 0)]), ([.inr (.inl 20), .inl (0, 5, 0, 0), .inl (1, 1, 0, 0)], [(5, 0, 0, 0, 0, 0)])], [], [20, 35, 36], (0, 0), [])
def u_X7_isRanked_1 : List en_U := []
def x_X7_isRanked_1 : en_Cx := ((en_KT, en_TY0, en_om0), en_FTX7, en_PTX7, [], en_LTX7, en_LLX7, en_TTX7, en_ACX7)
def m_X7_isRanked_1 : en_Mx := (k_X7_isRanked_1, 0, 2, (0, 2), tb_X7_isRanked, [])
set_option maxRecDepth 100000 in
theorem ck_X7_isRanked_1 : en_all x_X7_isRanked_1 m_X7_isRanked_1 u_X7_isRanked_1 16 = true := by decide +kernel
theorem ct_X7_isRanked_1 {l : Launch} (hl : l.stackTraces = false) {cx cy : Int32} : en_Ctr l vwCl en_TY0 (en_Pc cx cy) en_om0 (en_Of cx cy) en_KT yX7_isRanked (Cond.code yX7_isRanked cX7_isRanked 2 (some .boolean) :: en_cw) (en_rm 0 (0, 0)) 0 k_X7_isRanked_1 :=
  en_main (X := x_X7_isRanked_1) (M := m_X7_isRanked_1) en_Pc_ok en_f32_ok en_f64_ok hl (by decide +kernel) ⟨en_FTX7_ok, en_PTX7_ok, en_an, en_LTX7_ok, en_LLX7_ok, en_TTX7_ok hl, ⟨cw256, cw147⟩, en_ACX7_ok⟩ de_X7_isRanked ck_X7_isRanked_1
def k_X7_sumFrom_1 : en_K := (3, ([.inr (.inl 20), .inl (0, 5, 0, 0), .inl (0, 9, 0, 0), .inl (1, 9, 0, 0)], [(0, 0, 16, 3, 0, 0), (5, 0, 0, 0, 0, 0)]), [([.inr (.inl 20), .inl (0, 5, 0, 0), .inl (0, 9, 0, 0), .inl ((-2147483648), 2147483647, 0, 0)], [(5, 0, 0, 0, 0, 0)])], [], [20, 33, 34], (0, 0), [])
def u_X7_sumFrom_1 : List en_U := [
  (5, ([.inr (.inl 20), .inl (0, 5, 0, 0), .inl (0, 9, 0, 0), .inl (0, 9, 0, 0), .inl ((-2147483648), 2147483647, 0, 0), .inl (1, 9, 0, 0)], [(0, 0, 16, 5, 0, 0), (5, 0, 0, 0, 0, 0)]), [(0, 0), (1, 1), (2, 2), (4, 3), (3, 4)], (0, 0), [((-2), 3)], 22)]
def x_X7_sumFrom_1 : en_Cx := ((en_KT, en_TY0, en_om0), en_FTX7, en_PTX7, [], en_LTX7, en_LLX7, en_TTX7, en_ACX7)
def m_X7_sumFrom_1 : en_Mx := (k_X7_sumFrom_1, 0, 5, (0, 0), tb_X7_sumFrom, [])
set_option maxRecDepth 100000 in
theorem ck_X7_sumFrom_1 : en_all x_X7_sumFrom_1 m_X7_sumFrom_1 u_X7_sumFrom_1 18 = true := by decide +kernel
theorem ct_X7_sumFrom_1 {l : Launch} (hl : l.stackTraces = false) {cx cy : Int32} : en_Ctr l vwCl en_TY0 (en_Pc cx cy) en_om0 (en_Of cx cy) en_KT yX7_sumFrom (Cond.code yX7_sumFrom cX7_sumFrom 5 (some .int) :: en_cw) (en_rm 0 (0, 0)) 0 k_X7_sumFrom_1 :=
  en_main (X := x_X7_sumFrom_1) (M := m_X7_sumFrom_1) en_Pc_ok en_f32_ok en_f64_ok hl (by decide +kernel) ⟨en_FTX7_ok, en_PTX7_ok, en_an, en_LTX7_ok, en_LLX7_ok, en_TTX7_ok hl, ⟨cw256, cw147⟩, en_ACX7_ok⟩ de_X7_sumFrom ck_X7_sumFrom_1
def k_X7_rankOf_1 : en_K := (2, ([.inr (.inl 20), .inl (0, 5, 0, 0), .inl (1, 9, 0, 0)], [(0, 0, 16, 2, 0, 0), (5, 0, 0, 0, 0, 0)]), [([.inr (.inl 20), .inl (0, 5, 0, 0), .inl ((-2147483648), 2147483647, 0, 0)], [(5, 0, 0, 0, 0, 0)])], [], [20, 33, 34, 35, 36], (0, 0), [])
def u_X7_rankOf_1 : List en_U := [
  (4, ([.inr (.inl 20), .inl (0, 5, 0, 0), .inl (0, 6, 0, 0), .inl ((-2147483648), 2147483647, 0, 0), .inl (1, 9, 0, 0)], [(0, 0, 16, 4, 0, 0), (5, 0, 0, 0, 0, 0)]), [(0, 0), (1, 1), (3, 2), (2, 3)], (0, 0), [((-2), 2)], 16)]
def x_X7_rankOf_1 : en_Cx := ((en_KT, en_TY0, en_om0), en_FTX7, en_PTX7, [(255, true, 13, 0, 0, k_X7_sumFrom_1), (272, true, 13, 0, 0, k_X7_isRanked_1)], en_LTX7, en_LLX7, en_TTX7, en_ACX7)
def m_X7_rankOf_1 : en_Mx := (k_X7_rankOf_1, 1, 4, (0, 0), tb_X7_rankOf, [])
set_option maxRecDepth 100000 in
theorem ck_X7_rankOf_1 : en_all x_X7_rankOf_1 m_X7_rankOf_1 u_X7_rankOf_1 27 = true := by decide +kernel
theorem ct_X7_rankOf_1 {l : Launch} (hl : l.stackTraces = false) {cx cy : Int32} : en_Ctr l vwCl en_TY0 (en_Pc cx cy) en_om0 (en_Of cx cy) en_KT yX7_rankOf (Cond.code yX7_rankOf cX7_rankOf 4 (some .int) :: en_cw) (en_rm 1 (0, 0)) 0 k_X7_rankOf_1 :=
  en_main (X := x_X7_rankOf_1) (M := m_X7_rankOf_1) en_Pc_ok en_f32_ok en_f64_ok hl (by decide +kernel) ⟨en_FTX7_ok, en_PTX7_ok, en_ac (⟨yX7_sumFrom, RX7, cX7_sumFrom, 5, (some .int), by decide, ct_X7_sumFrom_1 hl, fun _ => ⟨gc_RX7_255v, by decide, _, rfl, rfl⟩, fun h => Bool.noConfusion h⟩) (en_ac (⟨yX7_isRanked, RX7, cX7_isRanked, 2, (some .boolean), by decide, ct_X7_isRanked_1 hl, fun _ => ⟨gc_RX7_272v, by decide, _, rfl, rfl⟩, fun h => Bool.noConfusion h⟩) en_an), en_LTX7_ok, en_LLX7_ok, en_TTX7_ok hl, ⟨cw256, cw147⟩, en_ACX7_ok⟩ de_X7_rankOf ck_X7_rankOf_1
def k_X7_cut_1 : en_K := (2, ([.inr (.inl 20), .inl ((-2147483648), 2147483647, 0, 0), .inl (1, 9, 0, 0)], [(0, 0, 16, 2, 0, 0), (5, 0, 0, 0, 0, 0)]), [([.inr (.inl 20), .inl ((-2147483648), 2147483647, 0, 0), .inl ((-2147483648), 2147483647, 0, 0)], [(5, 0, 0, 0, 0, 0)])], [(20, 30)], [20, 33, 34, 35, 36], (0, 0), [])
def u_X7_cut_1 : List en_U := [
  (29, ([.inr (.inl 20), .inl (1, 6, 0, 0), .inl (0, 6, 0, 0), .inl ((-2147483648), 2147483647, 0, 0), .inl (1, 9, 0, 0)], [(0, 0, 16, 4, 0, 0), (5, 0, 0, 0, 0, 0)]), [(0, 0), (1, 1), (3, 2), (2, 3)], (0, 0), [((-2), 2)], 16)]
def x_X7_cut_1 : en_Cx := ((en_KT, en_TY0, en_om0), en_FTX7, en_PTX7, [(82, false, 0, 0, 0, k_X7_isIn_33), (110, true, 13, 0, 0, k_X7_isThrown_3), (110, true, 13, 0, 0, k_X7_isThrown_4), (272, true, 13, 0, 0, k_X7_isRanked_1), (275, true, 13, 0, 1, k_X7_rankOf_1)], en_LTX7, en_LLX7, en_TTX7, en_ACX7)
def m_X7_cut_1 : en_Mx := (k_X7_cut_1, 2, 4, (0, 0), tb_X7_cut, [])
set_option maxRecDepth 100000 in
theorem ck_X7_cut_1 : en_all x_X7_cut_1 m_X7_cut_1 u_X7_cut_1 23 = true := by decide +kernel
theorem ct_X7_cut_1 {l : Launch} (hl : l.stackTraces = false) {cx cy : Int32} : en_Ctr l vwCl en_TY0 (en_Pc cx cy) en_om0 (en_Of cx cy) en_KT yX7_cut (Cond.code yX7_cut cX7_cut 4 (some .int) :: en_cw) (en_rm 2 (0, 0)) 0 k_X7_cut_1 :=
  en_main (X := x_X7_cut_1) (M := m_X7_cut_1) en_Pc_ok en_f32_ok en_f64_ok hl (by decide +kernel) ⟨en_FTX7_ok, en_PTX7_ok, en_ac (⟨yX7_isIn, RX7, cX7_isIn, 3, (some .boolean), by decide, ct_X7_isIn_33 hl, fun h => Bool.noConfusion h, fun _ => gc_RX7_82s⟩) (en_ac (⟨yX7_isThrown, RX7, cX7_isThrown, 3, (some .boolean), by decide, ct_X7_isThrown_3 hl, fun _ => ⟨gc_RX7_110v, by decide, _, rfl, rfl⟩, fun h => Bool.noConfusion h⟩) (en_ac (⟨yX7_isThrown, RX7, cX7_isThrown, 3, (some .boolean), by decide, ct_X7_isThrown_4 hl, fun _ => ⟨gc_RX7_110v, by decide, _, rfl, rfl⟩, fun h => Bool.noConfusion h⟩) (en_ac (⟨yX7_isRanked, RX7, cX7_isRanked, 2, (some .boolean), by decide, ct_X7_isRanked_1 hl, fun _ => ⟨gc_RX7_272v, by decide, _, rfl, rfl⟩, fun h => Bool.noConfusion h⟩) (en_ac (⟨yX7_rankOf, RX7, cX7_rankOf, 4, (some .int), by decide, ct_X7_rankOf_1 hl, fun _ => ⟨gc_RX7_275v, by decide, _, rfl, rfl⟩, fun h => Bool.noConfusion h⟩) en_an)))), en_LTX7_ok, en_LLX7_ok, en_TTX7_ok hl, ⟨cw256, cw147⟩, en_ACX7_ok⟩ de_X7_cut ck_X7_cut_1
def tb_X7_edition : en_Tb := [
  (29, [(0, .aload_n 0, 1), (1, .iload_n 1, 1), (2, .bipush 110, 2), (4, .if_icmp .eq 13, 3), (7, .iload_n 1, 1), (8, .bipush 111, 2), (10, .if_icmp .eq 7, 3), (13, .iconst 1, 1), (14, .goto 4, 3), (17, .iconst 0, 1), (18, .iconst 1, 1), (19, .invokevirtual 110, 3), (22, .ifCond .eq 6, 3), (25, .bipush 32, 2), (27, .ireturn, 1), (28, .aload_n 0, 1)]), 
  (40, [(29, .getfield 71, 3), (32, .istore_n 2, 1), (33, .aload_n 0, 1), (34, .iload_n 1, 1), (35, .putfield 71, 3), (38, .iload_n 2, 1), (39, .ireturn, 1)])]
set_option maxRecDepth 40000 in
theorem de_X7_edition : en_De tb_X7_edition cX7_edition := by
  unfold en_De
  decide +kernel
def k_X7_edition_0 : en_K := (2, ([.inr (.inl 20), .inl (0, 65535, 0, 0)], []), [([.inr (.inl 20), .inl (0, 65535, 0, 0), .inl (0, 65535, 0, 0)], [])], [(20, 19), (20, 30)], [20], (0, 0), [])
def u_X7_edition_0 : List en_U := []
def x_X7_edition_0 : en_Cx := ((en_KT, en_TY0, en_om0), en_FTX7, en_PTX7, [(110, true, 13, 0, 0, k_X7_isThrown_0), (110, true, 13, 0, 0, k_X7_isThrown_1)], en_LTX7, en_LLX7, en_TTX7, en_ACX7)
def m_X7_edition_0 : en_Mx := (k_X7_edition_0, 1, 3, (0, 1), tb_X7_edition, [])
set_option maxRecDepth 100000 in
theorem ck_X7_edition_0 : en_all x_X7_edition_0 m_X7_edition_0 u_X7_edition_0 22 = true := by decide +kernel
theorem ct_X7_edition_0 {l : Launch} (hl : l.stackTraces = false) {cx cy : Int32} : en_Ctr l vwCl en_TY0 (en_Pc cx cy) en_om0 (en_Of cx cy) en_KT yX7_edition (Cond.code yX7_edition cX7_edition 3 (some .char) :: en_cw) (en_rm 1 (0, 0)) 0 k_X7_edition_0 :=
  en_main (X := x_X7_edition_0) (M := m_X7_edition_0) en_Pc_ok en_f32_ok en_f64_ok hl (by decide +kernel) ⟨en_FTX7_ok, en_PTX7_ok, en_ac (⟨yX7_isThrown, RX7, cX7_isThrown, 3, (some .boolean), by decide, ct_X7_isThrown_0 hl, fun _ => ⟨gc_RX7_110v, by decide, _, rfl, rfl⟩, fun h => Bool.noConfusion h⟩) (en_ac (⟨yX7_isThrown, RX7, cX7_isThrown, 3, (some .boolean), by decide, ct_X7_isThrown_1 hl, fun _ => ⟨gc_RX7_110v, by decide, _, rfl, rfl⟩, fun h => Bool.noConfusion h⟩) en_an), en_LTX7_ok, en_LLX7_ok, en_TTX7_ok hl, ⟨cw256, cw147⟩, en_ACX7_ok⟩ de_X7_edition ck_X7_edition_0
def k_X7_edition_1 : en_K := (2, ([.inr (.inl 20), .inl (0, 65535, 0, 0)], [(5, 0, 0, 0, 0, 0)]), [([.inr (.inl 20), .inl (0, 65535, 0, 0), .inl (0, 65535, 0, 0)], [(5, 0, 0, 0, 0, 0)])], [(20, 19), (20, 30)], [20], (0, 0), [])
def u_X7_edition_1 : List en_U := []
def x_X7_edition_1 : en_Cx := ((en_KT, en_TY0, en_om0), en_FTX7, en_PTX7, [(110, true, 13, 0, 0, k_X7_isThrown_3), (110, true, 13, 0, 0, k_X7_isThrown_4)], en_LTX7, en_LLX7, en_TTX7, en_ACX7)
def m_X7_edition_1 : en_Mx := (k_X7_edition_1, 1, 3, (0, 1), tb_X7_edition, [])
set_option maxRecDepth 100000 in
theorem ck_X7_edition_1 : en_all x_X7_edition_1 m_X7_edition_1 u_X7_edition_1 22 = true := by decide +kernel
theorem ct_X7_edition_1 {l : Launch} (hl : l.stackTraces = false) {cx cy : Int32} : en_Ctr l vwCl en_TY0 (en_Pc cx cy) en_om0 (en_Of cx cy) en_KT yX7_edition (Cond.code yX7_edition cX7_edition 3 (some .char) :: en_cw) (en_rm 1 (0, 0)) 0 k_X7_edition_1 :=
  en_main (X := x_X7_edition_1) (M := m_X7_edition_1) en_Pc_ok en_f32_ok en_f64_ok hl (by decide +kernel) ⟨en_FTX7_ok, en_PTX7_ok, en_ac (⟨yX7_isThrown, RX7, cX7_isThrown, 3, (some .boolean), by decide, ct_X7_isThrown_3 hl, fun _ => ⟨gc_RX7_110v, by decide, _, rfl, rfl⟩, fun h => Bool.noConfusion h⟩) (en_ac (⟨yX7_isThrown, RX7, cX7_isThrown, 3, (some .boolean), by decide, ct_X7_isThrown_4 hl, fun _ => ⟨gc_RX7_110v, by decide, _, rfl, rfl⟩, fun h => Bool.noConfusion h⟩) en_an), en_LTX7_ok, en_LLX7_ok, en_TTX7_ok hl, ⟨cw256, cw147⟩, en_ACX7_ok⟩ de_X7_edition ck_X7_edition_1
def tb_X7_free : en_Tb := [
  (30, [(0, .aload_n 0, 1), (1, .aload_n 0, 1), (2, .iload_n 1, 1), (3, .invokevirtual 132, 3), (6, .ifCond .ne 11, 3), (9, .iload_n 2, 1), (10, .iload_n 3, 1), (11, .invokestatic 106, 3), (14, .ifCond .ne 7, 3), (17, .iconst 1, 1), (18, .goto 4, 3), (21, .iconst 0, 1), (22, .iconst 1, 1), (23, .invokevirtual 110, 3), (26, .ifCond .ne 49, 3), (29, .aload_n 0, 1)]), 
  (58, [(30, .aload_n 0, 1), (31, .getfield 135, 3), (34, .ifCond .ne 7, 3), (37, .iconst 1, 1), (38, .goto 4, 3), (41, .iconst 0, 1), (42, .iconst 2, 1), (43, .invokevirtual 110, 3), (46, .ifCond .ne 29, 3), (49, .aload_n 0, 1), (50, .aload_n 0, 1), (51, .aload_n 0, 1), (52, .getfield 23, 3), (55, .iload_n 1, 1), (56, .aaload, 1), (57, .invokevirtual 230, 3)]), 
  (88, [(60, .ifCond .ne 7, 3), (63, .iconst 1, 1), (64, .goto 4, 3), (67, .iconst 0, 1), (68, .iconst 3, 1), (69, .invokevirtual 110, 3), (72, .ifCond .eq 6, 3), (75, .bipush 32, 2), (77, .ireturn, 1), (78, .aload_n 0, 1), (79, .getfield 23, 3), (82, .iload_n 1, 1), (83, .aaload, 1), (84, .astore 4, 2), (86, .aload_n 0, 1), (87, .aload 4, 2)]), 
  (117, [(89, .invokevirtual 233, 3), (92, .istore 5, 2), (94, .aload_n 0, 1), (95, .aload_n 0, 1), (96, .iload_n 2, 1), (97, .iload_n 3, 1), (98, .invokevirtual 175, 3), (101, .bipush 46, 2), (103, .if_icmp .ne 12, 3), (106, .aload_n 0, 1), (107, .iload_n 2, 1), (108, .iload_n 3, 1), (109, .invokevirtual 187, 3), (112, .ifCond .eq 7, 3), (115, .iconst 1, 1), (116, .goto 4, 3)]), 
  (149, [(119, .iconst 0, 1), (120, .iconst 3, 1), (121, .invokevirtual 110, 3), (124, .ifCond .ne 21, 3), (127, .aload_n 0, 1), (128, .iload 5, 2), (130, .ifCond .ge 7, 3), (133, .iconst 1, 1), (134, .goto 4, 3), (137, .iconst 0, 1), (138, .iconst 4, 1), (139, .invokevirtual 110, 3), (142, .ifCond .eq 6, 3), (145, .bipush 32, 2), (147, .ireturn, 1), (148, .iload 5, 2)]), 
  (177, [(150, .bipush 30, 2), (152, .irem, 1), (153, .istore 6, 2), (155, .iload 5, 2), (157, .bipush 30, 2), (159, .idiv, 1), (160, .istore 7, 2), (162, .aload_n 0, 1), (163, .iload_n 2, 1), (164, .iload_n 3, 1), (165, .iload 6, 2), (167, .iload 7, 2), (169, .invokestatic 102, 3), (172, .iconst 1, 1), (173, .if_icmp .gt 20, 3), (176, .aload_n 0, 1)]), 
  (208, [(177, .iload_n 2, 1), (178, .iload_n 3, 1), (179, .invokevirtual 166, 3), (182, .aload_n 0, 1), (183, .iload 6, 2), (185, .iload 7, 2), (187, .invokevirtual 166, 3), (190, .if_icmp .ge 7, 3), (193, .iconst 1, 1), (194, .goto 4, 3), (197, .iconst 0, 1), (198, .iconst 3, 1), (199, .invokevirtual 110, 3), (202, .ifCond .eq 6, 3), (205, .bipush 32, 2), (207, .ireturn, 1)]), 
  (232, [(208, .aload_n 0, 1), (209, .aload 4, 2), (211, .iconst 1, 1), (212, .iaload, 1), (213, .aload 4, 2), (215, .iconst 2, 1), (216, .iaload, 1), (217, .invokevirtual 175, 3), (220, .istore 8, 2), (222, .aload_n 0, 1), (223, .aload 4, 2), (225, .iload_n 2, 1), (226, .iload_n 3, 1), (227, .iconst 0, 1), (228, .invokevirtual 226, 3), (231, .istore 9, 2)]), 
  (246, [(233, .iload 9, 2), (235, .ifCond .ge 8, 3), (238, .bipush 32, 2), (240, .goto 5, 3), (243, .iload 8, 2), (245, .ireturn, 1)])]
set_option maxRecDepth 40000 in
theorem de_X7_free : en_De tb_X7_free cX7_free := by
  unfold en_De
  decide +kernel
def k_X7_free_0 : en_K := (4, ([.inr (.inl 20), .inl ((-2147483648), 2147483647, 0, 0), .inl ((-2147483648), 2147483647, 0, 0), .inl ((-2147483648), 2147483647, 0, 0), .inl (0, 0, 0, 0)], [(0, 0, 22, 4, 0, 0)]), [([.inr (.inl 20), .inl ((-2147483648), 2147483647, 0, 0), .inl ((-2147483648), 2147483647, 0, 0), .inl ((-2147483648), 2147483647, 0, 0), .inl (32, 32, 0, 0)], [])], [(20, 30)], [20], (0, 0), [])
def u_X7_free_0 : List en_U := []
def x_X7_free_0 : en_Cx := ((en_KT, en_TY0, en_om0), en_FTX7, en_PTX7, [(106, false, 0, 0, 1, k_X7_isCell_0), (110, true, 13, 0, 0, k_X7_isThrown_0), (110, true, 13, 0, 0, k_X7_isThrown_1), (110, true, 13, 0, 0, k_X7_isThrown_2), (132, true, 13, 0, 1, k_X7_isNoPlayer_0)], en_LTX7, en_LLX7, en_TTX7, en_ACX7)
def m_X7_free_0 : en_Mx := (k_X7_free_0, 2, 10, (0, 1), tb_X7_free, [])
set_option maxRecDepth 100000 in
theorem ck_X7_free_0 : en_all x_X7_free_0 m_X7_free_0 u_X7_free_0 27 = true := by decide +kernel
theorem ct_X7_free_0 {l : Launch} (hl : l.stackTraces = false) {cx cy : Int32} : en_Ctr l vwCl en_TY0 (en_Pc cx cy) en_om0 (en_Of cx cy) en_KT yX7_free (Cond.code yX7_free cX7_free 10 (some .char) :: en_cw) (en_rm 2 (0, 0)) 0 k_X7_free_0 :=
  en_main (X := x_X7_free_0) (M := m_X7_free_0) en_Pc_ok en_f32_ok en_f64_ok hl (by decide +kernel) ⟨en_FTX7_ok, en_PTX7_ok, en_ac (⟨yX7_isCell, RX7, cX7_isCell, 2, (some .boolean), by decide, ct_X7_isCell_0 hl, fun h => Bool.noConfusion h, fun _ => gc_RX7_106s⟩) (en_ac (⟨yX7_isThrown, RX7, cX7_isThrown, 3, (some .boolean), by decide, ct_X7_isThrown_0 hl, fun _ => ⟨gc_RX7_110v, by decide, _, rfl, rfl⟩, fun h => Bool.noConfusion h⟩) (en_ac (⟨yX7_isThrown, RX7, cX7_isThrown, 3, (some .boolean), by decide, ct_X7_isThrown_1 hl, fun _ => ⟨gc_RX7_110v, by decide, _, rfl, rfl⟩, fun h => Bool.noConfusion h⟩) (en_ac (⟨yX7_isThrown, RX7, cX7_isThrown, 3, (some .boolean), by decide, ct_X7_isThrown_2 hl, fun _ => ⟨gc_RX7_110v, by decide, _, rfl, rfl⟩, fun h => Bool.noConfusion h⟩) (en_ac (⟨yX7_isNoPlayer, RX7, cX7_isNoPlayer, 2, (some .boolean), by decide, ct_X7_isNoPlayer_0 hl, fun _ => ⟨gc_RX7_132v, by decide, _, rfl, rfl⟩, fun h => Bool.noConfusion h⟩) en_an)))), en_LTX7_ok, en_LLX7_ok, en_TTX7_ok hl, ⟨cw256, cw147⟩, en_ACX7_ok⟩ de_X7_free ck_X7_free_0
def tb_X7_isOnGround : en_Tb := [
  (25, [(0, .aload_n 0, 1), (1, .aload_n 1, 1), (2, .invokevirtual 214, 3), (5, .ifCond .eq 37, 3), (8, .aload_n 0, 1), (9, .aload_n 1, 1), (10, .iconst 1, 1), (11, .iaload, 1), (12, .aload_n 1, 1), (13, .iconst 2, 1), (14, .iaload, 1), (15, .invokevirtual 175, 3), (18, .bipush 119, 2), (20, .if_icmp .eq 18, 3), (23, .aload_n 0, 1), (24, .aload_n 1, 1)]), 
  (44, [(25, .iconst 1, 1), (26, .iaload, 1), (27, .aload_n 1, 1), (28, .iconst 2, 1), (29, .iaload, 1), (30, .invokevirtual 175, 3), (33, .bipush 112, 2), (35, .if_icmp .ne 7, 3), (38, .iconst 1, 1), (39, .goto 4, 3), (42, .iconst 0, 1), (43, .ireturn, 1)])]
set_option maxRecDepth 40000 in
theorem de_X7_isOnGround : en_De tb_X7_isOnGround cX7_isOnGround := by
  unfold en_De
  decide +kernel
def k_X7_isOnGround_0 : en_K := (2, ([.inr (.inl 20), .inr (.inl 27), .inl (0, 8, 0, 0)], [(0, 0, 25, 2, 0, 0), (5, 0, 0, 0, 0, 0)]), [([.inr (.inl 20), .inr (.inl 27), .inl (0, 0, 0, 0), .inl (0, 65535, 0, 0), .inl ((-2147483648), 2147483647, 0, 0), .inl (0, 110, 0, 0), .inl ((-2147483648), 2147483647, 0, 0), .inl ((-2147483648), 2147483647, 0, 0), .inl (0, 1, 0, 0), .inl (0, 29, 0, 0), .inl (0, 19, 0, 0), .inl (0, 1, 0, 0), .inl (0, 29, 0, 0), .inl (0, 19, 0, 0), .inl (0, 29, 0, 0), .inl ((-2147483648), 2147483647, 0, 0), .inl (0, 19, 0, 0), .inl (0, 29, 0, 0), .inl (0, 19, 0, 0), .inl (0, 1, 0, 0)], [(1, 1, 0, 3, 0, 0), (1, 1, 1, 4, 0, 0), (1, 1, 10, 5, 0, 0), (1, 1, 11, 6, 0, 0), (1, 1, 12, 7, 0, 0), (1, 1, 13, 8, 0, 0), (1, 1, 14, 9, 0, 0), (1, 1, 15, 10, 0, 0), (1, 1, 16, 11, 0, 0), (1, 1, 17, 12, 0, 0), (1, 1, 18, 13, 0, 0), (1, 1, 19, 14, 0, 0), (1, 1, 2, 15, 0, 0), (1, 1, 20, 16, 0, 0), (1, 1, 4, 17, 0, 0), (1, 1, 5, 18, 0, 0), (1, 1, 9, 19, 0, 0), (3, 3, 4, 15, 108, 110), (3, 3, 17, 18, 108, 108), (3, 3, 17, 18, 115, 115), (3, 19, 17, 18, 1, 1), (3, 5, 6, 7, 108, 110), (3, 8, 17, 18, 1, 1), (3, 8, 9, 10, 1, 1), (3, 11, 12, 13, 1, 1), (3, 11, 14, 16, 1, 1), (5, 0, 0, 0, 0, 0), (10, 3, 4, 15, 115, 115)]), ([.inr (.inl 20), .inr (.inl 27), .inl (1, 1, 0, 0), .inl (108, 108, 0, 0), .inl (0, 29, 0, 0), .inl (0, 110, 0, 0), .inl ((-2147483648), 2147483647, 0, 0), .inl ((-2147483648), 2147483647, 0, 0), .inl (0, 0, 0, 0), .inl (0, 29, 0, 0), .inl (0, 19, 0, 0), .inl (0, 1, 0, 0), .inl (0, 29, 0, 0), .inl (0, 19, 0, 0), .inl (0, 29, 0, 0), .inl (0, 19, 0, 0), .inl (0, 19, 0, 0), .inl (0, 0, 0, 0), .inl (0, 29, 0, 0), .inl (0, 19, 0, 0), .inl (0, 1, 0, 0)], [(1, 1, 0, 3, 0, 0), (1, 1, 1, 4, 0, 0), (1, 1, 10, 5, 0, 0), (1, 1, 11, 6, 0, 0), (1, 1, 12, 7, 0, 0), (1, 1, 13, 8, 0, 0), (1, 1, 14, 9, 0, 0), (1, 1, 15, 10, 0, 0), (1, 1, 16, 11, 0, 0), (1, 1, 17, 12, 0, 0), (1, 1, 18, 13, 0, 0), (1, 1, 19, 14, 0, 0), (1, 1, 2, 15, 0, 0), (1, 1, 20, 16, 0, 0), (1, 1, 3, 17, 0, 0), (1, 1, 4, 18, 0, 0), (1, 1, 5, 19, 0, 0), (1, 1, 9, 20, 0, 0), (2, 4, 15, 0, 0, 0), (2, 18, 19, 0, 0, 0), (3, 3, 4, 15, 108, 110), (3, 3, 18, 19, 108, 108), (3, 3, 18, 19, 115, 115), (3, 20, 18, 19, 1, 1), (3, 5, 6, 7, 108, 110), (3, 8, 18, 19, 1, 1), (3, 8, 9, 10, 1, 1), (3, 11, 12, 13, 1, 1), (3, 11, 14, 16, 1, 1), (5, 0, 0, 0, 0, 0), (10, 3, 4, 15, 115, 115)])], [], [20, 23, 24, 27], (0, 0), [])
def u_X7_isOnGround_0 : List en_U := []
def x_X7_isOnGround_0 : en_Cx := ((en_KT, en_TY0, en_om0), en_FTX7, en_PTX7, [(175, true, 13, 0, 0, k_X7_kind_0), (214, true, 13, 0, 0, k_X7_isFree_0)], en_LTX7, en_LLX7, en_TTX7, en_ACX7)
def m_X7_isOnGround_0 : en_Mx := (k_X7_isOnGround_0, 1, 2, (0, 2), tb_X7_isOnGround, [])
set_option maxRecDepth 100000 in
theorem ck_X7_isOnGround_0 : en_all x_X7_isOnGround_0 m_X7_isOnGround_0 u_X7_isOnGround_0 30 = true := by decide +kernel
theorem ct_X7_isOnGround_0 {l : Launch} (hl : l.stackTraces = false) {cx cy : Int32} : en_Ctr l vwCl en_TY0 (en_Pc cx cy) en_om0 (en_Of cx cy) en_KT yX7_isOnGround (Cond.code yX7_isOnGround cX7_isOnGround 2 (some .boolean) :: en_cw) (en_rm 1 (0, 0)) 0 k_X7_isOnGround_0 :=
  en_main (X := x_X7_isOnGround_0) (M := m_X7_isOnGround_0) en_Pc_ok en_f32_ok en_f64_ok hl (by decide +kernel) ⟨en_FTX7_ok, en_PTX7_ok, en_ac (⟨yX7_kind, RX7, cX7_kind, 3, (some .char), by decide, ct_X7_kind_0 hl, fun _ => ⟨gc_RX7_175v, by decide, _, rfl, rfl⟩, fun h => Bool.noConfusion h⟩) (en_ac (⟨yX7_isFree, RX7, cX7_isFree, 2, (some .boolean), by decide, ct_X7_isFree_0 hl, fun _ => ⟨gc_RX7_214v, by decide, _, rfl, rfl⟩, fun h => Bool.noConfusion h⟩) en_an), en_LTX7_ok, en_LLX7_ok, en_TTX7_ok hl, ⟨cw256, cw147⟩, en_ACX7_ok⟩ de_X7_isOnGround ck_X7_isOnGround_0
