def k_X7_isIn_32 : en_K := (3, ([.inl ((-2147483648), 2147483647, 0, 0), .inl (1, 1, 0, 0), .inl (6, 6, 0, 0)], []), [([.inl ((-2147483648), 2147483647, 0, 0), .inl (1, 1, 0, 0), .inl (6, 6, 0, 0), .inl (0, 0, 0, 0)], []), ([.inl (1, 6, 0, 0), .inl (1, 1, 0, 0), .inl (6, 6, 0, 0), .inl (1, 1, 0, 0)], [])], [], [], (0, 0), [])
def u_X7_isIn_32 : List en_U := []
def x_X7_isIn_32 : en_Cx := ((en_KT, en_TY0, en_om0), en_FTX7, en_PTX7, [], en_LTX7, en_LLX7, en_TTX7, en_ACX7)
def m_X7_isIn_32 : en_Mx := (k_X7_isIn_32, 0, 3, (0, 2), tb_X7_isIn, [])
set_option maxRecDepth 100000 in
theorem ck_X7_isIn_32 : en_all x_X7_isIn_32 m_X7_isIn_32 u_X7_isIn_32 12 = true := by decide +kernel
theorem ct_X7_isIn_32 {l : Launch} (hl : l.stackTraces = false) {cx cy : Int32} : en_Ctr l vwCl en_TY0 (en_Pc cx cy) en_om0 (en_Of cx cy) en_KT yX7_isIn (Cond.code yX7_isIn cX7_isIn 3 (some .boolean) :: en_cw) (en_rm 0 (0, 0)) 0 k_X7_isIn_32 :=
  en_main (X := x_X7_isIn_32) (M := m_X7_isIn_32) en_Pc_ok en_f32_ok en_f64_ok hl (by decide +kernel) ⟨en_FTX7_ok, en_PTX7_ok, en_an, en_LTX7_ok, en_LLX7_ok, en_TTX7_ok hl, ⟨cw256, cw147⟩, en_ACX7_ok⟩ de_X7_isIn ck_X7_isIn_32
def tb_X7_isRanked : en_Tb := [
  (24, [(0, .aload_n 0, 1), (1, .getfield 38, 3), (4, .iload_n 1, 1), (5, .baload, 1), (6, .ifCond .eq 16, 3), (9, .aload_n 0, 1), (10, .getfield 42, 3), (13, .iload_n 1, 1), (14, .baload, 1), (15, .ifCond .ne 7, 3), (18, .iconst 1, 1), (19, .goto 4, 3), (22, .iconst 0, 1), (23, .ireturn, 1)])]
set_option maxRecDepth 40000 in
theorem de_X7_isRanked : en_De tb_X7_isRanked cX7_isRanked := by
  unfold en_De
  decide +kernel
def k_X7_isRanked_0 : en_K := (2, ([.inr (.inl 20), .inl (0, 5, 0, 0)], []), [([.inr (.inl 20), .inl (0, 5, 0, 0), .inl (0, 0, 0, 0)], []), ([.inr (.inl 20), .inl (0, 5, 0, 0), .inl (1, 1, 0, 0)], [])], [], [20, 35, 36], (0, 0), [])
def u_X7_isRanked_0 : List en_U := []
def x_X7_isRanked_0 : en_Cx := ((en_KT, en_TY0, en_om0), en_FTX7, en_PTX7, [], en_LTX7, en_LLX7, en_TTX7, en_ACX7)
def m_X7_isRanked_0 : en_Mx := (k_X7_isRanked_0, 0, 2, (0, 2), tb_X7_isRanked, [])
set_option maxRecDepth 100000 in
theorem ck_X7_isRanked_0 : en_all x_X7_isRanked_0 m_X7_isRanked_0 u_X7_isRanked_0 16 = true := by decide +kernel
theorem ct_X7_isRanked_0 {l : Launch} (hl : l.stackTraces = false) {cx cy : Int32} : en_Ctr l vwCl en_TY0 (en_Pc cx cy) en_om0 (en_Of cx cy) en_KT yX7_isRanked (Cond.code yX7_isRanked cX7_isRanked 2 (some .boolean) :: en_cw) (en_rm 0 (0, 0)) 0 k_X7_isRanked_0 :=
  en_main (X := x_X7_isRanked_0) (M := m_X7_isRanked_0) en_Pc_ok en_f32_ok en_f64_ok hl (by decide +kernel) ⟨en_FTX7_ok, en_PTX7_ok, en_an, en_LTX7_ok, en_LLX7_ok, en_TTX7_ok hl, ⟨cw256, cw147⟩, en_ACX7_ok⟩ de_X7_isRanked ck_X7_isRanked_0
def tb_X7_sumFrom : en_Tb := [
  (25, [(0, .iconst 0, 1), (1, .istore_n 3, 1), (2, .iload_n 2, 1), (3, .istore 4, 2), (5, .iload 4, 2), (7, .aload_n 0, 1), (8, .getfield 86, 3), (11, .if_icmp .ge 21, 3), (14, .iload_n 3, 1), (15, .aload_n 0, 1), (16, .getfield 35, 3), (19, .iload_n 1, 1), (20, .aaload, 1), (21, .iload 4, 2), (23, .iaload, 1), (24, .iadd, 1)]), 
  (34, [(25, .istore_n 3, 1), (26, .iinc 4 1, 3), (29, .goto (-24), 3), (32, .iload_n 3, 1), (33, .ireturn, 1)])]
set_option maxRecDepth 40000 in
theorem de_X7_sumFrom : en_De tb_X7_sumFrom cX7_sumFrom := by
  unfold en_De
  decide +kernel
def k_X7_sumFrom_0 : en_K := (3, ([.inr (.inl 20), .inl (0, 5, 0, 0), .inl (0, 9, 0, 0)], []), [([.inr (.inl 20), .inl (0, 5, 0, 0), .inl (0, 9, 0, 0), .inl ((-2147483648), 2147483647, 0, 0)], [])], [], [20, 33, 34], (0, 0), [])
def u_X7_sumFrom_0 : List en_U := [
  (5, ([.inr (.inl 20), .inl (0, 5, 0, 0), .inl (0, 9, 0, 0), .inl (0, 9, 0, 0), .inl ((-2147483648), 2147483647, 0, 0)], []), [(0, 0), (1, 1), (2, 2), (4, 3), (3, 4)], (0, 0), [((-2), 3)], 22)]
def x_X7_sumFrom_0 : en_Cx := ((en_KT, en_TY0, en_om0), en_FTX7, en_PTX7, [], en_LTX7, en_LLX7, en_TTX7, en_ACX7)
def m_X7_sumFrom_0 : en_Mx := (k_X7_sumFrom_0, 0, 5, (0, 0), tb_X7_sumFrom, [])
set_option maxRecDepth 100000 in
theorem ck_X7_sumFrom_0 : en_all x_X7_sumFrom_0 m_X7_sumFrom_0 u_X7_sumFrom_0 18 = true := by decide +kernel
theorem ct_X7_sumFrom_0 {l : Launch} (hl : l.stackTraces = false) {cx cy : Int32} : en_Ctr l vwCl en_TY0 (en_Pc cx cy) en_om0 (en_Of cx cy) en_KT yX7_sumFrom (Cond.code yX7_sumFrom cX7_sumFrom 5 (some .int) :: en_cw) (en_rm 0 (0, 0)) 0 k_X7_sumFrom_0 :=
  en_main (X := x_X7_sumFrom_0) (M := m_X7_sumFrom_0) en_Pc_ok en_f32_ok en_f64_ok hl (by decide +kernel) ⟨en_FTX7_ok, en_PTX7_ok, en_an, en_LTX7_ok, en_LLX7_ok, en_TTX7_ok hl, ⟨cw256, cw147⟩, en_ACX7_ok⟩ de_X7_sumFrom ck_X7_sumFrom_0
def tb_X7_rankOf : en_Tb := [
  (24, [(0, .iconst 1, 1), (1, .istore_n 2, 1), (2, .iconst 0, 1), (3, .istore_n 3, 1), (4, .iload_n 3, 1), (5, .aload_n 0, 1), (6, .getfield 89, 3), (9, .if_icmp .ge 40, 3), (12, .iload_n 2, 1), (13, .aload_n 0, 1), (14, .iload_n 3, 1), (15, .invokevirtual 272, 3), (18, .ifCond .eq 22, 3), (21, .aload_n 0, 1), (22, .iload_n 3, 1), (23, .iconst 0, 1)]), 
  (51, [(24, .invokevirtual 255, 3), (27, .aload_n 0, 1), (28, .iload_n 1, 1), (29, .iconst 0, 1), (30, .invokevirtual 255, 3), (33, .if_icmp .ge 7, 3), (36, .iconst 1, 1), (37, .goto 4, 3), (40, .iconst 0, 1), (41, .iadd, 1), (42, .istore_n 2, 1), (43, .iinc 3 1, 3), (46, .goto (-42), 3), (49, .iload_n 2, 1), (50, .ireturn, 1)])]
set_option maxRecDepth 40000 in
theorem de_X7_rankOf : en_De tb_X7_rankOf cX7_rankOf := by
  unfold en_De
  decide +kernel
def k_X7_rankOf_0 : en_K := (2, ([.inr (.inl 20), .inl (0, 5, 0, 0)], []), [([.inr (.inl 20), .inl (0, 5, 0, 0), .inl ((-2147483648), 2147483647, 0, 0)], [])], [], [20, 33, 34, 35, 36], (0, 0), [])
def u_X7_rankOf_0 : List en_U := [
  (4, ([.inr (.inl 20), .inl (0, 5, 0, 0), .inl (0, 6, 0, 0), .inl ((-2147483648), 2147483647, 0, 0)], []), [(0, 0), (1, 1), (3, 2), (2, 3)], (0, 0), [((-2), 2)], 16)]
def x_X7_rankOf_0 : en_Cx := ((en_KT, en_TY0, en_om0), en_FTX7, en_PTX7, [(255, true, 13, 0, 0, k_X7_sumFrom_0), (272, true, 13, 0, 0, k_X7_isRanked_0)], en_LTX7, en_LLX7, en_TTX7, en_ACX7)
def m_X7_rankOf_0 : en_Mx := (k_X7_rankOf_0, 1, 4, (0, 0), tb_X7_rankOf, [])
set_option maxRecDepth 100000 in
theorem ck_X7_rankOf_0 : en_all x_X7_rankOf_0 m_X7_rankOf_0 u_X7_rankOf_0 27 = true := by decide +kernel
theorem ct_X7_rankOf_0 {l : Launch} (hl : l.stackTraces = false) {cx cy : Int32} : en_Ctr l vwCl en_TY0 (en_Pc cx cy) en_om0 (en_Of cx cy) en_KT yX7_rankOf (Cond.code yX7_rankOf cX7_rankOf 4 (some .int) :: en_cw) (en_rm 1 (0, 0)) 0 k_X7_rankOf_0 :=
  en_main (X := x_X7_rankOf_0) (M := m_X7_rankOf_0) en_Pc_ok en_f32_ok en_f64_ok hl (by decide +kernel) ⟨en_FTX7_ok, en_PTX7_ok, en_ac (⟨yX7_sumFrom, RX7, cX7_sumFrom, 5, (some .int), by decide, ct_X7_sumFrom_0 hl, fun _ => ⟨gc_RX7_255v, by decide, _, rfl, rfl⟩, fun h => Bool.noConfusion h⟩) (en_ac (⟨yX7_isRanked, RX7, cX7_isRanked, 2, (some .boolean), by decide, ct_X7_isRanked_0 hl, fun _ => ⟨gc_RX7_272v, by decide, _, rfl, rfl⟩, fun h => Bool.noConfusion h⟩) en_an), en_LTX7_ok, en_LLX7_ok, en_TTX7_ok hl, ⟨cw256, cw147⟩, en_ACX7_ok⟩ de_X7_rankOf ck_X7_rankOf_0
def tb_X7_cut : en_Tb := [
  (27, [(0, .aload_n 0, 1), (1, .iload_n 1, 1), (2, .iconst 1, 1), (3, .bipush 6, 2), (5, .invokestatic 82, 3), (8, .ifCond .ne 7, 3), (11, .iconst 1, 1), (12, .goto 4, 3), (15, .iconst 0, 1), (16, .iconst 1, 1), (17, .invokevirtual 110, 3), (20, .ifCond .eq 5, 3), (23, .iconst 0, 1), (24, .ireturn, 1), (25, .iconst 0, 1), (26, .istore_n 2, 1)]), 
  (53, [(27, .iconst 0, 1), (28, .istore_n 3, 1), (29, .iload_n 3, 1), (30, .aload_n 0, 1), (31, .getfield 89, 3), (34, .if_icmp .ge 34, 3), (37, .iload_n 2, 1), (38, .aload_n 0, 1), (39, .iload_n 3, 1), (40, .invokevirtual 272, 3), (43, .ifCond .eq 16, 3), (46, .aload_n 0, 1), (47, .iload_n 3, 1), (48, .invokevirtual 275, 3), (51, .iload_n 1, 1), (52, .if_icmp .gt 7, 3)]), 
  (70, [(55, .iconst 1, 1), (56, .goto 4, 3), (59, .iconst 0, 1), (60, .iadd, 1), (61, .istore_n 2, 1), (62, .iinc 3 1, 3), (65, .goto (-36), 3), (68, .iload_n 2, 1), (69, .ireturn, 1)])]
set_option maxRecDepth 40000 in
theorem de_X7_cut : en_De tb_X7_cut cX7_cut := by
  unfold en_De
  decide +kernel
def k_X7_cut_0 : en_K := (2, ([.inr (.inl 20), .inl ((-2147483648), 2147483647, 0, 0)], []), [([.inr (.inl 20), .inl ((-2147483648), 2147483647, 0, 0), .inl ((-2147483648), 2147483647, 0, 0)], [])], [(20, 30)], [20, 33, 34, 35, 36], (0, 0), [])
def u_X7_cut_0 : List en_U := [
  (29, ([.inr (.inl 20), .inl (1, 6, 0, 0), .inl (0, 6, 0, 0), .inl ((-2147483648), 2147483647, 0, 0)], []), [(0, 0), (1, 1), (3, 2), (2, 3)], (0, 0), [((-2), 2)], 16)]
def x_X7_cut_0 : en_Cx := ((en_KT, en_TY0, en_om0), en_FTX7, en_PTX7, [(82, false, 0, 0, 0, k_X7_isIn_32), (110, true, 13, 0, 0, k_X7_isThrown_0), (110, true, 13, 0, 0, k_X7_isThrown_1), (272, true, 13, 0, 0, k_X7_isRanked_0), (275, true, 13, 0, 1, k_X7_rankOf_0)], en_LTX7, en_LLX7, en_TTX7, en_ACX7)
def m_X7_cut_0 : en_Mx := (k_X7_cut_0, 2, 4, (0, 0), tb_X7_cut, [])
set_option maxRecDepth 100000 in
theorem ck_X7_cut_0 : en_all x_X7_cut_0 m_X7_cut_0 u_X7_cut_0 23 = true := by decide +kernel
theorem ct_X7_cut_0 {l : Launch} (hl : l.stackTraces = false) {cx cy : Int32} : en_Ctr l vwCl en_TY0 (en_Pc cx cy) en_om0 (en_Of cx cy) en_KT yX7_cut (Cond.code yX7_cut cX7_cut 4 (some .int) :: en_cw) (en_rm 2 (0, 0)) 0 k_X7_cut_0 :=
  en_main (X := x_X7_cut_0) (M := m_X7_cut_0) en_Pc_ok en_f32_ok en_f64_ok hl (by decide +kernel) ⟨en_FTX7_ok, en_PTX7_ok, en_ac (⟨yX7_isIn, RX7, cX7_isIn, 3, (some .boolean), by decide, ct_X7_isIn_32 hl, fun h => Bool.noConfusion h, fun _ => gc_RX7_82s⟩) (en_ac (⟨yX7_isThrown, RX7, cX7_isThrown, 3, (some .boolean), by decide, ct_X7_isThrown_0 hl, fun _ => ⟨gc_RX7_110v, by decide, _, rfl, rfl⟩, fun h => Bool.noConfusion h⟩) (en_ac (⟨yX7_isThrown, RX7, cX7_isThrown, 3, (some .boolean), by decide, ct_X7_isThrown_1 hl, fun _ => ⟨gc_RX7_110v, by decide, _, rfl, rfl⟩, fun h => Bool.noConfusion h⟩) (en_ac (⟨yX7_isRanked, RX7, cX7_isRanked, 2, (some .boolean), by decide, ct_X7_isRanked_0 hl, fun _ => ⟨gc_RX7_272v, by decide, _, rfl, rfl⟩, fun h => Bool.noConfusion h⟩) (en_ac (⟨yX7_rankOf, RX7, cX7_rankOf, 4, (some .int), by decide, ct_X7_rankOf_0 hl, fun _ => ⟨gc_RX7_275v, by decide, _, rfl, rfl⟩, fun h => Bool.noConfusion h⟩) en_an)))), en_LTX7_ok, en_LLX7_ok, en_TTX7_ok hl, ⟨cw256, cw147⟩, en_ACX7_ok⟩ de_X7_cut ck_X7_cut_0
def k_X7_isIn_33 : en_K := (3, ([.inl ((-2147483648), 2147483647, 0, 0), .inl (1, 1, 0, 0), .inl (6, 6, 0, 0)], [(5, 0, 0, 0, 0, 0)]), [([.inl ((-2147483648), 2147483647, 0, 0), .inl (1, 1, 0, 0), .inl (6, 6, 0, 0), .inl (0, 0, 0, 0)], [(5, 0, 0, 0, 0, 0)]), ([.inl (1, 6, 0, 0), .inl (1, 1, 0, 0), .inl (6, 6, 0, 0), .inl (1, 1, 0, 0)], [(5, 0, 0, 0, 0, 0)])], [], [], (0, 0), [])
def u_X7_isIn_33 : List en_U := []
def x_X7_isIn_33 : en_Cx := ((en_KT, en_TY0, en_om0), en_FTX7, en_PTX7, [], en_LTX7, en_LLX7, en_TTX7, en_ACX7)
def m_X7_isIn_33 : en_Mx := (k_X7_isIn_33, 0, 3, (0, 2), tb_X7_isIn, [])
set_option maxRecDepth 100000 in
theorem ck_X7_isIn_33 : en_all x_X7_isIn_33 m_X7_isIn_33 u_X7_isIn_33 12 = true := by decide +kernel
theorem ct_X7_isIn_33 {l : Launch} (hl : l.stackTraces = false) {cx cy : Int32} : en_Ctr l vwCl en_TY0 (en_Pc cx cy) en_om0 (en_Of cx cy) en_KT yX7_isIn (Cond.code yX7_isIn cX7_isIn 3 (some .boolean) :: en_cw) (en_rm 0 (0, 0)) 0 k_X7_isIn_33 :=
  en_main (X := x_X7_isIn_33) (M := m_X7_isIn_33) en_Pc_ok en_f32_ok en_f64_ok hl (by decide +kernel) ⟨en_FTX7_ok, en_PTX7_ok, en_an, en_LTX7_ok, en_LLX7_ok, en_TTX7_ok hl, ⟨cw256, cw147⟩, en_ACX7_ok⟩ de_X7_isIn ck_X7_isIn_33
def k_X7_isRanked_1 : en_K := (2, ([.inr (.inl 20), .inl (0, 5, 0, 0)], [(5, 0, 0, 0, 0, 0)]), [([.inr (.inl 20), .inl (0, 5, 0, 0), .inl (0, 0, 0, 0)], [(5, 0, 0, 0, 0, 0)]), ([.inr (.inl 20), .inl (0, 5, 0, 0), .inl (1, 1, 0, 0)], [(5, 0, 0, 0, 0, 0)])], [], [20, 35, 36], (0, 0), [])
def u_X7_isRanked_1 : List en_U := []
def x_X7_isRanked_1 : en_Cx := ((en_KT, en_TY0, en_om0), en_FTX7, en_PTX7, [], en_LTX7, en_LLX7, en_TTX7, en_ACX7)
def m_X7_isRanked_1 : en_Mx := (k_X7_isRanked_1, 0, 2, (0, 2), tb_X7_isRanked, [])
set_option maxRecDepth 100000 in
theorem ck_X7_isRanked_1 : en_all x_X7_isRanked_1 m_X7_isRanked_1 u_X7_isRanked_1 16 = true := by decide +kernel
theorem ct_X7_isRanked_1 {l : Launch} (hl : l.stackTraces = false) {cx cy : Int32} : en_Ctr l vwCl en_TY0 (en_Pc cx cy) en_om0 (en_Of cx cy) en_KT yX7_isRanked (Cond.code yX7_isRanked cX7_isRanked 2 (some .boolean) :: en_cw) (en_rm 0 (0, 0)) 0 k_X7_isRanked_1 :=
  en_main (X := x_X7_isRanked_1) (M := m_X7_isRanked_1) en_Pc_ok en_f32_ok en_f64_ok hl (by decide +kernel) ⟨en_FTX7_ok, en_PTX7_ok, en_an, en_LTX7_ok, en_LLX7_ok, en_TTX7_ok hl, ⟨cw256, cw147⟩, en_ACX7_ok⟩ de_X7_isRanked ck_X7_isRanked_1
def k_X7_sumFrom_1 : en_K := (3, ([.inr (.inl 20), .inl (0, 5, 0, 0), .inl (0, 9, 0, 0), .inl (1, 9, 0, 0)], [(0, 0, 16, 3, 0, 0), (5, 0, 0, 0, 0, 0)]), [([.inr (.inl 20), .inl (0, 5, 0, 0), .inl (0, 9, 0, 0), .inl ((-2147483648), 2147483647, 0, 0)], [(5, 0, 0, 0, 0, 0)])], [], [20, 33, 34], (0, 0), [])
def u_X7_sumFrom_1 : List en_U := [
  (5, ([.inr (.inl 20), .inl (0, 5, 0, 0), .inl (0, 9, 0, 0), .inl (0, 9, 0, 0), .inl ((-2147483648), 2147483647, 0, 0), .inl (1, 9, 0, 0)], [(0, 0, 16, 5, 0, 0), (5, 0, 0, 0, 0, 0)]), [(0, 0), (1, 1), (2, 2), (4, 3), (3, 4)], (0, 0), [((-2), 3)], 22)]
def x_X7_sumFrom_1 : en_Cx := ((en_KT, en_TY0, en_om0), en_FTX7, en_PTX7, [], en_LTX7, en_LLX7, en_TTX7, en_ACX7)
def m_X7_sumFrom_1 : en_Mx := (k_X7_sumFrom_1, 0, 5, (0, 0), tb_X7_sumFrom, [])
set_option maxRecDepth 100000 in
theorem ck_X7_sumFrom_1 : en_all x_X7_sumFrom_1 m_X7_sumFrom_1 u_X7_sumFrom_1 18 = true := by decide +kernel
theorem ct_X7_sumFrom_1 {l : Launch} (hl : l.stackTraces = false) {cx cy : Int32} : en_Ctr l vwCl en_TY0 (en_Pc cx cy) en_om0 (en_Of cx cy) en_KT yX7_sumFrom (Cond.code yX7_sumFrom cX7_sumFrom 5 (some .int) :: en_cw) (en_rm 0 (0, 0)) 0 k_X7_sumFrom_1 :=
  en_main (X := x_X7_sumFrom_1) (M := m_X7_sumFrom_1) en_Pc_ok en_f32_ok en_f64_ok hl (by decide +kernel) ⟨en_FTX7_ok, en_PTX7_ok, en_an, en_LTX7_ok, en_LLX7_ok, en_TTX7_ok hl, ⟨cw256, cw147⟩, en_ACX7_ok⟩ de_X7_sumFrom ck_X7_sumFrom_1
def k_X7_rankOf_1 : en_K := (2, ([.inr (.inl 20), .inl (0, 5, 0, 0), .inl (1, 9, 0, 0)], [(0, 0, 16, 2, 0, 0), (5, 0, 0, 0, 0, 0)]), [([.inr (.inl 20), .inl (0, 5, 0, 0), .inl ((-2147483648), 2147483647, 0, 0)], [(5, 0, 0, 0, 0, 0)])], [], [20, 33, 34, 35, 36], (0, 0), [])
def u_X7_rankOf_1 : List en_U := [
  (4, ([.inr (.inl 20), .inl (0, 5, 0, 0), .inl (0, 6, 0, 0), .inl ((-2147483648), 2147483647, 0, 0), .inl (1, 9, 0, 0)], [(0, 0, 16, 4, 0, 0), (5, 0, 0, 0, 0, 0)]), [(0, 0), (1, 1), (3, 2), (2, 3)], (0, 0), [((-2), 2)], 16)]
def x_X7_rankOf_1 : en_Cx := ((en_KT, en_TY0, en_om0), en_FTX7, en_PTX7, [(255, true, 13, 0, 0, k_X7_sumFrom_1), (272, true, 13, 0, 0, k_X7_isRanked_1)], en_LTX7, en_LLX7, en_TTX7, en_ACX7)
def m_X7_rankOf_1 : en_Mx := (k_X7_rankOf_1, 1, 4, (0, 0), tb_X7_rankOf, [])
set_option maxRecDepth 100000 in
theorem ck_X7_rankOf_1 : en_all x_X7_rankOf_1 m_X7_rankOf_1 u_X7_rankOf_1 27 = true := by decide +kernel
theorem ct_X7_rankOf_1 {l : Launch} (hl : l.stackTraces = false) {cx cy : Int32} : en_Ctr l vwCl en_TY0 (en_Pc cx cy) en_om0 (en_Of cx cy) en_KT yX7_rankOf (Cond.code yX7_rankOf cX7_rankOf 4 (some .int) :: en_cw) (en_rm 1 (0, 0)) 0 k_X7_rankOf_1 :=
  en_main (X := x_X7_rankOf_1) (M := m_X7_rankOf_1) en_Pc_ok en_f32_ok en_f64_ok hl (by decide +kernel) ⟨en_FTX7_ok, en_PTX7_ok, en_ac (⟨yX7_sumFrom, RX7, cX7_sumFrom, 5, (some .int), by decide, ct_X7_sumFrom_1 hl, fun _ => ⟨gc_RX7_255v, by decide, _, rfl, rfl⟩, fun h => Bool.noConfusion h⟩) (en_ac (⟨yX7_isRanked, RX7, cX7_isRanked, 2, (some .boolean), by decide, ct_X7_isRanked_1 hl, fun _ => ⟨gc_RX7_272v, by decide, _, rfl, rfl⟩, fun h => Bool.noConfusion h⟩) en_an), en_LTX7_ok, en_LLX7_ok, en_TTX7_ok hl, ⟨cw256, cw147⟩, en_ACX7_ok⟩ de_X7_rankOf ck_X7_rankOf_1
def k_X7_cut_1 : en_K := (2, ([.inr (.inl 20), .inl ((-2147483648), 2147483647, 0, 0), .inl (1, 9, 0, 0)], [(0, 0, 16, 2, 0, 0), (5, 0, 0, 0, 0, 0)]), [([.inr (.inl 20), .inl ((-2147483648), 2147483647, 0, 0), .inl ((-2147483648), 2147483647, 0, 0)], [(5, 0, 0, 0, 0, 0)])], [(20, 30)], [20, 33, 34, 35, 36], (0, 0), [])
def u_X7_cut_1 : List en_U := [
  (29, ([.inr (.inl 20), .inl (1, 6, 0, 0), .inl (0, 6, 0, 0), .inl ((-2147483648), 2147483647, 0, 0), .inl (1, 9, 0, 0)], [(0, 0, 16, 4, 0, 0), (5, 0, 0, 0, 0, 0)]), [(0, 0), (1, 1), (3, 2), (2, 3)], (0, 0), [((-2), 2)], 16)]
def x_X7_cut_1 : en_Cx := ((en_KT, en_TY0, en_om0), en_FTX7, en_PTX7, [(82, false, 0, 0, 0, k_X7_isIn_33), (110, true, 13, 0, 0, k_X7_isThrown_3), (110, true, 13, 0, 0, k_X7_isThrown_4), (272, true, 13, 0, 0, k_X7_isRanked_1), (275, true, 13, 0, 1, k_X7_rankOf_1)], en_LTX7, en_LLX7, en_TTX7, en_ACX7)
def m_X7_cut_1 : en_Mx := (k_X7_cut_1, 2, 4, (0, 0), tb_X7_cut, [])
set_option maxRecDepth 100000 in
theorem ck_X7_cut_1 : en_all x_X7_cut_1 m_X7_cut_1 u_X7_cut_1 23 = true := by decide +kernel
theorem ct_X7_cut_1 {l : Launch} (hl : l.stackTraces = false) {cx cy : Int32} : en_Ctr l vwCl en_TY0 (en_Pc cx cy) en_om0 (en_Of cx cy) en_KT yX7_cut (Cond.code yX7_cut cX7_cut 4 (some .int) :: en_cw) (en_rm 2 (0, 0)) 0 k_X7_cut_1 :=
  en_main (X := x_X7_cut_1) (M := m_X7_cut_1) en_Pc_ok en_f32_ok en_f64_ok hl (by decide +kernel) ⟨en_FTX7_ok, en_PTX7_ok, en_ac (⟨yX7_isIn, RX7, cX7_isIn, 3, (some .boolean), by decide, ct_X7_isIn_33 hl, fun h => Bool.noConfusion h, fun _ => gc_RX7_82s⟩) (en_ac (⟨yX7_isThrown, RX7, cX7_isThrown, 3, (some .boolean), by decide, ct_X7_isThrown_3 hl, fun _ => ⟨gc_RX7_110v, by decide, _, rfl, rfl⟩, fun h => Bool.noConfusion h⟩) (en_ac (⟨yX7_isThrown, RX7, cX7_isThrown, 3, (some .boolean), by decide, ct_X7_isThrown_4 hl, fun _ => ⟨gc_RX7_110v, by decide, _, rfl, rfl⟩, fun h => Bool.noConfusion h⟩) (en_ac (⟨yX7_isRanked, RX7, cX7_isRanked, 2, (some .boolean), by decide, ct_X7_isRanked_1 hl, fun _ => ⟨gc_RX7_272v, by decide, _, rfl, rfl⟩, fun h => Bool.noConfusion h⟩) (en_ac (⟨yX7_rankOf, RX7, cX7_rankOf, 4, (some .int), by decide, ct_X7_rankOf_1 hl, fun _ => ⟨gc_RX7_275v, by decide, _, rfl, rfl⟩, fun h => Bool.noConfusion h⟩) en_an)))), en_LTX7_ok, en_LLX7_ok, en_TTX7_ok hl, ⟨cw256, cw147⟩, en_ACX7_ok⟩ de_X7_cut ck_X7_cut_1
def k_X7_isThrown_18 : en_K := (3, ([.inr (.inl 20), .inl (0, 0, 0, 0), .inl (1, 1, 0, 0)], []), [([.inr (.inl 20), .inl (0, 0, 0, 0), .inl (1, 1, 0, 0), .inl (0, 0, 0, 0), .inl (0, 0, 0, 0)], [(0, 0, 30, 4, 0, 0)])], [(20, 30)], [20], (0, 0), [])
def u_X7_isThrown_18 : List en_U := []
def x_X7_isThrown_18 : en_Cx := ((en_KT, en_TY0, en_om0), en_FTX7, en_PTX7, [], en_LTX7, en_LLX7, en_TTX7, en_ACX7)
def m_X7_isThrown_18 : en_Mx := (k_X7_isThrown_18, 0, 3, (0, 2), tb_X7_isThrown, [])
set_option maxRecDepth 100000 in
theorem ck_X7_isThrown_18 : en_all x_X7_isThrown_18 m_X7_isThrown_18 u_X7_isThrown_18 10 = true := by decide +kernel
theorem ct_X7_isThrown_18 {l : Launch} (hl : l.stackTraces = false) {cx cy : Int32} : en_Ctr l vwCl en_TY0 (en_Pc cx cy) en_om0 (en_Of cx cy) en_KT yX7_isThrown (Cond.code yX7_isThrown cX7_isThrown 3 (some .boolean) :: en_cw) (en_rm 0 (0, 0)) 0 k_X7_isThrown_18 :=
  en_main (X := x_X7_isThrown_18) (M := m_X7_isThrown_18) en_Pc_ok en_f32_ok en_f64_ok hl (by decide +kernel) ⟨en_FTX7_ok, en_PTX7_ok, en_an, en_LTX7_ok, en_LLX7_ok, en_TTX7_ok hl, ⟨cw256, cw147⟩, en_ACX7_ok⟩ de_X7_isThrown ck_X7_isThrown_18
def tb_X7_edition : en_Tb := [
  (29, [(0, .aload_n 0, 1), (1, .iload_n 1, 1), (2, .bipush 110, 2), (4, .if_icmp .eq 13, 3), (7, .iload_n 1, 1), (8, .bipush 111, 2), (10, .if_icmp .eq 7, 3), (13, .iconst 1, 1), (14, .goto 4, 3), (17, .iconst 0, 1), (18, .iconst 1, 1), (19, .invokevirtual 110, 3), (22, .ifCond .eq 6, 3), (25, .bipush 32, 2), (27, .ireturn, 1), (28, .aload_n 0, 1)]), 
  (40, [(29, .getfield 71, 3), (32, .istore_n 2, 1), (33, .aload_n 0, 1), (34, .iload_n 1, 1), (35, .putfield 71, 3), (38, .iload_n 2, 1), (39, .ireturn, 1)])]
set_option maxRecDepth 40000 in
theorem de_X7_edition : en_De tb_X7_edition cX7_edition := by
  unfold en_De
  decide +kernel
def k_X7_edition_0 : en_K := (2, ([.inr (.inl 20), .inl (110, 110, 0, 0), .inl (110, 110, 0, 0)], [(0, 0, 19, 2, 0, 0)]), [([.inr (.inl 20), .inl (110, 110, 0, 0), .inl (110, 110, 0, 0), .inl (0, 0, 0, 0)], [(0, 0, 19, 1, 0, 0), (0, 0, 30, 3, 0, 0)])], [(20, 19), (20, 30)], [20], (0, 0), [])
def u_X7_edition_0 : List en_U := []
def x_X7_edition_0 : en_Cx := ((en_KT, en_TY0, en_om0), en_FTX7, en_PTX7, [(110, true, 13, 0, 0, k_X7_isThrown_18)], en_LTX7, en_LLX7, en_TTX7, en_ACX7)
def m_X7_edition_0 : en_Mx := (k_X7_edition_0, 1, 3, (0, 1), tb_X7_edition, [])
set_option maxRecDepth 100000 in
theorem ck_X7_edition_0 : en_all x_X7_edition_0 m_X7_edition_0 u_X7_edition_0 19 = true := by decide +kernel
theorem ct_X7_edition_0 {l : Launch} (hl : l.stackTraces = false) {cx cy : Int32} : en_Ctr l vwCl en_TY0 (en_Pc cx cy) en_om0 (en_Of cx cy) en_KT yX7_edition (Cond.code yX7_edition cX7_edition 3 (some .char) :: en_cw) (en_rm 1 (0, 0)) 0 k_X7_edition_0 :=
  en_main (X := x_X7_edition_0) (M := m_X7_edition_0) en_Pc_ok en_f32_ok en_f64_ok hl (by decide +kernel) ⟨en_FTX7_ok, en_PTX7_ok, en_ac (⟨yX7_isThrown, RX7, cX7_isThrown, 3, (some .boolean), by decide, ct_X7_isThrown_18 hl, fun _ => ⟨gc_RX7_110v, by decide, _, rfl, rfl⟩, fun h => Bool.noConfusion h⟩) en_an, en_LTX7_ok, en_LLX7_ok, en_TTX7_ok hl, ⟨cw256, cw147⟩, en_ACX7_ok⟩ de_X7_edition ck_X7_edition_0
def k_X7_edition_1 : en_K := (2, ([.inr (.inl 20), .inl (110, 110, 0, 0), .inl (111, 111, 0, 0)], [(0, 0, 19, 2, 0, 0)]), [([.inr (.inl 20), .inl (110, 110, 0, 0), .inl (111, 111, 0, 0), .inl (0, 0, 0, 0)], [(0, 0, 19, 1, 0, 0), (0, 0, 30, 3, 0, 0)])], [(20, 19), (20, 30)], [20], (0, 0), [])
def u_X7_edition_1 : List en_U := []
def x_X7_edition_1 : en_Cx := ((en_KT, en_TY0, en_om0), en_FTX7, en_PTX7, [(110, true, 13, 0, 0, k_X7_isThrown_18)], en_LTX7, en_LLX7, en_TTX7, en_ACX7)
def m_X7_edition_1 : en_Mx := (k_X7_edition_1, 1, 3, (0, 1), tb_X7_edition, [])
set_option maxRecDepth 100000 in
theorem ck_X7_edition_1 : en_all x_X7_edition_1 m_X7_edition_1 u_X7_edition_1 19 = true := by decide +kernel
theorem ct_X7_edition_1 {l : Launch} (hl : l.stackTraces = false) {cx cy : Int32} : en_Ctr l vwCl en_TY0 (en_Pc cx cy) en_om0 (en_Of cx cy) en_KT yX7_edition (Cond.code yX7_edition cX7_edition 3 (some .char) :: en_cw) (en_rm 1 (0, 0)) 0 k_X7_edition_1 :=
  en_main (X := x_X7_edition_1) (M := m_X7_edition_1) en_Pc_ok en_f32_ok en_f64_ok hl (by decide +kernel) ⟨en_FTX7_ok, en_PTX7_ok, en_ac (⟨yX7_isThrown, RX7, cX7_isThrown, 3, (some .boolean), by decide, ct_X7_isThrown_18 hl, fun _ => ⟨gc_RX7_110v, by decide, _, rfl, rfl⟩, fun h => Bool.noConfusion h⟩) en_an, en_LTX7_ok, en_LLX7_ok, en_TTX7_ok hl, ⟨cw256, cw147⟩, en_ACX7_ok⟩ de_X7_edition ck_X7_edition_1
def k_X7_edition_2 : en_K := (2, ([.inr (.inl 20), .inl (111, 111, 0, 0), .inl (110, 110, 0, 0)], [(0, 0, 19, 2, 0, 0)]), [([.inr (.inl 20), .inl (111, 111, 0, 0), .inl (110, 110, 0, 0), .inl (0, 0, 0, 0)], [(0, 0, 19, 1, 0, 0), (0, 0, 30, 3, 0, 0)])], [(20, 19), (20, 30)], [20], (0, 0), [])
def u_X7_edition_2 : List en_U := []
def x_X7_edition_2 : en_Cx := ((en_KT, en_TY0, en_om0), en_FTX7, en_PTX7, [(110, true, 13, 0, 0, k_X7_isThrown_18)], en_LTX7, en_LLX7, en_TTX7, en_ACX7)
def m_X7_edition_2 : en_Mx := (k_X7_edition_2, 1, 3, (0, 1), tb_X7_edition, [])
set_option maxRecDepth 100000 in
theorem ck_X7_edition_2 : en_all x_X7_edition_2 m_X7_edition_2 u_X7_edition_2 22 = true := by decide +kernel
theorem ct_X7_edition_2 {l : Launch} (hl : l.stackTraces = false) {cx cy : Int32} : en_Ctr l vwCl en_TY0 (en_Pc cx cy) en_om0 (en_Of cx cy) en_KT yX7_edition (Cond.code yX7_edition cX7_edition 3 (some .char) :: en_cw) (en_rm 1 (0, 0)) 0 k_X7_edition_2 :=
  en_main (X := x_X7_edition_2) (M := m_X7_edition_2) en_Pc_ok en_f32_ok en_f64_ok hl (by decide +kernel) ⟨en_FTX7_ok, en_PTX7_ok, en_ac (⟨yX7_isThrown, RX7, cX7_isThrown, 3, (some .boolean), by decide, ct_X7_isThrown_18 hl, fun _ => ⟨gc_RX7_110v, by decide, _, rfl, rfl⟩, fun h => Bool.noConfusion h⟩) en_an, en_LTX7_ok, en_LLX7_ok, en_TTX7_ok hl, ⟨cw256, cw147⟩, en_ACX7_ok⟩ de_X7_edition ck_X7_edition_2
