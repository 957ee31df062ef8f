def tb_X0_cellForOrder : en_Tb := [
  (19, [(0, .aload_n 0, 1), (1, .invokevirtual 62, 3), (4, .ifCond .eq 10, 3), (7, .aload_n 0, 1), (8, .getfield 15, 3), (11, .goto 7, 3), (14, .aload_n 0, 1), (15, .getfield 23, 3), (18, .ireturn, 1)])]
set_option maxRecDepth 40000 in
theorem de_X0_cellForOrder : en_De tb_X0_cellForOrder cX0_cellForOrder := by
  unfold en_De
  decide +kernel
def k_X0_cellForOrder_0 : en_K := (1, ([.inr (.inl 8)], []), [([.inr (.inl 8), .inl ((-2147483648), 2147483647, 0, 0)], [])], [], [8], (0, 0), [])
def u_X0_cellForOrder_0 : List en_U := []
def x_X0_cellForOrder_0 : en_Cx := ((en_KT, en_TY0, en_om0), en_FTX0, en_PTX0, [(62, true, 6, 0, 0, k_X0_isPlayable_0)], en_LTX0, en_LLX0, en_TTX0, en_ACX0)
def m_X0_cellForOrder_0 : en_Mx := (k_X0_cellForOrder_0, 1, 1, (0, 0), tb_X0_cellForOrder, [])
set_option maxRecDepth 100000 in
theorem ck_X0_cellForOrder_0 : en_all x_X0_cellForOrder_0 m_X0_cellForOrder_0 u_X0_cellForOrder_0 10 = true := by decide +kernel
theorem ct_X0_cellForOrder_0 {l : Launch} (hl : l.stackTraces = false) {PP : Int32 → Int32 → Prop} (hPP : en_P0 PP) (Ω : Nat → en_H → va_W → Prop) : en_Ctr l vwCl en_TY0 PP en_om0 Ω en_KT yX0_cellForOrder (Cond.code yX0_cellForOrder cX0_cellForOrder 1 (some .int) :: en_cw) (en_rm 1 (0, 0)) 0 k_X0_cellForOrder_0 :=
  en_main (X := x_X0_cellForOrder_0) (M := m_X0_cellForOrder_0) hPP en_f32_ok en_f64_ok hl (by decide +kernel) ⟨en_FTX0_ok, en_PTX0_ok, en_ac (⟨yX0_isPlayable, RX0, cX0_isPlayable, 1, (some .boolean), by decide, ct_X0_isPlayable_0 hl hPP Ω, fun _ => ⟨gc_RX0_62v, by decide, _, rfl, rfl⟩, fun h => Bool.noConfusion h⟩) en_an, en_LTX0_ok, en_LLX0_ok, en_TTX0_ok hl, ⟨cw256, cw147⟩, en_ACX0_ok⟩ de_X0_cellForOrder ck_X0_cellForOrder_0
def tb_X6_whoPlaysNext : en_Tb := [
  (28, [(0, .iconst 0, 1), (1, .istore_n 1, 1), (2, .iload_n 1, 1), (3, .aload_n 0, 1), (4, .getfield 122, 3), (7, .if_icmp .ge 38, 3), (10, .aload_n 0, 1), (11, .getfield 18, 3), (14, .aload_n 0, 1), (15, .getfield 23, 3), (18, .iload_n 1, 1), (19, .iaload, 1), (20, .aaload, 1), (21, .getfield 185, 3), (24, .getfield 205, 3), (27, .bipush 110, 2)]), 
  (53, [(29, .if_icmp .ne 10, 3), (32, .aload_n 0, 1), (33, .getfield 23, 3), (36, .iload_n 1, 1), (37, .iaload, 1), (38, .ireturn, 1), (39, .iinc 1 1, 3), (42, .goto (-40), 3), (45, .iconst (-1), 1), (46, .istore_n 1, 1), (47, .iconst (-1), 1), (48, .istore_n 2, 1), (49, .iconst 0, 1), (50, .istore_n 3, 1), (51, .iload_n 3, 1), (52, .aload_n 0, 1)]), 
  (85, [(53, .getfield 122, 3), (56, .if_icmp .ge 61, 3), (59, .aload_n 0, 1), (60, .getfield 18, 3), (63, .iload_n 3, 1), (64, .aaload, 1), (65, .getfield 185, 3), (68, .astore 4, 2), (70, .aload 4, 2), (72, .invokevirtual 594, 3), (75, .aload_n 0, 1), (76, .getfield 11, 3), (79, .aload_n 0, 1), (80, .getfield 170, 3), (83, .aaload, 1), (84, .getfield 89, 3)]), 
  (119, [(87, .invokestatic 327, 3), (90, .istore 5, 2), (92, .aload 4, 2), (94, .invokevirtual 280, 3), (97, .ifCond .ne 14, 3), (100, .iload 5, 2), (102, .iload_n 2, 1), (103, .if_icmp .le 8, 3), (106, .iload_n 3, 1), (107, .istore_n 1, 1), (108, .iload 5, 2), (110, .istore_n 2, 1), (111, .iinc 3 1, 3), (114, .goto (-63), 3), (117, .iload_n 1, 1), (118, .ireturn, 1)])]
set_option maxRecDepth 40000 in
theorem de_X6_whoPlaysNext : en_De tb_X6_whoPlaysNext cX6_whoPlaysNext := by
  unfold en_De
  decide +kernel
def k_X6_whoPlaysNext_0 : en_K := (1, ([.inr (.inl 0)], []), [([.inr (.inl 0), .inl ((-1), 5, 0, 0)], [])], [], [0, 1, 2, 3, 5, 7, 8], (0, 0), [])
def u_X6_whoPlaysNext_0 : List en_U := [
  (2, ([.inr (.inl 0), .inl (0, 6, 0, 0)], []), [(0, 0), (1, 1)], (0, 0), [((-2), 1)], 33), 
  (51, ([.inr (.inl 0), .inl (0, 6, 0, 0), .inl ((-1), 2147483647, 0, 0), .inl ((-1), 5, 0, 0)], []), [(0, 0), (3, 1), (2, 2), (1, 3)], (0, 0), [((-2), 1)], 16)]
def x_X6_whoPlaysNext_0 : en_Cx := ((en_KT, en_TY0, en_om0), en_FTX6, en_PTX6, [(280, true, 6, 0, 0, k_X0_isDone_0), (327, false, 0, 0, 0, k_X6_distance_0), (594, true, 6, 0, 1, k_X0_cellForOrder_0)], en_LTX6, en_LLX6, en_TTX6, en_ACX6)
def m_X6_whoPlaysNext_0 : en_Mx := (k_X6_whoPlaysNext_0, 2, 6, (0, 0), tb_X6_whoPlaysNext, [])
set_option maxRecDepth 100000 in
theorem ck_X6_whoPlaysNext_0 : en_all x_X6_whoPlaysNext_0 m_X6_whoPlaysNext_0 u_X6_whoPlaysNext_0 35 = true := by decide +kernel
theorem ct_X6_whoPlaysNext_0 {l : Launch} (hl : l.stackTraces = false) {PP : Int32 → Int32 → Prop} (hPP : en_P0 PP) (Ω : Nat → en_H → va_W → Prop) : en_Ctr l vwCl en_TY0 PP en_om0 Ω en_KT yX6_whoPlaysNext (Cond.code yX6_whoPlaysNext cX6_whoPlaysNext 6 (some .int) :: en_cw) (en_rm 2 (0, 0)) 0 k_X6_whoPlaysNext_0 :=
  en_main (X := x_X6_whoPlaysNext_0) (M := m_X6_whoPlaysNext_0) hPP en_f32_ok en_f64_ok hl (by decide +kernel) ⟨en_FTX6_ok, en_PTX6_ok, en_ac (⟨yX0_isDone, RX0, cX0_isDone, 1, (some .boolean), by decide, ct_X0_isDone_0 hl hPP Ω, fun _ => ⟨gc_RX6_280v, by decide, _, rfl, rfl⟩, fun h => Bool.noConfusion h⟩) (en_ac (⟨yX6_distance, RX6, cX6_distance, 4, (some .int), by decide, ct_X6_distance_0 hl hPP Ω, fun h => Bool.noConfusion h, fun _ => gc_RX6_327s⟩) (en_ac (⟨yX0_cellForOrder, RX0, cX0_cellForOrder, 1, (some .int), by decide, ct_X0_cellForOrder_0 hl hPP Ω, fun _ => ⟨gc_RX6_594v, by decide, _, rfl, rfl⟩, fun h => Bool.noConfusion h⟩) en_an)), en_LTX6_ok, en_LLX6_ok, en_TTX6_ok hl, ⟨cw256, cw147⟩, en_ACX6_ok⟩ de_X6_whoPlaysNext ck_X6_whoPlaysNext_0
def tb_X6_away : en_Tb := [
  (26, [(0, .aload_n 0, 1), (1, .invokevirtual 167, 3), (4, .aload_n 0, 1), (5, .invokevirtual 173, 3), (8, .istore_n 1, 1), (9, .iload_n 1, 1), (10, .iconst (-1), 1), (11, .if_icmp .ne 13, 3), (14, .new 177, 3), (17, .dup, 1), (18, .ldc 179, 2), (20, .invokespecial 181, 3), (23, .athrow, 1), (24, .iload_n 1, 1), (25, .ireturn, 1)])]
set_option maxRecDepth 40000 in
theorem de_X6_away : en_De tb_X6_away cX6_away := by
  unfold en_De
  decide +kernel
def k_X6_away_0 : en_K := (1, ([.inr (.inl 0)], []), [([.inr (.inl 0), .inl (0, 5, 0, 0)], [])], [], [0, 1, 2, 3, 5, 7, 8], (2, 12), [1, 4])
def u_X6_away_0 : List en_U := []
def x_X6_away_0 : en_Cx := ((en_KT, en_TY0, en_om0), en_FTX6, en_PTX6, [(167, true, 12, 4, 0, k_X6_needRound_0), (173, true, 12, 0, 2, k_X6_whoPlaysNext_0)], en_LTX6, en_LLX6, en_TTX6, en_ACX6)
def m_X6_away_0 : en_Mx := (k_X6_away_0, 3, 2, (0, 0), tb_X6_away, [])
set_option maxRecDepth 100000 in
theorem ck_X6_away_0 : en_all x_X6_away_0 m_X6_away_0 u_X6_away_0 13 = true := by decide +kernel
theorem ct_X6_away_0 {l : Launch} (hl : l.stackTraces = false) {PP : Int32 → Int32 → Prop} (hPP : en_P0 PP) (Ω : Nat → en_H → va_W → Prop) : en_Ctr l vwCl en_TY0 PP en_om0 Ω en_KT yX6_away (Cond.code yX6_away cX6_away 2 (some .int) :: en_cw) (en_rm 3 (2, 12)) 0 k_X6_away_0 :=
  en_main (X := x_X6_away_0) (M := m_X6_away_0) hPP en_f32_ok en_f64_ok hl (by decide +kernel) ⟨en_FTX6_ok, en_PTX6_ok, en_ac (⟨yX6_needRound, RX6, cX6_needRound, 1, none, by decide, ct_X6_needRound_0 hl hPP Ω, fun _ => ⟨gc_RX6_167v, by decide, _, rfl, rfl⟩, fun h => Bool.noConfusion h⟩) (en_ac (⟨yX6_whoPlaysNext, RX6, cX6_whoPlaysNext, 6, (some .int), by decide, ct_X6_whoPlaysNext_0 hl hPP Ω, fun _ => ⟨gc_RX6_173v, by decide, _, rfl, rfl⟩, fun h => Bool.noConfusion h⟩) en_an), en_LTX6_ok, en_LLX6_ok, en_TTX6_ok hl, ⟨cw256, cw147⟩, en_ACX6_ok⟩ de_X6_away ck_X6_away_0
def tb_X4_restart : en_Tb := [
  (16, [(0, .aload_n 0, 1), (1, .iconst 0, 1), (2, .putfield 22, 3), (5, .aload_n 0, 1), (6, .iconst 0, 1), (7, .putfield 25, 3), (10, .aload_n 0, 1), (11, .iconst 0, 1), (12, .putfield 28, 3), (15, .return_, 1)])]
set_option maxRecDepth 40000 in
theorem de_X4_restart : en_De tb_X4_restart cX4_restart := by
  unfold en_De
  decide +kernel
def k_X4_restart_0 : en_K := (1, ([.inr (.inl 4)], []), [([.inr (.inl 4)], [])], [(4, 2), (4, 3), (4, 5)], [4], (0, 0), [])
def u_X4_restart_0 : List en_U := []
def x_X4_restart_0 : en_Cx := ((en_KT, en_TY0, en_om0), en_FTX4, en_PTX4, [], en_LTX4, en_LLX4, en_TTX4, en_ACX4)
def m_X4_restart_0 : en_Mx := (k_X4_restart_0, 0, 1, (4, 0), tb_X4_restart, [])
set_option maxRecDepth 100000 in
theorem ck_X4_restart_0 : en_all x_X4_restart_0 m_X4_restart_0 u_X4_restart_0 13 = true := by decide +kernel
theorem ct_X4_restart_0 {l : Launch} (hl : l.stackTraces = false) {PP : Int32 → Int32 → Prop} (hPP : en_P0 PP) (Ω : Nat → en_H → va_W → Prop) : en_Ctr l vwCl en_TY0 PP en_om0 Ω en_KT yX4_restart (Cond.code yX4_restart cX4_restart 1 none :: en_cw) (en_rm 0 (0, 0)) 4 k_X4_restart_0 :=
  en_main (X := x_X4_restart_0) (M := m_X4_restart_0) hPP en_f32_ok en_f64_ok hl (by decide +kernel) ⟨en_FTX4_ok, en_PTX4_ok, en_an, en_LTX4_ok, en_LLX4_ok, en_TTX4_ok hl, ⟨cw256, cw147⟩, en_ACX4_ok⟩ de_X4_restart ck_X4_restart_0
def tb_X1_wipe : en_Tb := [
  (23, [(0, .iconst 0, 1), (1, .istore_n 1, 1), (2, .iload_n 1, 1), (3, .bipush 9, 2), (5, .if_icmp .ge 30, 3), (8, .aload_n 0, 1), (9, .getfield 9, 3), (12, .iload_n 1, 1), (13, .iconst 0, 1), (14, .iastore, 1), (15, .aload_n 0, 1), (16, .getfield 15, 3), (19, .iload_n 1, 1), (20, .iconst 0, 1), (21, .iastore, 1), (22, .aload_n 0, 1)]), 
  (51, [(23, .getfield 18, 3), (26, .iload_n 1, 1), (27, .iconst 0, 1), (28, .iastore, 1), (29, .iinc 1 1, 3), (32, .goto (-30), 3), (35, .aload_n 0, 1), (36, .iconst 0, 1), (37, .putfield 21, 3), (40, .aload_n 0, 1), (41, .iconst 0, 1), (42, .putfield 25, 3), (45, .aload_n 0, 1), (46, .iconst 0, 1), (47, .putfield 28, 3), (50, .return_, 1)])]
set_option maxRecDepth 40000 in
theorem de_X1_wipe : en_De tb_X1_wipe cX1_wipe := by
  unfold en_De
  decide +kernel
def k_X1_wipe_0 : en_K := (1, ([.inr (.inl 9)], []), [([.inr (.inl 9)], [])], [(9, 3), (9, 4), (9, 5), (10, 0)], [9, 10], (0, 0), [])
def u_X1_wipe_0 : List en_U := [
  (2, ([.inr (.inl 9), .inl (0, 9, 0, 0)], []), [(0, 0), (1, 1)], (0, 0), [((-2), 1)], 22)]
def x_X1_wipe_0 : en_Cx := ((en_KT, en_TY0, en_om0), en_FTX1, en_PTX1, [], en_LTX1, en_LLX1, en_TTX1, en_ACX1)
def m_X1_wipe_0 : en_Mx := (k_X1_wipe_0, 0, 2, (4, 0), tb_X1_wipe, [])
set_option maxRecDepth 100000 in
theorem ck_X1_wipe_0 : en_all x_X1_wipe_0 m_X1_wipe_0 u_X1_wipe_0 23 = true := by decide +kernel
theorem ct_X1_wipe_0 {l : Launch} (hl : l.stackTraces = false) {PP : Int32 → Int32 → Prop} (hPP : en_P0 PP) (Ω : Nat → en_H → va_W → Prop) : en_Ctr l vwCl en_TY0 PP en_om0 Ω en_KT yX1_wipe (Cond.code yX1_wipe cX1_wipe 2 none :: en_cw) (en_rm 0 (0, 0)) 4 k_X1_wipe_0 :=
  en_main (X := x_X1_wipe_0) (M := m_X1_wipe_0) hPP en_f32_ok en_f64_ok hl (by decide +kernel) ⟨en_FTX1_ok, en_PTX1_ok, en_an, en_LTX1_ok, en_LLX1_ok, en_TTX1_ok hl, ⟨cw256, cw147⟩, en_ACX1_ok⟩ de_X1_wipe ck_X1_wipe_0
def tb_X4_forgetHole : en_Tb := [
  (11, [(0, .aload_n 0, 1), (1, .iconst (-1), 1), (2, .putfield 18, 3), (5, .aload_n 0, 1), (6, .iconst 0, 1), (7, .putfield 32, 3), (10, .return_, 1)])]
set_option maxRecDepth 40000 in
theorem de_X4_forgetHole : en_De tb_X4_forgetHole cX4_forgetHole := by
  unfold en_De
  decide +kernel
def k_X4_forgetHole_0 : en_K := (1, ([.inr (.inl 4)], []), [([.inr (.inl 4)], [])], [(4, 1), (4, 4)], [4], (0, 0), [])
def u_X4_forgetHole_0 : List en_U := []
def x_X4_forgetHole_0 : en_Cx := ((en_KT, en_TY0, en_om0), en_FTX4, en_PTX4, [], en_LTX4, en_LLX4, en_TTX4, en_ACX4)
def m_X4_forgetHole_0 : en_Mx := (k_X4_forgetHole_0, 0, 1, (4, 0), tb_X4_forgetHole, [])
set_option maxRecDepth 100000 in
theorem ck_X4_forgetHole_0 : en_all x_X4_forgetHole_0 m_X4_forgetHole_0 u_X4_forgetHole_0 10 = true := by decide +kernel
theorem ct_X4_forgetHole_0 {l : Launch} (hl : l.stackTraces = false) {PP : Int32 → Int32 → Prop} (hPP : en_P0 PP) (Ω : Nat → en_H → va_W → Prop) : en_Ctr l vwCl en_TY0 PP en_om0 Ω en_KT yX4_forgetHole (Cond.code yX4_forgetHole cX4_forgetHole 1 none :: en_cw) (en_rm 0 (0, 0)) 4 k_X4_forgetHole_0 :=
  en_main (X := x_X4_forgetHole_0) (M := m_X4_forgetHole_0) hPP en_f32_ok en_f64_ok hl (by decide +kernel) ⟨en_FTX4_ok, en_PTX4_ok, en_an, en_LTX4_ok, en_LLX4_ok, en_TTX4_ok hl, ⟨cw256, cw147⟩, en_ACX4_ok⟩ de_X4_forgetHole ck_X4_forgetHole_0
def tb_X0_startAt : en_Tb := [
  (27, [(0, .aload_n 0, 1), (1, .bipush 110, 2), (3, .putfield 9, 3), (6, .aload_n 0, 1), (7, .iload_n 1, 1), (8, .putfield 15, 3), (11, .aload_n 0, 1), (12, .iconst 1, 1), (13, .putfield 19, 3), (16, .aload_n 0, 1), (17, .iload_n 1, 1), (18, .putfield 23, 3), (21, .aload_n 0, 1), (22, .iconst 1, 1), (23, .putfield 26, 3), (26, .aload_n 0, 1)]), 
  (53, [(27, .iconst 0, 1), (28, .putfield 29, 3), (31, .aload_n 0, 1), (32, .iconst 0, 1), (33, .putfield 32, 3), (36, .aload_n 0, 1), (37, .bipush 45, 2), (39, .putfield 35, 3), (42, .aload_n 0, 1), (43, .iconst 0, 1), (44, .putfield 38, 3), (47, .aload_n 0, 1), (48, .iconst 0, 1), (49, .putfield 41, 3), (52, .return_, 1)])]
set_option maxRecDepth 40000 in
theorem de_X0_startAt : en_De tb_X0_startAt cX0_startAt := by
  unfold en_De
  decide +kernel
def k_X0_startAt_0 : en_K := (2, ([.inr (.inl 8), .inl ((-2147483648), 2147483647, 0, 0)], []), [([.inr (.inl 8), .inl ((-2147483648), 2147483647, 0, 0)], [(0, 0, 1, 1, 0, 0), (0, 0, 3, 1, 0, 0)])], [(8, 0), (8, 1), (8, 2), (8, 3), (8, 4), (8, 5), (8, 6), (8, 7), (8, 9), (8, 10)], [8], (0, 0), [])
def u_X0_startAt_0 : List en_U := []
def x_X0_startAt_0 : en_Cx := ((en_KT, en_TY0, en_om0), en_FTX0, en_PTX0, [], en_LTX0, en_LLX0, en_TTX0, en_ACX0)
def m_X0_startAt_0 : en_Mx := (k_X0_startAt_0, 0, 2, (4, 0), tb_X0_startAt, [])
set_option maxRecDepth 100000 in
theorem ck_X0_startAt_0 : en_all x_X0_startAt_0 m_X0_startAt_0 u_X0_startAt_0 34 = true := by decide +kernel
theorem ct_X0_startAt_0 {l : Launch} (hl : l.stackTraces = false) {PP : Int32 → Int32 → Prop} (hPP : en_P0 PP) (Ω : Nat → en_H → va_W → Prop) : en_Ctr l vwCl en_TY0 PP en_om0 Ω en_KT yX0_startAt (Cond.code yX0_startAt cX0_startAt 2 none :: en_cw) (en_rm 0 (0, 0)) 4 k_X0_startAt_0 :=
  en_main (X := x_X0_startAt_0) (M := m_X0_startAt_0) hPP en_f32_ok en_f64_ok hl (by decide +kernel) ⟨en_FTX0_ok, en_PTX0_ok, en_an, en_LTX0_ok, en_LLX0_ok, en_TTX0_ok hl, ⟨cw256, cw147⟩, en_ACX0_ok⟩ de_X0_startAt ck_X0_startAt_0
def tb_X6_startHole : en_Tb := [
  (28, [(0, .aload_n 0, 1), (1, .iload_n 1, 1), (2, .putfield 170, 3), (5, .aload_n 0, 1), (6, .getfield 30, 3), (9, .invokevirtual 588, 3), (12, .iconst 0, 1), (13, .istore_n 2, 1), (14, .iload_n 2, 1), (15, .aload_n 0, 1), (16, .getfield 122, 3), (19, .if_icmp .ge 30, 3), (22, .aload_n 0, 1), (23, .getfield 18, 3), (26, .iload_n 2, 1), (27, .aaload, 1)]), 
  (50, [(28, .getfield 185, 3), (31, .aload_n 0, 1), (32, .getfield 11, 3), (35, .iload_n 1, 1), (36, .aaload, 1), (37, .getfield 92, 3), (40, .invokevirtual 591, 3), (43, .iinc 2 1, 3), (46, .goto (-32), 3), (49, .return_, 1)])]
set_option maxRecDepth 40000 in
theorem de_X6_startHole : en_De tb_X6_startHole cX6_startHole := by
  unfold en_De
  decide +kernel
def k_X6_startHole_0 : en_K := (2, ([.inr (.inl 0), .inl (0, 8, 0, 0)], []), [([.inr (.inl 0), .inl (0, 8, 0, 0)], [(0, 0, 13, 1, 0, 0)])], [(0, 13), (4, 1), (4, 4), (8, 0), (8, 1), (8, 2), (8, 3), (8, 4), (8, 5), (8, 6), (8, 7), (8, 9), (8, 10)], [0, 1, 2, 4, 5, 7, 8], (0, 0), [])
def u_X6_startHole_0 : List en_U := [
  (14, ([.inr (.inl 0), .inl (0, 8, 0, 0), .inl (0, 6, 0, 0)], [(0, 0, 13, 1, 0, 0)]), [(0, 0), (1, 1), (2, 2)], (0, 0), [((-2), 2)], 16)]
def x_X6_startHole_0 : en_Cx := ((en_KT, en_TY0, en_om0), en_FTX6, en_PTX6, [(588, true, 10, 4, 0, k_X4_forgetHole_0), (591, true, 6, 4, 0, k_X0_startAt_0)], en_LTX6, en_LLX6, en_TTX6, en_ACX6)
def m_X6_startHole_0 : en_Mx := (k_X6_startHole_0, 1, 3, (4, 0), tb_X6_startHole, [])
set_option maxRecDepth 100000 in
theorem ck_X6_startHole_0 : en_all x_X6_startHole_0 m_X6_startHole_0 u_X6_startHole_0 20 = true := by decide +kernel
theorem ct_X6_startHole_0 {l : Launch} (hl : l.stackTraces = false) {PP : Int32 → Int32 → Prop} (hPP : en_P0 PP) (Ω : Nat → en_H → va_W → Prop) : en_Ctr l vwCl en_TY0 PP en_om0 Ω en_KT yX6_startHole (Cond.code yX6_startHole cX6_startHole 3 none :: en_cw) (en_rm 1 (0, 0)) 4 k_X6_startHole_0 :=
  en_main (X := x_X6_startHole_0) (M := m_X6_startHole_0) hPP en_f32_ok en_f64_ok hl (by decide +kernel) ⟨en_FTX6_ok, en_PTX6_ok, en_ac (⟨yX4_forgetHole, RX4, cX4_forgetHole, 1, none, by decide, ct_X4_forgetHole_0 hl hPP Ω, fun _ => ⟨gc_RX6_588v, by decide, _, rfl, rfl⟩, fun h => Bool.noConfusion h⟩) (en_ac (⟨yX0_startAt, RX0, cX0_startAt, 2, none, by decide, ct_X0_startAt_0 hl hPP Ω, fun _ => ⟨gc_RX6_591v, by decide, _, rfl, rfl⟩, fun h => Bool.noConfusion h⟩) en_an), en_LTX6_ok, en_LLX6_ok, en_TTX6_ok hl, ⟨cw256, cw147⟩, en_ACX6_ok⟩ de_X6_startHole ck_X6_startHole_0
def tb_X6_begin : en_Tb := [
  (31, [(0, .iload_n 1, 1), (1, .bipush 115, 2), (3, .if_icmp .eq 19, 3), (6, .iload_n 1, 1), (7, .bipush 109, 2), (9, .if_icmp .eq 13, 3), (12, .new 49, 3), (15, .dup, 1), (16, .ldc 145, 2), (18, .invokespecial 53, 3), (21, .athrow, 1), (22, .aload_n 0, 1), (23, .getfield 62, 3), (26, .ifCond .eq 31, 3), (29, .aload_n 0, 1), (30, .getfield 122, 3)]), 
  (67, [(33, .ifCond .eq 24, 3), (36, .aload_n 0, 1), (37, .getfield 132, 3), (40, .ifCond .ne 17, 3), (43, .iload_n 1, 1), (44, .bipush 109, 2), (46, .if_icmp .ne 21, 3), (49, .aload_n 0, 1), (50, .getfield 122, 3), (53, .iconst 2, 1), (54, .if_icmp .eq 13, 3), (57, .new 74, 3), (60, .dup, 1), (61, .ldc 147, 2), (63, .invokespecial 78, 3), (66, .athrow, 1)]), 
  (95, [(67, .aload_n 0, 1), (68, .iload_n 1, 1), (69, .putfield 42, 3), (72, .aload_n 0, 1), (73, .iconst 1, 1), (74, .putfield 58, 3), (77, .aload_n 0, 1), (78, .iconst 1, 1), (79, .putfield 132, 3), (82, .aload_n 0, 1), (83, .iconst 0, 1), (84, .putfield 149, 3), (87, .aload_n 0, 1), (88, .getfield 30, 3), (91, .invokevirtual 152, 3), (94, .iconst 0, 1)]), 
  (123, [(95, .istore_n 2, 1), (96, .iload_n 2, 1), (97, .aload_n 0, 1), (98, .getfield 122, 3), (101, .if_icmp .ge 28, 3), (104, .aload_n 0, 1), (105, .getfield 18, 3), (108, .iload_n 2, 1), (109, .aaload, 1), (110, .getfield 155, 3), (113, .invokevirtual 159, 3), (116, .aload_n 0, 1), (117, .getfield 23, 3), (120, .iload_n 2, 1), (121, .iload_n 2, 1), (122, .iastore, 1)]), 
  (139, [(123, .iinc 2 1, 3), (126, .goto (-30), 3), (129, .aload_n 0, 1), (130, .iconst 0, 1), (131, .invokevirtual 164, 3), (134, .aload_n 0, 1), (135, .getfield 62, 3), (138, .ireturn, 1)])]
set_option maxRecDepth 40000 in
theorem de_X6_begin : en_De tb_X6_begin cX6_begin := by
  unfold en_De
  decide +kernel
def k_X6_begin_0 : en_K := (2, ([.inr (.inl 0), .inl (0, 65535, 0, 0)], []), [([.inr (.inl 0), .inl (109, 115, 0, 0), .inl (1, 9, 0, 0), .inl (1, 1, 0, 0)], [(0, 0, 9, 1, 0, 0), (0, 0, 4, 2, 0, 0), (0, 0, 10, 3, 0, 0), (6, 2, 0, 0, 0, 0)])], [(0, 9), (0, 10), (0, 11), (0, 12), (0, 13), (3, 0), (4, 1), (4, 2), (4, 3), (4, 4), (4, 5), (8, 0), (8, 1), (8, 2), (8, 3), (8, 4), (8, 5), (8, 6), (8, 7), (8, 9), (8, 10), (9, 3), (9, 4), (9, 5), (10, 0)], [0, 1, 2, 3, 4, 5, 7, 8, 9, 10], (1, 6), [0, 2])
def u_X6_begin_0 : List en_U := [
  (96, ([.inr (.inl 0), .inl (109, 115, 0, 0), .inl (0, 6, 0, 0), .inl (1, 1, 0, 0), .inl (1, 1, 0, 0), .inl (0, 0, 0, 0), .inl (1, 9, 0, 0), .inl (1, 6, 0, 0)], [(0, 0, 9, 1, 0, 0), (0, 0, 10, 3, 0, 0), (0, 0, 11, 4, 0, 0), (0, 0, 12, 5, 0, 0), (0, 0, 4, 6, 0, 0), (0, 0, 5, 7, 0, 0), (6, 7, 0, 0, 0, 0), (6, 6, 0, 0, 0, 0)]), [(0, 0), (1, 1), (2, 2)], (0, 0), [((-2), 2)], 16)]
def x_X6_begin_0 : en_Cx := ((en_KT, en_TY0, en_om0), en_FTX6, en_PTX6, [(152, true, 10, 4, 0, k_X4_restart_0), (159, true, 7, 4, 0, k_X1_wipe_0), (164, true, 12, 4, 1, k_X6_startHole_0)], en_LTX6, en_LLX6, en_TTX6, en_ACX6)
def m_X6_begin_0 : en_Mx := (k_X6_begin_0, 2, 3, (0, 0), tb_X6_begin, [])
set_option maxRecDepth 100000 in
theorem ck_X6_begin_0 : en_all x_X6_begin_0 m_X6_begin_0 u_X6_begin_0 42 = true := by decide +kernel
theorem ct_X6_begin_0 {l : Launch} (hl : l.stackTraces = false) {PP : Int32 → Int32 → Prop} (hPP : en_P0 PP) (Ω : Nat → en_H → va_W → Prop) : en_Ctr l vwCl en_TY0 PP en_om0 Ω en_KT yX6_begin (Cond.code yX6_begin cX6_begin 3 (some .int) :: en_cw) (en_rm 2 (1, 6)) 0 k_X6_begin_0 :=
  en_main (X := x_X6_begin_0) (M := m_X6_begin_0) hPP en_f32_ok en_f64_ok hl (by decide +kernel) ⟨en_FTX6_ok, en_PTX6_ok, en_ac (⟨yX4_restart, RX4, cX4_restart, 1, none, by decide, ct_X4_restart_0 hl hPP Ω, fun _ => ⟨gc_RX6_152v, by decide, _, rfl, rfl⟩, fun h => Bool.noConfusion h⟩) (en_ac (⟨yX1_wipe, RX1, cX1_wipe, 2, none, by decide, ct_X1_wipe_0 hl hPP Ω, fun _ => ⟨gc_RX6_159v, by decide, _, rfl, rfl⟩, fun h => Bool.noConfusion h⟩) (en_ac (⟨yX6_startHole, RX6, cX6_startHole, 3, none, by decide, ct_X6_startHole_0 hl hPP Ω, fun _ => ⟨gc_RX6_164v, by decide, _, rfl, rfl⟩, fun h => Bool.noConfusion h⟩) en_an)), en_LTX6_ok, en_LLX6_ok, en_TTX6_ok hl, ⟨cw256, cw147⟩, en_ACX6_ok⟩ de_X6_begin ck_X6_begin_0
def tb_X6_isMatch : en_Tb := [
  (15, [(0, .aload_n 0, 1), (1, .getfield 42, 3), (4, .bipush 109, 2), (6, .if_icmp .ne 7, 3), (9, .iconst 1, 1), (10, .goto 4, 3), (13, .iconst 0, 1), (14, .ireturn, 1)])]
set_option maxRecDepth 40000 in
theorem de_X6_isMatch : en_De tb_X6_isMatch cX6_isMatch := by
  unfold en_De
  decide +kernel
def k_X6_isMatch_0 : en_K := (1, ([.inr (.inl 0)], []), [([.inr (.inl 0), .inl (0, 0, 0, 0)], []), ([.inr (.inl 0), .inl (1, 1, 0, 0)], [])], [], [0], (0, 0), [])
def u_X6_isMatch_0 : List en_U := []
def x_X6_isMatch_0 : en_Cx := ((en_KT, en_TY0, en_om0), en_FTX6, en_PTX6, [], en_LTX6, en_LLX6, en_TTX6, en_ACX6)
def m_X6_isMatch_0 : en_Mx := (k_X6_isMatch_0, 0, 1, (0, 2), tb_X6_isMatch, [])
set_option maxRecDepth 100000 in
theorem ck_X6_isMatch_0 : en_all x_X6_isMatch_0 m_X6_isMatch_0 u_X6_isMatch_0 10 = true := by decide +kernel
theorem ct_X6_isMatch_0 {l : Launch} (hl : l.stackTraces = false) {PP : Int32 → Int32 → Prop} (hPP : en_P0 PP) (Ω : Nat → en_H → va_W → Prop) : en_Ctr l vwCl en_TY0 PP en_om0 Ω en_KT yX6_isMatch (Cond.code yX6_isMatch cX6_isMatch 1 (some .boolean) :: en_cw) (en_rm 0 (0, 0)) 0 k_X6_isMatch_0 :=
  en_main (X := x_X6_isMatch_0) (M := m_X6_isMatch_0) hPP en_f32_ok en_f64_ok hl (by decide +kernel) ⟨en_FTX6_ok, en_PTX6_ok, en_an, en_LTX6_ok, en_LLX6_ok, en_TTX6_ok hl, ⟨cw256, cw147⟩, en_ACX6_ok⟩ de_X6_isMatch ck_X6_isMatch_0
def tb_X0_copyFrom : en_Tb := [
  (30, [(0, .aload_n 0, 1), (1, .aload_n 1, 1), (2, .getfield 9, 3), (5, .putfield 9, 3), (8, .aload_n 0, 1), (9, .aload_n 1, 1), (10, .getfield 15, 3), (13, .putfield 15, 3), (16, .aload_n 0, 1), (17, .aload_n 1, 1), (18, .getfield 19, 3), (21, .putfield 19, 3), (24, .aload_n 0, 1), (25, .aload_n 1, 1), (26, .getfield 23, 3), (29, .putfield 23, 3)]), 
  (62, [(32, .aload_n 0, 1), (33, .aload_n 1, 1), (34, .getfield 26, 3), (37, .putfield 26, 3), (40, .aload_n 0, 1), (41, .aload_n 1, 1), (42, .getfield 29, 3), (45, .putfield 29, 3), (48, .aload_n 0, 1), (49, .aload_n 1, 1), (50, .getfield 32, 3), (53, .putfield 32, 3), (56, .aload_n 0, 1), (57, .aload_n 1, 1), (58, .getfield 35, 3), (61, .putfield 35, 3)]), 
  (94, [(64, .aload_n 0, 1), (65, .aload_n 1, 1), (66, .getfield 44, 3), (69, .putfield 44, 3), (72, .aload_n 0, 1), (73, .aload_n 1, 1), (74, .getfield 38, 3), (77, .putfield 38, 3), (80, .aload_n 0, 1), (81, .aload_n 1, 1), (82, .getfield 41, 3), (85, .putfield 41, 3), (88, .aload_n 0, 1), (89, .aload_n 1, 1), (90, .getfield 47, 3), (93, .putfield 47, 3)]), 
  (126, [(96, .aload_n 0, 1), (97, .aload_n 1, 1), (98, .getfield 50, 3), (101, .putfield 50, 3), (104, .aload_n 0, 1), (105, .aload_n 1, 1), (106, .getfield 53, 3), (109, .putfield 53, 3), (112, .aload_n 0, 1), (113, .aload_n 1, 1), (114, .getfield 56, 3), (117, .putfield 56, 3), (120, .aload_n 0, 1), (121, .aload_n 1, 1), (122, .getfield 59, 3), (125, .putfield 59, 3)]), 
  (129, [(128, .return_, 1)])]
set_option maxRecDepth 40000 in
theorem de_X0_copyFrom : en_De tb_X0_copyFrom cX0_copyFrom := by
  unfold en_De
  decide +kernel
def k_X0_copyFrom_0 : en_K := (2, ([.inr (.inl 8), .inr (.inl 8)], []), [([.inr (.inl 8), .inr (.inl 8)], [])], [(8, 0), (8, 1), (8, 2), (8, 3), (8, 4), (8, 5), (8, 6), (8, 7), (8, 8), (8, 9), (8, 10), (8, 11), (8, 12), (8, 13), (8, 14), (8, 15)], [8], (0, 0), [])
def u_X0_copyFrom_0 : List en_U := []
def x_X0_copyFrom_0 : en_Cx := ((en_KT, en_TY0, en_om0), en_FTX0, en_PTX0, [], en_LTX0, en_LLX0, en_TTX0, en_ACX0)
def m_X0_copyFrom_0 : en_Mx := (k_X0_copyFrom_0, 0, 2, (4, 0), tb_X0_copyFrom, [])
set_option maxRecDepth 100000 in
theorem ck_X0_copyFrom_0 : en_all x_X0_copyFrom_0 m_X0_copyFrom_0 u_X0_copyFrom_0 68 = true := by decide +kernel
theorem ct_X0_copyFrom_0 {l : Launch} (hl : l.stackTraces = false) {PP : Int32 → Int32 → Prop} (hPP : en_P0 PP) (Ω : Nat → en_H → va_W → Prop) : en_Ctr l vwCl en_TY0 PP en_om0 Ω en_KT yX0_copyFrom (Cond.code yX0_copyFrom cX0_copyFrom 2 none :: en_cw) (en_rm 0 (0, 0)) 4 k_X0_copyFrom_0 :=
  en_main (X := x_X0_copyFrom_0) (M := m_X0_copyFrom_0) hPP en_f32_ok en_f64_ok hl (by decide +kernel) ⟨en_FTX0_ok, en_PTX0_ok, en_an, en_LTX0_ok, en_LLX0_ok, en_TTX0_ok hl, ⟨cw256, cw147⟩, en_ACX0_ok⟩ de_X0_copyFrom ck_X0_copyFrom_0
def tb_X6_cancel : en_Tb := [
  (32, [(0, .aload_n 0, 1), (1, .iload_n 1, 1), (2, .invokevirtual 127, 3), (5, .aload_n 0, 1), (6, .invokevirtual 167, 3), (9, .aload_n 0, 1), (10, .invokevirtual 196, 3), (13, .ifCond .eq 14, 3), (16, .aload_n 0, 1), (17, .getfield 30, 3), (20, .getfield 193, 3), (23, .iload_n 1, 1), (24, .if_icmp .eq 14, 3), (27, .new 74, 3), (30, .dup, 1), (31, .ldc_w 368, 3)]), 
  (66, [(34, .invokespecial 78, 3), (37, .athrow, 1), (38, .aload_n 0, 1), (39, .getfield 30, 3), (42, .iconst (-1), 1), (43, .putfield 193, 3), (46, .aload_n 0, 1), (47, .getfield 18, 3), (50, .iload_n 1, 1), (51, .aaload, 1), (52, .getfield 185, 3), (55, .aload_n 0, 1), (56, .getfield 30, 3), (59, .getfield 370, 3), (62, .invokevirtual 373, 3), (65, .aload_n 0, 1)]), 
  (86, [(66, .getfield 30, 3), (69, .getfield 370, 3), (72, .getfield 205, 3), (75, .bipush 110, 2), (77, .if_icmp .ne 7, 3), (80, .iconst 1, 1), (81, .goto 4, 3), (84, .iconst 0, 1), (85, .ireturn, 1)])]
set_option maxRecDepth 40000 in
theorem de_X6_cancel : en_De tb_X6_cancel cX6_cancel := by
  unfold en_De
  decide +kernel
def k_X6_cancel_0 : en_K := (2, ([.inr (.inl 0), .inl ((-2147483648), 2147483647, 0, 0)], []), [([.inr (.inl 0), .inl (0, 5, 0, 0), .inl (0, 0, 0, 0)], []), ([.inr (.inl 0), .inl (0, 5, 0, 0), .inl (1, 1, 0, 0)], [])], [(4, 1), (8, 0), (8, 1), (8, 2), (8, 3), (8, 4), (8, 5), (8, 6), (8, 7), (8, 8), (8, 9), (8, 10), (8, 11), (8, 12), (8, 13), (8, 14), (8, 15)], [0, 2, 4, 7, 8], (3, 18), [1, 2, 3])
def u_X6_cancel_0 : List en_U := []
def x_X6_cancel_0 : en_Cx := ((en_KT, en_TY0, en_om0), en_FTX6, en_PTX6, [(127, true, 12, 4, 0, k_X6_needPlayer_0), (167, true, 12, 4, 0, k_X6_needRound_0), (196, true, 12, 0, 0, k_X6_isMatch_0), (373, true, 6, 4, 0, k_X0_copyFrom_0)], en_LTX6, en_LLX6, en_TTX6, en_ACX6)
def m_X6_cancel_0 : en_Mx := (k_X6_cancel_0, 1, 2, (0, 2), tb_X6_cancel, [])
set_option maxRecDepth 100000 in
theorem ck_X6_cancel_0 : en_all x_X6_cancel_0 m_X6_cancel_0 u_X6_cancel_0 38 = true := by decide +kernel
theorem ct_X6_cancel_0 {l : Launch} (hl : l.stackTraces = false) {PP : Int32 → Int32 → Prop} (hPP : en_P0 PP) (Ω : Nat → en_H → va_W → Prop) : en_Ctr l vwCl en_TY0 PP en_om0 Ω en_KT yX6_cancel (Cond.code yX6_cancel cX6_cancel 2 (some .boolean) :: en_cw) (en_rm 1 (3, 18)) 0 k_X6_cancel_0 :=
  en_main (X := x_X6_cancel_0) (M := m_X6_cancel_0) hPP en_f32_ok en_f64_ok hl (by decide +kernel) ⟨en_FTX6_ok, en_PTX6_ok, en_ac (⟨yX6_needPlayer, RX6, cX6_needPlayer, 2, none, by decide, ct_X6_needPlayer_0 hl hPP Ω, fun _ => ⟨gc_RX6_127v, by decide, _, rfl, rfl⟩, fun h => Bool.noConfusion h⟩) (en_ac (⟨yX6_needRound, RX6, cX6_needRound, 1, none, by decide, ct_X6_needRound_0 hl hPP Ω, fun _ => ⟨gc_RX6_167v, by decide, _, rfl, rfl⟩, fun h => Bool.noConfusion h⟩) (en_ac (⟨yX6_isMatch, RX6, cX6_isMatch, 1, (some .boolean), by decide, ct_X6_isMatch_0 hl hPP Ω, fun _ => ⟨gc_RX6_196v, by decide, _, rfl, rfl⟩, fun h => Bool.noConfusion h⟩) (en_ac (⟨yX0_copyFrom, RX0, cX0_copyFrom, 2, none, by decide, ct_X0_copyFrom_0 hl hPP Ω, fun _ => ⟨gc_RX6_373v, by decide, _, rfl, rfl⟩, fun h => Bool.noConfusion h⟩) en_an))), en_LTX6_ok, en_LLX6_ok, en_TTX6_ok hl, ⟨cw256, cw147⟩, en_ACX6_ok⟩ de_X6_cancel ck_X6_cancel_0
