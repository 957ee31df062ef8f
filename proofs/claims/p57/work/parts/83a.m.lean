def tb_X6_needPlayer : en_Tb := [
  (24, [(0, .iload_n 1, 1), (1, .ifCond .lt 11, 3), (4, .iload_n 1, 1), (5, .aload_n 0, 1), (6, .getfield 122, 3), (9, .if_icmp .lt 14, 3), (12, .new 535, 3), (15, .dup, 1), (16, .ldc_w 568, 3), (19, .invokespecial 539, 3), (22, .athrow, 1), (23, .return_, 1)])]
set_option maxRecDepth 40000 in
theorem de_X6_needPlayer : en_De tb_X6_needPlayer cX6_needPlayer := by
  unfold en_De
  decide +kernel
def k_X6_needPlayer_0 : en_K := (2, ([.inr (.inl 0), .inl ((-2147483648), 2147483647, 0, 0)], []), [([.inr (.inl 0), .inl (0, 5, 0, 0)], [])], [], [0], (1, 6), [3])
def u_X6_needPlayer_0 : List en_U := []
def x_X6_needPlayer_0 : en_Cx := ((en_KT, en_TY0, en_om0), en_FTX6, en_PTX6, [], en_LTX6, en_LLX6, en_TTX6, en_ACX6)
def m_X6_needPlayer_0 : en_Mx := (k_X6_needPlayer_0, 0, 2, (4, 0), tb_X6_needPlayer, [])
set_option maxRecDepth 100000 in
theorem ck_X6_needPlayer_0 : en_all x_X6_needPlayer_0 m_X6_needPlayer_0 u_X6_needPlayer_0 10 = true := by decide +kernel
theorem ct_X6_needPlayer_0 {l : Launch} (hl : l.stackTraces = false) {PP : Int32 → Int32 → Prop} (hPP : en_P0 PP) (Ω : Nat → en_H → va_W → Prop) : en_Ctr l vwCl en_TY0 PP en_om0 Ω en_KT yX6_needPlayer (Cond.code yX6_needPlayer cX6_needPlayer 2 none :: en_cw) (en_rm 0 (1, 6)) 4 k_X6_needPlayer_0 :=
  en_main (X := x_X6_needPlayer_0) (M := m_X6_needPlayer_0) hPP en_f32_ok en_f64_ok hl (by decide +kernel) ⟨en_FTX6_ok, en_PTX6_ok, en_an, en_LTX6_ok, en_LLX6_ok, en_TTX6_ok hl, ⟨cw256, cw147⟩, en_ACX6_ok⟩ de_X6_needPlayer ck_X6_needPlayer_0
def tb_X6_needRound : en_Tb := [
  (19, [(0, .aload_n 0, 1), (1, .getfield 132, 3), (4, .ifCond .ne 14, 3), (7, .new 65, 3), (10, .dup, 1), (11, .ldc_w 574, 3), (14, .invokespecial 69, 3), (17, .athrow, 1), (18, .return_, 1)])]
set_option maxRecDepth 40000 in
theorem de_X6_needRound : en_De tb_X6_needRound cX6_needRound := by
  unfold en_De
  decide +kernel
def k_X6_needRound_0 : en_K := (1, ([.inr (.inl 0)], []), [([.inr (.inl 0)], [])], [], [0], (1, 6), [1])
def u_X6_needRound_0 : List en_U := []
def x_X6_needRound_0 : en_Cx := ((en_KT, en_TY0, en_om0), en_FTX6, en_PTX6, [], en_LTX6, en_LLX6, en_TTX6, en_ACX6)
def m_X6_needRound_0 : en_Mx := (k_X6_needRound_0, 0, 1, (4, 0), tb_X6_needRound, [])
set_option maxRecDepth 100000 in
theorem ck_X6_needRound_0 : en_all x_X6_needRound_0 m_X6_needRound_0 u_X6_needRound_0 7 = true := by decide +kernel
theorem ct_X6_needRound_0 {l : Launch} (hl : l.stackTraces = false) {PP : Int32 → Int32 → Prop} (hPP : en_P0 PP) (Ω : Nat → en_H → va_W → Prop) : en_Ctr l vwCl en_TY0 PP en_om0 Ω en_KT yX6_needRound (Cond.code yX6_needRound cX6_needRound 1 none :: en_cw) (en_rm 0 (1, 6)) 4 k_X6_needRound_0 :=
  en_main (X := x_X6_needRound_0) (M := m_X6_needRound_0) hPP en_f32_ok en_f64_ok hl (by decide +kernel) ⟨en_FTX6_ok, en_PTX6_ok, en_an, en_LTX6_ok, en_LLX6_ok, en_TTX6_ok hl, ⟨cw256, cw147⟩, en_ACX6_ok⟩ de_X6_needRound ck_X6_needRound_0
def tb_X0_isDone : en_Tb := [
  (24, [(0, .aload_n 0, 1), (1, .getfield 9, 3), (4, .bipush 104, 2), (6, .if_icmp .eq 12, 3), (9, .aload_n 0, 1), (10, .getfield 9, 3), (13, .bipush 117, 2), (15, .if_icmp .ne 7, 3), (18, .iconst 1, 1), (19, .goto 4, 3), (22, .iconst 0, 1), (23, .ireturn, 1)])]
set_option maxRecDepth 40000 in
theorem de_X0_isDone : en_De tb_X0_isDone cX0_isDone := by
  unfold en_De
  decide +kernel
def k_X0_isDone_0 : en_K := (1, ([.inr (.inl 8)], []), [([.inr (.inl 8), .inl (0, 0, 0, 0)], []), ([.inr (.inl 8), .inl (1, 1, 0, 0)], [])], [], [8], (0, 0), [])
def u_X0_isDone_0 : List en_U := []
def x_X0_isDone_0 : en_Cx := ((en_KT, en_TY0, en_om0), en_FTX0, en_PTX0, [], en_LTX0, en_LLX0, en_TTX0, en_ACX0)
def m_X0_isDone_0 : en_Mx := (k_X0_isDone_0, 0, 1, (0, 2), tb_X0_isDone, [])
set_option maxRecDepth 100000 in
theorem ck_X0_isDone_0 : en_all x_X0_isDone_0 m_X0_isDone_0 u_X0_isDone_0 14 = true := by decide +kernel
theorem ct_X0_isDone_0 {l : Launch} (hl : l.stackTraces = false) {PP : Int32 → Int32 → Prop} (hPP : en_P0 PP) (Ω : Nat → en_H → va_W → Prop) : en_Ctr l vwCl en_TY0 PP en_om0 Ω en_KT yX0_isDone (Cond.code yX0_isDone cX0_isDone 1 (some .boolean) :: en_cw) (en_rm 0 (0, 0)) 0 k_X0_isDone_0 :=
  en_main (X := x_X0_isDone_0) (M := m_X0_isDone_0) hPP en_f32_ok en_f64_ok hl (by decide +kernel) ⟨en_FTX0_ok, en_PTX0_ok, en_an, en_LTX0_ok, en_LLX0_ok, en_TTX0_ok hl, ⟨cw256, cw147⟩, en_ACX0_ok⟩ de_X0_isDone ck_X0_isDone_0
def tb_X0_putByRelief : en_Tb := [
  (27, [(0, .aload_n 0, 1), (1, .bipush 108, 2), (3, .putfield 9, 3), (6, .aload_n 0, 1), (7, .iload_n 1, 1), (8, .putfield 15, 3), (11, .aload_n 0, 1), (12, .iload_n 1, 1), (13, .iload_n 2, 1), (14, .if_icmp .ne 7, 3), (17, .iconst 1, 1), (18, .goto 4, 3), (21, .iconst 0, 1), (22, .putfield 19, 3), (25, .aload_n 0, 1), (26, .bipush 45, 2)]), 
  (37, [(28, .putfield 35, 3), (31, .aload_n 0, 1), (32, .iconst 0, 1), (33, .putfield 38, 3), (36, .return_, 1)])]
set_option maxRecDepth 40000 in
theorem de_X0_putByRelief : en_De tb_X0_putByRelief cX0_putByRelief := by
  unfold en_De
  decide +kernel
def k_X0_putByRelief_0 : en_K := (3, ([.inr (.inl 8), .inl ((-2147483648), 2147483647, 0, 0), .inl ((-2147483648), 2147483647, 0, 0)], []), [([.inr (.inl 8), .inl ((-2147483648), 2147483647, 0, 0), .inl ((-2147483648), 2147483647, 0, 0)], [(0, 0, 1, 1, 0, 0)])], [(8, 0), (8, 1), (8, 2), (8, 7), (8, 9)], [8], (0, 0), [])
def u_X0_putByRelief_0 : List en_U := []
def x_X0_putByRelief_0 : en_Cx := ((en_KT, en_TY0, en_om0), en_FTX0, en_PTX0, [], en_LTX0, en_LLX0, en_TTX0, en_ACX0)
def m_X0_putByRelief_0 : en_Mx := (k_X0_putByRelief_0, 0, 3, (4, 0), tb_X0_putByRelief, [])
set_option maxRecDepth 100000 in
theorem ck_X0_putByRelief_0 : en_all x_X0_putByRelief_0 m_X0_putByRelief_0 u_X0_putByRelief_0 23 = true := by decide +kernel
theorem ct_X0_putByRelief_0 {l : Launch} (hl : l.stackTraces = false) {PP : Int32 → Int32 → Prop} (hPP : en_P0 PP) (Ω : Nat → en_H → va_W → Prop) : en_Ctr l vwCl en_TY0 PP en_om0 Ω en_KT yX0_putByRelief (Cond.code yX0_putByRelief cX0_putByRelief 3 none :: en_cw) (en_rm 0 (0, 0)) 4 k_X0_putByRelief_0 :=
  en_main (X := x_X0_putByRelief_0) (M := m_X0_putByRelief_0) hPP en_f32_ok en_f64_ok hl (by decide +kernel) ⟨en_FTX0_ok, en_PTX0_ok, en_an, en_LTX0_ok, en_LLX0_ok, en_TTX0_ok hl, ⟨cw256, cw147⟩, en_ACX0_ok⟩ de_X0_putByRelief ck_X0_putByRelief_0
def tb_X0_scoreSoFar : en_Tb := [
  (10, [(0, .aload_n 0, 1), (1, .getfield 29, 3), (4, .aload_n 0, 1), (5, .getfield 32, 3), (8, .iadd, 1), (9, .ireturn, 1)])]
set_option maxRecDepth 40000 in
theorem de_X0_scoreSoFar : en_De tb_X0_scoreSoFar cX0_scoreSoFar := by
  unfold en_De
  decide +kernel
def k_X0_scoreSoFar_0 : en_K := (1, ([.inr (.inl 8)], []), [([.inr (.inl 8), .inl ((-2147483648), 2147483647, 0, 0)], [])], [], [8], (0, 0), [])
def u_X0_scoreSoFar_0 : List en_U := []
def x_X0_scoreSoFar_0 : en_Cx := ((en_KT, en_TY0, en_om0), en_FTX0, en_PTX0, [], en_LTX0, en_LLX0, en_TTX0, en_ACX0)
def m_X0_scoreSoFar_0 : en_Mx := (k_X0_scoreSoFar_0, 0, 1, (0, 0), tb_X0_scoreSoFar, [])
set_option maxRecDepth 100000 in
theorem ck_X0_scoreSoFar_0 : en_all x_X0_scoreSoFar_0 m_X0_scoreSoFar_0 u_X0_scoreSoFar_0 9 = true := by decide +kernel
theorem ct_X0_scoreSoFar_0 {l : Launch} (hl : l.stackTraces = false) {PP : Int32 → Int32 → Prop} (hPP : en_P0 PP) (Ω : Nat → en_H → va_W → Prop) : en_Ctr l vwCl en_TY0 PP en_om0 Ω en_KT yX0_scoreSoFar (Cond.code yX0_scoreSoFar cX0_scoreSoFar 1 (some .int) :: en_cw) (en_rm 0 (0, 0)) 0 k_X0_scoreSoFar_0 :=
  en_main (X := x_X0_scoreSoFar_0) (M := m_X0_scoreSoFar_0) hPP en_f32_ok en_f64_ok hl (by decide +kernel) ⟨en_FTX0_ok, en_PTX0_ok, en_an, en_LTX0_ok, en_LLX0_ok, en_TTX0_ok hl, ⟨cw256, cw147⟩, en_ACX0_ok⟩ de_X0_scoreSoFar ck_X0_scoreSoFar_0
def tb_X6_relieveWithPenalty : en_Tb := [
  (26, [(0, .aload_n 0, 1), (1, .getfield 30, 3), (4, .iconst (-1), 1), (5, .putfield 193, 3), (8, .aload_n 1, 1), (9, .dup, 1), (10, .getfield 358, 3), (13, .iconst 1, 1), (14, .iadd, 1), (15, .putfield 358, 3), (18, .aload_n 1, 1), (19, .iload_n 2, 1), (20, .aload_n 0, 1), (21, .getfield 11, 3), (24, .aload_n 0, 1), (25, .getfield 170, 3)]), 
  (40, [(28, .aaload, 1), (29, .getfield 92, 3), (32, .invokevirtual 332, 3), (35, .aload_n 1, 1), (36, .invokevirtual 351, 3), (39, .ireturn, 1)])]
set_option maxRecDepth 40000 in
theorem de_X6_relieveWithPenalty : en_De tb_X6_relieveWithPenalty cX6_relieveWithPenalty := by
  unfold en_De
  decide +kernel
def k_X6_relieveWithPenalty_0 : en_K := (3, ([.inr (.inl 0), .inr (.inl 8), .inl ((-2147483648), 2147483647, 0, 0)], []), [([.inr (.inl 0), .inr (.inl 8), .inl ((-2147483648), 2147483647, 0, 0), .inl ((-2147483648), 2147483647, 0, 0)], [(0, 1, 1, 2, 0, 0)])], [(4, 1), (8, 0), (8, 1), (8, 2), (8, 6), (8, 7), (8, 9)], [0, 1, 4, 5, 8], (0, 0), [])
def u_X6_relieveWithPenalty_0 : List en_U := []
def x_X6_relieveWithPenalty_0 : en_Cx := ((en_KT, en_TY0, en_om0), en_FTX6, en_PTX6, [(332, true, 6, 4, 0, k_X0_putByRelief_0), (351, true, 6, 0, 0, k_X0_scoreSoFar_0)], en_LTX6, en_LLX6, en_TTX6, en_ACX6)
def m_X6_relieveWithPenalty_0 : en_Mx := (k_X6_relieveWithPenalty_0, 1, 3, (0, 0), tb_X6_relieveWithPenalty, [])
set_option maxRecDepth 100000 in
theorem ck_X6_relieveWithPenalty_0 : en_all x_X6_relieveWithPenalty_0 m_X6_relieveWithPenalty_0 u_X6_relieveWithPenalty_0 25 = true := by decide +kernel
theorem ct_X6_relieveWithPenalty_0 {l : Launch} (hl : l.stackTraces = false) {PP : Int32 → Int32 → Prop} (hPP : en_P0 PP) (Ω : Nat → en_H → va_W → Prop) : en_Ctr l vwCl en_TY0 PP en_om0 Ω en_KT yX6_relieveWithPenalty (Cond.code yX6_relieveWithPenalty cX6_relieveWithPenalty 3 (some .int) :: en_cw) (en_rm 1 (0, 0)) 0 k_X6_relieveWithPenalty_0 :=
  en_main (X := x_X6_relieveWithPenalty_0) (M := m_X6_relieveWithPenalty_0) hPP en_f32_ok en_f64_ok hl (by decide +kernel) ⟨en_FTX6_ok, en_PTX6_ok, en_ac (⟨yX0_putByRelief, RX0, cX0_putByRelief, 3, none, by decide, ct_X0_putByRelief_0 hl hPP Ω, fun _ => ⟨gc_RX6_332v, by decide, _, rfl, rfl⟩, fun h => Bool.noConfusion h⟩) (en_ac (⟨yX0_scoreSoFar, RX0, cX0_scoreSoFar, 1, (some .int), by decide, ct_X0_scoreSoFar_0 hl hPP Ω, fun _ => ⟨gc_RX6_351v, by decide, _, rfl, rfl⟩, fun h => Bool.noConfusion h⟩) en_an), en_LTX6_ok, en_LLX6_ok, en_TTX6_ok hl, ⟨cw256, cw147⟩, en_ACX6_ok⟩ de_X6_relieveWithPenalty ck_X6_relieveWithPenalty_0
def tb_X6_again : en_Tb := [
  (29, [(0, .aload_n 0, 1), (1, .iload_n 1, 1), (2, .invokevirtual 127, 3), (5, .aload_n 0, 1), (6, .invokevirtual 167, 3), (9, .aload_n 0, 1), (10, .getfield 18, 3), (13, .iload_n 1, 1), (14, .aaload, 1), (15, .getfield 185, 3), (18, .astore_n 2, 1), (19, .aload_n 2, 1), (20, .getfield 205, 3), (23, .bipush 110, 2), (25, .if_icmp .eq 17, 3), (28, .aload_n 2, 1)]), 
  (63, [(29, .invokevirtual 280, 3), (32, .ifCond .ne 10, 3), (35, .aload_n 2, 1), (36, .getfield 283, 3), (39, .ifCond .ne 14, 3), (42, .new 74, 3), (45, .dup, 1), (46, .ldc_w 286, 3), (49, .invokespecial 78, 3), (52, .athrow, 1), (53, .aload_n 0, 1), (54, .aload_n 2, 1), (55, .aload_n 2, 1), (56, .getfield 253, 3), (59, .invokevirtual 288, 3), (62, .ireturn, 1)])]
set_option maxRecDepth 40000 in
theorem de_X6_again : en_De tb_X6_again cX6_again := by
  unfold en_De
  decide +kernel
def k_X6_again_0 : en_K := (2, ([.inr (.inl 0), .inl ((-2147483648), 2147483647, 0, 0)], []), [([.inr (.inl 0), .inl (0, 5, 0, 0), .inl ((-2147483648), 2147483647, 0, 0)], [])], [(4, 1), (8, 0), (8, 1), (8, 2), (8, 6), (8, 7), (8, 9)], [0, 1, 2, 4, 5, 7, 8], (3, 18), [1, 2, 3])
def u_X6_again_0 : List en_U := []
def x_X6_again_0 : en_Cx := ((en_KT, en_TY0, en_om0), en_FTX6, en_PTX6, [(127, true, 12, 4, 0, k_X6_needPlayer_0), (167, true, 12, 4, 0, k_X6_needRound_0), (280, true, 6, 0, 0, k_X0_isDone_0), (288, true, 12, 0, 1, k_X6_relieveWithPenalty_0)], en_LTX6, en_LLX6, en_TTX6, en_ACX6)
def m_X6_again_0 : en_Mx := (k_X6_again_0, 2, 3, (0, 0), tb_X6_again, [])
set_option maxRecDepth 100000 in
theorem ck_X6_again_0 : en_all x_X6_again_0 m_X6_again_0 u_X6_again_0 30 = true := by decide +kernel
theorem ct_X6_again_0 {l : Launch} (hl : l.stackTraces = false) {PP : Int32 → Int32 → Prop} (hPP : en_P0 PP) (Ω : Nat → en_H → va_W → Prop) : en_Ctr l vwCl en_TY0 PP en_om0 Ω en_KT yX6_again (Cond.code yX6_again cX6_again 3 (some .int) :: en_cw) (en_rm 2 (3, 18)) 0 k_X6_again_0 :=
  en_main (X := x_X6_again_0) (M := m_X6_again_0) hPP en_f32_ok en_f64_ok hl (by decide +kernel) ⟨en_FTX6_ok, en_PTX6_ok, en_ac (⟨yX6_needPlayer, RX6, cX6_needPlayer, 2, none, by decide, ct_X6_needPlayer_0 hl hPP Ω, fun _ => ⟨gc_RX6_127v, by decide, _, rfl, rfl⟩, fun h => Bool.noConfusion h⟩) (en_ac (⟨yX6_needRound, RX6, cX6_needRound, 1, none, by decide, ct_X6_needRound_0 hl hPP Ω, fun _ => ⟨gc_RX6_167v, by decide, _, rfl, rfl⟩, fun h => Bool.noConfusion h⟩) (en_ac (⟨yX0_isDone, RX0, cX0_isDone, 1, (some .boolean), by decide, ct_X0_isDone_0 hl hPP Ω, fun _ => ⟨gc_RX6_280v, by decide, _, rfl, rfl⟩, fun h => Bool.noConfusion h⟩) (en_ac (⟨yX6_relieveWithPenalty, RX6, cX6_relieveWithPenalty, 3, (some .int), by decide, ct_X6_relieveWithPenalty_0 hl hPP Ω, fun _ => ⟨gc_RX6_288v, by decide, _, rfl, rfl⟩, fun h => Bool.noConfusion h⟩) en_an))), en_LTX6_ok, en_LLX6_ok, en_TTX6_ok hl, ⟨cw256, cw147⟩, en_ACX6_ok⟩ de_X6_again ck_X6_again_0
def tb_X6_needHole : en_Tb := [
  (24, [(0, .iload_n 1, 1), (1, .ifCond .lt 11, 3), (4, .iload_n 1, 1), (5, .aload_n 0, 1), (6, .getfield 62, 3), (9, .if_icmp .lt 14, 3), (12, .new 535, 3), (15, .dup, 1), (16, .ldc_w 570, 3), (19, .invokespecial 539, 3), (22, .athrow, 1), (23, .return_, 1)])]
set_option maxRecDepth 40000 in
theorem de_X6_needHole : en_De tb_X6_needHole cX6_needHole := by
  unfold en_De
  decide +kernel
def k_X6_needHole_0 : en_K := (2, ([.inr (.inl 0), .inl ((-2147483648), 2147483647, 0, 0)], []), [([.inr (.inl 0), .inl (0, 8, 0, 0)], [])], [], [0], (1, 6), [3])
def u_X6_needHole_0 : List en_U := []
def x_X6_needHole_0 : en_Cx := ((en_KT, en_TY0, en_om0), en_FTX6, en_PTX6, [], en_LTX6, en_LLX6, en_TTX6, en_ACX6)
def m_X6_needHole_0 : en_Mx := (k_X6_needHole_0, 0, 2, (4, 0), tb_X6_needHole, [])
set_option maxRecDepth 100000 in
theorem ck_X6_needHole_0 : en_all x_X6_needHole_0 m_X6_needHole_0 u_X6_needHole_0 10 = true := by decide +kernel
theorem ct_X6_needHole_0 {l : Launch} (hl : l.stackTraces = false) {PP : Int32 → Int32 → Prop} (hPP : en_P0 PP) (Ω : Nat → en_H → va_W → Prop) : en_Ctr l vwCl en_TY0 PP en_om0 Ω en_KT yX6_needHole (Cond.code yX6_needHole cX6_needHole 2 none :: en_cw) (en_rm 0 (1, 6)) 4 k_X6_needHole_0 :=
  en_main (X := x_X6_needHole_0) (M := m_X6_needHole_0) hPP en_f32_ok en_f64_ok hl (by decide +kernel) ⟨en_FTX6_ok, en_PTX6_ok, en_an, en_LTX6_ok, en_LLX6_ok, en_TTX6_ok hl, ⟨cw256, cw147⟩, en_ACX6_ok⟩ de_X6_needHole ck_X6_needHole_0
def tb_X6_isKind : en_Tb := [
  (88, [(0, .iload_n 0, 1), (1, .lookupswitch 85 #[(46, 83), (98, 83), (100, 83), (103, 83), (111, 83), (112, 83), (114, 83), (119, 83), (121, 83)], 83), (84, .iconst 1, 1), (85, .ireturn, 1), (86, .iconst 0, 1), (87, .ireturn, 1)])]
set_option maxRecDepth 40000 in
theorem de_X6_isKind : en_De tb_X6_isKind cX6_isKind := by
  unfold en_De
  decide +kernel
def k_X6_isKind_0 : en_K := (1, ([.inl (0, 65535, 0, 0)], []), [([.inl (0, 65535, 0, 0), .inl (0, 0, 0, 0)], []), ([.inl (46, 121, 0, 0), .inl (1, 1, 0, 0)], [])], [], [], (0, 0), [])
def u_X6_isKind_0 : List en_U := []
def x_X6_isKind_0 : en_Cx := ((en_KT, en_TY0, en_om0), en_FTX6, en_PTX6, [], en_LTX6, en_LLX6, en_TTX6, en_ACX6)
def m_X6_isKind_0 : en_Mx := (k_X6_isKind_0, 0, 1, (0, 2), tb_X6_isKind, [])
set_option maxRecDepth 100000 in
theorem ck_X6_isKind_0 : en_all x_X6_isKind_0 m_X6_isKind_0 u_X6_isKind_0 7 = true := by decide +kernel
theorem ct_X6_isKind_0 {l : Launch} (hl : l.stackTraces = false) {PP : Int32 → Int32 → Prop} (hPP : en_P0 PP) (Ω : Nat → en_H → va_W → Prop) : en_Ctr l vwCl en_TY0 PP en_om0 Ω en_KT yX6_isKind (Cond.code yX6_isKind cX6_isKind 1 (some .boolean) :: en_cw) (en_rm 0 (0, 0)) 0 k_X6_isKind_0 :=
  en_main (X := x_X6_isKind_0) (M := m_X6_isKind_0) hPP en_f32_ok en_f64_ok hl (by decide +kernel) ⟨en_FTX6_ok, en_PTX6_ok, en_an, en_LTX6_ok, en_LLX6_ok, en_TTX6_ok hl, ⟨cw256, cw147⟩, en_ACX6_ok⟩ de_X6_isKind ck_X6_isKind_0
def tb_X6_isCell : en_Tb := [
  (26, [(0, .iload_n 0, 1), (1, .ifCond .lt 23, 3), (4, .iload_n 0, 1), (5, .bipush 30, 2), (7, .if_icmp .ge 17, 3), (10, .iload_n 1, 1), (11, .ifCond .lt 13, 3), (14, .iload_n 1, 1), (15, .bipush 20, 2), (17, .if_icmp .ge 7, 3), (20, .iconst 1, 1), (21, .goto 4, 3), (24, .iconst 0, 1), (25, .ireturn, 1)])]
set_option maxRecDepth 40000 in
theorem de_X6_isCell : en_De tb_X6_isCell cX6_isCell := by
  unfold en_De
  decide +kernel
def k_X6_isCell_0 : en_K := (2, ([.inl ((-2147483648), 2147483647, 0, 0), .inl ((-2147483648), 2147483647, 0, 0)], []), [([.inl ((-2147483648), 2147483647, 0, 0), .inl ((-2147483648), 2147483647, 0, 0), .inl (0, 0, 0, 0)], []), ([.inl (0, 29, 0, 0), .inl (0, 19, 0, 0), .inl (1, 1, 0, 0)], [])], [], [], (0, 0), [])
def u_X6_isCell_0 : List en_U := []
def x_X6_isCell_0 : en_Cx := ((en_KT, en_TY0, en_om0), en_FTX6, en_PTX6, [], en_LTX6, en_LLX6, en_TTX6, en_ACX6)
def m_X6_isCell_0 : en_Mx := (k_X6_isCell_0, 0, 2, (0, 2), tb_X6_isCell, [])
set_option maxRecDepth 100000 in
theorem ck_X6_isCell_0 : en_all x_X6_isCell_0 m_X6_isCell_0 u_X6_isCell_0 16 = true := by decide +kernel
theorem ct_X6_isCell_0 {l : Launch} (hl : l.stackTraces = false) {PP : Int32 → Int32 → Prop} (hPP : en_P0 PP) (Ω : Nat → en_H → va_W → Prop) : en_Ctr l vwCl en_TY0 PP en_om0 Ω en_KT yX6_isCell (Cond.code yX6_isCell cX6_isCell 2 (some .boolean) :: en_cw) (en_rm 0 (0, 0)) 0 k_X6_isCell_0 :=
  en_main (X := x_X6_isCell_0) (M := m_X6_isCell_0) hPP en_f32_ok en_f64_ok hl (by decide +kernel) ⟨en_FTX6_ok, en_PTX6_ok, en_an, en_LTX6_ok, en_LLX6_ok, en_TTX6_ok hl, ⟨cw256, cw147⟩, en_ACX6_ok⟩ de_X6_isCell ck_X6_isCell_0
def tb_X6_cellAt : en_Tb := [
  (7, [(0, .iload_n 1, 1), (1, .bipush 30, 2), (3, .imul, 1), (4, .iload_n 0, 1), (5, .iadd, 1), (6, .ireturn, 1)])]
set_option maxRecDepth 40000 in
theorem de_X6_cellAt : en_De tb_X6_cellAt cX6_cellAt := by
  unfold en_De
  decide +kernel
def k_X6_cellAt_0 : en_K := (2, ([.inl (0, 29, 0, 0), .inl (0, 19, 0, 0)], []), [([.inl (0, 29, 0, 0), .inl (0, 19, 0, 0), .inl (0, 599, 0, 0)], [])], [], [], (0, 0), [])
def u_X6_cellAt_0 : List en_U := []
def x_X6_cellAt_0 : en_Cx := ((en_KT, en_TY0, en_om0), en_FTX6, en_PTX6, [], en_LTX6, en_LLX6, en_TTX6, en_ACX6)
def m_X6_cellAt_0 : en_Mx := (k_X6_cellAt_0, 0, 2, (0, 0), tb_X6_cellAt, [])
set_option maxRecDepth 100000 in
theorem ck_X6_cellAt_0 : en_all x_X6_cellAt_0 m_X6_cellAt_0 u_X6_cellAt_0 9 = true := by decide +kernel
theorem ct_X6_cellAt_0 {l : Launch} (hl : l.stackTraces = false) {PP : Int32 → Int32 → Prop} (hPP : en_P0 PP) (Ω : Nat → en_H → va_W → Prop) : en_Ctr l vwCl en_TY0 PP en_om0 Ω en_KT yX6_cellAt (Cond.code yX6_cellAt cX6_cellAt 2 (some .int) :: en_cw) (en_rm 0 (0, 0)) 0 k_X6_cellAt_0 :=
  en_main (X := x_X6_cellAt_0) (M := m_X6_cellAt_0) hPP en_f32_ok en_f64_ok hl (by decide +kernel) ⟨en_FTX6_ok, en_PTX6_ok, en_an, en_LTX6_ok, en_LLX6_ok, en_TTX6_ok hl, ⟨cw256, cw147⟩, en_ACX6_ok⟩ de_X6_cellAt ck_X6_cellAt_0
def tb_X3_paint : en_Tb := [
  (32, [(0, .iload_n 3, 1), (1, .istore 6, 2), (3, .iload 6, 2), (5, .iload 5, 2), (7, .if_icmp .gt 48, 3), (10, .iload_n 2, 1), (11, .istore 7, 2), (13, .iload 7, 2), (15, .iload 4, 2), (17, .if_icmp .gt 32, 3), (20, .iload 7, 2), (22, .iload 6, 2), (24, .invokestatic 15, 3), (27, .ifCond .eq 16, 3), (30, .aload_n 0, 1), (31, .getfield 9, 3)]), 
  (66, [(34, .iload 7, 2), (36, .iload 6, 2), (38, .invokestatic 19, 3), (41, .iload_n 1, 1), (42, .castore, 1), (43, .iinc 7 1, 3), (46, .goto (-33), 3), (49, .iinc 6 1, 3), (52, .goto (-49), 3), (55, .aload_n 0, 1), (56, .dup, 1), (57, .getfield 23, 3), (60, .iconst 1, 1), (61, .iadd, 1), (62, .putfield 23, 3), (65, .return_, 1)])]
set_option maxRecDepth 40000 in
theorem de_X3_paint : en_De tb_X3_paint cX3_paint := by
  unfold en_De
  decide +kernel
def k_X3_paint_0 : en_K := (6, ([.inr (.inl 5), .inl (46, 121, 0, 0), .inl (0, 29, 0, 0), .inl (0, 19, 0, 0), .inl (0, 29, 0, 0), .inl (0, 19, 0, 0)], []), [([.inr (.inl 5), .inl (46, 121, 0, 0), .inl (0, 29, 0, 0), .inl (0, 19, 0, 0), .inl (0, 29, 0, 0), .inl (0, 19, 0, 0)], [])], [(5, 5), (6, 0)], [5, 6], (0, 0), [])
def u_X3_paint_0 : List en_U := [
  (3, ([.inr (.inl 5), .inl (46, 121, 0, 0), .inl (0, 29, 0, 0), .inl (0, 19, 0, 0), .inl (0, 29, 0, 0), .inl (0, 19, 0, 0), .inl (0, 20, 0, 0)], []), [(0, 0), (1, 1), (2, 2), (3, 3), (4, 4), (5, 5), (6, 6)], (0, 0), [((-67), 6)], 1474), 
  (13, ([.inr (.inl 5), .inl (46, 121, 0, 0), .inl (0, 29, 0, 0), .inl (0, 19, 0, 0), .inl (0, 29, 0, 0), .inl (0, 19, 0, 0), .inl (0, 30, 0, 0), .inl (0, 19, 0, 0)], []), [(0, 0), (1, 1), (2, 2), (3, 3), (4, 4), (5, 5), (7, 6), (6, 7)], (0, 0), [((-67), 7), ((-2), 6)], 1472)]
def x_X3_paint_0 : en_Cx := ((en_KT, en_TY0, en_om0), en_FTX3, en_PTX3, [(15, false, 0, 0, 0, k_X6_isCell_0), (19, false, 0, 0, 0, k_X6_cellAt_0)], en_LTX3, en_LLX3, en_TTX3, en_ACX3)
def m_X3_paint_0 : en_Mx := (k_X3_paint_0, 1, 8, (4, 0), tb_X3_paint, [])
set_option maxRecDepth 100000 in
theorem ck_X3_paint_0 : en_all x_X3_paint_0 m_X3_paint_0 u_X3_paint_0 19 = true := by decide +kernel
theorem ct_X3_paint_0 {l : Launch} (hl : l.stackTraces = false) {PP : Int32 → Int32 → Prop} (hPP : en_P0 PP) (Ω : Nat → en_H → va_W → Prop) : en_Ctr l vwCl en_TY0 PP en_om0 Ω en_KT yX3_paint (Cond.code yX3_paint cX3_paint 8 none :: en_cw) (en_rm 1 (0, 0)) 4 k_X3_paint_0 :=
  en_main (X := x_X3_paint_0) (M := m_X3_paint_0) hPP en_f32_ok en_f64_ok hl (by decide +kernel) ⟨en_FTX3_ok, en_PTX3_ok, en_ac (⟨yX6_isCell, RX6, cX6_isCell, 2, (some .boolean), by decide, ct_X6_isCell_0 hl hPP Ω, fun h => Bool.noConfusion h, fun _ => gc_RX3_15s⟩) (en_ac (⟨yX6_cellAt, RX6, cX6_cellAt, 2, (some .int), by decide, ct_X6_cellAt_0 hl hPP Ω, fun h => Bool.noConfusion h, fun _ => gc_RX3_19s⟩) en_an), en_LTX3_ok, en_LLX3_ok, en_TTX3_ok hl, ⟨cw256, cw147⟩, en_ACX3_ok⟩ de_X3_paint ck_X3_paint_0
