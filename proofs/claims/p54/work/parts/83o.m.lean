def k_X6_begin_10 : en_K := (2, ([.inr (.inl 0), .inl (109, 109, 0, 0), .inl (1, 1, 0, 0)], [(0, 0, 5, 2, 0, 0)]), [], [], [0], (1, 6), [2])
def u_X6_begin_10 : List en_U := []
def x_X6_begin_10 : en_Cx := ((en_KT, en_TY0, en_om0), en_FTX6, en_PTX6, [], en_LTX6, en_LLX6, en_TTX6, en_ACX6)
def m_X6_begin_10 : en_Mx := (k_X6_begin_10, 0, 3, (0, 0), tb_X6_begin, [])
set_option maxRecDepth 100000 in
theorem ck_X6_begin_10 : en_all x_X6_begin_10 m_X6_begin_10 u_X6_begin_10 26 = true := by decide +kernel
theorem ct_X6_begin_10 {l : Launch} (hl : l.stackTraces = false) {PP : Int32 → Int32 → Prop} (hPP : en_P0 PP) (Ω : Nat → en_H → va_W → Prop) : en_Ctr l vwCl en_TY0 PP en_om0 Ω en_KT yX6_begin (Cond.code yX6_begin cX6_begin 3 (some .int) :: en_cw) (en_rm 0 (1, 6)) 0 k_X6_begin_10 :=
  en_main (X := x_X6_begin_10) (M := m_X6_begin_10) hPP en_f32_ok en_f64_ok hl (by decide +kernel) ⟨en_FTX6_ok, en_PTX6_ok, en_an, en_LTX6_ok, en_LLX6_ok, en_TTX6_ok hl, ⟨cw256, cw147⟩, en_ACX6_ok⟩ de_X6_begin ck_X6_begin_10
def k_X6_begin_11 : en_K := (2, ([.inr (.inl 0), .inl (109, 109, 0, 0), .inl (3, 6, 0, 0)], [(0, 0, 5, 2, 0, 0)]), [], [], [0], (1, 6), [2])
def u_X6_begin_11 : List en_U := []
def x_X6_begin_11 : en_Cx := ((en_KT, en_TY0, en_om0), en_FTX6, en_PTX6, [], en_LTX6, en_LLX6, en_TTX6, en_ACX6)
def m_X6_begin_11 : en_Mx := (k_X6_begin_11, 0, 3, (0, 0), tb_X6_begin, [])
set_option maxRecDepth 100000 in
theorem ck_X6_begin_11 : en_all x_X6_begin_11 m_X6_begin_11 u_X6_begin_11 26 = true := by decide +kernel
theorem ct_X6_begin_11 {l : Launch} (hl : l.stackTraces = false) {PP : Int32 → Int32 → Prop} (hPP : en_P0 PP) (Ω : Nat → en_H → va_W → Prop) : en_Ctr l vwCl en_TY0 PP en_om0 Ω en_KT yX6_begin (Cond.code yX6_begin cX6_begin 3 (some .int) :: en_cw) (en_rm 0 (1, 6)) 0 k_X6_begin_11 :=
  en_main (X := x_X6_begin_11) (M := m_X6_begin_11) hPP en_f32_ok en_f64_ok hl (by decide +kernel) ⟨en_FTX6_ok, en_PTX6_ok, en_an, en_LTX6_ok, en_LLX6_ok, en_TTX6_ok hl, ⟨cw256, cw147⟩, en_ACX6_ok⟩ de_X6_begin ck_X6_begin_11
def k_X6_begin_12 : en_K := (2, ([.inr (.inl 0), .inl (115, 115, 0, 0), .inl (1, 9, 0, 0), .inl (1, 6, 0, 0), .inl (0, 0, 0, 0)], [(0, 0, 4, 2, 0, 0), (0, 0, 5, 3, 0, 0), (0, 0, 11, 4, 0, 0)]), [([.inr (.inl 0), .inl (115, 115, 0, 0), .inl (1, 9, 0, 0), .inl (1, 1, 0, 0)], [(0, 0, 9, 1, 0, 0), (0, 0, 4, 2, 0, 0), (0, 0, 10, 3, 0, 0), (6, 2, 0, 0, 0, 0)])], [(0, 9), (0, 10), (0, 11), (0, 12), (0, 13), (3, 0), (4, 1), (4, 2), (4, 3), (4, 4), (4, 5), (8, 0), (8, 1), (8, 2), (8, 3), (8, 4), (8, 5), (8, 6), (8, 7), (8, 9), (8, 10), (9, 3), (9, 4), (9, 5), (10, 0)], [0, 1, 2, 3, 4, 5, 7, 8, 9, 10], (0, 0), [])
def u_X6_begin_12 : List en_U := [
  (96, ([.inr (.inl 0), .inl (115, 115, 0, 0), .inl (0, 6, 0, 0), .inl (1, 1, 0, 0), .inl (1, 1, 0, 0), .inl (0, 0, 0, 0), .inl (1, 9, 0, 0), .inl (1, 6, 0, 0)], [(0, 0, 9, 1, 0, 0), (0, 0, 10, 3, 0, 0), (0, 0, 11, 4, 0, 0), (0, 0, 12, 5, 0, 0), (0, 0, 4, 6, 0, 0), (0, 0, 5, 7, 0, 0), (6, 6, 0, 0, 0, 0), (6, 7, 0, 0, 0, 0)]), [(0, 0), (1, 1), (2, 2)], (0, 0), [((-2), 2)], 16)]
def x_X6_begin_12 : en_Cx := ((en_KT, en_TY0, en_om0), en_FTX6, en_PTX6, [(152, true, 10, 4, 0, k_X4_restart_0), (159, true, 7, 4, 0, k_X1_wipe_0), (164, true, 12, 4, 1, k_X6_startHole_0)], en_LTX6, en_LLX6, en_TTX6, en_ACX6)
def m_X6_begin_12 : en_Mx := (k_X6_begin_12, 2, 3, (0, 0), tb_X6_begin, [])
set_option maxRecDepth 100000 in
theorem ck_X6_begin_12 : en_all x_X6_begin_12 m_X6_begin_12 u_X6_begin_12 35 = true := by decide +kernel
theorem ct_X6_begin_12 {l : Launch} (hl : l.stackTraces = false) {PP : Int32 → Int32 → Prop} (hPP : en_P0 PP) (Ω : Nat → en_H → va_W → Prop) : en_Ctr l vwCl en_TY0 PP en_om0 Ω en_KT yX6_begin (Cond.code yX6_begin cX6_begin 3 (some .int) :: en_cw) (en_rm 2 (0, 0)) 0 k_X6_begin_12 :=
  en_main (X := x_X6_begin_12) (M := m_X6_begin_12) hPP en_f32_ok en_f64_ok hl (by decide +kernel) ⟨en_FTX6_ok, en_PTX6_ok, en_ac (⟨yX4_restart, RX4, cX4_restart, 1, none, by decide, ct_X4_restart_0 hl hPP Ω, fun _ => ⟨gc_RX6_152v, by decide, _, rfl, rfl⟩, fun h => Bool.noConfusion h⟩) (en_ac (⟨yX1_wipe, RX1, cX1_wipe, 2, none, by decide, ct_X1_wipe_0 hl hPP Ω, fun _ => ⟨gc_RX6_159v, by decide, _, rfl, rfl⟩, fun h => Bool.noConfusion h⟩) (en_ac (⟨yX6_startHole, RX6, cX6_startHole, 3, none, by decide, ct_X6_startHole_0 hl hPP Ω, fun _ => ⟨gc_RX6_164v, by decide, _, rfl, rfl⟩, fun h => Bool.noConfusion h⟩) en_an)), en_LTX6_ok, en_LLX6_ok, en_TTX6_ok hl, ⟨cw256, cw147⟩, en_ACX6_ok⟩ de_X6_begin ck_X6_begin_12
def k_X6_begin_13 : en_K := (2, ([.inr (.inl 0), .inl (109, 109, 0, 0), .inl (1, 9, 0, 0), .inl (2, 2, 0, 0), .inl (0, 0, 0, 0)], [(0, 0, 4, 2, 0, 0), (0, 0, 5, 3, 0, 0), (0, 0, 11, 4, 0, 0)]), [([.inr (.inl 0), .inl (109, 109, 0, 0), .inl (1, 9, 0, 0), .inl (1, 1, 0, 0)], [(0, 0, 9, 1, 0, 0), (0, 0, 4, 2, 0, 0), (0, 0, 10, 3, 0, 0), (6, 2, 0, 0, 0, 0)])], [(0, 9), (0, 10), (0, 11), (0, 12), (0, 13), (3, 0), (4, 1), (4, 2), (4, 3), (4, 4), (4, 5), (8, 0), (8, 1), (8, 2), (8, 3), (8, 4), (8, 5), (8, 6), (8, 7), (8, 9), (8, 10), (9, 3), (9, 4), (9, 5), (10, 0)], [0, 1, 2, 3, 4, 5, 7, 8, 9, 10], (0, 0), [])
def u_X6_begin_13 : List en_U := [
  (96, ([.inr (.inl 0), .inl (109, 109, 0, 0), .inl (0, 2, 0, 0), .inl (1, 1, 0, 0), .inl (1, 1, 0, 0), .inl (0, 0, 0, 0), .inl (1, 9, 0, 0), .inl (2, 2, 0, 0)], [(0, 0, 9, 1, 0, 0), (0, 0, 10, 3, 0, 0), (0, 0, 11, 4, 0, 0), (0, 0, 12, 5, 0, 0), (0, 0, 4, 6, 0, 0), (0, 0, 5, 7, 0, 0), (6, 6, 0, 0, 0, 0), (6, 7, 0, 0, 0, 0)]), [(0, 0), (1, 1), (2, 2)], (0, 0), [((-2), 2)], 8)]
def x_X6_begin_13 : en_Cx := ((en_KT, en_TY0, en_om0), en_FTX6, en_PTX6, [(152, true, 10, 4, 0, k_X4_restart_0), (159, true, 7, 4, 0, k_X1_wipe_0), (164, true, 12, 4, 1, k_X6_startHole_0)], en_LTX6, en_LLX6, en_TTX6, en_ACX6)
def m_X6_begin_13 : en_Mx := (k_X6_begin_13, 2, 3, (0, 0), tb_X6_begin, [])
set_option maxRecDepth 100000 in
theorem ck_X6_begin_13 : en_all x_X6_begin_13 m_X6_begin_13 u_X6_begin_13 42 = true := by decide +kernel
theorem ct_X6_begin_13 {l : Launch} (hl : l.stackTraces = false) {PP : Int32 → Int32 → Prop} (hPP : en_P0 PP) (Ω : Nat → en_H → va_W → Prop) : en_Ctr l vwCl en_TY0 PP en_om0 Ω en_KT yX6_begin (Cond.code yX6_begin cX6_begin 3 (some .int) :: en_cw) (en_rm 2 (0, 0)) 0 k_X6_begin_13 :=
  en_main (X := x_X6_begin_13) (M := m_X6_begin_13) hPP en_f32_ok en_f64_ok hl (by decide +kernel) ⟨en_FTX6_ok, en_PTX6_ok, en_ac (⟨yX4_restart, RX4, cX4_restart, 1, none, by decide, ct_X4_restart_0 hl hPP Ω, fun _ => ⟨gc_RX6_152v, by decide, _, rfl, rfl⟩, fun h => Bool.noConfusion h⟩) (en_ac (⟨yX1_wipe, RX1, cX1_wipe, 2, none, by decide, ct_X1_wipe_0 hl hPP Ω, fun _ => ⟨gc_RX6_159v, by decide, _, rfl, rfl⟩, fun h => Bool.noConfusion h⟩) (en_ac (⟨yX6_startHole, RX6, cX6_startHole, 3, none, by decide, ct_X6_startHole_0 hl hPP Ω, fun _ => ⟨gc_RX6_164v, by decide, _, rfl, rfl⟩, fun h => Bool.noConfusion h⟩) en_an)), en_LTX6_ok, en_LLX6_ok, en_TTX6_ok hl, ⟨cw256, cw147⟩, en_ACX6_ok⟩ de_X6_begin ck_X6_begin_13
def k_X6_needRound_1 : en_K := (1, ([.inr (.inl 0), .inl (0, 0, 0, 0)], [(0, 0, 11, 1, 0, 0)]), [], [], [0], (1, 6), [1])
def u_X6_needRound_1 : List en_U := []
def x_X6_needRound_1 : en_Cx := ((en_KT, en_TY0, en_om0), en_FTX6, en_PTX6, [], en_LTX6, en_LLX6, en_TTX6, en_ACX6)
def m_X6_needRound_1 : en_Mx := (k_X6_needRound_1, 0, 1, (4, 0), tb_X6_needRound, [])
set_option maxRecDepth 100000 in
theorem ck_X6_needRound_1 : en_all x_X6_needRound_1 m_X6_needRound_1 u_X6_needRound_1 7 = true := by decide +kernel
theorem ct_X6_needRound_1 {l : Launch} (hl : l.stackTraces = false) {PP : Int32 → Int32 → Prop} (hPP : en_P0 PP) (Ω : Nat → en_H → va_W → Prop) : en_Ctr l vwCl en_TY0 PP en_om0 Ω en_KT yX6_needRound (Cond.code yX6_needRound cX6_needRound 1 none :: en_cw) (en_rm 0 (1, 6)) 4 k_X6_needRound_1 :=
  en_main (X := x_X6_needRound_1) (M := m_X6_needRound_1) hPP en_f32_ok en_f64_ok hl (by decide +kernel) ⟨en_FTX6_ok, en_PTX6_ok, en_an, en_LTX6_ok, en_LLX6_ok, en_TTX6_ok hl, ⟨cw256, cw147⟩, en_ACX6_ok⟩ de_X6_needRound ck_X6_needRound_1
def k_X6_nextHole_1 : en_K := (1, ([.inr (.inl 0), .inl (0, 0, 0, 0)], [(0, 0, 11, 1, 0, 0)]), [], [], [0], (1, 6), [1])
def u_X6_nextHole_1 : List en_U := []
def x_X6_nextHole_1 : en_Cx := ((en_KT, en_TY0, en_om0), en_FTX6, en_PTX6, [(167, true, 12, 4, 0, k_X6_needRound_1)], en_LTX6, en_LLX6, en_TTX6, en_ACX6)
def m_X6_nextHole_1 : en_Mx := (k_X6_nextHole_1, 1, 2, (0, 0), tb_X6_nextHole, [])
set_option maxRecDepth 100000 in
theorem ck_X6_nextHole_1 : en_all x_X6_nextHole_1 m_X6_nextHole_1 u_X6_nextHole_1 5 = true := by decide +kernel
theorem ct_X6_nextHole_1 {l : Launch} (hl : l.stackTraces = false) {PP : Int32 → Int32 → Prop} (hPP : en_P0 PP) (Ω : Nat → en_H → va_W → Prop) : en_Ctr l vwCl en_TY0 PP en_om0 Ω en_KT yX6_nextHole (Cond.code yX6_nextHole cX6_nextHole 2 (some .int) :: en_cw) (en_rm 1 (1, 6)) 0 k_X6_nextHole_1 :=
  en_main (X := x_X6_nextHole_1) (M := m_X6_nextHole_1) hPP en_f32_ok en_f64_ok hl (by decide +kernel) ⟨en_FTX6_ok, en_PTX6_ok, en_ac (⟨yX6_needRound, RX6, cX6_needRound, 1, none, by decide, ct_X6_needRound_1 hl hPP Ω, fun _ => ⟨gc_RX6_167v, by decide, _, rfl, rfl⟩, fun h => Bool.noConfusion h⟩) en_an, en_LTX6_ok, en_LLX6_ok, en_TTX6_ok hl, ⟨cw256, cw147⟩, en_ACX6_ok⟩ de_X6_nextHole ck_X6_nextHole_1
