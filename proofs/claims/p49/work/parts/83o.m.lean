def k_X6_conditions_10 : en_K := (2, ([.inr (.inl 0), .inl (0, 0, 0, 0), .inl (3, 3, 0, 0)], [(0, 0, 8, 2, 0, 0)]), [([.inr (.inl 0), .inl (0, 0, 0, 0), .inl (3, 3, 0, 0)], [(0, 0, 8, 1, 0, 0)])], [(0, 8)], [0], (0, 0), [])
def u_X6_conditions_10 : List en_U := []
def x_X6_conditions_10 : en_Cx := ((en_KT, en_TY0, en_om0), en_FTX6, en_PTX6, [], en_LTX6, en_LLX6, en_TTX6, en_ACX6)
def m_X6_conditions_10 : en_Mx := (k_X6_conditions_10, 0, 3, (0, 0), tb_X6_conditions, [])
set_option maxRecDepth 100000 in
theorem ck_X6_conditions_10 : en_all x_X6_conditions_10 m_X6_conditions_10 u_X6_conditions_10 17 = true := by decide +kernel
theorem ct_X6_conditions_10 {l : Launch} (hl : l.stackTraces = false) {PP : Int32 → Int32 → Prop} (hPP : en_P0 PP) (Ω : Nat → en_H → va_W → Prop) : en_Ctr l vwCl en_TY0 PP en_om0 Ω en_KT yX6_conditions (Cond.code yX6_conditions cX6_conditions 3 (some .int) :: en_cw) (en_rm 0 (0, 0)) 0 k_X6_conditions_10 :=
  en_main (X := x_X6_conditions_10) (M := m_X6_conditions_10) hPP en_f32_ok en_f64_ok hl (by decide +kernel) ⟨en_FTX6_ok, en_PTX6_ok, en_an, en_LTX6_ok, en_LLX6_ok, en_TTX6_ok hl, ⟨cw256, cw147⟩, en_ACX6_ok⟩ de_X6_conditions ck_X6_conditions_10
def k_X6_conditions_11 : en_K := (2, ([.inr (.inl 0), .inl (1, 1, 0, 0), .inl ((-1), (-1), 0, 0)], [(0, 0, 8, 2, 0, 0)]), [([.inr (.inl 0), .inl (1, 1, 0, 0), .inl ((-1), (-1), 0, 0)], [(0, 0, 8, 1, 0, 0)])], [(0, 8)], [0], (0, 0), [])
def u_X6_conditions_11 : List en_U := []
def x_X6_conditions_11 : en_Cx := ((en_KT, en_TY0, en_om0), en_FTX6, en_PTX6, [], en_LTX6, en_LLX6, en_TTX6, en_ACX6)
def m_X6_conditions_11 : en_Mx := (k_X6_conditions_11, 0, 3, (0, 0), tb_X6_conditions, [])
set_option maxRecDepth 100000 in
theorem ck_X6_conditions_11 : en_all x_X6_conditions_11 m_X6_conditions_11 u_X6_conditions_11 17 = true := by decide +kernel
theorem ct_X6_conditions_11 {l : Launch} (hl : l.stackTraces = false) {PP : Int32 → Int32 → Prop} (hPP : en_P0 PP) (Ω : Nat → en_H → va_W → Prop) : en_Ctr l vwCl en_TY0 PP en_om0 Ω en_KT yX6_conditions (Cond.code yX6_conditions cX6_conditions 3 (some .int) :: en_cw) (en_rm 0 (0, 0)) 0 k_X6_conditions_11 :=
  en_main (X := x_X6_conditions_11) (M := m_X6_conditions_11) hPP en_f32_ok en_f64_ok hl (by decide +kernel) ⟨en_FTX6_ok, en_PTX6_ok, en_an, en_LTX6_ok, en_LLX6_ok, en_TTX6_ok hl, ⟨cw256, cw147⟩, en_ACX6_ok⟩ de_X6_conditions ck_X6_conditions_11
def k_X6_conditions_12 : en_K := (2, ([.inr (.inl 0), .inl (1, 1, 0, 0), .inl (0, 0, 0, 0)], [(0, 0, 8, 2, 0, 0)]), [([.inr (.inl 0), .inl (1, 1, 0, 0), .inl (0, 0, 0, 0)], [(0, 0, 8, 1, 0, 0)])], [(0, 8)], [0], (0, 0), [])
def u_X6_conditions_12 : List en_U := []
def x_X6_conditions_12 : en_Cx := ((en_KT, en_TY0, en_om0), en_FTX6, en_PTX6, [], en_LTX6, en_LLX6, en_TTX6, en_ACX6)
def m_X6_conditions_12 : en_Mx := (k_X6_conditions_12, 0, 3, (0, 0), tb_X6_conditions, [])
set_option maxRecDepth 100000 in
theorem ck_X6_conditions_12 : en_all x_X6_conditions_12 m_X6_conditions_12 u_X6_conditions_12 17 = true := by decide +kernel
theorem ct_X6_conditions_12 {l : Launch} (hl : l.stackTraces = false) {PP : Int32 → Int32 → Prop} (hPP : en_P0 PP) (Ω : Nat → en_H → va_W → Prop) : en_Ctr l vwCl en_TY0 PP en_om0 Ω en_KT yX6_conditions (Cond.code yX6_conditions cX6_conditions 3 (some .int) :: en_cw) (en_rm 0 (0, 0)) 0 k_X6_conditions_12 :=
  en_main (X := x_X6_conditions_12) (M := m_X6_conditions_12) hPP en_f32_ok en_f64_ok hl (by decide +kernel) ⟨en_FTX6_ok, en_PTX6_ok, en_an, en_LTX6_ok, en_LLX6_ok, en_TTX6_ok hl, ⟨cw256, cw147⟩, en_ACX6_ok⟩ de_X6_conditions ck_X6_conditions_12
def k_X6_conditions_13 : en_K := (2, ([.inr (.inl 0), .inl (1, 1, 0, 0), .inl (1, 1, 0, 0)], [(0, 0, 8, 2, 0, 0)]), [([.inr (.inl 0), .inl (1, 1, 0, 0), .inl (1, 1, 0, 0)], [(0, 0, 8, 1, 0, 0)])], [(0, 8)], [0], (0, 0), [])
def u_X6_conditions_13 : List en_U := []
def x_X6_conditions_13 : en_Cx := ((en_KT, en_TY0, en_om0), en_FTX6, en_PTX6, [], en_LTX6, en_LLX6, en_TTX6, en_ACX6)
def m_X6_conditions_13 : en_Mx := (k_X6_conditions_13, 0, 3, (0, 0), tb_X6_conditions, [])
set_option maxRecDepth 100000 in
theorem ck_X6_conditions_13 : en_all x_X6_conditions_13 m_X6_conditions_13 u_X6_conditions_13 17 = true := by decide +kernel
theorem ct_X6_conditions_13 {l : Launch} (hl : l.stackTraces = false) {PP : Int32 → Int32 → Prop} (hPP : en_P0 PP) (Ω : Nat → en_H → va_W → Prop) : en_Ctr l vwCl en_TY0 PP en_om0 Ω en_KT yX6_conditions (Cond.code yX6_conditions cX6_conditions 3 (some .int) :: en_cw) (en_rm 0 (0, 0)) 0 k_X6_conditions_13 :=
  en_main (X := x_X6_conditions_13) (M := m_X6_conditions_13) hPP en_f32_ok en_f64_ok hl (by decide +kernel) ⟨en_FTX6_ok, en_PTX6_ok, en_an, en_LTX6_ok, en_LLX6_ok, en_TTX6_ok hl, ⟨cw256, cw147⟩, en_ACX6_ok⟩ de_X6_conditions ck_X6_conditions_13
def k_X6_conditions_14 : en_K := (2, ([.inr (.inl 0), .inl (1, 1, 0, 0), .inl (2, 2, 0, 0)], [(0, 0, 8, 2, 0, 0)]), [([.inr (.inl 0), .inl (1, 1, 0, 0), .inl (2, 2, 0, 0)], [(0, 0, 8, 1, 0, 0)])], [(0, 8)], [0], (0, 0), [])
def u_X6_conditions_14 : List en_U := []
def x_X6_conditions_14 : en_Cx := ((en_KT, en_TY0, en_om0), en_FTX6, en_PTX6, [], en_LTX6, en_LLX6, en_TTX6, en_ACX6)
def m_X6_conditions_14 : en_Mx := (k_X6_conditions_14, 0, 3, (0, 0), tb_X6_conditions, [])
set_option maxRecDepth 100000 in
theorem ck_X6_conditions_14 : en_all x_X6_conditions_14 m_X6_conditions_14 u_X6_conditions_14 17 = true := by decide +kernel
theorem ct_X6_conditions_14 {l : Launch} (hl : l.stackTraces = false) {PP : Int32 → Int32 → Prop} (hPP : en_P0 PP) (Ω : Nat → en_H → va_W → Prop) : en_Ctr l vwCl en_TY0 PP en_om0 Ω en_KT yX6_conditions (Cond.code yX6_conditions cX6_conditions 3 (some .int) :: en_cw) (en_rm 0 (0, 0)) 0 k_X6_conditions_14 :=
  en_main (X := x_X6_conditions_14) (M := m_X6_conditions_14) hPP en_f32_ok en_f64_ok hl (by decide +kernel) ⟨en_FTX6_ok, en_PTX6_ok, en_an, en_LTX6_ok, en_LLX6_ok, en_TTX6_ok hl, ⟨cw256, cw147⟩, en_ACX6_ok⟩ de_X6_conditions ck_X6_conditions_14
def k_X6_conditions_15 : en_K := (2, ([.inr (.inl 0), .inl (1, 1, 0, 0), .inl (3, 3, 0, 0)], [(0, 0, 8, 2, 0, 0)]), [([.inr (.inl 0), .inl (1, 1, 0, 0), .inl (3, 3, 0, 0)], [(0, 0, 8, 1, 0, 0)])], [(0, 8)], [0], (0, 0), [])
def u_X6_conditions_15 : List en_U := []
def x_X6_conditions_15 : en_Cx := ((en_KT, en_TY0, en_om0), en_FTX6, en_PTX6, [], en_LTX6, en_LLX6, en_TTX6, en_ACX6)
def m_X6_conditions_15 : en_Mx := (k_X6_conditions_15, 0, 3, (0, 0), tb_X6_conditions, [])
set_option maxRecDepth 100000 in
theorem ck_X6_conditions_15 : en_all x_X6_conditions_15 m_X6_conditions_15 u_X6_conditions_15 17 = true := by decide +kernel
theorem ct_X6_conditions_15 {l : Launch} (hl : l.stackTraces = false) {PP : Int32 → Int32 → Prop} (hPP : en_P0 PP) (Ω : Nat → en_H → va_W → Prop) : en_Ctr l vwCl en_TY0 PP en_om0 Ω en_KT yX6_conditions (Cond.code yX6_conditions cX6_conditions 3 (some .int) :: en_cw) (en_rm 0 (0, 0)) 0 k_X6_conditions_15 :=
  en_main (X := x_X6_conditions_15) (M := m_X6_conditions_15) hPP en_f32_ok en_f64_ok hl (by decide +kernel) ⟨en_FTX6_ok, en_PTX6_ok, en_an, en_LTX6_ok, en_LLX6_ok, en_TTX6_ok hl, ⟨cw256, cw147⟩, en_ACX6_ok⟩ de_X6_conditions ck_X6_conditions_15
def k_X6_conditions_16 : en_K := (2, ([.inr (.inl 0), .inl (2, 2, 0, 0), .inl ((-1), (-1), 0, 0)], [(0, 0, 8, 2, 0, 0)]), [([.inr (.inl 0), .inl (2, 2, 0, 0), .inl ((-1), (-1), 0, 0)], [(0, 0, 8, 1, 0, 0)])], [(0, 8)], [0], (0, 0), [])
def u_X6_conditions_16 : List en_U := []
def x_X6_conditions_16 : en_Cx := ((en_KT, en_TY0, en_om0), en_FTX6, en_PTX6, [], en_LTX6, en_LLX6, en_TTX6, en_ACX6)
def m_X6_conditions_16 : en_Mx := (k_X6_conditions_16, 0, 3, (0, 0), tb_X6_conditions, [])
set_option maxRecDepth 100000 in
theorem ck_X6_conditions_16 : en_all x_X6_conditions_16 m_X6_conditions_16 u_X6_conditions_16 17 = true := by decide +kernel
theorem ct_X6_conditions_16 {l : Launch} (hl : l.stackTraces = false) {PP : Int32 → Int32 → Prop} (hPP : en_P0 PP) (Ω : Nat → en_H → va_W → Prop) : en_Ctr l vwCl en_TY0 PP en_om0 Ω en_KT yX6_conditions (Cond.code yX6_conditions cX6_conditions 3 (some .int) :: en_cw) (en_rm 0 (0, 0)) 0 k_X6_conditions_16 :=
  en_main (X := x_X6_conditions_16) (M := m_X6_conditions_16) hPP en_f32_ok en_f64_ok hl (by decide +kernel) ⟨en_FTX6_ok, en_PTX6_ok, en_an, en_LTX6_ok, en_LLX6_ok, en_TTX6_ok hl, ⟨cw256, cw147⟩, en_ACX6_ok⟩ de_X6_conditions ck_X6_conditions_16
def k_X6_conditions_17 : en_K := (2, ([.inr (.inl 0), .inl (2, 2, 0, 0), .inl (0, 0, 0, 0)], [(0, 0, 8, 2, 0, 0)]), [([.inr (.inl 0), .inl (2, 2, 0, 0), .inl (0, 0, 0, 0)], [(0, 0, 8, 1, 0, 0)])], [(0, 8)], [0], (0, 0), [])
def u_X6_conditions_17 : List en_U := []
def x_X6_conditions_17 : en_Cx := ((en_KT, en_TY0, en_om0), en_FTX6, en_PTX6, [], en_LTX6, en_LLX6, en_TTX6, en_ACX6)
def m_X6_conditions_17 : en_Mx := (k_X6_conditions_17, 0, 3, (0, 0), tb_X6_conditions, [])
set_option maxRecDepth 100000 in
theorem ck_X6_conditions_17 : en_all x_X6_conditions_17 m_X6_conditions_17 u_X6_conditions_17 17 = true := by decide +kernel
theorem ct_X6_conditions_17 {l : Launch} (hl : l.stackTraces = false) {PP : Int32 → Int32 → Prop} (hPP : en_P0 PP) (Ω : Nat → en_H → va_W → Prop) : en_Ctr l vwCl en_TY0 PP en_om0 Ω en_KT yX6_conditions (Cond.code yX6_conditions cX6_conditions 3 (some .int) :: en_cw) (en_rm 0 (0, 0)) 0 k_X6_conditions_17 :=
  en_main (X := x_X6_conditions_17) (M := m_X6_conditions_17) hPP en_f32_ok en_f64_ok hl (by decide +kernel) ⟨en_FTX6_ok, en_PTX6_ok, en_an, en_LTX6_ok, en_LLX6_ok, en_TTX6_ok hl, ⟨cw256, cw147⟩, en_ACX6_ok⟩ de_X6_conditions ck_X6_conditions_17
def k_X6_conditions_18 : en_K := (2, ([.inr (.inl 0), .inl (2, 2, 0, 0), .inl (1, 1, 0, 0)], [(0, 0, 8, 2, 0, 0)]), [([.inr (.inl 0), .inl (2, 2, 0, 0), .inl (1, 1, 0, 0)], [(0, 0, 8, 1, 0, 0)])], [(0, 8)], [0], (0, 0), [])
def u_X6_conditions_18 : List en_U := []
def x_X6_conditions_18 : en_Cx := ((en_KT, en_TY0, en_om0), en_FTX6, en_PTX6, [], en_LTX6, en_LLX6, en_TTX6, en_ACX6)
def m_X6_conditions_18 : en_Mx := (k_X6_conditions_18, 0, 3, (0, 0), tb_X6_conditions, [])
set_option maxRecDepth 100000 in
theorem ck_X6_conditions_18 : en_all x_X6_conditions_18 m_X6_conditions_18 u_X6_conditions_18 17 = true := by decide +kernel
theorem ct_X6_conditions_18 {l : Launch} (hl : l.stackTraces = false) {PP : Int32 → Int32 → Prop} (hPP : en_P0 PP) (Ω : Nat → en_H → va_W → Prop) : en_Ctr l vwCl en_TY0 PP en_om0 Ω en_KT yX6_conditions (Cond.code yX6_conditions cX6_conditions 3 (some .int) :: en_cw) (en_rm 0 (0, 0)) 0 k_X6_conditions_18 :=
  en_main (X := x_X6_conditions_18) (M := m_X6_conditions_18) hPP en_f32_ok en_f64_ok hl (by decide +kernel) ⟨en_FTX6_ok, en_PTX6_ok, en_an, en_LTX6_ok, en_LLX6_ok, en_TTX6_ok hl, ⟨cw256, cw147⟩, en_ACX6_ok⟩ de_X6_conditions ck_X6_conditions_18
def k_X6_conditions_19 : en_K := (2, ([.inr (.inl 0), .inl (2, 2, 0, 0), .inl (2, 2, 0, 0)], [(0, 0, 8, 2, 0, 0)]), [([.inr (.inl 0), .inl (2, 2, 0, 0), .inl (2, 2, 0, 0)], [(0, 0, 8, 1, 0, 0)])], [(0, 8)], [0], (0, 0), [])
def u_X6_conditions_19 : List en_U := []
def x_X6_conditions_19 : en_Cx := ((en_KT, en_TY0, en_om0), en_FTX6, en_PTX6, [], en_LTX6, en_LLX6, en_TTX6, en_ACX6)
def m_X6_conditions_19 : en_Mx := (k_X6_conditions_19, 0, 3, (0, 0), tb_X6_conditions, [])
set_option maxRecDepth 100000 in
theorem ck_X6_conditions_19 : en_all x_X6_conditions_19 m_X6_conditions_19 u_X6_conditions_19 17 = true := by decide +kernel
theorem ct_X6_conditions_19 {l : Launch} (hl : l.stackTraces = false) {PP : Int32 → Int32 → Prop} (hPP : en_P0 PP) (Ω : Nat → en_H → va_W → Prop) : en_Ctr l vwCl en_TY0 PP en_om0 Ω en_KT yX6_conditions (Cond.code yX6_conditions cX6_conditions 3 (some .int) :: en_cw) (en_rm 0 (0, 0)) 0 k_X6_conditions_19 :=
  en_main (X := x_X6_conditions_19) (M := m_X6_conditions_19) hPP en_f32_ok en_f64_ok hl (by decide +kernel) ⟨en_FTX6_ok, en_PTX6_ok, en_an, en_LTX6_ok, en_LLX6_ok, en_TTX6_ok hl, ⟨cw256, cw147⟩, en_ACX6_ok⟩ de_X6_conditions ck_X6_conditions_19
def k_X6_conditions_20 : en_K := (2, ([.inr (.inl 0), .inl (2, 2, 0, 0), .inl (3, 3, 0, 0)], [(0, 0, 8, 2, 0, 0)]), [([.inr (.inl 0), .inl (2, 2, 0, 0), .inl (3, 3, 0, 0)], [(0, 0, 8, 1, 0, 0)])], [(0, 8)], [0], (0, 0), [])
def u_X6_conditions_20 : List en_U := []
def x_X6_conditions_20 : en_Cx := ((en_KT, en_TY0, en_om0), en_FTX6, en_PTX6, [], en_LTX6, en_LLX6, en_TTX6, en_ACX6)
def m_X6_conditions_20 : en_Mx := (k_X6_conditions_20, 0, 3, (0, 0), tb_X6_conditions, [])
set_option maxRecDepth 100000 in
theorem ck_X6_conditions_20 : en_all x_X6_conditions_20 m_X6_conditions_20 u_X6_conditions_20 17 = true := by decide +kernel
theorem ct_X6_conditions_20 {l : Launch} (hl : l.stackTraces = false) {PP : Int32 → Int32 → Prop} (hPP : en_P0 PP) (Ω : Nat → en_H → va_W → Prop) : en_Ctr l vwCl en_TY0 PP en_om0 Ω en_KT yX6_conditions (Cond.code yX6_conditions cX6_conditions 3 (some .int) :: en_cw) (en_rm 0 (0, 0)) 0 k_X6_conditions_20 :=
  en_main (X := x_X6_conditions_20) (M := m_X6_conditions_20) hPP en_f32_ok en_f64_ok hl (by decide +kernel) ⟨en_FTX6_ok, en_PTX6_ok, en_an, en_LTX6_ok, en_LLX6_ok, en_TTX6_ok hl, ⟨cw256, cw147⟩, en_ACX6_ok⟩ de_X6_conditions ck_X6_conditions_20
def k_X6_conditions_21 : en_K := (2, ([.inr (.inl 0), .inl (3, 3, 0, 0), .inl ((-1), (-1), 0, 0)], [(0, 0, 8, 2, 0, 0)]), [([.inr (.inl 0), .inl (3, 3, 0, 0), .inl ((-1), (-1), 0, 0)], [(0, 0, 8, 1, 0, 0)])], [(0, 8)], [0], (0, 0), [])
def u_X6_conditions_21 : List en_U := []
def x_X6_conditions_21 : en_Cx := ((en_KT, en_TY0, en_om0), en_FTX6, en_PTX6, [], en_LTX6, en_LLX6, en_TTX6, en_ACX6)
def m_X6_conditions_21 : en_Mx := (k_X6_conditions_21, 0, 3, (0, 0), tb_X6_conditions, [])
set_option maxRecDepth 100000 in
theorem ck_X6_conditions_21 : en_all x_X6_conditions_21 m_X6_conditions_21 u_X6_conditions_21 17 = true := by decide +kernel
theorem ct_X6_conditions_21 {l : Launch} (hl : l.stackTraces = false) {PP : Int32 → Int32 → Prop} (hPP : en_P0 PP) (Ω : Nat → en_H → va_W → Prop) : en_Ctr l vwCl en_TY0 PP en_om0 Ω en_KT yX6_conditions (Cond.code yX6_conditions cX6_conditions 3 (some .int) :: en_cw) (en_rm 0 (0, 0)) 0 k_X6_conditions_21 :=
  en_main (X := x_X6_conditions_21) (M := m_X6_conditions_21) hPP en_f32_ok en_f64_ok hl (by decide +kernel) ⟨en_FTX6_ok, en_PTX6_ok, en_an, en_LTX6_ok, en_LLX6_ok, en_TTX6_ok hl, ⟨cw256, cw147⟩, en_ACX6_ok⟩ de_X6_conditions ck_X6_conditions_21
