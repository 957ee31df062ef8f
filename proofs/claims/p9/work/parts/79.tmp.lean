/-! for now -/
theorem en_f32_ok : en_f32 := by sorry
theorem en_f64_ok : en_f64 := by sorry
theorem en_tw4 {l : Launch} {CW : List Cond} {ik ic : Nat} (hl : l.stackTraces = false) (h : Cond.classLink RX6 ik (en_xn 4) ∈ CW) : en_TW l CW ik ic 4 := by sorry
