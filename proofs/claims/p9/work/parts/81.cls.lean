set_option maxRecDepth 20000 in
theorem uw_X0 : ∀ w ∈ u_ws RX0 TX0 16, w ∈ en_cw := cw_all _ [192, 194, 196, 198, 200, 202, 204, 206, 208, 210, 212, 214, 216, 218, 220, 222] (by decide +kernel) (by decide +kernel)
set_option maxRecDepth 20000 in
theorem uw_X3 : ∀ w ∈ u_ws RX3 TX3 6, w ∈ en_cw := cw_all _ [134, 136, 138, 140, 142, 144] (by decide +kernel) (by decide +kernel)
set_option maxRecDepth 20000 in
theorem uw_X4 : ∀ w ∈ u_ws RX4 TX4 6, w ∈ en_cw := cw_all _ [315, 317, 319, 321, 323, 325] (by decide +kernel) (by decide +kernel)
set_option maxRecDepth 20000 in
theorem uw_X5 : ∀ w ∈ u_ws RX5 TX5 4, w ∈ en_cw := cw_all _ [286, 288, 290, 292] (by decide +kernel) (by decide +kernel)
set_option maxRecDepth 20000 in
theorem uw_X6 : ∀ w ∈ u_ws RX6 TX6 14, w ∈ en_cw := cw_all _ [342, 344, 346, 348, 350, 352, 354, 356, 358, 360, 362, 364, 366, 368] (by decide +kernel) (by decide +kernel)
def en_FTX6 : List (Nat × Nat × Nat) := [(11, 12, 0), (18, 12, 1), (30, 12, 3), (62, 12, 4), (92, 9, 4), (122, 12, 5), (132, 12, 11), (170, 12, 13), (185, 11, 0), (205, 6, 0), (253, 6, 3), (283, 6, 5), (358, 6, 6)]
theorem en_FTX6_ok : ∀ q ∈ en_FTX6, en_Fd vwCl RX6 en_cw q.1 q.2.1 q.2.2 := en_ac (⟨RX6, TX6, 14, rfl, by decide, uw_X6, cw328⟩) (en_ac (⟨RX6, TX6, 14, rfl, by decide, uw_X6, cw329⟩) (en_ac (⟨RX6, TX6, 14, rfl, by decide, uw_X6, cw331⟩) (en_ac (⟨RX6, TX6, 14, rfl, by decide, uw_X6, cw332⟩) (en_ac (⟨RX3, TX3, 6, rfl, by decide, uw_X3, cw131⟩) (en_ac (⟨RX6, TX6, 14, rfl, by decide, uw_X6, cw333⟩) (en_ac (⟨RX6, TX6, 14, rfl, by decide, uw_X6, cw339⟩) (en_ac (⟨RX6, TX6, 14, rfl, by decide, uw_X6, cw341⟩) (en_ac (⟨RX5, TX5, 4, rfl, by decide, uw_X5, cw280⟩) (en_ac (⟨RX0, TX0, 16, rfl, by decide, uw_X0, cw163⟩) (en_ac (⟨RX0, TX0, 16, rfl, by decide, uw_X0, cw169⟩) (en_ac (⟨RX0, TX0, 16, rfl, by decide, uw_X0, cw173⟩) (en_ac (⟨RX0, TX0, 16, rfl, by decide, uw_X0, cw176⟩) en_an))))))))))))
def en_PTX6 : List (Nat × Nat × Nat × Nat) := [(193, 10, 1, 0), (358, 6, 6, 0)]
theorem en_PTX6_ok : ∀ q ∈ en_PTX6, en_Fp vwCl RX6 en_cw q.1 q.2.1 q.2.2.1 q.2.2.2 := en_ac (⟨RX4, TX4, 6, tyX4, rfl, by decide, uw_X4, cw306, tyX4_ok, nmX4, rfl, by decide +kernel⟩) (en_ac (⟨RX0, TX0, 16, tyX0, rfl, by decide, uw_X0, cw176, tyX0_ok, nmX0, rfl, by decide +kernel⟩) en_an)
def en_LTX6 : List (Nat × Int32) := []
theorem en_LTX6_ok : ∀ q ∈ en_LTX6, Cond.constant RX6 q.1 q.2 ∈ en_cw := en_an
def en_LLX6 : List (Nat × Int64) := []
theorem en_LLX6_ok : ∀ q ∈ en_LLX6, Cond.constantLong RX6 q.1 q.2 ∈ en_cw := en_an
def en_TTX6 : List en_T1 := [(65, 574, 69, 1), (74, 286, 78, 2), (535, 568, 539, 3), (535, 570, 539, 3)]
theorem en_tw1 {l : Launch} (hl : l.stackTraces = false) : en_TW l en_cw 65 69 1 := en_tw hl (by decide) cw579 cw94 (cw_s (by decide +kernel))
theorem en_tw2 {l : Launch} (hl : l.stackTraces = false) : en_TW l en_cw 74 78 2 := en_tw hl (by decide) cw599 cw95 (cw_s (by decide +kernel))
theorem en_tw3 {l : Launch} (hl : l.stackTraces = false) : en_TW l en_cw 535 539 3 := en_tw hl (by decide) cw651 cw96 (cw_s (by decide +kernel))
theorem en_TTX6_ok {l : Launch} (hl : l.stackTraces = false) : ∀ q ∈ en_TTX6, en_TO l RX6 en_cw q := en_ac (⟨rfl, ⟨_, List.mem_of_getElem? (i := tf_ix 574) rfl⟩, en_tw1 hl⟩) (en_ac (⟨rfl, ⟨_, List.mem_of_getElem? (i := tf_ix 286) rfl⟩, en_tw2 hl⟩) (en_ac (⟨rfl, ⟨_, List.mem_of_getElem? (i := tf_ix 568) rfl⟩, en_tw3 hl⟩) (en_ac (⟨rfl, ⟨_, List.mem_of_getElem? (i := tf_ix 570) rfl⟩, en_tw3 hl⟩) en_an)))
def en_FTX0 : List (Nat × Nat × Nat) := [(9, 6, 0), (29, 6, 5), (32, 6, 6)]
theorem en_FTX0_ok : ∀ q ∈ en_FTX0, en_Fd vwCl RX0 en_cw q.1 q.2.1 q.2.2 := en_ac (⟨RX0, TX0, 16, rfl, by decide, uw_X0, cw161⟩) (en_ac (⟨RX0, TX0, 16, rfl, by decide, uw_X0, cw172⟩) (en_ac (⟨RX0, TX0, 16, rfl, by decide, uw_X0, cw174⟩) en_an))
def en_PTX0 : List (Nat × Nat × Nat × Nat) := [(9, 6, 0, 1), (15, 6, 1, 0), (19, 6, 2, 2), (35, 6, 7, 1), (38, 6, 9, 2)]
theorem en_PTX0_ok : ∀ q ∈ en_PTX0, en_Fp vwCl RX0 en_cw q.1 q.2.1 q.2.2.1 q.2.2.2 := en_ac (⟨RX0, TX0, 16, tyX0, rfl, by decide, uw_X0, cw161, tyX0_ok, nmX0, rfl, by decide +kernel⟩) (en_ac (⟨RX0, TX0, 16, tyX0, rfl, by decide, uw_X0, cw164, tyX0_ok, nmX0, rfl, by decide +kernel⟩) (en_ac (⟨RX0, TX0, 16, tyX0, rfl, by decide, uw_X0, cw166, tyX0_ok, nmX0, rfl, by decide +kernel⟩) (en_ac (⟨RX0, TX0, 16, tyX0, rfl, by decide, uw_X0, cw177, tyX0_ok, nmX0, rfl, by decide +kernel⟩) (en_ac (⟨RX0, TX0, 16, tyX0, rfl, by decide, uw_X0, cw181, tyX0_ok, nmX0, rfl, by decide +kernel⟩) en_an))))
def en_LTX0 : List (Nat × Int32) := []
theorem en_LTX0_ok : ∀ q ∈ en_LTX0, Cond.constant RX0 q.1 q.2 ∈ en_cw := en_an
def en_LLX0 : List (Nat × Int64) := []
theorem en_LLX0_ok : ∀ q ∈ en_LLX0, Cond.constantLong RX0 q.1 q.2 ∈ en_cw := en_an
def en_TTX0 : List en_T1 := []
theorem en_TTX0_ok {l : Launch} (hl : l.stackTraces = false) : ∀ q ∈ en_TTX0, en_TO l RX0 en_cw q := en_an
theorem gc_RX6_127v : en_CV en_cw RX6 127 yX6_needPlayer RX6 cX6_needPlayer 2 none 1 := en_gv cw699 cw701 cw10 cw75 cw702 ⟨rfl, by decide, by decide, by decide +kernel⟩
theorem gc_RX6_167v : en_CV en_cw RX6 167 yX6_needRound RX6 cX6_needRound 1 none 0 := en_gv cw757 cw759 cw12 cw75 cw760 ⟨rfl, by decide, by decide, by decide +kernel⟩
theorem gc_RX6_280v : en_CV en_cw RX6 280 yX0_isDone RX0 cX0_isDone 1 (some .boolean) 0 := en_gv cw783 cw784 cw785 cw78 cw786 ⟨rfl, by decide, by decide, by decide +kernel⟩
theorem gc_RX6_288v : en_CV en_cw RX6 288 yX6_relieveWithPenalty RX6 cX6_relieveWithPenalty 3 (some .int) 2 := en_gv cw916 cw918 cw20 cw75 cw919 ⟨rfl, by decide, by decide, by decide +kernel⟩
theorem gc_RX6_332v : en_CV en_cw RX6 332 yX0_putByRelief RX0 cX0_putByRelief 3 none 2 := en_gv cw920 cw921 cw922 cw78 cw923 ⟨rfl, by decide, by decide, by decide +kernel⟩
theorem gc_RX6_351v : en_CV en_cw RX6 351 yX0_scoreSoFar RX0 cX0_scoreSoFar 1 (some .int) 0 := en_gv cw924 cw925 cw926 cw78 cw927 ⟨rfl, by decide, by decide, by decide +kernel⟩
