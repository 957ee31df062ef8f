/-! the words of the class's methods -/
abbrev vwCl : List vw_C := [(RJ0, TJ0, 4), (RJ4, TJ4, 4), (RJ6, TJ6, 1), (RJx00060, TJx00060, 6), (RJx35411, TJx35411, 4), (RJx4a65c, TJx4a65c, 3), (RX0, TX0, 16), (RX1, TX1, 6), (RX2, TX2, 4), (RX3, TX3, 6), (RX4, TX4, 6), (RX5, TX5, 4), (RX6, TX6, 14), (RX7, TX7, 31)]
def en_cw : List Cond := lw_tbl.filter goodWord
theorem cw_at (i : Nat) {w : Cond} (h : lw_tbl[i]? = some w) (g : goodWord w = true) : w ∈ en_cw := List.mem_filter.mpr ⟨List.mem_of_getElem? h, g⟩
theorem cw_all (ws : List Cond) (ps : List Nat) (hp : ws = ps.filterMap (fun i => lw_tbl[i]?)) (h : ws.all goodWord = true) : ∀ w ∈ ws, w ∈ en_cw := fun w hw => List.mem_filter.mpr ⟨(goodIn_r ws ps hp h w hw).1, List.all_eq_true.mp h w hw⟩
theorem cw_s {ws : List Cond} (h : ∀ w ∈ ws.filter goodWord, w ∈ lw_tbl) : ∀ w ∈ ws.filter goodWord, w ∈ en_cw := fun w hw => List.mem_filter.mpr ⟨h w hw, (List.mem_filter.mp hw).2⟩
theorem cw_g {ws : List Cond} (h : ∀ w ∈ ws, w ∈ en_cw) : GoodIn en_cw ws := fun w hw => ⟨h w hw, good_of_word (List.mem_filter.mp (h w hw)).2⟩
theorem cw_c {ws : List Cond} {w : Cond} (h : w ∈ en_cw) (t : ∀ w ∈ ws, w ∈ en_cw) : ∀ z ∈ w :: ws, z ∈ en_cw := fun z hz => by
  rcases List.mem_cons.mp hz with rfl | hz
  · exact h
  · exact t z hz
theorem en_ac {α : Type} {P : α → Prop} {a : α} {r : List α} (h : P a) (t : ∀ q ∈ r, P q) : ∀ q ∈ a :: r, P q := fun q hq => by
  rcases List.mem_cons.mp hq with rfl | hq
  · exact h
  · exact t q hq
theorem en_an {α : Type} {P : α → Prop} : ∀ q ∈ ([] : List α), P q := fun q hq => absurd hq List.not_mem_nil
theorem en_gv {own : String} {ix : Nat} {y : MethodName} {C : String} {cy : ByteArray} {mxl n : Nat} {ret : Option FieldType} (h1 : Cond.methodLink own ix y ∈ en_cw) (h2 : Cond.instanceMethod y ∈ en_cw) (h3 : Cond.selects C y y ∈ en_cw) (h4 : Cond.initialized C ∈ en_cw) (h5 : Cond.code y cy mxl ret ∈ en_cw) (hd : y.cls = C ∧ y.cls ≠ "java/lang/invoke/MethodHandle" ∧ y.cls ≠ "java/lang/invoke/VarHandle" ∧ (parseMethodDescriptor y.desc).map (fun d => d.parameters.length) = some n) : en_CV en_cw own ix y C cy mxl ret n := ⟨cw_g (cw_c h1 (cw_c h2 (cw_c h3 (cw_c h4 (cw_c h5 fun _ h => h))))), hd⟩
theorem en_gs {own : String} {ix : Nat} {y : MethodName} {cy : ByteArray} {mxl n : Nat} {ret : Option FieldType} (h1 : Cond.methodLink own ix y ∈ en_cw) (h2 : Cond.static y ∈ en_cw) (h4 : Cond.initialized y.cls ∈ en_cw) (h5 : Cond.code y cy mxl ret ∈ en_cw) (hd : y.cls ≠ "java/lang/invoke/MethodHandle" ∧ y.cls ≠ "java/lang/invoke/VarHandle" ∧ (parseMethodDescriptor y.desc).map (fun d => d.parameters.length) = some n) : en_CZ en_cw own ix y cy mxl ret n := ⟨cw_g (cw_c h1 (cw_c h2 (cw_c h4 (cw_c h5 fun _ h => h)))), hd⟩
theorem en_gn {own host : String} {ix : Nat} {y : MethodName} {cy : ByteArray} {mxl n : Nat} {ret : Option FieldType} (h1 : (own, ix, y, host) ∈ tf_M) (h2 : Cond.static y ∈ en_cw) (h4 : Cond.initialized y.cls ∈ en_cw) (h5 : Cond.code y cy mxl ret ∈ en_cw) (hd : y.cls ≠ "java/lang/invoke/MethodHandle" ∧ y.cls ≠ "java/lang/invoke/VarHandle" ∧ (parseMethodDescriptor y.desc).map (fun d => d.parameters.length) = some n) : en_CN en_cw own ix y cy mxl ret n := ⟨host, h1, cw_g (cw_c h5 fun _ h => h), h2, h4, hd⟩
def tf_ix (i : Nat) : Nat := (tf_str.findIdx? (fun q => q.1 == i)).getD 0
theorem cw10 : Cond.selects RX6 yX6_needPlayer yX6_needPlayer ∈ en_cw := cw_at 10 (by decide +kernel) (by decide +kernel)
theorem cw12 : Cond.selects RX6 yX6_needRound yX6_needRound ∈ en_cw := cw_at 12 (by decide +kernel) (by decide +kernel)
theorem cw20 : Cond.selects RX6 yX6_relieveWithPenalty yX6_relieveWithPenalty ∈ en_cw := cw_at 20 (by decide +kernel) (by decide +kernel)
theorem cw75 : Cond.initialized RX6 ∈ en_cw := cw_at 75 (by decide +kernel) (by decide +kernel)
theorem cw78 : Cond.initialized RX0 ∈ en_cw := cw_at 78 (by decide +kernel) (by decide +kernel)
theorem cw94 : Cond.initialized "java/lang/IllegalStateException" ∈ en_cw := cw_at 94 (by decide +kernel) (by decide +kernel)
theorem cw95 : Cond.initialized "java/lang/UnsupportedOperationException" ∈ en_cw := cw_at 95 (by decide +kernel) (by decide +kernel)
theorem cw96 : Cond.initialized "java/lang/IndexOutOfBoundsException" ∈ en_cw := cw_at 96 (by decide +kernel) (by decide +kernel)
theorem cw131 : Cond.fieldLink RX6 92 "FairwayChancery$Hole" "tee" "I" ∈ en_cw := cw_at 131 (by decide +kernel) (by decide +kernel)
theorem cw147 : Cond.arrayClass .char ∈ en_cw := cw_at 147 (by decide +kernel) (by decide +kernel)
theorem cw161 : Cond.fieldLink RX0 9 "FairwayChancery$Ball" "state" "C" ∈ en_cw := cw_at 161 (by decide +kernel) (by decide +kernel)
theorem cw163 : Cond.fieldLink RX6 205 "FairwayChancery$Ball" "state" "C" ∈ en_cw := cw_at 163 (by decide +kernel) (by decide +kernel)
theorem cw164 : Cond.fieldLink RX0 15 "FairwayChancery$Ball" "cell" "I" ∈ en_cw := cw_at 164 (by decide +kernel) (by decide +kernel)
theorem cw166 : Cond.fieldLink RX0 19 "FairwayChancery$Ball" "isOnTee" "Z" ∈ en_cw := cw_at 166 (by decide +kernel) (by decide +kernel)
theorem cw169 : Cond.fieldLink RX6 253 "FairwayChancery$Ball" "spot" "I" ∈ en_cw := cw_at 169 (by decide +kernel) (by decide +kernel)
theorem cw172 : Cond.fieldLink RX0 29 "FairwayChancery$Ball" "strokes" "I" ∈ en_cw := cw_at 172 (by decide +kernel) (by decide +kernel)
theorem cw173 : Cond.fieldLink RX6 283 "FairwayChancery$Ball" "strokes" "I" ∈ en_cw := cw_at 173 (by decide +kernel) (by decide +kernel)
theorem cw174 : Cond.fieldLink RX0 32 "FairwayChancery$Ball" "penalties" "I" ∈ en_cw := cw_at 174 (by decide +kernel) (by decide +kernel)
theorem cw176 : Cond.fieldLink RX6 358 "FairwayChancery$Ball" "penalties" "I" ∈ en_cw := cw_at 176 (by decide +kernel) (by decide +kernel)
theorem cw177 : Cond.fieldLink RX0 35 "FairwayChancery$Ball" "provisional" "C" ∈ en_cw := cw_at 177 (by decide +kernel) (by decide +kernel)
theorem cw181 : Cond.fieldLink RX0 38 "FairwayChancery$Ball" "isInWrongPlace" "Z" ∈ en_cw := cw_at 181 (by decide +kernel) (by decide +kernel)
theorem cw256 : Cond.arrayClass .int ∈ en_cw := cw_at 256 (by decide +kernel) (by decide +kernel)
theorem cw280 : Cond.fieldLink RX6 185 "FairwayChancery$Player" "ball" "LFairwayChancery$Ball;" ∈ en_cw := cw_at 280 (by decide +kernel) (by decide +kernel)
theorem cw306 : Cond.fieldLink RX6 193 "FairwayChancery$Match" "outOfOrder" "I" ∈ en_cw := cw_at 306 (by decide +kernel) (by decide +kernel)
theorem cw328 : Cond.fieldLink RX6 11 "FairwayChancery" "holes" "[LFairwayChancery$Hole;" ∈ en_cw := cw_at 328 (by decide +kernel) (by decide +kernel)
theorem cw329 : Cond.fieldLink RX6 18 "FairwayChancery" "players" "[LFairwayChancery$Player;" ∈ en_cw := cw_at 329 (by decide +kernel) (by decide +kernel)
theorem cw331 : Cond.fieldLink RX6 30 "FairwayChancery" "match" "LFairwayChancery$Match;" ∈ en_cw := cw_at 331 (by decide +kernel) (by decide +kernel)
theorem cw332 : Cond.fieldLink RX6 62 "FairwayChancery" "holeCount" "I" ∈ en_cw := cw_at 332 (by decide +kernel) (by decide +kernel)
theorem cw333 : Cond.fieldLink RX6 122 "FairwayChancery" "playerCount" "I" ∈ en_cw := cw_at 333 (by decide +kernel) (by decide +kernel)
theorem cw339 : Cond.fieldLink RX6 132 "FairwayChancery" "isOn" "Z" ∈ en_cw := cw_at 339 (by decide +kernel) (by decide +kernel)
theorem cw341 : Cond.fieldLink RX6 170 "FairwayChancery" "holeNow" "I" ∈ en_cw := cw_at 341 (by decide +kernel) (by decide +kernel)
theorem cw579 : Cond.classLink RX6 65 "java/lang/IllegalStateException" ∈ en_cw := cw_at 579 (by decide +kernel) (by decide +kernel)
theorem cw599 : Cond.classLink RX6 74 "java/lang/UnsupportedOperationException" ∈ en_cw := cw_at 599 (by decide +kernel) (by decide +kernel)
theorem cw651 : Cond.classLink RX6 535 "java/lang/IndexOutOfBoundsException" ∈ en_cw := cw_at 651 (by decide +kernel) (by decide +kernel)
theorem cw699 : Cond.methodLink RX6 127 yX6_needPlayer ∈ en_cw := cw_at 699 (by decide +kernel) (by decide +kernel)
theorem cw701 : Cond.instanceMethod yX6_needPlayer ∈ en_cw := cw_at 701 (by decide +kernel) (by decide +kernel)
theorem cw702 : Cond.code yX6_needPlayer cX6_needPlayer 2 none ∈ en_cw := cw_at 702 (by decide +kernel) (by decide +kernel)
theorem cw757 : Cond.methodLink RX6 167 yX6_needRound ∈ en_cw := cw_at 757 (by decide +kernel) (by decide +kernel)
theorem cw759 : Cond.instanceMethod yX6_needRound ∈ en_cw := cw_at 759 (by decide +kernel) (by decide +kernel)
theorem cw760 : Cond.code yX6_needRound cX6_needRound 1 none ∈ en_cw := cw_at 760 (by decide +kernel) (by decide +kernel)
theorem cw783 : Cond.methodLink RX6 280 yX0_isDone ∈ en_cw := cw_at 783 (by decide +kernel) (by decide +kernel)
theorem cw784 : Cond.instanceMethod yX0_isDone ∈ en_cw := cw_at 784 (by decide +kernel) (by decide +kernel)
theorem cw785 : Cond.selects RX0 yX0_isDone yX0_isDone ∈ en_cw := cw_at 785 (by decide +kernel) (by decide +kernel)
theorem cw786 : Cond.code yX0_isDone cX0_isDone 1 (some .boolean) ∈ en_cw := cw_at 786 (by decide +kernel) (by decide +kernel)
theorem cw916 : Cond.methodLink RX6 288 yX6_relieveWithPenalty ∈ en_cw := cw_at 916 (by decide +kernel) (by decide +kernel)
theorem cw918 : Cond.instanceMethod yX6_relieveWithPenalty ∈ en_cw := cw_at 918 (by decide +kernel) (by decide +kernel)
theorem cw919 : Cond.code yX6_relieveWithPenalty cX6_relieveWithPenalty 3 (some .int) ∈ en_cw := cw_at 919 (by decide +kernel) (by decide +kernel)
theorem cw920 : Cond.methodLink RX6 332 yX0_putByRelief ∈ en_cw := cw_at 920 (by decide +kernel) (by decide +kernel)
theorem cw921 : Cond.instanceMethod yX0_putByRelief ∈ en_cw := cw_at 921 (by decide +kernel) (by decide +kernel)
theorem cw922 : Cond.selects RX0 yX0_putByRelief yX0_putByRelief ∈ en_cw := cw_at 922 (by decide +kernel) (by decide +kernel)
theorem cw923 : Cond.code yX0_putByRelief cX0_putByRelief 3 none ∈ en_cw := cw_at 923 (by decide +kernel) (by decide +kernel)
theorem cw924 : Cond.methodLink RX6 351 yX0_scoreSoFar ∈ en_cw := cw_at 924 (by decide +kernel) (by decide +kernel)
theorem cw925 : Cond.instanceMethod yX0_scoreSoFar ∈ en_cw := cw_at 925 (by decide +kernel) (by decide +kernel)
theorem cw926 : Cond.selects RX0 yX0_scoreSoFar yX0_scoreSoFar ∈ en_cw := cw_at 926 (by decide +kernel) (by decide +kernel)
theorem cw927 : Cond.code yX0_scoreSoFar cX0_scoreSoFar 1 (some .int) ∈ en_cw := cw_at 927 (by decide +kernel) (by decide +kernel)
