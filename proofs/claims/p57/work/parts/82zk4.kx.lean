/-! the class's cells, as far as isSound and post look at them -/
abbrev ks_D : Type := List Value × Nat × Nat × Nat × Int32 × Int32 × Int32 × (Nat → Int32) × (Nat → Int32) × (Nat → Int32) × (Nat → Int32) × (Nat → Int32) × (Nat → Nat → Int32)
def ks_D.fx (d : ks_D) : List Value := d.1
def ks_D.hc (d : ks_D) : Nat := d.2.1
def ks_D.pc (d : ks_D) : Nat := d.2.2.1
def ks_D.hn (d : ks_D) : Nat := d.2.2.2.1
def ks_D.bg (d : ks_D) : Int32 := d.2.2.2.2.1
def ks_D.on (d : ks_D) : Int32 := d.2.2.2.2.2.1
def ks_D.we (d : ks_D) : Int32 := d.2.2.2.2.2.2.1
def ks_D.par (d : ks_D) : Nat → Int32 := d.2.2.2.2.2.2.2.1
def ks_D.ix (d : ks_D) : Nat → Int32 := d.2.2.2.2.2.2.2.2.1
def ks_D.cup (d : ks_D) : Nat → Int32 := d.2.2.2.2.2.2.2.2.2.1
def ks_D.hp (d : ks_D) : Nat → Int32 := d.2.2.2.2.2.2.2.2.2.2.1
def ks_D.bc (d : ks_D) : Nat → Int32 := d.2.2.2.2.2.2.2.2.2.2.2.1
def ks_D.wr (d : ks_D) : Nat → Nat → Int32 := d.2.2.2.2.2.2.2.2.2.2.2.2
/-- the places' refs -/
def ks_X (tys : List (ClassId × FieldType)) (sh : en_H) (w : va_W) (d : ks_D) : Prop :=
  (w[66]? = some (sh.2 66, .inr (12, d.fx))) ∧
  (d.fx.length = 14) ∧
  (d.fx[0]? = some (.ref (sh.2 67))) ∧
  (d.fx[1]? = some (.ref (sh.2 86))) ∧
  (d.fx[4]? = some (.int (nI d.hc))) ∧
  (d.fx[5]? = some (.int (nI d.pc))) ∧
  (d.fx[8]? = some (.int d.we)) ∧
  (d.fx[10]? = some (.int d.bg)) ∧
  (d.fx[11]? = some (.int d.on)) ∧
  (d.fx[13]? = some (.int (nI d.hn))) ∧
  (d.hc ≤ 9) ∧
  (d.pc ≤ 6) ∧
  (d.hn < 9) ∧
  (-1 ≤ d.we.toInt) ∧
  (d.we.toInt ≤ 3) ∧
  (∃ (cH : ClassId) (f : Nat → Option Nat), tys[3]? = some (cH, .object "FairwayChancery$Hole") ∧ w[67]? = some (sh.2 67, .inl (cH, 9, .inr (.inr (.inr (.inr f))))) ∧ ∀ j, j < 9 → f j = some (sh.2 (68 + 2 * j))) ∧
  (∃ (cP : ClassId) (f : Nat → Option Nat), tys[4]? = some (cP, .object "FairwayChancery$Player") ∧ w[86]? = some (sh.2 86, .inl (cP, 6, .inr (.inr (.inr (.inr f))))) ∧ ∀ j, j < 6 → f j = some (sh.2 (87 + 8 * j))) ∧
  (∀ j, j < 9 → ∃ t a : Int32, w[68 + 2 * j]? = some (sh.2 (68 + 2 * j), .inr (9, [.ref (sh.2 (69 + 2 * j)), .int (d.par j), .int (d.ix j), .int (d.cup j), .int t, .int a]))) ∧
  (∀ j, j < 9 → ∃ (cX : ClassId) (g : Nat → Int32), tys[1]? = some (cX, .char) ∧ w[69 + 2 * j]? = some (sh.2 (69 + 2 * j), .inl (cX, 600, .inl g)) ∧ ∀ i, i < 600 → 0 ≤ (g i).toInt ∧ (g i).toInt ≤ 65535) ∧
  (∀ j, j < 6 → w[87 + 8 * j]? = some (sh.2 (87 + 8 * j), .inr (11, [.ref (sh.2 (88 + 8 * j)), .ref (sh.2 (89 + 8 * j)), .ref (sh.2 (93 + 8 * j)), .int (d.hp j)]))) ∧
  (∀ j, j < 6 → ∃ (fb : List Value) (b0 b2 b10 : Int32), w[88 + 8 * j]? = some (sh.2 (88 + 8 * j), .inr (6, fb)) ∧ fb.length = 16 ∧ fb[0]? = some (.int b0) ∧ fb[1]? = some (.int (d.bc j)) ∧ fb[2]? = some (.int b2) ∧ fb[9]? = some (.int b10)) ∧
  (∀ j, j < 6 → ∃ (r0 r1 : Nat) (b3 b4 b5 : Int32), w[89 + 8 * j]? = some (sh.2 (89 + 8 * j), .inr (7, [.ref r0, .ref r1, .ref (sh.2 (92 + 8 * j)), .int b3, .int b4, .int b5]))) ∧
  (∀ j, j < 6 → ∃ cI : ClassId, tys[0]? = some (cI, .int) ∧ w[92 + 8 * j]? = some (sh.2 (92 + 8 * j), .inl (cI, 9, .inl (d.wr j)))) ∧
  (∀ j, j < 6 → ∃ (cI : ClassId) (g : Nat → Int32) (n : Nat) (ix lo : Int32), tys[0]? = some (cI, .int) ∧ w[93 + 8 * j]? = some (sh.2 (93 + 8 * j), .inr (8, [.ref (sh.2 (94 + 8 * j)), .int (nI n), .int ix, .int lo])) ∧ w[94 + 8 * j]? = some (sh.2 (94 + 8 * j), .inl (cI, 20, .inl g)) ∧ n ≤ 20 ∧ ks_ok g n ix lo)
theorem ks_X.o {tys : List (ClassId × FieldType)} {sh : en_H} {w : va_W} {d : ks_D} (h : ks_X tys sh w d) : w[66]? = some (sh.2 66, .inr (12, d.fx)) := h.1
theorem ks_X.ln {tys : List (ClassId × FieldType)} {sh : en_H} {w : va_W} {d : ks_D} (h : ks_X tys sh w d) : d.fx.length = 14 := h.2.1
theorem ks_X.f0 {tys : List (ClassId × FieldType)} {sh : en_H} {w : va_W} {d : ks_D} (h : ks_X tys sh w d) : d.fx[0]? = some (.ref (sh.2 67)) := h.2.2.1
theorem ks_X.f1 {tys : List (ClassId × FieldType)} {sh : en_H} {w : va_W} {d : ks_D} (h : ks_X tys sh w d) : d.fx[1]? = some (.ref (sh.2 86)) := h.2.2.2.1
theorem ks_X.f4 {tys : List (ClassId × FieldType)} {sh : en_H} {w : va_W} {d : ks_D} (h : ks_X tys sh w d) : d.fx[4]? = some (.int (nI d.hc)) := h.2.2.2.2.1
theorem ks_X.f5 {tys : List (ClassId × FieldType)} {sh : en_H} {w : va_W} {d : ks_D} (h : ks_X tys sh w d) : d.fx[5]? = some (.int (nI d.pc)) := h.2.2.2.2.2.1
theorem ks_X.f8 {tys : List (ClassId × FieldType)} {sh : en_H} {w : va_W} {d : ks_D} (h : ks_X tys sh w d) : d.fx[8]? = some (.int d.we) := h.2.2.2.2.2.2.1
theorem ks_X.f10 {tys : List (ClassId × FieldType)} {sh : en_H} {w : va_W} {d : ks_D} (h : ks_X tys sh w d) : d.fx[10]? = some (.int d.bg) := h.2.2.2.2.2.2.2.1
theorem ks_X.f11 {tys : List (ClassId × FieldType)} {sh : en_H} {w : va_W} {d : ks_D} (h : ks_X tys sh w d) : d.fx[11]? = some (.int d.on) := h.2.2.2.2.2.2.2.2.1
theorem ks_X.f13 {tys : List (ClassId × FieldType)} {sh : en_H} {w : va_W} {d : ks_D} (h : ks_X tys sh w d) : d.fx[13]? = some (.int (nI d.hn)) := h.2.2.2.2.2.2.2.2.2.1
theorem ks_X.hc9 {tys : List (ClassId × FieldType)} {sh : en_H} {w : va_W} {d : ks_D} (h : ks_X tys sh w d) : d.hc ≤ 9 := h.2.2.2.2.2.2.2.2.2.2.1
theorem ks_X.pc6 {tys : List (ClassId × FieldType)} {sh : en_H} {w : va_W} {d : ks_D} (h : ks_X tys sh w d) : d.pc ≤ 6 := h.2.2.2.2.2.2.2.2.2.2.2.1
theorem ks_X.hn9 {tys : List (ClassId × FieldType)} {sh : en_H} {w : va_W} {d : ks_D} (h : ks_X tys sh w d) : d.hn < 9 := h.2.2.2.2.2.2.2.2.2.2.2.2.1
theorem ks_X.w1 {tys : List (ClassId × FieldType)} {sh : en_H} {w : va_W} {d : ks_D} (h : ks_X tys sh w d) : -1 ≤ d.we.toInt := h.2.2.2.2.2.2.2.2.2.2.2.2.2.1
theorem ks_X.w3 {tys : List (ClassId × FieldType)} {sh : en_H} {w : va_W} {d : ks_D} (h : ks_X tys sh w d) : d.we.toInt ≤ 3 := h.2.2.2.2.2.2.2.2.2.2.2.2.2.2.1
theorem ks_X.ha {tys : List (ClassId × FieldType)} {sh : en_H} {w : va_W} {d : ks_D} (h : ks_X tys sh w d) : ∃ (cH : ClassId) (f : Nat → Option Nat), tys[3]? = some (cH, .object "FairwayChancery$Hole") ∧ w[67]? = some (sh.2 67, .inl (cH, 9, .inr (.inr (.inr (.inr f))))) ∧ ∀ j, j < 9 → f j = some (sh.2 (68 + 2 * j)) := h.2.2.2.2.2.2.2.2.2.2.2.2.2.2.2.1
theorem ks_X.pa {tys : List (ClassId × FieldType)} {sh : en_H} {w : va_W} {d : ks_D} (h : ks_X tys sh w d) : ∃ (cP : ClassId) (f : Nat → Option Nat), tys[4]? = some (cP, .object "FairwayChancery$Player") ∧ w[86]? = some (sh.2 86, .inl (cP, 6, .inr (.inr (.inr (.inr f))))) ∧ ∀ j, j < 6 → f j = some (sh.2 (87 + 8 * j)) := h.2.2.2.2.2.2.2.2.2.2.2.2.2.2.2.2.1
theorem ks_X.hr {tys : List (ClassId × FieldType)} {sh : en_H} {w : va_W} {d : ks_D} (h : ks_X tys sh w d) : ∀ j, j < 9 → ∃ t a : Int32, w[68 + 2 * j]? = some (sh.2 (68 + 2 * j), .inr (9, [.ref (sh.2 (69 + 2 * j)), .int (d.par j), .int (d.ix j), .int (d.cup j), .int t, .int a])) := h.2.2.2.2.2.2.2.2.2.2.2.2.2.2.2.2.2.1
theorem ks_X.hk {tys : List (ClassId × FieldType)} {sh : en_H} {w : va_W} {d : ks_D} (h : ks_X tys sh w d) : ∀ j, j < 9 → ∃ (cX : ClassId) (g : Nat → Int32), tys[1]? = some (cX, .char) ∧ w[69 + 2 * j]? = some (sh.2 (69 + 2 * j), .inl (cX, 600, .inl g)) ∧ ∀ i, i < 600 → 0 ≤ (g i).toInt ∧ (g i).toInt ≤ 65535 := h.2.2.2.2.2.2.2.2.2.2.2.2.2.2.2.2.2.2.1
theorem ks_X.pr {tys : List (ClassId × FieldType)} {sh : en_H} {w : va_W} {d : ks_D} (h : ks_X tys sh w d) : ∀ j, j < 6 → w[87 + 8 * j]? = some (sh.2 (87 + 8 * j), .inr (11, [.ref (sh.2 (88 + 8 * j)), .ref (sh.2 (89 + 8 * j)), .ref (sh.2 (93 + 8 * j)), .int (d.hp j)])) := h.2.2.2.2.2.2.2.2.2.2.2.2.2.2.2.2.2.2.2.1
theorem ks_X.br {tys : List (ClassId × FieldType)} {sh : en_H} {w : va_W} {d : ks_D} (h : ks_X tys sh w d) : ∀ j, j < 6 → ∃ (fb : List Value) (b0 b2 b10 : Int32), w[88 + 8 * j]? = some (sh.2 (88 + 8 * j), .inr (6, fb)) ∧ fb.length = 16 ∧ fb[0]? = some (.int b0) ∧ fb[1]? = some (.int (d.bc j)) ∧ fb[2]? = some (.int b2) ∧ fb[9]? = some (.int b10) := h.2.2.2.2.2.2.2.2.2.2.2.2.2.2.2.2.2.2.2.2.1
theorem ks_X.cr {tys : List (ClassId × FieldType)} {sh : en_H} {w : va_W} {d : ks_D} (h : ks_X tys sh w d) : ∀ j, j < 6 → ∃ (r0 r1 : Nat) (b3 b4 b5 : Int32), w[89 + 8 * j]? = some (sh.2 (89 + 8 * j), .inr (7, [.ref r0, .ref r1, .ref (sh.2 (92 + 8 * j)), .int b3, .int b4, .int b5])) := h.2.2.2.2.2.2.2.2.2.2.2.2.2.2.2.2.2.2.2.2.2.1
theorem ks_X.wa {tys : List (ClassId × FieldType)} {sh : en_H} {w : va_W} {d : ks_D} (h : ks_X tys sh w d) : ∀ j, j < 6 → ∃ cI : ClassId, tys[0]? = some (cI, .int) ∧ w[92 + 8 * j]? = some (sh.2 (92 + 8 * j), .inl (cI, 9, .inl (d.wr j))) := h.2.2.2.2.2.2.2.2.2.2.2.2.2.2.2.2.2.2.2.2.2.2.1
theorem ks_X.fr {tys : List (ClassId × FieldType)} {sh : en_H} {w : va_W} {d : ks_D} (h : ks_X tys sh w d) : ∀ j, j < 6 → ∃ (cI : ClassId) (g : Nat → Int32) (n : Nat) (ix lo : Int32), tys[0]? = some (cI, .int) ∧ w[93 + 8 * j]? = some (sh.2 (93 + 8 * j), .inr (8, [.ref (sh.2 (94 + 8 * j)), .int (nI n), .int ix, .int lo])) ∧ w[94 + 8 * j]? = some (sh.2 (94 + 8 * j), .inl (cI, 20, .inl g)) ∧ n ≤ 20 ∧ ks_ok g n ix lo := h.2.2.2.2.2.2.2.2.2.2.2.2.2.2.2.2.2.2.2.2.2.2.2
/-- how many holes have a lower index -/
def ks_lw (ix : Nat → Int32) (h : Nat) : Nat → Nat
  | 0 => 0
  | k + 1 => ks_lw ix h k + (if (ix k).toInt < (ix h).toInt then 1 else 0)
section
variable {ix : Nat → Int32} {h k : Nat}
theorem ks_lw_0 : ks_lw ix h 0 = 0 := by rw [ks_lw]
theorem ks_lw_1 (c : (ix k).toInt < (ix h).toInt) : ks_lw ix h (k + 1) = ks_lw ix h k + 1 := by rw [ks_lw, if_pos c]
theorem ks_lw_2 (c : ¬ (ix k).toInt < (ix h).toInt) : ks_lw ix h (k + 1) = ks_lw ix h k := by rw [ks_lw, if_neg c, Nat.add_zero]
theorem ks_lw_le (k : Nat) : ks_lw ix h k ≤ k := by
  induction k with
  | zero => exact Nat.le_of_eq ks_lw_0
  | succ k ih =>
    by_cases c : (ix k).toInt < (ix h).toInt
    · rw [ks_lw_1 c]; omega
    · rw [ks_lw_2 c]; omega
end
/-- strokes given on a hole -/
def ks_sg (ix : Nat → Int32) (hc : Nat) (p : Int32) (h : Nat) : Int32 := if hc < 1 then 0 else p / nI hc + (if (nI (ks_lw ix h hc)).toInt < (p - p / nI hc * nI hc).toInt then 1 else 0)
theorem ks_sg_0 {ix : Nat → Int32} {hc h : Nat} {p : Int32} (c : hc < 1) : ks_sg ix hc p h = 0 := if_pos c
theorem ks_sg_1 {ix : Nat → Int32} {hc h : Nat} {p : Int32} (c : ¬ hc < 1) (c2 : (nI (ks_lw ix h hc)).toInt < (p - p / nI hc * nI hc).toInt) : ks_sg ix hc p h = p / nI hc + 1 := by unfold ks_sg; rw [if_neg c, if_pos c2]
theorem ks_sg_2 {ix : Nat → Int32} {hc h : Nat} {p : Int32} (c : ¬ hc < 1) (c2 : ¬ (nI (ks_lw ix h hc)).toInt < (p - p / nI hc * nI hc).toInt) : ks_sg ix hc p h = p / nI hc + 0 := by unfold ks_sg; rw [if_neg c, if_neg c2]
def ks_net (d : ks_D) (h : Nat) (p : Nat) : Int32 := d.wr p h - ks_sg d.ix d.hc (d.hp p) h
/-- the winner of a hole -/
def ks_win (d : ks_D) (h : Nat) : Int32 := (ks_sw (fun i => d.wr i h) (ks_net d h) d.pc).1
theorem dk_X0_isAtRest_0 : decode cX0_isAtRest 0 = .ok (.aload_n 0, 1) := by decide +kernel
theorem dk_X0_isAtRest_1 : decode cX0_isAtRest 1 = .ok (.getfield 9, 3) := by decide +kernel
theorem dk_X0_isAtRest_4 : decode cX0_isAtRest 4 = .ok (.bipush 108, 2) := by decide +kernel
theorem dk_X0_isAtRest_6 : decode cX0_isAtRest 6 = .ok (.if_icmp .ne 21, 3) := by decide +kernel
theorem dk_X0_isAtRest_9 : decode cX0_isAtRest 9 = .ok (.aload_n 0, 1) := by decide +kernel
theorem dk_X0_isAtRest_10 : decode cX0_isAtRest 10 = .ok (.getfield 19, 3) := by decide +kernel
theorem dk_X0_isAtRest_13 : decode cX0_isAtRest 13 = .ok (.ifCond .ne 14, 3) := by decide +kernel
theorem dk_X0_isAtRest_16 : decode cX0_isAtRest 16 = .ok (.aload_n 0, 1) := by decide +kernel
theorem dk_X0_isAtRest_17 : decode cX0_isAtRest 17 = .ok (.getfield 38, 3) := by decide +kernel
theorem dk_X0_isAtRest_20 : decode cX0_isAtRest 20 = .ok (.ifCond .ne 7, 3) := by decide +kernel
theorem dk_X0_isAtRest_23 : decode cX0_isAtRest 23 = .ok (.iconst 1, 1) := by decide +kernel
theorem dk_X0_isAtRest_24 : decode cX0_isAtRest 24 = .ok (.goto 4, 3) := by decide +kernel
theorem dk_X0_isAtRest_27 : decode cX0_isAtRest 27 = .ok (.iconst 0, 1) := by decide +kernel
theorem dk_X0_isAtRest_28 : decode cX0_isAtRest 28 = .ok (.ireturn, 1) := by decide +kernel
theorem dk_X1_isRanked_0 : decode cX1_isRanked 0 = .ok (.aload_n 0, 1) := by decide +kernel
theorem dk_X1_isRanked_1 : decode cX1_isRanked 1 = .ok (.getfield 21, 3) := by decide +kernel
theorem dk_X1_isRanked_4 : decode cX1_isRanked 4 = .ok (.ifCond .eq 14, 3) := by decide +kernel
theorem dk_X1_isRanked_7 : decode cX1_isRanked 7 = .ok (.aload_n 0, 1) := by decide +kernel
theorem dk_X1_isRanked_8 : decode cX1_isRanked 8 = .ok (.getfield 25, 3) := by decide +kernel
theorem dk_X1_isRanked_11 : decode cX1_isRanked 11 = .ok (.ifCond .ne 7, 3) := by decide +kernel
theorem dk_X1_isRanked_14 : decode cX1_isRanked 14 = .ok (.iconst 1, 1) := by decide +kernel
theorem dk_X1_isRanked_15 : decode cX1_isRanked 15 = .ok (.goto 4, 3) := by decide +kernel
theorem dk_X1_isRanked_18 : decode cX1_isRanked 18 = .ok (.iconst 0, 1) := by decide +kernel
theorem dk_X1_isRanked_19 : decode cX1_isRanked 19 = .ok (.ireturn, 1) := by decide +kernel
theorem dk_X1_writtenOn_0 : decode cX1_writtenOn 0 = .ok (.iload_n 1, 1) := by decide +kernel
theorem dk_X1_writtenOn_1 : decode cX1_writtenOn 1 = .ok (.ifCond .lt 18, 3) := by decide +kernel
theorem dk_X1_writtenOn_4 : decode cX1_writtenOn 4 = .ok (.iload_n 1, 1) := by decide +kernel
theorem dk_X1_writtenOn_5 : decode cX1_writtenOn 5 = .ok (.bipush 9, 2) := by decide +kernel
theorem dk_X1_writtenOn_7 : decode cX1_writtenOn 7 = .ok (.if_icmp .ge 12, 3) := by decide +kernel
theorem dk_X1_writtenOn_10 : decode cX1_writtenOn 10 = .ok (.aload_n 0, 1) := by decide +kernel
theorem dk_X1_writtenOn_11 : decode cX1_writtenOn 11 = .ok (.getfield 18, 3) := by decide +kernel
theorem dk_X1_writtenOn_14 : decode cX1_writtenOn 14 = .ok (.iload_n 1, 1) := by decide +kernel
theorem dk_X1_writtenOn_15 : decode cX1_writtenOn 15 = .ok (.iaload, 1) := by decide +kernel
theorem dk_X1_writtenOn_16 : decode cX1_writtenOn 16 = .ok (.goto 4, 3) := by decide +kernel
theorem dk_X1_writtenOn_20 : decode cX1_writtenOn 20 = .ok (.ireturn, 1) := by decide +kernel
theorem dk_X6_isOnFreeKind_0 : decode cX6_isOnFreeKind 0 = .ok (.aload_n 0, 1) := by decide +kernel
theorem dk_X6_isOnFreeKind_1 : decode cX6_isOnFreeKind 1 = .ok (.getfield 11, 3) := by decide +kernel
theorem dk_X6_isOnFreeKind_4 : decode cX6_isOnFreeKind 4 = .ok (.aload_n 0, 1) := by decide +kernel
theorem dk_X6_isOnFreeKind_5 : decode cX6_isOnFreeKind 5 = .ok (.getfield 170, 3) := by decide +kernel
theorem dk_X6_isOnFreeKind_8 : decode cX6_isOnFreeKind 8 = .ok (.aaload, 1) := by decide +kernel
theorem dk_X6_isOnFreeKind_9 : decode cX6_isOnFreeKind 9 = .ok (.aload_n 1, 1) := by decide +kernel
theorem dk_X6_isOnFreeKind_10 : decode cX6_isOnFreeKind 10 = .ok (.getfield 211, 3) := by decide +kernel
theorem dk_X6_isOnFreeKind_13 : decode cX6_isOnFreeKind 13 = .ok (.invokevirtual 118, 3) := by decide +kernel
theorem dk_X6_isOnFreeKind_16 : decode cX6_isOnFreeKind 16 = .ok (.istore_n 2, 1) := by decide +kernel
theorem dk_X6_isOnFreeKind_17 : decode cX6_isOnFreeKind 17 = .ok (.aload_n 1, 1) := by decide +kernel
theorem dk_X6_isOnFreeKind_18 : decode cX6_isOnFreeKind 18 = .ok (.invokevirtual 294, 3) := by decide +kernel
theorem dk_X6_isOnFreeKind_21 : decode cX6_isOnFreeKind 21 = .ok (.ifCond .eq 19, 3) := by decide +kernel
theorem dk_X6_isOnFreeKind_24 : decode cX6_isOnFreeKind 24 = .ok (.iload_n 2, 1) := by decide +kernel
theorem dk_X6_isOnFreeKind_25 : decode cX6_isOnFreeKind 25 = .ok (.bipush 119, 2) := by decide +kernel
theorem dk_X6_isOnFreeKind_27 : decode cX6_isOnFreeKind 27 = .ok (.if_icmp .eq 9, 3) := by decide +kernel
theorem dk_X6_isOnFreeKind_30 : decode cX6_isOnFreeKind 30 = .ok (.iload_n 2, 1) := by decide +kernel
theorem dk_X6_isOnFreeKind_31 : decode cX6_isOnFreeKind 31 = .ok (.bipush 112, 2) := by decide +kernel
theorem dk_X6_isOnFreeKind_33 : decode cX6_isOnFreeKind 33 = .ok (.if_icmp .ne 7, 3) := by decide +kernel
theorem dk_X6_isOnFreeKind_36 : decode cX6_isOnFreeKind 36 = .ok (.iconst 1, 1) := by decide +kernel
theorem dk_X6_isOnFreeKind_37 : decode cX6_isOnFreeKind 37 = .ok (.goto 4, 3) := by decide +kernel
theorem dk_X6_isOnFreeKind_40 : decode cX6_isOnFreeKind 40 = .ok (.iconst 0, 1) := by decide +kernel
theorem dk_X6_isOnFreeKind_41 : decode cX6_isOnFreeKind 41 = .ok (.ireturn, 1) := by decide +kernel
theorem dk_X6_isPointNearest_0 : decode cX6_isPointNearest 0 = .ok (.aload_n 0, 1) := by decide +kernel
theorem dk_X6_isPointNearest_1 : decode cX6_isPointNearest 1 = .ok (.getfield 11, 3) := by decide +kernel
theorem dk_X6_isPointNearest_4 : decode cX6_isPointNearest 4 = .ok (.aload_n 0, 1) := by decide +kernel
theorem dk_X6_isPointNearest_5 : decode cX6_isPointNearest 5 = .ok (.getfield 170, 3) := by decide +kernel
theorem dk_X6_isPointNearest_8 : decode cX6_isPointNearest 8 = .ok (.aaload, 1) := by decide +kernel
theorem dk_X6_isPointNearest_9 : decode cX6_isPointNearest 9 = .ok (.astore_n 2, 1) := by decide +kernel
theorem dk_X6_isPointNearest_10 : decode cX6_isPointNearest 10 = .ok (.aload_n 0, 1) := by decide +kernel
theorem dk_X6_isPointNearest_11 : decode cX6_isPointNearest 11 = .ok (.getfield 132, 3) := by decide +kernel
theorem dk_X6_isPointNearest_14 : decode cX6_isPointNearest 14 = .ok (.ifCond .eq 30, 3) := by decide +kernel
theorem dk_X6_isPointNearest_17 : decode cX6_isPointNearest 17 = .ok (.aload_n 0, 1) := by decide +kernel
theorem dk_X6_isPointNearest_18 : decode cX6_isPointNearest 18 = .ok (.aload_n 1, 1) := by decide +kernel
theorem dk_X6_isPointNearest_19 : decode cX6_isPointNearest 19 = .ok (.invokevirtual 310, 3) := by decide +kernel
theorem dk_X6_isPointNearest_22 : decode cX6_isPointNearest 22 = .ok (.ifCond .eq 22, 3) := by decide +kernel
theorem dk_X6_isPointNearest_25 : decode cX6_isPointNearest 25 = .ok (.aload_n 2, 1) := by decide +kernel
theorem dk_X6_isPointNearest_26 : decode cX6_isPointNearest 26 = .ok (.aload_n 1, 1) := by decide +kernel
theorem dk_X6_isPointNearest_27 : decode cX6_isPointNearest 27 = .ok (.getfield 211, 3) := by decide +kernel
theorem dk_X6_isPointNearest_30 : decode cX6_isPointNearest 30 = .ok (.invokevirtual 316, 3) := by decide +kernel
theorem dk_X6_isPointNearest_33 : decode cX6_isPointNearest 33 = .ok (.aload_n 2, 1) := by decide +kernel
theorem dk_X6_isPointNearest_34 : decode cX6_isPointNearest 34 = .ok (.aload_n 1, 1) := by decide +kernel
theorem dk_X6_isPointNearest_35 : decode cX6_isPointNearest 35 = .ok (.getfield 211, 3) := by decide +kernel
theorem dk_X6_isPointNearest_38 : decode cX6_isPointNearest 38 = .ok (.invokevirtual 601, 3) := by decide +kernel
theorem dk_X6_isPointNearest_41 : decode cX6_isPointNearest 41 = .ok (.if_icmp .ne 7, 3) := by decide +kernel
theorem dk_X6_isPointNearest_44 : decode cX6_isPointNearest 44 = .ok (.iconst 1, 1) := by decide +kernel
theorem dk_X6_isPointNearest_45 : decode cX6_isPointNearest 45 = .ok (.goto 4, 3) := by decide +kernel
theorem dk_X6_isPointNearest_49 : decode cX6_isPointNearest 49 = .ok (.ireturn, 1) := by decide +kernel
theorem dk_X6_isRoundOver_0 : decode cX6_isRoundOver 0 = .ok (.aload_n 0, 1) := by decide +kernel
theorem dk_X6_isRoundOver_1 : decode cX6_isRoundOver 1 = .ok (.getfield 58, 3) := by decide +kernel
theorem dk_X6_isRoundOver_4 : decode cX6_isRoundOver 4 = .ok (.ifCond .eq 14, 3) := by decide +kernel
theorem dk_X6_isRoundOver_7 : decode cX6_isRoundOver 7 = .ok (.aload_n 0, 1) := by decide +kernel
theorem dk_X6_isRoundOver_8 : decode cX6_isRoundOver 8 = .ok (.getfield 132, 3) := by decide +kernel
theorem dk_X6_isRoundOver_11 : decode cX6_isRoundOver 11 = .ok (.ifCond .ne 7, 3) := by decide +kernel
theorem dk_X6_isRoundOver_14 : decode cX6_isRoundOver 14 = .ok (.iconst 1, 1) := by decide +kernel
theorem dk_X6_isRoundOver_15 : decode cX6_isRoundOver 15 = .ok (.goto 4, 3) := by decide +kernel
theorem dk_X6_isRoundOver_18 : decode cX6_isRoundOver 18 = .ok (.iconst 0, 1) := by decide +kernel
theorem dk_X6_isRoundOver_19 : decode cX6_isRoundOver 19 = .ok (.ireturn, 1) := by decide +kernel
theorem dk_X6_needPlayer_0 : decode cX6_needPlayer 0 = .ok (.iload_n 1, 1) := by decide +kernel
theorem dk_X6_needPlayer_1 : decode cX6_needPlayer 1 = .ok (.ifCond .lt 11, 3) := by decide +kernel
theorem dk_X6_needPlayer_4 : decode cX6_needPlayer 4 = .ok (.iload_n 1, 1) := by decide +kernel
theorem dk_X6_needPlayer_5 : decode cX6_needPlayer 5 = .ok (.aload_n 0, 1) := by decide +kernel
theorem dk_X6_needPlayer_6 : decode cX6_needPlayer 6 = .ok (.getfield 122, 3) := by decide +kernel
theorem dk_X6_needPlayer_9 : decode cX6_needPlayer 9 = .ok (.if_icmp .lt 14, 3) := by decide +kernel
theorem dk_X6_needPlayer_12 : decode cX6_needPlayer 12 = .ok (.new 535, 3) := by decide +kernel
theorem dk_X6_needPlayer_15 : decode cX6_needPlayer 15 = .ok (.dup, 1) := by decide +kernel
theorem dk_X6_needPlayer_16 : decode cX6_needPlayer 16 = .ok (.ldc_w 568, 3) := by decide +kernel
theorem dk_X6_needPlayer_19 : decode cX6_needPlayer 19 = .ok (.invokespecial 539, 3) := by decide +kernel
theorem dk_X6_needPlayer_22 : decode cX6_needPlayer 22 = .ok (.athrow, 1) := by decide +kernel
theorem dk_X6_needPlayer_23 : decode cX6_needPlayer 23 = .ok (.return_, 1) := by decide +kernel
theorem dk_X6_netScore_0 : decode cX6_netScore 0 = .ok (.aload_n 0, 1) := by decide +kernel
theorem dk_X6_netScore_1 : decode cX6_netScore 1 = .ok (.getfield 18, 3) := by decide +kernel
theorem dk_X6_netScore_4 : decode cX6_netScore 4 = .ok (.iload_n 1, 1) := by decide +kernel
theorem dk_X6_netScore_5 : decode cX6_netScore 5 = .ok (.aaload, 1) := by decide +kernel
theorem dk_X6_netScore_6 : decode cX6_netScore 6 = .ok (.getfield 155, 3) := by decide +kernel
theorem dk_X6_netScore_9 : decode cX6_netScore 9 = .ok (.iload_n 2, 1) := by decide +kernel
theorem dk_X6_netScore_10 : decode cX6_netScore 10 = .ok (.invokevirtual 469, 3) := by decide +kernel
theorem dk_X6_netScore_13 : decode cX6_netScore 13 = .ok (.aload_n 0, 1) := by decide +kernel
theorem dk_X6_netScore_14 : decode cX6_netScore 14 = .ok (.aload_n 0, 1) := by decide +kernel
theorem dk_X6_netScore_15 : decode cX6_netScore 15 = .ok (.getfield 18, 3) := by decide +kernel
theorem dk_X6_netScore_18 : decode cX6_netScore 18 = .ok (.iload_n 1, 1) := by decide +kernel
theorem dk_X6_netScore_19 : decode cX6_netScore 19 = .ok (.aaload, 1) := by decide +kernel
theorem dk_X6_netScore_20 : decode cX6_netScore 20 = .ok (.getfield 137, 3) := by decide +kernel
theorem dk_X6_netScore_23 : decode cX6_netScore 23 = .ok (.iload_n 2, 1) := by decide +kernel
theorem dk_X6_netScore_24 : decode cX6_netScore 24 = .ok (.invokevirtual 140, 3) := by decide +kernel
theorem dk_X6_netScore_27 : decode cX6_netScore 27 = .ok (.isub, 1) := by decide +kernel
theorem dk_X6_netScore_28 : decode cX6_netScore 28 = .ok (.ireturn, 1) := by decide +kernel
theorem dk_X6_skinWinner_0 : decode cX6_skinWinner 0 = .ok (.iconst (-1), 1) := by decide +kernel
theorem dk_X6_skinWinner_1 : decode cX6_skinWinner 1 = .ok (.istore_n 2, 1) := by decide +kernel
theorem dk_X6_skinWinner_2 : decode cX6_skinWinner 2 = .ok (.iconst 0, 1) := by decide +kernel
theorem dk_X6_skinWinner_3 : decode cX6_skinWinner 3 = .ok (.istore_n 3, 1) := by decide +kernel
theorem dk_X6_skinWinner_4 : decode cX6_skinWinner 4 = .ok (.iconst 0, 1) := by decide +kernel
theorem dk_X6_skinWinner_5 : decode cX6_skinWinner 5 = .ok (.istore 4, 2) := by decide +kernel
theorem dk_X6_skinWinner_7 : decode cX6_skinWinner 7 = .ok (.iconst 0, 1) := by decide +kernel
theorem dk_X6_skinWinner_8 : decode cX6_skinWinner 8 = .ok (.istore 5, 2) := by decide +kernel
theorem dk_X6_skinWinner_10 : decode cX6_skinWinner 10 = .ok (.iload 5, 2) := by decide +kernel
theorem dk_X6_skinWinner_12 : decode cX6_skinWinner 12 = .ok (.aload_n 0, 1) := by decide +kernel
theorem dk_X6_skinWinner_13 : decode cX6_skinWinner 13 = .ok (.getfield 122, 3) := by decide +kernel
theorem dk_X6_skinWinner_16 : decode cX6_skinWinner 16 = .ok (.if_icmp .ge 66, 3) := by decide +kernel
theorem dk_X6_skinWinner_19 : decode cX6_skinWinner 19 = .ok (.aload_n 0, 1) := by decide +kernel
theorem dk_X6_skinWinner_20 : decode cX6_skinWinner 20 = .ok (.getfield 18, 3) := by decide +kernel
theorem dk_X6_skinWinner_23 : decode cX6_skinWinner 23 = .ok (.iload 5, 2) := by decide +kernel
theorem dk_X6_skinWinner_25 : decode cX6_skinWinner 25 = .ok (.aaload, 1) := by decide +kernel
theorem dk_X6_skinWinner_26 : decode cX6_skinWinner 26 = .ok (.getfield 155, 3) := by decide +kernel
theorem dk_X6_skinWinner_29 : decode cX6_skinWinner 29 = .ok (.iload_n 1, 1) := by decide +kernel
theorem dk_X6_skinWinner_30 : decode cX6_skinWinner 30 = .ok (.invokevirtual 469, 3) := by decide +kernel
theorem dk_X6_skinWinner_33 : decode cX6_skinWinner 33 = .ok (.ifCond .eq 43, 3) := by decide +kernel
theorem dk_X6_skinWinner_36 : decode cX6_skinWinner 36 = .ok (.aload_n 0, 1) := by decide +kernel
theorem dk_X6_skinWinner_37 : decode cX6_skinWinner 37 = .ok (.iload 5, 2) := by decide +kernel
theorem dk_X6_skinWinner_39 : decode cX6_skinWinner 39 = .ok (.iload_n 1, 1) := by decide +kernel
theorem dk_X6_skinWinner_40 : decode cX6_skinWinner 40 = .ok (.invokevirtual 472, 3) := by decide +kernel
theorem dk_X6_skinWinner_43 : decode cX6_skinWinner 43 = .ok (.istore 6, 2) := by decide +kernel
theorem dk_X6_skinWinner_45 : decode cX6_skinWinner 45 = .ok (.iload 4, 2) := by decide +kernel
theorem dk_X6_skinWinner_47 : decode cX6_skinWinner 47 = .ok (.ifCond .eq 9, 3) := by decide +kernel
theorem dk_X6_skinWinner_50 : decode cX6_skinWinner 50 = .ok (.iload 6, 2) := by decide +kernel
theorem dk_X6_skinWinner_52 : decode cX6_skinWinner 52 = .ok (.iload_n 3, 1) := by decide +kernel
theorem dk_X6_skinWinner_53 : decode cX6_skinWinner 53 = .ok (.if_icmp .ge 12, 3) := by decide +kernel
theorem dk_X6_skinWinner_56 : decode cX6_skinWinner 56 = .ok (.iload 5, 2) := by decide +kernel
theorem dk_X6_skinWinner_58 : decode cX6_skinWinner 58 = .ok (.istore_n 2, 1) := by decide +kernel
theorem dk_X6_skinWinner_59 : decode cX6_skinWinner 59 = .ok (.iload 6, 2) := by decide +kernel
theorem dk_X6_skinWinner_61 : decode cX6_skinWinner 61 = .ok (.istore_n 3, 1) := by decide +kernel
theorem dk_X6_skinWinner_62 : decode cX6_skinWinner 62 = .ok (.goto 11, 3) := by decide +kernel
theorem dk_X6_skinWinner_65 : decode cX6_skinWinner 65 = .ok (.iload 6, 2) := by decide +kernel
theorem dk_X6_skinWinner_67 : decode cX6_skinWinner 67 = .ok (.iload_n 3, 1) := by decide +kernel
theorem dk_X6_skinWinner_68 : decode cX6_skinWinner 68 = .ok (.if_icmp .ne 5, 3) := by decide +kernel
theorem dk_X6_skinWinner_71 : decode cX6_skinWinner 71 = .ok (.iconst (-1), 1) := by decide +kernel
theorem dk_X6_skinWinner_72 : decode cX6_skinWinner 72 = .ok (.istore_n 2, 1) := by decide +kernel
theorem dk_X6_skinWinner_73 : decode cX6_skinWinner 73 = .ok (.iconst 1, 1) := by decide +kernel
theorem dk_X6_skinWinner_74 : decode cX6_skinWinner 74 = .ok (.istore 4, 2) := by decide +kernel
theorem dk_X6_skinWinner_76 : decode cX6_skinWinner 76 = .ok (.iinc 5 1, 3) := by decide +kernel
theorem dk_X6_skinWinner_79 : decode cX6_skinWinner 79 = .ok (.goto (-69), 3) := by decide +kernel
theorem dk_X6_skinWinner_82 : decode cX6_skinWinner 82 = .ok (.iload_n 2, 1) := by decide +kernel
theorem dk_X6_skinWinner_83 : decode cX6_skinWinner 83 = .ok (.ireturn, 1) := by decide +kernel
theorem dk_X6_skinsOf_0 : decode cX6_skinsOf 0 = .ok (.iconst 0, 1) := by decide +kernel
theorem dk_X6_skinsOf_1 : decode cX6_skinsOf 1 = .ok (.istore_n 2, 1) := by decide +kernel
theorem dk_X6_skinsOf_2 : decode cX6_skinsOf 2 = .ok (.iconst 0, 1) := by decide +kernel
theorem dk_X6_skinsOf_3 : decode cX6_skinsOf 3 = .ok (.istore_n 3, 1) := by decide +kernel
theorem dk_X6_skinsOf_4 : decode cX6_skinsOf 4 = .ok (.iconst 0, 1) := by decide +kernel
theorem dk_X6_skinsOf_5 : decode cX6_skinsOf 5 = .ok (.istore 4, 2) := by decide +kernel
theorem dk_X6_skinsOf_7 : decode cX6_skinsOf 7 = .ok (.iload 4, 2) := by decide +kernel
theorem dk_X6_skinsOf_9 : decode cX6_skinsOf 9 = .ok (.aload_n 0, 1) := by decide +kernel
theorem dk_X6_skinsOf_10 : decode cX6_skinsOf 10 = .ok (.getfield 62, 3) := by decide +kernel
theorem dk_X6_skinsOf_13 : decode cX6_skinsOf 13 = .ok (.if_icmp .ge 42, 3) := by decide +kernel
theorem dk_X6_skinsOf_16 : decode cX6_skinsOf 16 = .ok (.iinc 3 1, 3) := by decide +kernel
theorem dk_X6_skinsOf_19 : decode cX6_skinsOf 19 = .ok (.aload_n 0, 1) := by decide +kernel
theorem dk_X6_skinsOf_20 : decode cX6_skinsOf 20 = .ok (.iload 4, 2) := by decide +kernel
theorem dk_X6_skinsOf_22 : decode cX6_skinsOf 22 = .ok (.invokevirtual 607, 3) := by decide +kernel
theorem dk_X6_skinsOf_25 : decode cX6_skinsOf 25 = .ok (.istore 5, 2) := by decide +kernel
theorem dk_X6_skinsOf_27 : decode cX6_skinsOf 27 = .ok (.iload 5, 2) := by decide +kernel
theorem dk_X6_skinsOf_29 : decode cX6_skinsOf 29 = .ok (.iconst (-1), 1) := by decide +kernel
theorem dk_X6_skinsOf_30 : decode cX6_skinsOf 30 = .ok (.if_icmp .eq 19, 3) := by decide +kernel
theorem dk_X6_skinsOf_33 : decode cX6_skinsOf 33 = .ok (.iload_n 2, 1) := by decide +kernel
theorem dk_X6_skinsOf_34 : decode cX6_skinsOf 34 = .ok (.iload 5, 2) := by decide +kernel
theorem dk_X6_skinsOf_36 : decode cX6_skinsOf 36 = .ok (.iload_n 1, 1) := by decide +kernel
theorem dk_X6_skinsOf_37 : decode cX6_skinsOf 37 = .ok (.if_icmp .ne 7, 3) := by decide +kernel
theorem dk_X6_skinsOf_40 : decode cX6_skinsOf 40 = .ok (.iload_n 3, 1) := by decide +kernel
theorem dk_X6_skinsOf_41 : decode cX6_skinsOf 41 = .ok (.goto 4, 3) := by decide +kernel
theorem dk_X6_skinsOf_44 : decode cX6_skinsOf 44 = .ok (.iconst 0, 1) := by decide +kernel
theorem dk_X6_skinsOf_45 : decode cX6_skinsOf 45 = .ok (.iadd, 1) := by decide +kernel
theorem dk_X6_skinsOf_46 : decode cX6_skinsOf 46 = .ok (.istore_n 2, 1) := by decide +kernel
theorem dk_X6_skinsOf_47 : decode cX6_skinsOf 47 = .ok (.iconst 0, 1) := by decide +kernel
theorem dk_X6_skinsOf_48 : decode cX6_skinsOf 48 = .ok (.istore_n 3, 1) := by decide +kernel
theorem dk_X6_skinsOf_49 : decode cX6_skinsOf 49 = .ok (.iinc 4 1, 3) := by decide +kernel
theorem dk_X6_skinsOf_52 : decode cX6_skinsOf 52 = .ok (.goto (-45), 3) := by decide +kernel
theorem dk_X6_skinsOf_55 : decode cX6_skinsOf 55 = .ok (.iload_n 2, 1) := by decide +kernel
theorem dk_X6_skinsOf_56 : decode cX6_skinsOf 56 = .ok (.ireturn, 1) := by decide +kernel
theorem dk_X6_strokesGiven_0 : decode cX6_strokesGiven 0 = .ok (.aload_n 0, 1) := by decide +kernel
theorem dk_X6_strokesGiven_1 : decode cX6_strokesGiven 1 = .ok (.getfield 62, 3) := by decide +kernel
theorem dk_X6_strokesGiven_4 : decode cX6_strokesGiven 4 = .ok (.iconst 1, 1) := by decide +kernel
theorem dk_X6_strokesGiven_5 : decode cX6_strokesGiven 5 = .ok (.if_icmp .ge 5, 3) := by decide +kernel
theorem dk_X6_strokesGiven_8 : decode cX6_strokesGiven 8 = .ok (.iconst 0, 1) := by decide +kernel
theorem dk_X6_strokesGiven_9 : decode cX6_strokesGiven 9 = .ok (.ireturn, 1) := by decide +kernel
theorem dk_X6_strokesGiven_10 : decode cX6_strokesGiven 10 = .ok (.iconst 0, 1) := by decide +kernel
theorem dk_X6_strokesGiven_11 : decode cX6_strokesGiven 11 = .ok (.istore_n 3, 1) := by decide +kernel
theorem dk_X6_strokesGiven_12 : decode cX6_strokesGiven 12 = .ok (.iconst 0, 1) := by decide +kernel
theorem dk_X6_strokesGiven_13 : decode cX6_strokesGiven 13 = .ok (.istore 4, 2) := by decide +kernel
theorem dk_X6_strokesGiven_15 : decode cX6_strokesGiven 15 = .ok (.iload 4, 2) := by decide +kernel
theorem dk_X6_strokesGiven_17 : decode cX6_strokesGiven 17 = .ok (.aload_n 0, 1) := by decide +kernel
theorem dk_X6_strokesGiven_18 : decode cX6_strokesGiven 18 = .ok (.getfield 62, 3) := by decide +kernel
theorem dk_X6_strokesGiven_21 : decode cX6_strokesGiven 21 = .ok (.if_icmp .ge 34, 3) := by decide +kernel
theorem dk_X6_strokesGiven_24 : decode cX6_strokesGiven 24 = .ok (.aload_n 0, 1) := by decide +kernel
theorem dk_X6_strokesGiven_25 : decode cX6_strokesGiven 25 = .ok (.getfield 11, 3) := by decide +kernel
theorem dk_X6_strokesGiven_28 : decode cX6_strokesGiven 28 = .ok (.iload 4, 2) := by decide +kernel
theorem dk_X6_strokesGiven_30 : decode cX6_strokesGiven 30 = .ok (.aaload, 1) := by decide +kernel
theorem dk_X6_strokesGiven_31 : decode cX6_strokesGiven 31 = .ok (.getfield 82, 3) := by decide +kernel
theorem dk_X6_strokesGiven_34 : decode cX6_strokesGiven 34 = .ok (.aload_n 0, 1) := by decide +kernel
theorem dk_X6_strokesGiven_35 : decode cX6_strokesGiven 35 = .ok (.getfield 11, 3) := by decide +kernel
theorem dk_X6_strokesGiven_38 : decode cX6_strokesGiven 38 = .ok (.iload_n 2, 1) := by decide +kernel
theorem dk_X6_strokesGiven_39 : decode cX6_strokesGiven 39 = .ok (.aaload, 1) := by decide +kernel
theorem dk_X6_strokesGiven_40 : decode cX6_strokesGiven 40 = .ok (.getfield 82, 3) := by decide +kernel
theorem dk_X6_strokesGiven_43 : decode cX6_strokesGiven 43 = .ok (.if_icmp .ge 6, 3) := by decide +kernel
theorem dk_X6_strokesGiven_46 : decode cX6_strokesGiven 46 = .ok (.iinc 3 1, 3) := by decide +kernel
theorem dk_X6_strokesGiven_49 : decode cX6_strokesGiven 49 = .ok (.iinc 4 1, 3) := by decide +kernel
theorem dk_X6_strokesGiven_52 : decode cX6_strokesGiven 52 = .ok (.goto (-37), 3) := by decide +kernel
theorem dk_X6_strokesGiven_55 : decode cX6_strokesGiven 55 = .ok (.iload_n 1, 1) := by decide +kernel
theorem dk_X6_strokesGiven_56 : decode cX6_strokesGiven 56 = .ok (.aload_n 0, 1) := by decide +kernel
theorem dk_X6_strokesGiven_57 : decode cX6_strokesGiven 57 = .ok (.getfield 62, 3) := by decide +kernel
theorem dk_X6_strokesGiven_60 : decode cX6_strokesGiven 60 = .ok (.idiv, 1) := by decide +kernel
theorem dk_X6_strokesGiven_61 : decode cX6_strokesGiven 61 = .ok (.iload_n 3, 1) := by decide +kernel
theorem dk_X6_strokesGiven_62 : decode cX6_strokesGiven 62 = .ok (.iload_n 1, 1) := by decide +kernel
theorem dk_X6_strokesGiven_63 : decode cX6_strokesGiven 63 = .ok (.aload_n 0, 1) := by decide +kernel
theorem dk_X6_strokesGiven_64 : decode cX6_strokesGiven 64 = .ok (.getfield 62, 3) := by decide +kernel
theorem dk_X6_strokesGiven_67 : decode cX6_strokesGiven 67 = .ok (.irem, 1) := by decide +kernel
theorem dk_X6_strokesGiven_68 : decode cX6_strokesGiven 68 = .ok (.if_icmp .ge 7, 3) := by decide +kernel
theorem dk_X6_strokesGiven_71 : decode cX6_strokesGiven 71 = .ok (.iconst 1, 1) := by decide +kernel
theorem dk_X6_strokesGiven_72 : decode cX6_strokesGiven 72 = .ok (.goto 4, 3) := by decide +kernel
theorem dk_X6_strokesGiven_75 : decode cX6_strokesGiven 75 = .ok (.iconst 0, 1) := by decide +kernel
theorem dk_X6_strokesGiven_76 : decode cX6_strokesGiven 76 = .ok (.iadd, 1) := by decide +kernel
theorem dk_X6_strokesGiven_77 : decode cX6_strokesGiven 77 = .ok (.ireturn, 1) := by decide +kernel
set_option maxHeartbeats 4000000 in
theorem kx_X6_isRoundOver {l : Launch} (hl9 : l.stackTraces = false) (D : va_G) {tys : List (ClassId × FieldType)} {sh : en_H} {w : va_W} {sz : Nat} (hD0 : va_D (va_A w sz) w) {dt : ks_D} (hX : ks_X tys sh w dt) : kx_C l yX6_isRoundOver cX6_isRoundOver 1 (some .boolean) 0 0 0 0 [.ref (sh.2 66)] D tys w sz (fun res w1 => w1 = w ∧ (res = some (.int 0) ∨ res = some (.int 1))) (fun _ => False) := by
  refine vx_ofW (cc := cX6_isRoundOver) (maxL := 1) (ret := (some .boolean)) (by decide +kernel) rfl ?_
  intro p e s m args below meth c s₁ B9 hml hne hv
  obtain ⟨rfl, hsz, hP, hK, hT⟩ := hv
  subst hsz
  have hx := B9.exec
  have hb := B9.bytes
  have hr := B9.returns
  have hlocks := B9.notSynchronized
  have hts0 := atoms_spec (ws := Cond.code yX6_isRoundOver cX6_isRoundOver 1 (some .boolean) :: en_cw) B9.pre
  have hts : ∀ z ∈ en_cw, z.before _ s = true := fun z hz => hts0 z (List.mem_cons_of_mem _ hz)
  have hown : s.vm.findClass RX6 = some m.cls := findClass_of_methodNamed B9.named
  have G : kx_G p s m ([.ref (sh.2 66)] : List Value).toArray c cX6_isRoundOver RX6 D tys (va_A w s.heap.size) := ⟨hx, hb, hts, hown, hK, hT, fun q h => Or.inr h⟩
  have L : kx_H D (va_A w s.heap.size) s w s.heap [] := ⟨hP, ⟨hD0.1, fun j z hz => Or.inl ⟨j, z.2, hz⟩⟩, va_S.rf⟩
  have hl := lv_entry ([.ref (sh.2 66)] : List Value) (n := 1) (Nat.le_of_ble_eq_true rfl)
  rw [lg_entry_eq]
  generalize (lg_sl ([.ref (sh.2 66)] : List Value) ++ List.replicate (1 - (lg_sl ([.ref (sh.2 66)] : List Value)).length) Slot.unset).toArray = ls at hl ⊢
  have hl : lv_has ls 1 [(0, .ref (sh.2 66))] := hl
  have hc9 := hX.hc9
  have pc6 := hX.pc6
  have hn9 := hX.hn9
  refine lv_aload_n hx hb dk_X6_isRoundOver_0 rfl (lv_at hl 0 rfl) ?_
  refine kx_get (v := .int dt.bg) G L (en_FTX6_ok (58, 12, 10) (by decide)) hX.o hX.f10 dk_X6_isRoundOver_1 ?_
  have k2 : (0 : Int32).toInt = 0 := by decide
  refine lv_if_eq (tgt := 18) hx hb dk_X6_isRoundOver_4 (by decide) (fun c1 => ?_) (fun c1 => ?_)
  · skip
    have tc1 : (dt.bg : Int32).toInt = (0 : Int32).toInt := by rw [c1]
    refine lv_iconst (v := 0) hx hb dk_X6_isRoundOver_18 (by decide) ?_
    exact vx_ret (W.widen (Nat.le_of_ble_eq_true rfl) (Nat.le_of_ble_eq_true rfl) (W.zret (v := 0) (ty := .boolean) hx hb hr (by decide) (fun T9 hT9 _ => ⟨⟨0, w, rfl, ⟨rfl, Or.inl rfl⟩, by rw [hT9]; exact L.1, L.2.1⟩, L.2.2.F hT9⟩) L.2.2.2.2 dk_X6_isRoundOver_19 hlocks))
  · skip
    have tc1 : ¬ (dt.bg : Int32).toInt = (0 : Int32).toInt := fun h => c1 (Int32.toInt_inj.mp h)
    refine lv_aload_n hx hb dk_X6_isRoundOver_7 rfl (lv_at hl 0 rfl) ?_
    refine kx_get (v := .int dt.on) G L (en_FTX6_ok (132, 12, 11) (by decide)) hX.o hX.f11 dk_X6_isRoundOver_8 ?_
    have k4 : (0 : Int32).toInt = 0 := by decide
    refine lv_if_ne (tgt := 18) hx hb dk_X6_isRoundOver_11 (by decide) (fun c3 => ?_) (fun c3 => ?_)
    · skip
      have tc3 : ¬ (dt.on : Int32).toInt = (0 : Int32).toInt := fun h => c3 (Int32.toInt_inj.mp h)
      refine lv_iconst (v := 0) hx hb dk_X6_isRoundOver_18 (by decide) ?_
      exact vx_ret (W.widen (Nat.le_of_ble_eq_true rfl) (Nat.le_of_ble_eq_true rfl) (W.zret (v := 0) (ty := .boolean) hx hb hr (by decide) (fun T9 hT9 _ => ⟨⟨0, w, rfl, ⟨rfl, Or.inl rfl⟩, by rw [hT9]; exact L.1, L.2.1⟩, L.2.2.F hT9⟩) L.2.2.2.2 dk_X6_isRoundOver_19 hlocks))
    · skip
      have tc3 : (dt.on : Int32).toInt = (0 : Int32).toInt := by rw [c3]
      refine lv_iconst (v := 1) hx hb dk_X6_isRoundOver_14 (by decide) ?_
      refine lv_goto (tgt := 19) hx hb dk_X6_isRoundOver_15 (by decide) ?_
      exact vx_ret (W.widen (Nat.le_of_ble_eq_true rfl) (Nat.le_of_ble_eq_true rfl) (W.zret (v := 1) (ty := .boolean) hx hb hr (by decide) (fun T9 hT9 _ => ⟨⟨1, w, rfl, ⟨rfl, Or.inr rfl⟩, by rw [hT9]; exact L.1, L.2.1⟩, L.2.2.F hT9⟩) L.2.2.2.2 dk_X6_isRoundOver_19 hlocks))
set_option maxHeartbeats 4000000 in
theorem kx_X1_writtenOn {l : Launch} (hl9 : l.stackTraces = false) (D : va_G) {tys : List (ClassId × FieldType)} {w : va_W} {sz : Nat} (hD0 : va_D (va_A w sz) w) {b q q2 k b2 r0 r1 : Nat} {v3 v4 v5 : Int32} {cI : ClassId} {g : Nat → Int32} (hti : tys[0]? = some (cI, .int)) (hf : w[q]? = some (b, .inr (7, [.ref r0, .ref r1, .ref b2, .int v3, .int v4, .int v5]))) (hg : w[q2]? = some (b2, .inl (cI, 9, .inl g))) (hk : k < 9) : kx_C l yX1_writtenOn cX1_writtenOn 2 (some .int) 0 0 0 0 [.ref b, .int (nI k)] D tys w sz (fun res w1 => w1 = w ∧ res = some (.int (g k))) (fun _ => False) := by
  refine vx_ofW (cc := cX1_writtenOn) (maxL := 2) (ret := (some .int)) (by decide +kernel) rfl ?_
  intro p e s m args below meth c s₁ B9 hml hne hv
  obtain ⟨rfl, hsz, hP, hK, hT⟩ := hv
  subst hsz
  have hx := B9.exec
  have hb := B9.bytes
  have hr := B9.returns
  have hlocks := B9.notSynchronized
  have hts0 := atoms_spec (ws := Cond.code yX1_writtenOn cX1_writtenOn 2 (some .int) :: en_cw) B9.pre
  have hts : ∀ z ∈ en_cw, z.before _ s = true := fun z hz => hts0 z (List.mem_cons_of_mem _ hz)
  have hown : s.vm.findClass RX1 = some m.cls := findClass_of_methodNamed B9.named
  have G : kx_G p s m ([.ref b, .int (nI k)] : List Value).toArray c cX1_writtenOn RX1 D tys (va_A w s.heap.size) := ⟨hx, hb, hts, hown, hK, hT, fun q h => Or.inr h⟩
  have L : kx_H D (va_A w s.heap.size) s w s.heap [] := ⟨hP, ⟨hD0.1, fun j z hz => Or.inl ⟨j, z.2, hz⟩⟩, va_S.rf⟩
  have hl := lv_entry ([.ref b, .int (nI k)] : List Value) (n := 2) (Nat.le_of_ble_eq_true rfl)
  rw [lg_entry_eq]
  generalize (lg_sl ([.ref b, .int (nI k)] : List Value) ++ List.replicate (2 - (lg_sl ([.ref b, .int (nI k)] : List Value)).length) Slot.unset).toArray = ls at hl ⊢
  have hl : lv_has ls 2 [(0, .ref b), (1, .int (nI k))] := hl
  refine lv_iload_n hx hb dk_X1_writtenOn_0 rfl (lv_at hl 1 rfl) ?_
  have k2 : (nI k).toInt = (((k) : Nat) : Int) := kx_nI (by omega)
  have k3 : (0 : Int32).toInt = 0 := by decide
  refine lv_if_lt (tgt := 19) hx hb dk_X1_writtenOn_1 (by decide) (fun c1 => ?_) (fun c1 => ?_)
  · skip
    have tc1 : ((nI k) : Int32).toInt < (0 : Int32).toInt := Int32.lt_iff_toInt_lt.mp c1
    exfalso
    omega
  · skip
    have tc1 : ¬ ((nI k) : Int32).toInt < (0 : Int32).toInt := fun h => c1 (Int32.lt_iff_toInt_lt.mpr h)
    refine lv_iload_n hx hb dk_X1_writtenOn_4 rfl (lv_at hl 1 rfl) ?_
    refine lv_bipush (v := 9) hx hb dk_X1_writtenOn_5 (by decide) ?_
    have k5 : (nI k).toInt = (((k) : Nat) : Int) := kx_nI (by omega)
    have k6 : (9 : Int32).toInt = 9 := by decide
    refine lv_icmp_ge (tgt := 19) hx hb dk_X1_writtenOn_7 (by decide) (fun c4 => ?_) (fun c4 => ?_)
    · skip
      have tc4 : (9 : Int32).toInt ≤ ((nI k) : Int32).toInt := Int32.le_iff_toInt_le.mp c4
      exfalso
      omega
    · skip
      have tc4 : ¬ (9 : Int32).toInt ≤ ((nI k) : Int32).toInt := fun h => c4 (Int32.le_iff_toInt_le.mpr h)
      refine lv_aload_n hx hb dk_X1_writtenOn_10 rfl (lv_at hl 0 rfl) ?_
      refine kx_get (v := .ref b2) G L (en_FTX1_ok (18, 7, 2) (by decide)) hf rfl dk_X1_writtenOn_11 ?_
      refine lv_iload_n hx hb dk_X1_writtenOn_14 rfl (lv_at hl 1 rfl) ?_
      refine kx_iald G L hg hti hk (by decide) dk_X1_writtenOn_15 ?_
      refine lv_goto (tgt := 20) hx hb dk_X1_writtenOn_16 (by decide) ?_
      exact vx_ret (W.widen (Nat.le_of_ble_eq_true rfl) (Nat.le_of_ble_eq_true rfl) (W.iret (v := (g k)) hx hb hr (fun T9 hT9 _ => ⟨⟨(g k), w, rfl, ⟨rfl, rfl⟩, by rw [hT9]; exact L.1, L.2.1⟩, L.2.2.F hT9⟩) L.2.2.2.2 dk_X1_writtenOn_20 hlocks))
set_option maxHeartbeats 4000000 in
theorem kx_X1_isRanked {l : Launch} (hl9 : l.stackTraces = false) (D : va_G) {tys : List (ClassId × FieldType)} {w : va_W} {sz : Nat} (hD0 : va_D (va_A w sz) w) {b q r0 r1 r2 : Nat} {v3 v4 v5 : Int32} (hf : w[q]? = some (b, .inr (7, [.ref r0, .ref r1, .ref r2, .int v3, .int v4, .int v5]))) : kx_C l yX1_isRanked cX1_isRanked 1 (some .boolean) 0 0 0 0 [.ref b] D tys w sz (fun res w1 => w1 = w ∧ (res = some (.int 0) ∨ res = some (.int 1))) (fun _ => False) := by
  refine vx_ofW (cc := cX1_isRanked) (maxL := 1) (ret := (some .boolean)) (by decide +kernel) rfl ?_
  intro p e s m args below meth c s₁ B9 hml hne hv
  obtain ⟨rfl, hsz, hP, hK, hT⟩ := hv
  subst hsz
  have hx := B9.exec
  have hb := B9.bytes
  have hr := B9.returns
  have hlocks := B9.notSynchronized
  have hts0 := atoms_spec (ws := Cond.code yX1_isRanked cX1_isRanked 1 (some .boolean) :: en_cw) B9.pre
  have hts : ∀ z ∈ en_cw, z.before _ s = true := fun z hz => hts0 z (List.mem_cons_of_mem _ hz)
  have hown : s.vm.findClass RX1 = some m.cls := findClass_of_methodNamed B9.named
  have G : kx_G p s m ([.ref b] : List Value).toArray c cX1_isRanked RX1 D tys (va_A w s.heap.size) := ⟨hx, hb, hts, hown, hK, hT, fun q h => Or.inr h⟩
  have L : kx_H D (va_A w s.heap.size) s w s.heap [] := ⟨hP, ⟨hD0.1, fun j z hz => Or.inl ⟨j, z.2, hz⟩⟩, va_S.rf⟩
  have hl := lv_entry ([.ref b] : List Value) (n := 1) (Nat.le_of_ble_eq_true rfl)
  rw [lg_entry_eq]
  generalize (lg_sl ([.ref b] : List Value) ++ List.replicate (1 - (lg_sl ([.ref b] : List Value)).length) Slot.unset).toArray = ls at hl ⊢
  have hl : lv_has ls 1 [(0, .ref b)] := hl
  refine lv_aload_n hx hb dk_X1_isRanked_0 rfl (lv_at hl 0 rfl) ?_
  refine kx_get (v := .int v3) G L (en_FTX1_ok (21, 7, 3) (by decide)) hf rfl dk_X1_isRanked_1 ?_
  have k2 : (0 : Int32).toInt = 0 := by decide
  refine lv_if_eq (tgt := 18) hx hb dk_X1_isRanked_4 (by decide) (fun c1 => ?_) (fun c1 => ?_)
  · skip
    have tc1 : (v3 : Int32).toInt = (0 : Int32).toInt := by rw [c1]
    refine lv_iconst (v := 0) hx hb dk_X1_isRanked_18 (by decide) ?_
    exact vx_ret (W.widen (Nat.le_of_ble_eq_true rfl) (Nat.le_of_ble_eq_true rfl) (W.zret (v := 0) (ty := .boolean) hx hb hr (by decide) (fun T9 hT9 _ => ⟨⟨0, w, rfl, ⟨rfl, Or.inl rfl⟩, by rw [hT9]; exact L.1, L.2.1⟩, L.2.2.F hT9⟩) L.2.2.2.2 dk_X1_isRanked_19 hlocks))
  · skip
    have tc1 : ¬ (v3 : Int32).toInt = (0 : Int32).toInt := fun h => c1 (Int32.toInt_inj.mp h)
    refine lv_aload_n hx hb dk_X1_isRanked_7 rfl (lv_at hl 0 rfl) ?_
    refine kx_get (v := .int v4) G L (en_FTX1_ok (25, 7, 4) (by decide)) hf rfl dk_X1_isRanked_8 ?_
    have k4 : (0 : Int32).toInt = 0 := by decide
    refine lv_if_ne (tgt := 18) hx hb dk_X1_isRanked_11 (by decide) (fun c3 => ?_) (fun c3 => ?_)
    · skip
      have tc3 : ¬ (v4 : Int32).toInt = (0 : Int32).toInt := fun h => c3 (Int32.toInt_inj.mp h)
      refine lv_iconst (v := 0) hx hb dk_X1_isRanked_18 (by decide) ?_
      exact vx_ret (W.widen (Nat.le_of_ble_eq_true rfl) (Nat.le_of_ble_eq_true rfl) (W.zret (v := 0) (ty := .boolean) hx hb hr (by decide) (fun T9 hT9 _ => ⟨⟨0, w, rfl, ⟨rfl, Or.inl rfl⟩, by rw [hT9]; exact L.1, L.2.1⟩, L.2.2.F hT9⟩) L.2.2.2.2 dk_X1_isRanked_19 hlocks))
    · skip
      have tc3 : (v4 : Int32).toInt = (0 : Int32).toInt := by rw [c3]
      refine lv_iconst (v := 1) hx hb dk_X1_isRanked_14 (by decide) ?_
      refine lv_goto (tgt := 19) hx hb dk_X1_isRanked_15 (by decide) ?_
      exact vx_ret (W.widen (Nat.le_of_ble_eq_true rfl) (Nat.le_of_ble_eq_true rfl) (W.zret (v := 1) (ty := .boolean) hx hb hr (by decide) (fun T9 hT9 _ => ⟨⟨1, w, rfl, ⟨rfl, Or.inr rfl⟩, by rw [hT9]; exact L.1, L.2.1⟩, L.2.2.F hT9⟩) L.2.2.2.2 dk_X1_isRanked_19 hlocks))
set_option maxHeartbeats 4000000 in
theorem kx_X6_strokesGiven {l : Launch} (hl9 : l.stackTraces = false) (D : va_G) {tys : List (ClassId × FieldType)} {sh : en_H} {w : va_W} {sz : Nat} (hD0 : va_D (va_A w sz) w) {dt : ks_D} {a1 : Int32} {h : Nat} (hX : ks_X tys sh w dt) (hh9 : h < 9) : kx_C l yX6_strokesGiven cX6_strokesGiven 5 (some .int) 0 0 0 0 [.ref (sh.2 66), .int a1, .int (nI h)] D tys w sz (fun res w1 => w1 = w ∧ res = some (.int (ks_sg dt.ix dt.hc a1 h))) (fun _ => False) := by
  refine vx_ofW (cc := cX6_strokesGiven) (maxL := 5) (ret := (some .int)) (by decide +kernel) rfl ?_
  intro p e s m args below meth c s₁ B9 hml hne hv
  obtain ⟨rfl, hsz, hP, hK, hT⟩ := hv
  subst hsz
  have hx := B9.exec
  have hb := B9.bytes
  have hr := B9.returns
  have hlocks := B9.notSynchronized
  have hts0 := atoms_spec (ws := Cond.code yX6_strokesGiven cX6_strokesGiven 5 (some .int) :: en_cw) B9.pre
  have hts : ∀ z ∈ en_cw, z.before _ s = true := fun z hz => hts0 z (List.mem_cons_of_mem _ hz)
  have hown : s.vm.findClass RX6 = some m.cls := findClass_of_methodNamed B9.named
  have G : kx_G p s m ([.ref (sh.2 66), .int a1, .int (nI h)] : List Value).toArray c cX6_strokesGiven RX6 D tys (va_A w s.heap.size) := ⟨hx, hb, hts, hown, hK, hT, fun q h => Or.inr h⟩
  have L : kx_H D (va_A w s.heap.size) s w s.heap [] := ⟨hP, ⟨hD0.1, fun j z hz => Or.inl ⟨j, z.2, hz⟩⟩, va_S.rf⟩
  have hl := lv_entry ([.ref (sh.2 66), .int a1, .int (nI h)] : List Value) (n := 5) (Nat.le_of_ble_eq_true rfl)
  rw [lg_entry_eq]
  generalize (lg_sl ([.ref (sh.2 66), .int a1, .int (nI h)] : List Value) ++ List.replicate (5 - (lg_sl ([.ref (sh.2 66), .int a1, .int (nI h)] : List Value)).length) Slot.unset).toArray = ls at hl ⊢
  have hl : lv_has ls 5 [(0, .ref (sh.2 66)), (1, .int a1), (2, .int (nI h))] := hl
  have hc9 := hX.hc9
  have pc6 := hX.pc6
  have hn9 := hX.hn9
  obtain ⟨cH, fH, ht3, hw67, hf67⟩ := hX.ha
  obtain ⟨cP, fP, ht4, hw86, hf86⟩ := hX.pa
  refine lv_aload_n hx hb dk_X6_strokesGiven_0 rfl (lv_at hl 0 rfl) ?_
  refine kx_get (v := .int (nI dt.hc)) G L (en_FTX6_ok (62, 12, 4) (by decide)) hX.o hX.f4 dk_X6_strokesGiven_1 ?_
  refine lv_iconst (v := 1) hx hb dk_X6_strokesGiven_4 (by decide) ?_
  have k2 : (nI dt.hc).toInt = (((dt.hc) : Nat) : Int) := kx_nI (by omega)
  have k3 : (1 : Int32).toInt = 1 := by decide
  refine lv_icmp_ge (tgt := 10) hx hb dk_X6_strokesGiven_5 (by decide) (fun c1 => ?_) (fun c1 => ?_)
  · skip
    have tc1 : (1 : Int32).toInt ≤ ((nI dt.hc) : Int32).toInt := Int32.le_iff_toInt_le.mp c1
    refine lv_iconst (v := 0) hx hb dk_X6_strokesGiven_10 (by decide) ?_
    refine lv_istore_n (lv' := [(3, .int 0), (0, .ref (sh.2 66)), (1, .int a1), (2, .int (nI h))]) hx hb dk_X6_strokesGiven_11 rfl hl (by decide) rfl (fun ls hl => ?_)
    refine lv_iconst (v := 0) hx hb dk_X6_strokesGiven_12 (by decide) ?_
    refine lv_istore (lv' := [(4, .int 0), (3, .int 0), (0, .ref (sh.2 66)), (1, .int a1), (2, .int (nI h))]) hx hb dk_X6_strokesGiven_13 hl (by decide) rfl (fun ls hl => ?_)
    have hne0 : ¬ nI dt.hc = 0 := fun e => by have e := congrArg Int32.toInt e; rw [kx_nI (by omega), show (0 : Int32).toInt = 0 from rfl] at e; omega
    have loop : ∀ (d : Nat) (k : Nat), k + d = dt.hc → ∀ (a : Nat), a = ks_lw dt.ix h k → ∀ (H : Heap) (locs : List Loc), kx_H D (va_A w s.heap.size) s w H locs → ∀ (ls : Array Slot), lv_has ls 5 [(4, .int (nI k)), (3, .int (nI a)), (2, .int (nI h)), (1, .int a1), (0, .ref (sh.2 66))] → W p l e (headSpec (Cond.code yX6_strokesGiven cX6_strokesGiven 5 (some .int) :: en_cw) (en_rm 0 (0, 0))).room s m ([.ref (sh.2 66), .int a1, .int (nI h)] : List Value).toArray below meth c H locs (0) (0) (vx_MQ below (kx_Q 0 D (fun res w1 => w1 = w ∧ res = some (.int (ks_sg dt.ix dt.hc a1 h))) (va_A w s.heap.size)) (kx_XC D w (fun _ => False) (va_A w s.heap.size)) ([.ref (sh.2 66), .int a1, .int (nI h)] : List Value).toArray s 0 0 (va_A w s.heap.size)) (F0 m 15 ls []) := by
      intro d
      induction d with
      | zero =>
        intro k hk a ha H locs L ls hl
        refine lv_iload hx hb dk_X6_strokesGiven_15 (lv_at hl 0 rfl) ?_
        refine lv_aload_n hx hb dk_X6_strokesGiven_17 rfl (lv_at hl 4 rfl) ?_
        refine kx_get (v := .int (nI dt.hc)) G L (en_FTX6_ok (62, 12, 4) (by decide)) hX.o hX.f4 dk_X6_strokesGiven_18 ?_
        refine lv_icmp_ge (tgt := 55) hx hb dk_X6_strokesGiven_21 (by decide) (fun _ => ?_) (fun c9 => absurd (nI_le (a := dt.hc) (b := k) (by omega) (by omega)) c9)
        have e9 : k = dt.hc := by omega
        have alw := ks_lw_le (ix := dt.ix) (h := h) k
        rw [← ha] at alw
        rw [e9] at ha
        refine lv_iload_n hx hb dk_X6_strokesGiven_55 rfl (lv_at hl 3 rfl) ?_
        refine lv_aload_n hx hb dk_X6_strokesGiven_56 rfl (lv_at hl 4 rfl) ?_
        refine kx_get (v := .int (nI dt.hc)) G L (en_FTX6_ok (62, 12, 4) (by decide)) hX.o hX.f4 dk_X6_strokesGiven_57 ?_
        refine lv_idiv hx hb dk_X6_strokesGiven_60 hne0 ?_
        refine lv_iload_n hx hb dk_X6_strokesGiven_61 rfl (lv_at hl 1 rfl) ?_
        refine lv_iload_n hx hb dk_X6_strokesGiven_62 rfl (lv_at hl 3 rfl) ?_
        refine lv_aload_n hx hb dk_X6_strokesGiven_63 rfl (lv_at hl 4 rfl) ?_
        refine kx_get (v := .int (nI dt.hc)) G L (en_FTX6_ok (62, 12, 4) (by decide)) hX.o hX.f4 dk_X6_strokesGiven_64 ?_
        refine lv_irem hx hb dk_X6_strokesGiven_67 hne0 ?_
        have k5 : (nI a).toInt = (((a) : Nat) : Int) := kx_nI (by omega)
        refine lv_icmp_ge (tgt := 75) hx hb dk_X6_strokesGiven_68 (by decide) (fun c4 => ?_) (fun c4 => ?_)
        · skip
          have tc4 : ((a1 - a1 / (nI dt.hc) * (nI dt.hc)) : Int32).toInt ≤ ((nI a) : Int32).toInt := Int32.le_iff_toInt_le.mp c4
          refine lv_iconst (v := 0) hx hb dk_X6_strokesGiven_75 (by decide) ?_
          refine lv_iadd hx hb dk_X6_strokesGiven_76 ?_
          exact vx_ret (W.widen (Nat.le_of_ble_eq_true rfl) (Nat.le_of_ble_eq_true rfl) (W.iret (v := ((a1 / (nI dt.hc)) + 0)) hx hb hr (fun T9 hT9 _ => ⟨⟨((a1 / (nI dt.hc)) + 0), w, rfl, ⟨rfl, by rw [ks_sg_2 (ix := dt.ix) (hc := dt.hc) (h := h) (p := a1) (by omega) (by rw [← ha]; omega)]⟩, by rw [hT9]; exact L.1, L.2.1⟩, L.2.2.F hT9⟩) L.2.2.2.2 dk_X6_strokesGiven_77 hlocks))
        · skip
          have tc4 : ¬ ((a1 - a1 / (nI dt.hc) * (nI dt.hc)) : Int32).toInt ≤ ((nI a) : Int32).toInt := fun h => c4 (Int32.le_iff_toInt_le.mpr h)
          refine lv_iconst (v := 1) hx hb dk_X6_strokesGiven_71 (by decide) ?_
          refine lv_goto (tgt := 76) hx hb dk_X6_strokesGiven_72 (by decide) ?_
          refine lv_iadd hx hb dk_X6_strokesGiven_76 ?_
          exact vx_ret (W.widen (Nat.le_of_ble_eq_true rfl) (Nat.le_of_ble_eq_true rfl) (W.iret (v := ((a1 / (nI dt.hc)) + 1)) hx hb hr (fun T9 hT9 _ => ⟨⟨((a1 / (nI dt.hc)) + 1), w, rfl, ⟨rfl, by rw [ks_sg_1 (ix := dt.ix) (hc := dt.hc) (h := h) (p := a1) (by omega) (by rw [← ha]; omega)]⟩, by rw [hT9]; exact L.1, L.2.1⟩, L.2.2.F hT9⟩) L.2.2.2.2 dk_X6_strokesGiven_77 hlocks))
      | succ d ih =>
        intro k hk a ha H locs L ls hl
        refine lv_iload hx hb dk_X6_strokesGiven_15 (lv_at hl 0 rfl) ?_
        refine lv_aload_n hx hb dk_X6_strokesGiven_17 rfl (lv_at hl 4 rfl) ?_
        refine kx_get (v := .int (nI dt.hc)) G L (en_FTX6_ok (62, 12, 4) (by decide)) hX.o hX.f4 dk_X6_strokesGiven_18 ?_
        refine lv_icmp_ge (tgt := 55) hx hb dk_X6_strokesGiven_21 (by decide) (fun c9 => absurd c9 (nI_ge (a := k) (b := dt.hc) (by omega) (by omega))) (fun _ => ?_)
        have alw := ks_lw_le (ix := dt.ix) (h := h) k
        refine lv_aload_n hx hb dk_X6_strokesGiven_24 rfl (lv_at hl 4 rfl) ?_
        refine kx_get (v := .ref (sh.2 67)) G L (en_FTX6_ok (11, 12, 0) (by decide)) hX.o hX.f0 dk_X6_strokesGiven_25 ?_
        refine lv_iload hx hb dk_X6_strokesGiven_28 (lv_at hl 0 rfl) ?_
        have hk9 : k < 9 := by omega
        obtain ⟨tq1, aq1, hq1⟩ := hX.hr k hk9
        refine kx_aald G L hw67 ht3 (show k < 9 from hk9) (by decide) (hf67 k hk9) dk_X6_strokesGiven_30 ?_
        refine kx_get (v := .int (dt.ix k)) G L (en_FTX6_ok (82, 9, 2) (by decide)) hq1 rfl dk_X6_strokesGiven_31 ?_
        refine lv_aload_n hx hb dk_X6_strokesGiven_34 rfl (lv_at hl 4 rfl) ?_
        refine kx_get (v := .ref (sh.2 67)) G L (en_FTX6_ok (11, 12, 0) (by decide)) hX.o hX.f0 dk_X6_strokesGiven_35 ?_
        refine lv_iload_n hx hb dk_X6_strokesGiven_38 rfl (lv_at hl 2 rfl) ?_
        obtain ⟨tq2, aq2, hq2⟩ := hX.hr h hh9
        refine kx_aald G L hw67 ht3 (show h < 9 from hh9) (by decide) (hf67 h hh9) dk_X6_strokesGiven_39 ?_
        refine kx_get (v := .int (dt.ix h)) G L (en_FTX6_ok (82, 9, 2) (by decide)) hq2 rfl dk_X6_strokesGiven_40 ?_
        refine lv_icmp_ge (tgt := 49) hx hb dk_X6_strokesGiven_43 (by decide) (fun c6 => ?_) (fun c6 => ?_)
        · skip
          have tc6 : ((dt.ix h) : Int32).toInt ≤ ((dt.ix k) : Int32).toInt := Int32.le_iff_toInt_le.mp c6
          refine lv_iinc (v := (nI (k + 1))) (lv' := [(4, .int (nI (k + 1))), (3, .int (nI a)), (2, .int (nI h)), (1, .int a1), (0, .ref (sh.2 66))]) hx hb dk_X6_strokesGiven_49 hl (k := 0) rfl (kx_inc (by omega)) (by decide) rfl (fun ls hl => ?_)
          refine lv_goto (tgt := 15) hx hb dk_X6_strokesGiven_52 (by decide) ?_
          exact ih (k + 1) (by omega) a (by rw [ks_lw_2 (ix := dt.ix) (h := h) (k := k) (by omega), ha]) H locs L ls (lv_sub hl [0, 1, 2, 3, 4] rfl)
        · skip
          have tc6 : ¬ ((dt.ix h) : Int32).toInt ≤ ((dt.ix k) : Int32).toInt := fun h => c6 (Int32.le_iff_toInt_le.mpr h)
          refine lv_iinc (v := (nI (a + 1))) (lv' := [(3, .int (nI (a + 1))), (4, .int (nI k)), (2, .int (nI h)), (1, .int a1), (0, .ref (sh.2 66))]) hx hb dk_X6_strokesGiven_46 hl (k := 1) rfl (kx_inc (by omega)) (by decide) rfl (fun ls hl => ?_)
          refine lv_iinc (v := (nI (k + 1))) (lv' := [(4, .int (nI (k + 1))), (3, .int (nI (a + 1))), (2, .int (nI h)), (1, .int a1), (0, .ref (sh.2 66))]) hx hb dk_X6_strokesGiven_49 hl (k := 1) rfl (kx_inc (by omega)) (by decide) rfl (fun ls hl => ?_)
          refine lv_goto (tgt := 15) hx hb dk_X6_strokesGiven_52 (by decide) ?_
          exact ih (k + 1) (by omega) (a + 1) (by rw [ks_lw_1 (ix := dt.ix) (h := h) (k := k) (by omega), ha]) H locs L ls (lv_sub hl [0, 1, 2, 3, 4] rfl)
    exact loop dt.hc 0 (by omega) 0 (by rw [ks_lw_0]) _ _ L ls (lv_sub hl [0, 1, 4, 3, 2] rfl)
  · skip
    have tc1 : ¬ (1 : Int32).toInt ≤ ((nI dt.hc) : Int32).toInt := fun h => c1 (Int32.le_iff_toInt_le.mpr h)
    refine lv_iconst (v := 0) hx hb dk_X6_strokesGiven_8 (by decide) ?_
    exact vx_ret (W.widen (Nat.le_of_ble_eq_true rfl) (Nat.le_of_ble_eq_true rfl) (W.iret (v := 0) hx hb hr (fun T9 hT9 _ => ⟨⟨0, w, rfl, ⟨rfl, by rw [ks_sg_0 (ix := dt.ix) (hc := dt.hc) (h := h) (p := a1) (by omega)]⟩, by rw [hT9]; exact L.1, L.2.1⟩, L.2.2.F hT9⟩) L.2.2.2.2 dk_X6_strokesGiven_9 hlocks))
set_option maxHeartbeats 4000000 in
theorem kx_X6_netScore {l : Launch} (hl9 : l.stackTraces = false) (D : va_G) {tys : List (ClassId × FieldType)} {sh : en_H} {w : va_W} {sz : Nat} (hD0 : va_D (va_A w sz) w) {dt : ks_D} {pj h : Nat} (hX : ks_X tys sh w dt) (hp6 : pj < 6) (hh9 : h < 9) : kx_C l yX6_netScore cX6_netScore 3 (some .int) 1 0 0 0 [.ref (sh.2 66), .int (nI pj), .int (nI h)] D tys w sz (fun res w1 => w1 = w ∧ res = some (.int (ks_net dt h pj))) (fun _ => False) := by
  refine vx_ofW (cc := cX6_netScore) (maxL := 3) (ret := (some .int)) (by decide +kernel) rfl ?_
  intro p e s m args below meth c s₁ B9 hml hne hv
  obtain ⟨rfl, hsz, hP, hK, hT⟩ := hv
  subst hsz
  have hx := B9.exec
  have hb := B9.bytes
  have hr := B9.returns
  have hlocks := B9.notSynchronized
  have hts0 := atoms_spec (ws := Cond.code yX6_netScore cX6_netScore 3 (some .int) :: en_cw) B9.pre
  have hts : ∀ z ∈ en_cw, z.before _ s = true := fun z hz => hts0 z (List.mem_cons_of_mem _ hz)
  have hown : s.vm.findClass RX6 = some m.cls := findClass_of_methodNamed B9.named
  have G : kx_G p s m ([.ref (sh.2 66), .int (nI pj), .int (nI h)] : List Value).toArray c cX6_netScore RX6 D tys (va_A w s.heap.size) := ⟨hx, hb, hts, hown, hK, hT, fun q h => Or.inr h⟩
  have L : kx_H D (va_A w s.heap.size) s w s.heap [] := ⟨hP, ⟨hD0.1, fun j z hz => Or.inl ⟨j, z.2, hz⟩⟩, va_S.rf⟩
  have hl := lv_entry ([.ref (sh.2 66), .int (nI pj), .int (nI h)] : List Value) (n := 3) (Nat.le_of_ble_eq_true rfl)
  rw [lg_entry_eq]
  generalize (lg_sl ([.ref (sh.2 66), .int (nI pj), .int (nI h)] : List Value) ++ List.replicate (3 - (lg_sl ([.ref (sh.2 66), .int (nI pj), .int (nI h)] : List Value)).length) Slot.unset).toArray = ls at hl ⊢
  have hl : lv_has ls 3 [(0, .ref (sh.2 66)), (1, .int (nI pj)), (2, .int (nI h))] := hl
  have hc9 := hX.hc9
  have pc6 := hX.pc6
  have hn9 := hX.hn9
  obtain ⟨cH, fH, ht3, hw67, hf67⟩ := hX.ha
  obtain ⟨cP, fP, ht4, hw86, hf86⟩ := hX.pa
  obtain ⟨r0, r1, b3, b4, b5, hcr⟩ := hX.cr pj hp6
  obtain ⟨cI, hti, hwa⟩ := hX.wa pj hp6
  refine lv_aload_n hx hb dk_X6_netScore_0 rfl (lv_at hl 0 rfl) ?_
  refine kx_get (v := .ref (sh.2 86)) G L (en_FTX6_ok (18, 12, 1) (by decide)) hX.o hX.f1 dk_X6_netScore_1 ?_
  refine lv_iload_n hx hb dk_X6_netScore_4 rfl (lv_at hl 1 rfl) ?_
  refine kx_aald G L hw86 ht4 (show pj < 6 from hp6) (by decide) (hf86 pj hp6) dk_X6_netScore_5 ?_
  refine kx_get (v := .ref (sh.2 (89 + 8 * pj))) G L (en_FTX6_ok (155, 11, 1) (by decide)) (hX.pr pj hp6) rfl dk_X6_netScore_6 ?_
  refine lv_iload_n hx hb dk_X6_netScore_9 rfl (lv_at hl 2 rfl) ?_
  refine kx_cV (As := [.int (nI h)]) (rest := []) (q := (89 + 8 * pj)) (ci := 7) G L (kx_X1_writtenOn hl9 D (kx_D1 L) hti hcr hwa (k := h) hh9) gc_RX6_469v hcr rfl rfl rfl (hml.trans hl.1.symm) ⟨Nat.le_of_ble_eq_true rfl, Nat.le_of_ble_eq_true rfl⟩ ⟨Nat.le_of_ble_eq_true rfl, Nat.le_of_ble_eq_true rfl⟩ (Nat.le_of_ble_eq_true rfl) dk_X6_netScore_10 (fun _ _ _ _ _ h9 => h9.elim) (fun res w1 H locs hrv hq1 L => ?_)
  obtain ⟨ew1, hq1⟩ := hq1
  have ew1 := ew1.symm
  subst ew1
  obtain rfl := hq1
  refine lv_aload_n hx hb dk_X6_netScore_13 rfl (lv_at hl 0 rfl) ?_
  refine lv_aload_n hx hb dk_X6_netScore_14 rfl (lv_at hl 0 rfl) ?_
  refine kx_get (v := .ref (sh.2 86)) G L (en_FTX6_ok (18, 12, 1) (by decide)) hX.o hX.f1 dk_X6_netScore_15 ?_
  refine lv_iload_n hx hb dk_X6_netScore_18 rfl (lv_at hl 1 rfl) ?_
  refine kx_aald G L hw86 ht4 (show pj < 6 from hp6) (by decide) (hf86 pj hp6) dk_X6_netScore_19 ?_
  refine kx_get (v := .int (dt.hp pj)) G L (en_FTX6_ok (137, 11, 3) (by decide)) (hX.pr pj hp6) rfl dk_X6_netScore_20 ?_
  refine lv_iload_n hx hb dk_X6_netScore_23 rfl (lv_at hl 2 rfl) ?_
  refine kx_cV (As := [.int (dt.hp pj), .int (nI h)]) (rest := [.int (dt.wr pj h)]) (q := 66) (ci := 12) G L (kx_X6_strokesGiven hl9 D (kx_D1 L) hX (a1 := dt.hp pj) (h := h) hh9) gc_RX6_140v hX.o rfl rfl rfl (hml.trans hl.1.symm) ⟨Nat.le_of_ble_eq_true rfl, Nat.le_of_ble_eq_true rfl⟩ ⟨Nat.le_of_ble_eq_true rfl, Nat.le_of_ble_eq_true rfl⟩ (Nat.le_of_ble_eq_true rfl) dk_X6_netScore_24 (fun _ _ _ _ _ h9 => h9.elim) (fun res w2 H locs hrv hq2 L => ?_)
  obtain ⟨ew2, hq2⟩ := hq2
  have ew2 := ew2.symm
  subst ew2
  obtain rfl := hq2
  refine lv_isub hx hb dk_X6_netScore_27 ?_
  exact vx_ret (W.widen (Nat.le_of_ble_eq_true rfl) (Nat.le_of_ble_eq_true rfl) (W.iret (v := ((dt.wr pj h) - (ks_sg dt.ix dt.hc (dt.hp pj) h))) hx hb hr (fun T9 hT9 _ => ⟨⟨((dt.wr pj h) - (ks_sg dt.ix dt.hc (dt.hp pj) h)), w, rfl, ⟨rfl, rfl⟩, by rw [hT9]; exact L.1, L.2.1⟩, L.2.2.F hT9⟩) L.2.2.2.2 dk_X6_netScore_28 hlocks))
set_option maxHeartbeats 4000000 in
theorem kx_X6_skinWinner {l : Launch} (hl9 : l.stackTraces = false) (D : va_G) {tys : List (ClassId × FieldType)} {sh : en_H} {w : va_W} {sz : Nat} (hD0 : va_D (va_A w sz) w) {dt : ks_D} {h : Nat} (hX : ks_X tys sh w dt) (hh9 : h < 9) : kx_C l yX6_skinWinner cX6_skinWinner 7 (some .int) 2 0 0 0 [.ref (sh.2 66), .int (nI h)] D tys w sz (fun res w1 => w1 = w ∧ res = some (.int (ks_win dt h))) (fun _ => False) := by
  refine vx_ofW (cc := cX6_skinWinner) (maxL := 7) (ret := (some .int)) (by decide +kernel) rfl ?_
  intro p e s m args below meth c s₁ B9 hml hne hv
  obtain ⟨rfl, hsz, hP, hK, hT⟩ := hv
  subst hsz
  have hx := B9.exec
  have hb := B9.bytes
  have hr := B9.returns
  have hlocks := B9.notSynchronized
  have hts0 := atoms_spec (ws := Cond.code yX6_skinWinner cX6_skinWinner 7 (some .int) :: en_cw) B9.pre
  have hts : ∀ z ∈ en_cw, z.before _ s = true := fun z hz => hts0 z (List.mem_cons_of_mem _ hz)
  have hown : s.vm.findClass RX6 = some m.cls := findClass_of_methodNamed B9.named
  have G : kx_G p s m ([.ref (sh.2 66), .int (nI h)] : List Value).toArray c cX6_skinWinner RX6 D tys (va_A w s.heap.size) := ⟨hx, hb, hts, hown, hK, hT, fun q h => Or.inr h⟩
  have L : kx_H D (va_A w s.heap.size) s w s.heap [] := ⟨hP, ⟨hD0.1, fun j z hz => Or.inl ⟨j, z.2, hz⟩⟩, va_S.rf⟩
  have hl := lv_entry ([.ref (sh.2 66), .int (nI h)] : List Value) (n := 7) (Nat.le_of_ble_eq_true rfl)
  rw [lg_entry_eq]
  generalize (lg_sl ([.ref (sh.2 66), .int (nI h)] : List Value) ++ List.replicate (7 - (lg_sl ([.ref (sh.2 66), .int (nI h)] : List Value)).length) Slot.unset).toArray = ls at hl ⊢
  have hl : lv_has ls 7 [(0, .ref (sh.2 66)), (1, .int (nI h))] := hl
  have hc9 := hX.hc9
  have pc6 := hX.pc6
  have hn9 := hX.hn9
  obtain ⟨cH, fH, ht3, hw67, hf67⟩ := hX.ha
  obtain ⟨cP, fP, ht4, hw86, hf86⟩ := hX.pa
  refine lv_iconst (v := (-1)) hx hb dk_X6_skinWinner_0 (by decide) ?_
  refine lv_istore_n (lv' := [(2, .int (-1)), (0, .ref (sh.2 66)), (1, .int (nI h))]) hx hb dk_X6_skinWinner_1 rfl hl (by decide) rfl (fun ls hl => ?_)
  refine lv_iconst (v := 0) hx hb dk_X6_skinWinner_2 (by decide) ?_
  refine lv_istore_n (lv' := [(3, .int 0), (2, .int (-1)), (0, .ref (sh.2 66)), (1, .int (nI h))]) hx hb dk_X6_skinWinner_3 rfl hl (by decide) rfl (fun ls hl => ?_)
  refine lv_iconst (v := 0) hx hb dk_X6_skinWinner_4 (by decide) ?_
  refine lv_istore (lv' := [(4, .int 0), (3, .int 0), (2, .int (-1)), (0, .ref (sh.2 66)), (1, .int (nI h))]) hx hb dk_X6_skinWinner_5 hl (by decide) rfl (fun ls hl => ?_)
  refine lv_iconst (v := 0) hx hb dk_X6_skinWinner_7 (by decide) ?_
  refine lv_istore (lv' := [(5, .int 0), (4, .int 0), (3, .int 0), (2, .int (-1)), (0, .ref (sh.2 66)), (1, .int (nI h))]) hx hb dk_X6_skinWinner_8 hl (by decide) rfl (fun ls hl => ?_)
  have loop : ∀ (d : Nat) (k : Nat), k + d = dt.pc → ∀ (a b u : Int32), ks_sw (fun i => dt.wr i h) (ks_net dt h) k = (a, b, u) → ∀ (H : Heap) (locs : List Loc), kx_H D (va_A w s.heap.size) s w H locs → ∀ (ls : Array Slot), lv_has ls 7 [(5, .int (nI k)), (4, .int u), (3, .int b), (2, .int a), (1, .int (nI h)), (0, .ref (sh.2 66))] → W p l e (headSpec (Cond.code yX6_skinWinner cX6_skinWinner 7 (some .int) :: en_cw) (en_rm 2 (0, 0))).room s m ([.ref (sh.2 66), .int (nI h)] : List Value).toArray below meth c H locs (0) (0) (vx_MQ below (kx_Q 0 D (fun res w1 => w1 = w ∧ res = some (.int (ks_win dt h))) (va_A w s.heap.size)) (kx_XC D w (fun _ => False) (va_A w s.heap.size)) ([.ref (sh.2 66), .int (nI h)] : List Value).toArray s 0 0 (va_A w s.heap.size)) (F0 m 10 ls []) := by
    intro d
    induction d with
    | zero =>
      intro k hk a b u hs H locs L ls hl
      refine lv_iload hx hb dk_X6_skinWinner_10 (lv_at hl 0 rfl) ?_
      refine lv_aload_n hx hb dk_X6_skinWinner_12 rfl (lv_at hl 5 rfl) ?_
      refine kx_get (v := .int (nI dt.pc)) G L (en_FTX6_ok (122, 12, 5) (by decide)) hX.o hX.f5 dk_X6_skinWinner_13 ?_
      refine lv_icmp_ge (tgt := 82) hx hb dk_X6_skinWinner_16 (by decide) (fun _ => ?_) (fun c9 => absurd (nI_le (a := dt.pc) (b := k) (by omega) (by omega)) c9)
      have e9 : k = dt.pc := by omega
      rw [e9] at hs
      refine lv_iload_n hx hb dk_X6_skinWinner_82 rfl (lv_at hl 3 rfl) ?_
      exact vx_ret (W.widen (Nat.le_of_ble_eq_true rfl) (Nat.le_of_ble_eq_true rfl) (W.iret (v := a) hx hb hr (fun T9 hT9 _ => ⟨⟨a, w, rfl, ⟨rfl, congrArg (fun z => some (Value.int z)) (show a = ks_win dt h from (congrArg Prod.fst hs).symm)⟩, by rw [hT9]; exact L.1, L.2.1⟩, L.2.2.F hT9⟩) L.2.2.2.2 dk_X6_skinWinner_83 hlocks))
    | succ d ih =>
      intro k hk a b u hs H locs L ls hl
      refine lv_iload hx hb dk_X6_skinWinner_10 (lv_at hl 0 rfl) ?_
      refine lv_aload_n hx hb dk_X6_skinWinner_12 rfl (lv_at hl 5 rfl) ?_
      refine kx_get (v := .int (nI dt.pc)) G L (en_FTX6_ok (122, 12, 5) (by decide)) hX.o hX.f5 dk_X6_skinWinner_13 ?_
      refine lv_icmp_ge (tgt := 82) hx hb dk_X6_skinWinner_16 (by decide) (fun c9 => absurd c9 (nI_ge (a := k) (b := dt.pc) (by omega) (by omega))) (fun _ => ?_)
      have hk6 : k < 6 := by omega
      obtain ⟨r0, r1, b3, b4, b5, hcr⟩ := hX.cr k hk6
      obtain ⟨cI, hti, hwa⟩ := hX.wa k hk6
      refine lv_aload_n hx hb dk_X6_skinWinner_19 rfl (lv_at hl 5 rfl) ?_
      refine kx_get (v := .ref (sh.2 86)) G L (en_FTX6_ok (18, 12, 1) (by decide)) hX.o hX.f1 dk_X6_skinWinner_20 ?_
      refine lv_iload hx hb dk_X6_skinWinner_23 (lv_at hl 0 rfl) ?_
      refine kx_aald G L hw86 ht4 (show k < 6 from hk6) (by decide) (hf86 k hk6) dk_X6_skinWinner_25 ?_
      refine kx_get (v := .ref (sh.2 (89 + 8 * k))) G L (en_FTX6_ok (155, 11, 1) (by decide)) (hX.pr k hk6) rfl dk_X6_skinWinner_26 ?_
      refine lv_iload_n hx hb dk_X6_skinWinner_29 rfl (lv_at hl 4 rfl) ?_
      refine kx_cV (As := [.int (nI h)]) (rest := []) (q := (89 + 8 * k)) (ci := 7) G L (kx_X1_writtenOn hl9 D (kx_D1 L) hti hcr hwa (k := h) hh9) gc_RX6_469v hcr rfl rfl rfl (hml.trans hl.1.symm) ⟨Nat.le_of_ble_eq_true rfl, Nat.le_of_ble_eq_true rfl⟩ ⟨Nat.le_of_ble_eq_true rfl, Nat.le_of_ble_eq_true rfl⟩ (Nat.le_of_ble_eq_true rfl) dk_X6_skinWinner_30 (fun _ _ _ _ _ h9 => h9.elim) (fun res w1 H locs hrv hq1 L => ?_)
      obtain ⟨ew1, hq1⟩ := hq1
      have ew1 := ew1.symm
      subst ew1
      obtain rfl := hq1
      have k3 : (0 : Int32).toInt = 0 := by decide
      refine lv_if_eq (tgt := 76) hx hb dk_X6_skinWinner_33 (by decide) (fun c2 => ?_) (fun c2 => ?_)
      · skip
        have tc2 : ((dt.wr k h) : Int32).toInt = (0 : Int32).toInt := by rw [c2]
        refine lv_iinc (v := (nI (k + 1))) (lv' := [(5, .int (nI (k + 1))), (4, .int u), (3, .int b), (2, .int a), (1, .int (nI h)), (0, .ref (sh.2 66))]) hx hb dk_X6_skinWinner_76 hl (k := 0) rfl (kx_inc (by omega)) (by decide) rfl (fun ls hl => ?_)
        refine lv_goto (tgt := 10) hx hb dk_X6_skinWinner_79 (by decide) ?_
        exact ih (k + 1) (by omega) a b u (ks_sw_0 hs c2) H locs L ls (lv_sub hl [0, 1, 2, 3, 4, 5] rfl)
      · skip
        have tc2 : ¬ ((dt.wr k h) : Int32).toInt = (0 : Int32).toInt := fun h => c2 (Int32.toInt_inj.mp h)
        refine lv_aload_n hx hb dk_X6_skinWinner_36 rfl (lv_at hl 5 rfl) ?_
        refine lv_iload hx hb dk_X6_skinWinner_37 (lv_at hl 0 rfl) ?_
        refine lv_iload_n hx hb dk_X6_skinWinner_39 rfl (lv_at hl 4 rfl) ?_
        refine kx_cV (As := [.int (nI k), .int (nI h)]) (rest := []) (q := 66) (ci := 12) G L (kx_X6_netScore hl9 D (kx_D1 L) hX (pj := k) (h := h) hk6 hh9) gc_RX6_472v hX.o rfl rfl rfl (hml.trans hl.1.symm) ⟨Nat.le_of_ble_eq_true rfl, Nat.le_of_ble_eq_true rfl⟩ ⟨Nat.le_of_ble_eq_true rfl, Nat.le_of_ble_eq_true rfl⟩ (Nat.le_of_ble_eq_true rfl) dk_X6_skinWinner_40 (fun _ _ _ _ _ h9 => h9.elim) (fun res w4 H locs hrv hq4 L => ?_)
        obtain ⟨ew4, hq4⟩ := hq4
        have ew4 := ew4.symm
        subst ew4
        obtain rfl := hq4
        refine lv_istore (lv' := [(6, .int (ks_net dt h k)), (5, .int (nI k)), (4, .int u), (3, .int b), (2, .int a), (1, .int (nI h)), (0, .ref (sh.2 66))]) hx hb dk_X6_skinWinner_43 hl (by decide) rfl (fun ls hl => ?_)
        refine lv_iload hx hb dk_X6_skinWinner_45 (lv_at hl 2 rfl) ?_
        have k6 : (0 : Int32).toInt = 0 := by decide
        refine lv_if_eq (tgt := 56) hx hb dk_X6_skinWinner_47 (by decide) (fun c5 => ?_) (fun c5 => ?_)
        · skip
          have tc5 : (u : Int32).toInt = (0 : Int32).toInt := by rw [c5]
          refine lv_iload hx hb dk_X6_skinWinner_56 (lv_at hl 1 rfl) ?_
          refine lv_istore_n (lv' := [(2, .int (nI k)), (6, .int (ks_net dt h k)), (5, .int (nI k)), (4, .int u), (3, .int b), (1, .int (nI h)), (0, .ref (sh.2 66))]) hx hb dk_X6_skinWinner_58 rfl hl (by decide) rfl (fun ls hl => ?_)
          refine lv_iload hx hb dk_X6_skinWinner_59 (lv_at hl 1 rfl) ?_
          refine lv_istore_n (lv' := [(3, .int (ks_net dt h k)), (2, .int (nI k)), (6, .int (ks_net dt h k)), (5, .int (nI k)), (4, .int u), (1, .int (nI h)), (0, .ref (sh.2 66))]) hx hb dk_X6_skinWinner_61 rfl hl (by decide) rfl (fun ls hl => ?_)
          refine lv_goto (tgt := 73) hx hb dk_X6_skinWinner_62 (by decide) ?_
          refine lv_iconst (v := 1) hx hb dk_X6_skinWinner_73 (by decide) ?_
          refine lv_istore (lv' := [(4, .int 1), (3, .int (ks_net dt h k)), (2, .int (nI k)), (6, .int (ks_net dt h k)), (5, .int (nI k)), (1, .int (nI h)), (0, .ref (sh.2 66))]) hx hb dk_X6_skinWinner_74 hl (by decide) rfl (fun ls hl => ?_)
          refine lv_iinc (v := (nI (k + 1))) (lv' := [(5, .int (nI (k + 1))), (4, .int 1), (3, .int (ks_net dt h k)), (2, .int (nI k)), (6, .int (ks_net dt h k)), (1, .int (nI h)), (0, .ref (sh.2 66))]) hx hb dk_X6_skinWinner_76 hl (k := 4) rfl (kx_inc (by omega)) (by decide) rfl (fun ls hl => ?_)
          refine lv_goto (tgt := 10) hx hb dk_X6_skinWinner_79 (by decide) ?_
          exact ih (k + 1) (by omega) (nI k) (ks_net dt h k) 1 (ks_sw_1 hs c2 (Or.inl c5)) H locs L ls (lv_sub hl [0, 1, 2, 3, 5, 6] rfl)
        · skip
          have tc5 : ¬ (u : Int32).toInt = (0 : Int32).toInt := fun h => c5 (Int32.toInt_inj.mp h)
          refine lv_iload hx hb dk_X6_skinWinner_50 (lv_at hl 0 rfl) ?_
          refine lv_iload_n hx hb dk_X6_skinWinner_52 rfl (lv_at hl 3 rfl) ?_
          refine lv_icmp_ge (tgt := 65) hx hb dk_X6_skinWinner_53 (by decide) (fun c7 => ?_) (fun c7 => ?_)
          · skip
            have tc7 : (b : Int32).toInt ≤ ((ks_net dt h k) : Int32).toInt := Int32.le_iff_toInt_le.mp c7
            have hno : ¬ (u = 0 ∨ ks_net dt h k < b) := fun h9 => by
              rcases h9 with h9 | h9
              · exact c5 h9
              · have h8 := Int32.lt_iff_toInt_lt.mp h9
                omega
            refine lv_iload hx hb dk_X6_skinWinner_65 (lv_at hl 0 rfl) ?_
            refine lv_iload_n hx hb dk_X6_skinWinner_67 rfl (lv_at hl 3 rfl) ?_
            refine lv_icmp_ne (tgt := 73) hx hb dk_X6_skinWinner_68 (by decide) (fun c8 => ?_) (fun c8 => ?_)
            · skip
              have tc8 : ¬ ((ks_net dt h k) : Int32).toInt = (b : Int32).toInt := fun h => c8 (Int32.toInt_inj.mp h)
              refine lv_iconst (v := 1) hx hb dk_X6_skinWinner_73 (by decide) ?_
              refine lv_istore (lv' := [(4, .int 1), (6, .int (ks_net dt h k)), (5, .int (nI k)), (3, .int b), (2, .int a), (1, .int (nI h)), (0, .ref (sh.2 66))]) hx hb dk_X6_skinWinner_74 hl (by decide) rfl (fun ls hl => ?_)
              refine lv_iinc (v := (nI (k + 1))) (lv' := [(5, .int (nI (k + 1))), (4, .int 1), (6, .int (ks_net dt h k)), (3, .int b), (2, .int a), (1, .int (nI h)), (0, .ref (sh.2 66))]) hx hb dk_X6_skinWinner_76 hl (k := 2) rfl (kx_inc (by omega)) (by decide) rfl (fun ls hl => ?_)
              refine lv_goto (tgt := 10) hx hb dk_X6_skinWinner_79 (by decide) ?_
              exact ih (k + 1) (by omega) a b 1 (ks_sw_3 hs c2 hno c8) H locs L ls (lv_sub hl [0, 1, 3, 4, 5, 6] rfl)
            · skip
              have tc8 : ((ks_net dt h k) : Int32).toInt = (b : Int32).toInt := by rw [c8]
              refine lv_iconst (v := (-1)) hx hb dk_X6_skinWinner_71 (by decide) ?_
              refine lv_istore_n (lv' := [(2, .int (-1)), (6, .int (ks_net dt h k)), (5, .int (nI k)), (4, .int u), (3, .int b), (1, .int (nI h)), (0, .ref (sh.2 66))]) hx hb dk_X6_skinWinner_72 rfl hl (by decide) rfl (fun ls hl => ?_)
              refine lv_iconst (v := 1) hx hb dk_X6_skinWinner_73 (by decide) ?_
              refine lv_istore (lv' := [(4, .int 1), (2, .int (-1)), (6, .int (ks_net dt h k)), (5, .int (nI k)), (3, .int b), (1, .int (nI h)), (0, .ref (sh.2 66))]) hx hb dk_X6_skinWinner_74 hl (by decide) rfl (fun ls hl => ?_)
              refine lv_iinc (v := (nI (k + 1))) (lv' := [(5, .int (nI (k + 1))), (4, .int 1), (2, .int (-1)), (6, .int (ks_net dt h k)), (3, .int b), (1, .int (nI h)), (0, .ref (sh.2 66))]) hx hb dk_X6_skinWinner_76 hl (k := 3) rfl (kx_inc (by omega)) (by decide) rfl (fun ls hl => ?_)
              refine lv_goto (tgt := 10) hx hb dk_X6_skinWinner_79 (by decide) ?_
              exact ih (k + 1) (by omega) (-1) b 1 (ks_sw_2 hs c2 hno c8) H locs L ls (lv_sub hl [0, 1, 4, 2, 5, 6] rfl)
          · skip
            have tc7 : ¬ (b : Int32).toInt ≤ ((ks_net dt h k) : Int32).toInt := fun h => c7 (Int32.le_iff_toInt_le.mpr h)
            refine lv_iload hx hb dk_X6_skinWinner_56 (lv_at hl 1 rfl) ?_
            refine lv_istore_n (lv' := [(2, .int (nI k)), (6, .int (ks_net dt h k)), (5, .int (nI k)), (4, .int u), (3, .int b), (1, .int (nI h)), (0, .ref (sh.2 66))]) hx hb dk_X6_skinWinner_58 rfl hl (by decide) rfl (fun ls hl => ?_)
            refine lv_iload hx hb dk_X6_skinWinner_59 (lv_at hl 1 rfl) ?_
            refine lv_istore_n (lv' := [(3, .int (ks_net dt h k)), (2, .int (nI k)), (6, .int (ks_net dt h k)), (5, .int (nI k)), (4, .int u), (1, .int (nI h)), (0, .ref (sh.2 66))]) hx hb dk_X6_skinWinner_61 rfl hl (by decide) rfl (fun ls hl => ?_)
            refine lv_goto (tgt := 73) hx hb dk_X6_skinWinner_62 (by decide) ?_
            refine lv_iconst (v := 1) hx hb dk_X6_skinWinner_73 (by decide) ?_
            refine lv_istore (lv' := [(4, .int 1), (3, .int (ks_net dt h k)), (2, .int (nI k)), (6, .int (ks_net dt h k)), (5, .int (nI k)), (1, .int (nI h)), (0, .ref (sh.2 66))]) hx hb dk_X6_skinWinner_74 hl (by decide) rfl (fun ls hl => ?_)
            refine lv_iinc (v := (nI (k + 1))) (lv' := [(5, .int (nI (k + 1))), (4, .int 1), (3, .int (ks_net dt h k)), (2, .int (nI k)), (6, .int (ks_net dt h k)), (1, .int (nI h)), (0, .ref (sh.2 66))]) hx hb dk_X6_skinWinner_76 hl (k := 4) rfl (kx_inc (by omega)) (by decide) rfl (fun ls hl => ?_)
            refine lv_goto (tgt := 10) hx hb dk_X6_skinWinner_79 (by decide) ?_
            exact ih (k + 1) (by omega) (nI k) (ks_net dt h k) 1 (ks_sw_1 hs c2 (Or.inr (Int32.lt_iff_toInt_lt.mpr (by omega)))) H locs L ls (lv_sub hl [0, 1, 2, 3, 5, 6] rfl)
  exact loop dt.pc 0 (by omega) (-1) 0 0 ks_sw_z _ _ L ls (lv_sub hl [0, 1, 2, 3, 5, 4] rfl)
set_option maxHeartbeats 4000000 in
theorem kx_X6_skinsOf {l : Launch} (hl9 : l.stackTraces = false) (D : va_G) {tys : List (ClassId × FieldType)} {sh : en_H} {w : va_W} {sz : Nat} (hD0 : va_D (va_A w sz) w) {dt : ks_D} {a1 : Int32} (hX : ks_X tys sh w dt) : kx_C l yX6_skinsOf cX6_skinsOf 6 (some .int) 3 0 0 0 [.ref (sh.2 66), .int a1] D tys w sz (fun res w1 => w1 = w ∧ res = some (.int (nI (ks_sk (ks_win dt) a1 dt.hc).1))) (fun _ => False) := by
  refine vx_ofW (cc := cX6_skinsOf) (maxL := 6) (ret := (some .int)) (by decide +kernel) rfl ?_
  intro p e s m args below meth c s₁ B9 hml hne hv
  obtain ⟨rfl, hsz, hP, hK, hT⟩ := hv
  subst hsz
  have hx := B9.exec
  have hb := B9.bytes
  have hr := B9.returns
  have hlocks := B9.notSynchronized
  have hts0 := atoms_spec (ws := Cond.code yX6_skinsOf cX6_skinsOf 6 (some .int) :: en_cw) B9.pre
  have hts : ∀ z ∈ en_cw, z.before _ s = true := fun z hz => hts0 z (List.mem_cons_of_mem _ hz)
  have hown : s.vm.findClass RX6 = some m.cls := findClass_of_methodNamed B9.named
  have G : kx_G p s m ([.ref (sh.2 66), .int a1] : List Value).toArray c cX6_skinsOf RX6 D tys (va_A w s.heap.size) := ⟨hx, hb, hts, hown, hK, hT, fun q h => Or.inr h⟩
  have L : kx_H D (va_A w s.heap.size) s w s.heap [] := ⟨hP, ⟨hD0.1, fun j z hz => Or.inl ⟨j, z.2, hz⟩⟩, va_S.rf⟩
  have hl := lv_entry ([.ref (sh.2 66), .int a1] : List Value) (n := 6) (Nat.le_of_ble_eq_true rfl)
  rw [lg_entry_eq]
  generalize (lg_sl ([.ref (sh.2 66), .int a1] : List Value) ++ List.replicate (6 - (lg_sl ([.ref (sh.2 66), .int a1] : List Value)).length) Slot.unset).toArray = ls at hl ⊢
  have hl : lv_has ls 6 [(0, .ref (sh.2 66)), (1, .int a1)] := hl
  have hc9 := hX.hc9
  have pc6 := hX.pc6
  have hn9 := hX.hn9
  refine lv_iconst (v := 0) hx hb dk_X6_skinsOf_0 (by decide) ?_
  refine lv_istore_n (lv' := [(2, .int 0), (0, .ref (sh.2 66)), (1, .int a1)]) hx hb dk_X6_skinsOf_1 rfl hl (by decide) rfl (fun ls hl => ?_)
  refine lv_iconst (v := 0) hx hb dk_X6_skinsOf_2 (by decide) ?_
  refine lv_istore_n (lv' := [(3, .int 0), (2, .int 0), (0, .ref (sh.2 66)), (1, .int a1)]) hx hb dk_X6_skinsOf_3 rfl hl (by decide) rfl (fun ls hl => ?_)
  refine lv_iconst (v := 0) hx hb dk_X6_skinsOf_4 (by decide) ?_
  refine lv_istore (lv' := [(4, .int 0), (3, .int 0), (2, .int 0), (0, .ref (sh.2 66)), (1, .int a1)]) hx hb dk_X6_skinsOf_5 hl (by decide) rfl (fun ls hl => ?_)
  have loop : ∀ (d : Nat) (k : Nat), k + d = dt.hc → ∀ (a b : Nat), ks_sk (ks_win dt) a1 k = (a, b) → ∀ (H : Heap) (locs : List Loc), kx_H D (va_A w s.heap.size) s w H locs → ∀ (ls : Array Slot), lv_has ls 6 [(4, .int (nI k)), (3, .int (nI b)), (2, .int (nI a)), (1, .int a1), (0, .ref (sh.2 66))] → W p l e (headSpec (Cond.code yX6_skinsOf cX6_skinsOf 6 (some .int) :: en_cw) (en_rm 3 (0, 0))).room s m ([.ref (sh.2 66), .int a1] : List Value).toArray below meth c H locs (0) (0) (vx_MQ below (kx_Q 0 D (fun res w1 => w1 = w ∧ res = some (.int (nI (ks_sk (ks_win dt) a1 dt.hc).1))) (va_A w s.heap.size)) (kx_XC D w (fun _ => False) (va_A w s.heap.size)) ([.ref (sh.2 66), .int a1] : List Value).toArray s 0 0 (va_A w s.heap.size)) (F0 m 7 ls []) := by
    intro d
    induction d with
    | zero =>
      intro k hk a b hs H locs L ls hl
      refine lv_iload hx hb dk_X6_skinsOf_7 (lv_at hl 0 rfl) ?_
      refine lv_aload_n hx hb dk_X6_skinsOf_9 rfl (lv_at hl 4 rfl) ?_
      refine kx_get (v := .int (nI dt.hc)) G L (en_FTX6_ok (62, 12, 4) (by decide)) hX.o hX.f4 dk_X6_skinsOf_10 ?_
      refine lv_icmp_ge (tgt := 55) hx hb dk_X6_skinsOf_13 (by decide) (fun _ => ?_) (fun c9 => absurd (nI_le (a := dt.hc) (b := k) (by omega) (by omega)) c9)
      have e9 : k = dt.hc := by omega
      rw [e9] at hs
      refine lv_iload_n hx hb dk_X6_skinsOf_55 rfl (lv_at hl 2 rfl) ?_
      exact vx_ret (W.widen (Nat.le_of_ble_eq_true rfl) (Nat.le_of_ble_eq_true rfl) (W.iret (v := (nI a)) hx hb hr (fun T9 hT9 _ => ⟨⟨(nI a), w, rfl, ⟨rfl, congrArg (fun z => some (Value.int (nI z))) (show a = (ks_sk (ks_win dt) a1 dt.hc).1 from (congrArg Prod.fst hs).symm)⟩, by rw [hT9]; exact L.1, L.2.1⟩, L.2.2.F hT9⟩) L.2.2.2.2 dk_X6_skinsOf_56 hlocks))
    | succ d ih =>
      intro k hk a b hs H locs L ls hl
      refine lv_iload hx hb dk_X6_skinsOf_7 (lv_at hl 0 rfl) ?_
      refine lv_aload_n hx hb dk_X6_skinsOf_9 rfl (lv_at hl 4 rfl) ?_
      refine kx_get (v := .int (nI dt.hc)) G L (en_FTX6_ok (62, 12, 4) (by decide)) hX.o hX.f4 dk_X6_skinsOf_10 ?_
      refine lv_icmp_ge (tgt := 55) hx hb dk_X6_skinsOf_13 (by decide) (fun c9 => absurd c9 (nI_ge (a := k) (b := dt.hc) (by omega) (by omega))) (fun _ => ?_)
      have hab : a + b ≤ k := by have h9 := ks_sk_le (sw := ks_win dt) (p := a1) k; rw [hs] at h9; exact h9
      refine lv_iinc (v := (nI (b + 1))) (lv' := [(3, .int (nI (b + 1))), (4, .int (nI k)), (2, .int (nI a)), (1, .int a1), (0, .ref (sh.2 66))]) hx hb dk_X6_skinsOf_16 hl (k := 1) rfl (kx_inc (by omega)) (by decide) rfl (fun ls hl => ?_)
      refine lv_aload_n hx hb dk_X6_skinsOf_19 rfl (lv_at hl 4 rfl) ?_
      refine lv_iload hx hb dk_X6_skinsOf_20 (lv_at hl 1 rfl) ?_
      refine kx_cV (As := [.int (nI k)]) (rest := []) (q := 66) (ci := 12) G L (kx_X6_skinWinner hl9 D (kx_D1 L) hX (h := k) (by omega)) gc_RX6_607v hX.o rfl rfl rfl (hml.trans hl.1.symm) ⟨Nat.le_of_ble_eq_true rfl, Nat.le_of_ble_eq_true rfl⟩ ⟨Nat.le_of_ble_eq_true rfl, Nat.le_of_ble_eq_true rfl⟩ (Nat.le_of_ble_eq_true rfl) dk_X6_skinsOf_22 (fun _ _ _ _ _ h9 => h9.elim) (fun res w1 H locs hrv hq1 L => ?_)
      obtain ⟨ew1, hq1⟩ := hq1
      have ew1 := ew1.symm
      subst ew1
      obtain rfl := hq1
      refine lv_istore (lv' := [(5, .int (ks_win dt k)), (3, .int (nI (b + 1))), (4, .int (nI k)), (2, .int (nI a)), (1, .int a1), (0, .ref (sh.2 66))]) hx hb dk_X6_skinsOf_25 hl (by decide) rfl (fun ls hl => ?_)
      refine lv_iload hx hb dk_X6_skinsOf_27 (lv_at hl 0 rfl) ?_
      refine lv_iconst (v := (-1)) hx hb dk_X6_skinsOf_29 (by decide) ?_
      have k3 : ((-1) : Int32).toInt = -1 := by decide
      refine lv_icmp_eq (tgt := 49) hx hb dk_X6_skinsOf_30 (by decide) (fun c2 => ?_) (fun c2 => ?_)
      · skip
        have tc2 : ((ks_win dt k) : Int32).toInt = ((-1) : Int32).toInt := by rw [c2]
        refine lv_iinc (v := (nI (k + 1))) (lv' := [(4, .int (nI (k + 1))), (5, .int (ks_win dt k)), (3, .int (nI (b + 1))), (2, .int (nI a)), (1, .int a1), (0, .ref (sh.2 66))]) hx hb dk_X6_skinsOf_49 hl (k := 2) rfl (kx_inc (by omega)) (by decide) rfl (fun ls hl => ?_)
        refine lv_goto (tgt := 7) hx hb dk_X6_skinsOf_52 (by decide) ?_
        exact ih (k + 1) (by omega) a (b + 1) (ks_sk_0 hs c2) H locs L ls (lv_sub hl [0, 2, 3, 4, 5] rfl)
      · skip
        have tc2 : ¬ ((ks_win dt k) : Int32).toInt = ((-1) : Int32).toInt := fun h => c2 (Int32.toInt_inj.mp h)
        refine lv_iload_n hx hb dk_X6_skinsOf_33 rfl (lv_at hl 3 rfl) ?_
        refine lv_iload hx hb dk_X6_skinsOf_34 (lv_at hl 0 rfl) ?_
        refine lv_iload_n hx hb dk_X6_skinsOf_36 rfl (lv_at hl 4 rfl) ?_
        refine lv_icmp_ne (tgt := 44) hx hb dk_X6_skinsOf_37 (by decide) (fun c4 => ?_) (fun c4 => ?_)
        · skip
          have tc4 : ¬ ((ks_win dt k) : Int32).toInt = (a1 : Int32).toInt := fun h => c4 (Int32.toInt_inj.mp h)
          refine lv_iconst (v := 0) hx hb dk_X6_skinsOf_44 (by decide) ?_
          refine lv_iadd hx hb dk_X6_skinsOf_45 ?_
          refine lv_topi (fun y5 ey5 => ?_)
          obtain rfl : y5 = (nI a) := ey5.trans (ks_add (a := a) (b := 0) (by omega) (by omega))
          refine lv_istore_n (lv' := [(2, .int (nI a)), (5, .int (ks_win dt k)), (3, .int (nI (b + 1))), (4, .int (nI k)), (1, .int a1), (0, .ref (sh.2 66))]) hx hb dk_X6_skinsOf_46 rfl hl (by decide) rfl (fun ls hl => ?_)
          refine lv_iconst (v := 0) hx hb dk_X6_skinsOf_47 (by decide) ?_
          refine lv_istore_n (lv' := [(3, .int 0), (2, .int (nI a)), (5, .int (ks_win dt k)), (4, .int (nI k)), (1, .int a1), (0, .ref (sh.2 66))]) hx hb dk_X6_skinsOf_48 rfl hl (by decide) rfl (fun ls hl => ?_)
          refine lv_iinc (v := (nI (k + 1))) (lv' := [(4, .int (nI (k + 1))), (3, .int 0), (2, .int (nI a)), (5, .int (ks_win dt k)), (1, .int a1), (0, .ref (sh.2 66))]) hx hb dk_X6_skinsOf_49 hl (k := 3) rfl (kx_inc (by omega)) (by decide) rfl (fun ls hl => ?_)
          refine lv_goto (tgt := 7) hx hb dk_X6_skinsOf_52 (by decide) ?_
          exact ih (k + 1) (by omega) a 0 (ks_sk_2 hs c2 c4) H locs L ls (lv_sub hl [0, 1, 2, 4, 5] rfl)
        · skip
          have tc4 : ((ks_win dt k) : Int32).toInt = (a1 : Int32).toInt := by rw [c4]
          refine lv_iload_n hx hb dk_X6_skinsOf_40 rfl (lv_at hl 1 rfl) ?_
          refine lv_goto (tgt := 45) hx hb dk_X6_skinsOf_41 (by decide) ?_
          refine lv_iadd hx hb dk_X6_skinsOf_45 ?_
          refine lv_topi (fun y6 ey6 => ?_)
          obtain rfl : y6 = (nI (a + (b + 1))) := ey6.trans (ks_add (a := a) (b := b + 1) (by omega) (by omega))
          refine lv_istore_n (lv' := [(2, .int (nI (a + (b + 1)))), (5, .int (ks_win dt k)), (3, .int (nI (b + 1))), (4, .int (nI k)), (1, .int a1), (0, .ref (sh.2 66))]) hx hb dk_X6_skinsOf_46 rfl hl (by decide) rfl (fun ls hl => ?_)
          refine lv_iconst (v := 0) hx hb dk_X6_skinsOf_47 (by decide) ?_
          refine lv_istore_n (lv' := [(3, .int 0), (2, .int (nI (a + (b + 1)))), (5, .int (ks_win dt k)), (4, .int (nI k)), (1, .int a1), (0, .ref (sh.2 66))]) hx hb dk_X6_skinsOf_48 rfl hl (by decide) rfl (fun ls hl => ?_)
          refine lv_iinc (v := (nI (k + 1))) (lv' := [(4, .int (nI (k + 1))), (3, .int 0), (2, .int (nI (a + (b + 1)))), (5, .int (ks_win dt k)), (1, .int a1), (0, .ref (sh.2 66))]) hx hb dk_X6_skinsOf_49 hl (k := 3) rfl (kx_inc (by omega)) (by decide) rfl (fun ls hl => ?_)
          refine lv_goto (tgt := 7) hx hb dk_X6_skinsOf_52 (by decide) ?_
          exact ih (k + 1) (by omega) (a + (b + 1)) 0 (ks_sk_1 hs c2 c4) H locs L ls (lv_sub hl [0, 1, 2, 4, 5] rfl)
  exact loop dt.hc 0 (by omega) 0 0 ks_sk_z _ _ L ls (lv_sub hl [0, 1, 2, 4, 3] rfl)
set_option maxHeartbeats 4000000 in
theorem kx_X0_isAtRest {l : Launch} (hl9 : l.stackTraces = false) (D : va_G) {tys : List (ClassId × FieldType)} {w : va_W} {sz : Nat} (hD0 : va_D (va_A w sz) w) {b q : Nat} {fb : List Value} {b0 b2 b9 : Int32} (hf : w[q]? = some (b, .inr (6, fb))) (f0 : fb[0]? = some (.int b0)) (f2 : fb[2]? = some (.int b2)) (f9 : fb[9]? = some (.int b9)) : kx_C l yX0_isAtRest cX0_isAtRest 1 (some .boolean) 0 0 0 0 [.ref b] D tys w sz (fun res w1 => w1 = w ∧ (res = some (.int 0) ∨ res = some (.int 1))) (fun _ => False) := by
  refine vx_ofW (cc := cX0_isAtRest) (maxL := 1) (ret := (some .boolean)) (by decide +kernel) rfl ?_
  intro p e s m args below meth c s₁ B9 hml hne hv
  obtain ⟨rfl, hsz, hP, hK, hT⟩ := hv
  subst hsz
  have hx := B9.exec
  have hb := B9.bytes
  have hr := B9.returns
  have hlocks := B9.notSynchronized
  have hts0 := atoms_spec (ws := Cond.code yX0_isAtRest cX0_isAtRest 1 (some .boolean) :: en_cw) B9.pre
  have hts : ∀ z ∈ en_cw, z.before _ s = true := fun z hz => hts0 z (List.mem_cons_of_mem _ hz)
  have hown : s.vm.findClass RX0 = some m.cls := findClass_of_methodNamed B9.named
  have G : kx_G p s m ([.ref b] : List Value).toArray c cX0_isAtRest RX0 D tys (va_A w s.heap.size) := ⟨hx, hb, hts, hown, hK, hT, fun q h => Or.inr h⟩
  have L : kx_H D (va_A w s.heap.size) s w s.heap [] := ⟨hP, ⟨hD0.1, fun j z hz => Or.inl ⟨j, z.2, hz⟩⟩, va_S.rf⟩
  have hl := lv_entry ([.ref b] : List Value) (n := 1) (Nat.le_of_ble_eq_true rfl)
  rw [lg_entry_eq]
  generalize (lg_sl ([.ref b] : List Value) ++ List.replicate (1 - (lg_sl ([.ref b] : List Value)).length) Slot.unset).toArray = ls at hl ⊢
  have hl : lv_has ls 1 [(0, .ref b)] := hl
  refine lv_aload_n hx hb dk_X0_isAtRest_0 rfl (lv_at hl 0 rfl) ?_
  refine kx_get (v := .int b0) G L (en_FTX0_ok (9, 6, 0) (by decide)) hf f0 dk_X0_isAtRest_1 ?_
  refine lv_bipush (v := 108) hx hb dk_X0_isAtRest_4 (by decide) ?_
  have k2 : (108 : Int32).toInt = 108 := by decide
  refine lv_icmp_ne (tgt := 27) hx hb dk_X0_isAtRest_6 (by decide) (fun c1 => ?_) (fun c1 => ?_)
  · skip
    have tc1 : ¬ (b0 : Int32).toInt = (108 : Int32).toInt := fun h => c1 (Int32.toInt_inj.mp h)
    refine lv_iconst (v := 0) hx hb dk_X0_isAtRest_27 (by decide) ?_
    exact vx_ret (W.widen (Nat.le_of_ble_eq_true rfl) (Nat.le_of_ble_eq_true rfl) (W.zret (v := 0) (ty := .boolean) hx hb hr (by decide) (fun T9 hT9 _ => ⟨⟨0, w, rfl, ⟨rfl, Or.inl rfl⟩, by rw [hT9]; exact L.1, L.2.1⟩, L.2.2.F hT9⟩) L.2.2.2.2 dk_X0_isAtRest_28 hlocks))
  · skip
    have tc1 : (b0 : Int32).toInt = (108 : Int32).toInt := by rw [c1]
    refine lv_aload_n hx hb dk_X0_isAtRest_9 rfl (lv_at hl 0 rfl) ?_
    refine kx_get (v := .int b2) G L (en_FTX0_ok (19, 6, 2) (by decide)) hf f2 dk_X0_isAtRest_10 ?_
    have k4 : (0 : Int32).toInt = 0 := by decide
    refine lv_if_ne (tgt := 27) hx hb dk_X0_isAtRest_13 (by decide) (fun c3 => ?_) (fun c3 => ?_)
    · skip
      have tc3 : ¬ (b2 : Int32).toInt = (0 : Int32).toInt := fun h => c3 (Int32.toInt_inj.mp h)
      refine lv_iconst (v := 0) hx hb dk_X0_isAtRest_27 (by decide) ?_
      exact vx_ret (W.widen (Nat.le_of_ble_eq_true rfl) (Nat.le_of_ble_eq_true rfl) (W.zret (v := 0) (ty := .boolean) hx hb hr (by decide) (fun T9 hT9 _ => ⟨⟨0, w, rfl, ⟨rfl, Or.inl rfl⟩, by rw [hT9]; exact L.1, L.2.1⟩, L.2.2.F hT9⟩) L.2.2.2.2 dk_X0_isAtRest_28 hlocks))
    · skip
      have tc3 : (b2 : Int32).toInt = (0 : Int32).toInt := by rw [c3]
      refine lv_aload_n hx hb dk_X0_isAtRest_16 rfl (lv_at hl 0 rfl) ?_
      refine kx_get (v := .int b9) G L (en_FTX0_ok (38, 6, 9) (by decide)) hf f9 dk_X0_isAtRest_17 ?_
      have k6 : (0 : Int32).toInt = 0 := by decide
      refine lv_if_ne (tgt := 27) hx hb dk_X0_isAtRest_20 (by decide) (fun c5 => ?_) (fun c5 => ?_)
      · skip
        have tc5 : ¬ (b9 : Int32).toInt = (0 : Int32).toInt := fun h => c5 (Int32.toInt_inj.mp h)
        refine lv_iconst (v := 0) hx hb dk_X0_isAtRest_27 (by decide) ?_
        exact vx_ret (W.widen (Nat.le_of_ble_eq_true rfl) (Nat.le_of_ble_eq_true rfl) (W.zret (v := 0) (ty := .boolean) hx hb hr (by decide) (fun T9 hT9 _ => ⟨⟨0, w, rfl, ⟨rfl, Or.inl rfl⟩, by rw [hT9]; exact L.1, L.2.1⟩, L.2.2.F hT9⟩) L.2.2.2.2 dk_X0_isAtRest_28 hlocks))
      · skip
        have tc5 : (b9 : Int32).toInt = (0 : Int32).toInt := by rw [c5]
        refine lv_iconst (v := 1) hx hb dk_X0_isAtRest_23 (by decide) ?_
        refine lv_goto (tgt := 28) hx hb dk_X0_isAtRest_24 (by decide) ?_
        exact vx_ret (W.widen (Nat.le_of_ble_eq_true rfl) (Nat.le_of_ble_eq_true rfl) (W.zret (v := 1) (ty := .boolean) hx hb hr (by decide) (fun T9 hT9 _ => ⟨⟨1, w, rfl, ⟨rfl, Or.inr rfl⟩, by rw [hT9]; exact L.1, L.2.1⟩, L.2.2.F hT9⟩) L.2.2.2.2 dk_X0_isAtRest_28 hlocks))
set_option maxHeartbeats 4000000 in
theorem kx_X6_isOnFreeKind {l : Launch} (hl9 : l.stackTraces = false) (D : va_G) {tys : List (ClassId × FieldType)} {sh : en_H} {w : va_W} {sz : Nat} (hD0 : va_D (va_A w sz) w) {dt : ks_D} {pj : Nat} (hX : ks_X tys sh w dt) (hp6 : pj < 6) : kx_C l yX6_isOnFreeKind cX6_isOnFreeKind 3 (some .boolean) 1 0 0 0 [.ref (sh.2 66), .ref (sh.2 (88 + 8 * pj))] D tys w sz (fun res w1 => w1 = w ∧ (res = some (.int 0) ∨ (res = some (.int 1) ∧ ∃ k : Nat, k < 600 ∧ dt.bc pj = nI k))) (fun _ => False) := by
  refine vx_ofW (cc := cX6_isOnFreeKind) (maxL := 3) (ret := (some .boolean)) (by decide +kernel) rfl ?_
  intro p e s m args below meth c s₁ B9 hml hne hv
  obtain ⟨rfl, hsz, hP, hK, hT⟩ := hv
  subst hsz
  have hx := B9.exec
  have hb := B9.bytes
  have hr := B9.returns
  have hlocks := B9.notSynchronized
  have hts0 := atoms_spec (ws := Cond.code yX6_isOnFreeKind cX6_isOnFreeKind 3 (some .boolean) :: en_cw) B9.pre
  have hts : ∀ z ∈ en_cw, z.before _ s = true := fun z hz => hts0 z (List.mem_cons_of_mem _ hz)
  have hown : s.vm.findClass RX6 = some m.cls := findClass_of_methodNamed B9.named
  have G : kx_G p s m ([.ref (sh.2 66), .ref (sh.2 (88 + 8 * pj))] : List Value).toArray c cX6_isOnFreeKind RX6 D tys (va_A w s.heap.size) := ⟨hx, hb, hts, hown, hK, hT, fun q h => Or.inr h⟩
  have L : kx_H D (va_A w s.heap.size) s w s.heap [] := ⟨hP, ⟨hD0.1, fun j z hz => Or.inl ⟨j, z.2, hz⟩⟩, va_S.rf⟩
  have hl := lv_entry ([.ref (sh.2 66), .ref (sh.2 (88 + 8 * pj))] : List Value) (n := 3) (Nat.le_of_ble_eq_true rfl)
  rw [lg_entry_eq]
  generalize (lg_sl ([.ref (sh.2 66), .ref (sh.2 (88 + 8 * pj))] : List Value) ++ List.replicate (3 - (lg_sl ([.ref (sh.2 66), .ref (sh.2 (88 + 8 * pj))] : List Value)).length) Slot.unset).toArray = ls at hl ⊢
  have hl : lv_has ls 3 [(0, .ref (sh.2 66)), (1, .ref (sh.2 (88 + 8 * pj)))] := hl
  have hc9 := hX.hc9
  have pc6 := hX.pc6
  have hn9 := hX.hn9
  obtain ⟨cH, fH, ht3, hw67, hf67⟩ := hX.ha
  obtain ⟨cP, fP, ht4, hw86, hf86⟩ := hX.pa
  obtain ⟨fb, b0, b2, b10, hwb, lfb, fb0, fb1, fb2, fb9⟩ := hX.br pj hp6
  obtain ⟨cX, gk, ht1, hgk, hbk⟩ := hX.hk dt.hn hX.hn9
  refine lv_aload_n hx hb dk_X6_isOnFreeKind_0 rfl (lv_at hl 0 rfl) ?_
  refine kx_get (v := .ref (sh.2 67)) G L (en_FTX6_ok (11, 12, 0) (by decide)) hX.o hX.f0 dk_X6_isOnFreeKind_1 ?_
  refine lv_aload_n hx hb dk_X6_isOnFreeKind_4 rfl (lv_at hl 0 rfl) ?_
  refine kx_get (v := .int (nI dt.hn)) G L (en_FTX6_ok (170, 12, 13) (by decide)) hX.o hX.f13 dk_X6_isOnFreeKind_5 ?_
  obtain ⟨thh, ahh, hhh⟩ := hX.hr dt.hn hX.hn9
  refine kx_aald G L hw67 ht3 (show dt.hn < 9 from hX.hn9) (by decide) (hf67 dt.hn hX.hn9) dk_X6_isOnFreeKind_8 ?_
  refine lv_aload_n hx hb dk_X6_isOnFreeKind_9 rfl (lv_at hl 1 rfl) ?_
  refine kx_get (v := .int (dt.bc pj)) G L (en_FTX6_ok (211, 6, 1) (by decide)) hwb fb1 dk_X6_isOnFreeKind_10 ?_
  refine kx_cV (As := [.int (dt.bc pj)]) (rest := []) (q := (68 + 2 * dt.hn)) (ci := 9) G L (kx_X3_kindOf_g hl9 D (kx_D1 L) ht1 hhh hgk hbk (a1 := dt.bc pj)) gc_RX6_118v hhh rfl rfl rfl (hml.trans hl.1.symm) ⟨Nat.le_of_ble_eq_true rfl, Nat.le_of_ble_eq_true rfl⟩ ⟨Nat.le_of_ble_eq_true rfl, Nat.le_of_ble_eq_true rfl⟩ (Nat.le_of_ble_eq_true rfl) dk_X6_isOnFreeKind_13 (fun _ _ _ _ _ h9 => h9.elim) (fun res w1 H locs hrv hq1 L => ?_)
  obtain ⟨ew1, hq1⟩ := hq1
  have ew1 := ew1.symm
  subst ew1
  rcases hq1 with ⟨k, hk6, ek, rfl⟩ | rfl
  · skip
    refine lv_istore_n (lv' := [(2, .int (gk k)), (0, .ref (sh.2 66)), (1, .ref (sh.2 (88 + 8 * pj)))]) hx hb dk_X6_isOnFreeKind_16 rfl hl (by decide) rfl (fun ls hl => ?_)
    refine lv_aload_n hx hb dk_X6_isOnFreeKind_17 rfl (lv_at hl 2 rfl) ?_
    refine kx_cV (As := []) (rest := []) (q := (88 + 8 * pj)) (ci := 6) G L (kx_X0_isAtRest hl9 D (kx_D1 L) hwb fb0 fb2 fb9) gc_RX6_294v hwb rfl rfl rfl (hml.trans hl.1.symm) ⟨Nat.le_of_ble_eq_true rfl, Nat.le_of_ble_eq_true rfl⟩ ⟨Nat.le_of_ble_eq_true rfl, Nat.le_of_ble_eq_true rfl⟩ (Nat.le_of_ble_eq_true rfl) dk_X6_isOnFreeKind_18 (fun _ _ _ _ _ h9 => h9.elim) (fun res w2 H locs hrv hq2 L => ?_)
    obtain ⟨ew2, hq2⟩ := hq2
    have ew2 := ew2.symm
    subst ew2
    rcases hq2 with rfl | rfl
    · skip
      refine lv_if_eq (tgt := 40) hx hb dk_X6_isOnFreeKind_21 (by decide) (fun _ => ?_) (fun c9 => absurd (by decide) c9)
      refine lv_iconst (v := 0) hx hb dk_X6_isOnFreeKind_40 (by decide) ?_
      exact vx_ret (W.widen (Nat.le_of_ble_eq_true rfl) (Nat.le_of_ble_eq_true rfl) (W.zret (v := 0) (ty := .boolean) hx hb hr (by decide) (fun T9 hT9 _ => ⟨⟨0, w, rfl, ⟨rfl, Or.inl rfl⟩, by rw [hT9]; exact L.1, L.2.1⟩, L.2.2.F hT9⟩) L.2.2.2.2 dk_X6_isOnFreeKind_41 hlocks))
    · skip
      refine lv_if_eq (tgt := 40) hx hb dk_X6_isOnFreeKind_21 (by decide) (fun c9 => absurd c9 (by decide)) (fun _ => ?_)
      refine lv_iload_n hx hb dk_X6_isOnFreeKind_24 rfl (lv_at hl 0 rfl) ?_
      refine lv_bipush (v := 119) hx hb dk_X6_isOnFreeKind_25 (by decide) ?_
      have k4 : (119 : Int32).toInt = 119 := by decide
      refine lv_icmp_eq (tgt := 36) hx hb dk_X6_isOnFreeKind_27 (by decide) (fun c3 => ?_) (fun c3 => ?_)
      · skip
        have tc3 : ((gk k) : Int32).toInt = (119 : Int32).toInt := by rw [c3]
        refine lv_iconst (v := 1) hx hb dk_X6_isOnFreeKind_36 (by decide) ?_
        refine lv_goto (tgt := 41) hx hb dk_X6_isOnFreeKind_37 (by decide) ?_
        exact vx_ret (W.widen (Nat.le_of_ble_eq_true rfl) (Nat.le_of_ble_eq_true rfl) (W.zret (v := 1) (ty := .boolean) hx hb hr (by decide) (fun T9 hT9 _ => ⟨⟨1, w, rfl, ⟨rfl, Or.inr ⟨rfl, k, hk6, ek⟩⟩, by rw [hT9]; exact L.1, L.2.1⟩, L.2.2.F hT9⟩) L.2.2.2.2 dk_X6_isOnFreeKind_41 hlocks))
      · skip
        have tc3 : ¬ ((gk k) : Int32).toInt = (119 : Int32).toInt := fun h => c3 (Int32.toInt_inj.mp h)
        refine lv_iload_n hx hb dk_X6_isOnFreeKind_30 rfl (lv_at hl 0 rfl) ?_
        refine lv_bipush (v := 112) hx hb dk_X6_isOnFreeKind_31 (by decide) ?_
        have k6 : (112 : Int32).toInt = 112 := by decide
        refine lv_icmp_ne (tgt := 40) hx hb dk_X6_isOnFreeKind_33 (by decide) (fun c5 => ?_) (fun c5 => ?_)
        · skip
          have tc5 : ¬ ((gk k) : Int32).toInt = (112 : Int32).toInt := fun h => c5 (Int32.toInt_inj.mp h)
          refine lv_iconst (v := 0) hx hb dk_X6_isOnFreeKind_40 (by decide) ?_
          exact vx_ret (W.widen (Nat.le_of_ble_eq_true rfl) (Nat.le_of_ble_eq_true rfl) (W.zret (v := 0) (ty := .boolean) hx hb hr (by decide) (fun T9 hT9 _ => ⟨⟨0, w, rfl, ⟨rfl, Or.inl rfl⟩, by rw [hT9]; exact L.1, L.2.1⟩, L.2.2.F hT9⟩) L.2.2.2.2 dk_X6_isOnFreeKind_41 hlocks))
        · skip
          have tc5 : ((gk k) : Int32).toInt = (112 : Int32).toInt := by rw [c5]
          refine lv_iconst (v := 1) hx hb dk_X6_isOnFreeKind_36 (by decide) ?_
          refine lv_goto (tgt := 41) hx hb dk_X6_isOnFreeKind_37 (by decide) ?_
          exact vx_ret (W.widen (Nat.le_of_ble_eq_true rfl) (Nat.le_of_ble_eq_true rfl) (W.zret (v := 1) (ty := .boolean) hx hb hr (by decide) (fun T9 hT9 _ => ⟨⟨1, w, rfl, ⟨rfl, Or.inr ⟨rfl, k, hk6, ek⟩⟩, by rw [hT9]; exact L.1, L.2.1⟩, L.2.2.F hT9⟩) L.2.2.2.2 dk_X6_isOnFreeKind_41 hlocks))
  · skip
    refine lv_istore_n (lv' := [(2, .int 102), (0, .ref (sh.2 66)), (1, .ref (sh.2 (88 + 8 * pj)))]) hx hb dk_X6_isOnFreeKind_16 rfl hl (by decide) rfl (fun ls hl => ?_)
    refine lv_aload_n hx hb dk_X6_isOnFreeKind_17 rfl (lv_at hl 2 rfl) ?_
    refine kx_cV (As := []) (rest := []) (q := (88 + 8 * pj)) (ci := 6) G L (kx_X0_isAtRest hl9 D (kx_D1 L) hwb fb0 fb2 fb9) gc_RX6_294v hwb rfl rfl rfl (hml.trans hl.1.symm) ⟨Nat.le_of_ble_eq_true rfl, Nat.le_of_ble_eq_true rfl⟩ ⟨Nat.le_of_ble_eq_true rfl, Nat.le_of_ble_eq_true rfl⟩ (Nat.le_of_ble_eq_true rfl) dk_X6_isOnFreeKind_18 (fun _ _ _ _ _ h9 => h9.elim) (fun res w7 H locs hrv hq7 L => ?_)
    obtain ⟨ew7, hq7⟩ := hq7
    have ew7 := ew7.symm
    subst ew7
    rcases hq7 with rfl | rfl
    · skip
      refine lv_if_eq (tgt := 40) hx hb dk_X6_isOnFreeKind_21 (by decide) (fun _ => ?_) (fun c9 => absurd (by decide) c9)
      refine lv_iconst (v := 0) hx hb dk_X6_isOnFreeKind_40 (by decide) ?_
      exact vx_ret (W.widen (Nat.le_of_ble_eq_true rfl) (Nat.le_of_ble_eq_true rfl) (W.zret (v := 0) (ty := .boolean) hx hb hr (by decide) (fun T9 hT9 _ => ⟨⟨0, w, rfl, ⟨rfl, Or.inl rfl⟩, by rw [hT9]; exact L.1, L.2.1⟩, L.2.2.F hT9⟩) L.2.2.2.2 dk_X6_isOnFreeKind_41 hlocks))
    · skip
      refine lv_if_eq (tgt := 40) hx hb dk_X6_isOnFreeKind_21 (by decide) (fun c9 => absurd c9 (by decide)) (fun _ => ?_)
      refine lv_iload_n hx hb dk_X6_isOnFreeKind_24 rfl (lv_at hl 0 rfl) ?_
      refine lv_bipush (v := 119) hx hb dk_X6_isOnFreeKind_25 (by decide) ?_
      refine lv_icmp_eq (tgt := 36) hx hb dk_X6_isOnFreeKind_27 (by decide) (fun c9 => absurd c9 (by decide)) (fun _ => ?_)
      refine lv_iload_n hx hb dk_X6_isOnFreeKind_30 rfl (lv_at hl 0 rfl) ?_
      refine lv_bipush (v := 112) hx hb dk_X6_isOnFreeKind_31 (by decide) ?_
      refine lv_icmp_ne (tgt := 40) hx hb dk_X6_isOnFreeKind_33 (by decide) (fun _ => ?_) (fun c9 => absurd c9 (by decide))
      refine lv_iconst (v := 0) hx hb dk_X6_isOnFreeKind_40 (by decide) ?_
      exact vx_ret (W.widen (Nat.le_of_ble_eq_true rfl) (Nat.le_of_ble_eq_true rfl) (W.zret (v := 0) (ty := .boolean) hx hb hr (by decide) (fun T9 hT9 _ => ⟨⟨0, w, rfl, ⟨rfl, Or.inl rfl⟩, by rw [hT9]; exact L.1, L.2.1⟩, L.2.2.F hT9⟩) L.2.2.2.2 dk_X6_isOnFreeKind_41 hlocks))
set_option maxHeartbeats 4000000 in
theorem kx_X6_isPointNearest {l : Launch} (hl9 : l.stackTraces = false) (D : va_G) {tys : List (ClassId × FieldType)} {sh : en_H} {w : va_W} {sz : Nat} (hD0 : va_D (va_A w sz) w) {dt : ks_D} {pj : Nat} (hX : ks_X tys sh w dt) (hp6 : pj < 6) : kx_C l yX6_isPointNearest cX6_isPointNearest 3 (some .boolean) 6 0 0 0 [.ref (sh.2 66), .ref (sh.2 (88 + 8 * pj))] D tys w sz (fun res w1 => w1 = w ∧ res = some (.int 1)) (fun _ => False) := by
  refine vx_ofW (cc := cX6_isPointNearest) (maxL := 3) (ret := (some .boolean)) (by decide +kernel) rfl ?_
  intro p e s m args below meth c s₁ B9 hml hne hv
  obtain ⟨rfl, hsz, hP, hK, hT⟩ := hv
  subst hsz
  have hx := B9.exec
  have hb := B9.bytes
  have hr := B9.returns
  have hlocks := B9.notSynchronized
  have hts0 := atoms_spec (ws := Cond.code yX6_isPointNearest cX6_isPointNearest 3 (some .boolean) :: en_cw) B9.pre
  have hts : ∀ z ∈ en_cw, z.before _ s = true := fun z hz => hts0 z (List.mem_cons_of_mem _ hz)
  have hown : s.vm.findClass RX6 = some m.cls := findClass_of_methodNamed B9.named
  have G : kx_G p s m ([.ref (sh.2 66), .ref (sh.2 (88 + 8 * pj))] : List Value).toArray c cX6_isPointNearest RX6 D tys (va_A w s.heap.size) := ⟨hx, hb, hts, hown, hK, hT, fun q h => Or.inr h⟩
  have L : kx_H D (va_A w s.heap.size) s w s.heap [] := ⟨hP, ⟨hD0.1, fun j z hz => Or.inl ⟨j, z.2, hz⟩⟩, va_S.rf⟩
  have hl := lv_entry ([.ref (sh.2 66), .ref (sh.2 (88 + 8 * pj))] : List Value) (n := 3) (Nat.le_of_ble_eq_true rfl)
  rw [lg_entry_eq]
  generalize (lg_sl ([.ref (sh.2 66), .ref (sh.2 (88 + 8 * pj))] : List Value) ++ List.replicate (3 - (lg_sl ([.ref (sh.2 66), .ref (sh.2 (88 + 8 * pj))] : List Value)).length) Slot.unset).toArray = ls at hl ⊢
  have hl : lv_has ls 3 [(0, .ref (sh.2 66)), (1, .ref (sh.2 (88 + 8 * pj)))] := hl
  have hc9 := hX.hc9
  have pc6 := hX.pc6
  have hn9 := hX.hn9
  obtain ⟨cH, fH, ht3, hw67, hf67⟩ := hX.ha
  obtain ⟨cP, fP, ht4, hw86, hf86⟩ := hX.pa
  obtain ⟨fb, b0, b2, b10, hwb, lfb, fb0, fb1, fb2, fb9⟩ := hX.br pj hp6
  obtain ⟨cX, gk, ht1, hgk, hbk⟩ := hX.hk dt.hn hX.hn9
  refine lv_aload_n hx hb dk_X6_isPointNearest_0 rfl (lv_at hl 0 rfl) ?_
  refine kx_get (v := .ref (sh.2 67)) G L (en_FTX6_ok (11, 12, 0) (by decide)) hX.o hX.f0 dk_X6_isPointNearest_1 ?_
  refine lv_aload_n hx hb dk_X6_isPointNearest_4 rfl (lv_at hl 0 rfl) ?_
  refine kx_get (v := .int (nI dt.hn)) G L (en_FTX6_ok (170, 12, 13) (by decide)) hX.o hX.f13 dk_X6_isPointNearest_5 ?_
  obtain ⟨thh, ahh, hhh⟩ := hX.hr dt.hn hX.hn9
  refine kx_aald G L hw67 ht3 (show dt.hn < 9 from hX.hn9) (by decide) (hf67 dt.hn hX.hn9) dk_X6_isPointNearest_8 ?_
  refine lv_astore_n (lv' := [(2, .ref (sh.2 (68 + 2 * dt.hn))), (0, .ref (sh.2 66)), (1, .ref (sh.2 (88 + 8 * pj)))]) hx hb dk_X6_isPointNearest_9 rfl hl (by decide) rfl (fun ls hl => ?_)
  refine lv_aload_n hx hb dk_X6_isPointNearest_10 rfl (lv_at hl 1 rfl) ?_
  refine kx_get (v := .int dt.on) G L (en_FTX6_ok (132, 12, 11) (by decide)) hX.o hX.f11 dk_X6_isPointNearest_11 ?_
  have k2 : (0 : Int32).toInt = 0 := by decide
  refine lv_if_eq (tgt := 44) hx hb dk_X6_isPointNearest_14 (by decide) (fun c1 => ?_) (fun c1 => ?_)
  · skip
    have tc1 : (dt.on : Int32).toInt = (0 : Int32).toInt := by rw [c1]
    refine lv_iconst (v := 1) hx hb dk_X6_isPointNearest_44 (by decide) ?_
    refine lv_goto (tgt := 49) hx hb dk_X6_isPointNearest_45 (by decide) ?_
    exact vx_ret (W.widen (Nat.le_of_ble_eq_true rfl) (Nat.le_of_ble_eq_true rfl) (W.zret (v := 1) (ty := .boolean) hx hb hr (by decide) (fun T9 hT9 _ => ⟨⟨1, w, rfl, ⟨rfl, rfl⟩, by rw [hT9]; exact L.1, L.2.1⟩, L.2.2.F hT9⟩) L.2.2.2.2 dk_X6_isPointNearest_49 hlocks))
  · skip
    have tc1 : ¬ (dt.on : Int32).toInt = (0 : Int32).toInt := fun h => c1 (Int32.toInt_inj.mp h)
    refine lv_aload_n hx hb dk_X6_isPointNearest_17 rfl (lv_at hl 1 rfl) ?_
    refine lv_aload_n hx hb dk_X6_isPointNearest_18 rfl (lv_at hl 2 rfl) ?_
    refine kx_cV (As := [.ref (sh.2 (88 + 8 * pj))]) (rest := []) (q := 66) (ci := 12) G L (kx_X6_isOnFreeKind hl9 D (kx_D1 L) hX (pj := pj) hp6) gc_RX6_310v hX.o rfl rfl rfl (hml.trans hl.1.symm) ⟨Nat.le_of_ble_eq_true rfl, Nat.le_of_ble_eq_true rfl⟩ ⟨Nat.le_of_ble_eq_true rfl, Nat.le_of_ble_eq_true rfl⟩ (Nat.le_of_ble_eq_true rfl) dk_X6_isPointNearest_19 (fun _ _ _ _ _ h9 => h9.elim) (fun res w3 H locs hrv hq3 L => ?_)
    obtain ⟨ew3, hq3⟩ := hq3
    have ew3 := ew3.symm
    subst ew3
    rcases hq3 with rfl | ⟨rfl, k, hk6, ek⟩
    · skip
      refine lv_if_eq (tgt := 44) hx hb dk_X6_isPointNearest_22 (by decide) (fun _ => ?_) (fun c9 => absurd (by decide) c9)
      refine lv_iconst (v := 1) hx hb dk_X6_isPointNearest_44 (by decide) ?_
      refine lv_goto (tgt := 49) hx hb dk_X6_isPointNearest_45 (by decide) ?_
      exact vx_ret (W.widen (Nat.le_of_ble_eq_true rfl) (Nat.le_of_ble_eq_true rfl) (W.zret (v := 1) (ty := .boolean) hx hb hr (by decide) (fun T9 hT9 _ => ⟨⟨1, w, rfl, ⟨rfl, rfl⟩, by rw [hT9]; exact L.1, L.2.1⟩, L.2.2.F hT9⟩) L.2.2.2.2 dk_X6_isPointNearest_49 hlocks))
    · skip
      refine lv_if_eq (tgt := 44) hx hb dk_X6_isPointNearest_22 (by decide) (fun c9 => absurd c9 (by decide)) (fun _ => ?_)
      refine lv_aload_n hx hb dk_X6_isPointNearest_25 rfl (lv_at hl 0 rfl) ?_
      refine lv_aload_n hx hb dk_X6_isPointNearest_26 rfl (lv_at hl 2 rfl) ?_
      refine kx_get (v := .int (dt.bc pj)) G L (en_FTX6_ok (211, 6, 1) (by decide)) hwb fb1 dk_X6_isPointNearest_27 ?_
      refine lv_topi (fun y4 ey4 => ?_)
      obtain rfl : y4 = (nI k) := ey4.trans (ek)
      refine kx_cV (As := [.int (nI k)]) (rest := []) (q := (68 + 2 * dt.hn)) (ci := 9) G L (kx_X3_nearestPoint hl9 D (kx_D1 L) ht1 hhh hgk hbk (ll := k) hk6) gc_RX6_316v hhh rfl rfl rfl (hml.trans hl.1.symm) ⟨Nat.le_of_ble_eq_true rfl, Nat.le_of_ble_eq_true rfl⟩ ⟨Nat.le_of_ble_eq_true rfl, Nat.le_of_ble_eq_true rfl⟩ (Nat.le_of_ble_eq_true rfl) dk_X6_isPointNearest_30 (fun _ _ _ _ _ h9 => h9.elim) (fun res w5 H locs hrv hq5 L => ?_)
      obtain ⟨ew5, hq5⟩ := hq5
      have ew5 := ew5.symm
      subst ew5
      obtain ⟨ra, rfl, hra⟩ := hq5
      refine lv_aload_n hx hb dk_X6_isPointNearest_33 rfl (lv_at hl 0 rfl) ?_
      refine lv_aload_n hx hb dk_X6_isPointNearest_34 rfl (lv_at hl 2 rfl) ?_
      refine kx_get (v := .int (dt.bc pj)) G L (en_FTX6_ok (211, 6, 1) (by decide)) hwb fb1 dk_X6_isPointNearest_35 ?_
      refine lv_topi (fun y6 ey6 => ?_)
      obtain rfl : y6 = (nI k) := ey6.trans (ek)
      refine kx_cV (As := [.int (nI k)]) (rest := [.int ra]) (q := (68 + 2 * dt.hn)) (ci := 9) G L (kx_X3_pointByRisingDistances hl9 D (kx_D1 L) ht1 hhh hgk hbk (ll := k) hk6) gc_RX6_601v hhh rfl rfl rfl (hml.trans hl.1.symm) ⟨Nat.le_of_ble_eq_true rfl, Nat.le_of_ble_eq_true rfl⟩ ⟨Nat.le_of_ble_eq_true rfl, Nat.le_of_ble_eq_true rfl⟩ (Nat.le_of_ble_eq_true rfl) dk_X6_isPointNearest_38 (fun _ _ _ _ _ h9 => h9.elim) (fun res w7 H locs hrv hq7 L => ?_)
      obtain ⟨ew7, hq7⟩ := hq7
      have ew7 := ew7.symm
      subst ew7
      obtain ⟨rb, rfl, hrb⟩ := hq7
      refine lv_icmp_ne (tgt := 48) hx hb dk_X6_isPointNearest_41 (by decide) (fun c8 => ?_) (fun c8 => ?_)
      · skip
        have tc8 : ¬ (ra : Int32).toInt = (rb : Int32).toInt := fun h => c8 (Int32.toInt_inj.mp h)
        exact absurd (ks_np_u hra hrb) c8
      · skip
        have tc8 : (ra : Int32).toInt = (rb : Int32).toInt := by rw [c8]
        refine lv_iconst (v := 1) hx hb dk_X6_isPointNearest_44 (by decide) ?_
        refine lv_goto (tgt := 49) hx hb dk_X6_isPointNearest_45 (by decide) ?_
        exact vx_ret (W.widen (Nat.le_of_ble_eq_true rfl) (Nat.le_of_ble_eq_true rfl) (W.zret (v := 1) (ty := .boolean) hx hb hr (by decide) (fun T9 hT9 _ => ⟨⟨1, w, rfl, ⟨rfl, rfl⟩, by rw [hT9]; exact L.1, L.2.1⟩, L.2.2.F hT9⟩) L.2.2.2.2 dk_X6_isPointNearest_49 hlocks))
set_option maxHeartbeats 4000000 in
theorem kx_X6_needPlayer {l : Launch} (hl9 : l.stackTraces = false) (D : va_G) {tys : List (ClassId × FieldType)} {sh : en_H} {w : va_W} {sz : Nat} (hD0 : va_D (va_A w sz) w) {dt : ks_D} {a1 : Int32} (hX : ks_X tys sh w dt) : kx_C l yX6_needPlayer cX6_needPlayer 2 none 0 1 6 2 [.ref (sh.2 66), .int a1] D tys w sz (fun res w1 => w1 = w ∧ 0 ≤ a1.toInt ∧ a1.toInt < (dt.pc : Int)) (fun E => E = en_xn 3) := by
  refine vx_ofW (cc := cX6_needPlayer) (maxL := 2) (ret := none) (by decide +kernel) rfl ?_
  intro p e s m args below meth c s₁ B9 hml hne hv
  obtain ⟨rfl, hsz, hP, hK, hT⟩ := hv
  subst hsz
  have hx := B9.exec
  have hb := B9.bytes
  have hr := B9.returns
  have hlocks := B9.notSynchronized
  have hts0 := atoms_spec (ws := Cond.code yX6_needPlayer cX6_needPlayer 2 none :: en_cw) B9.pre
  have hts : ∀ z ∈ en_cw, z.before _ s = true := fun z hz => hts0 z (List.mem_cons_of_mem _ hz)
  have hown : s.vm.findClass RX6 = some m.cls := findClass_of_methodNamed B9.named
  have G : kx_G p s m ([.ref (sh.2 66), .int a1] : List Value).toArray c cX6_needPlayer RX6 D tys (va_A w s.heap.size) := ⟨hx, hb, hts, hown, hK, hT, fun q h => Or.inr h⟩
  have L : kx_H D (va_A w s.heap.size) s w s.heap [] := ⟨hP, ⟨hD0.1, fun j z hz => Or.inl ⟨j, z.2, hz⟩⟩, va_S.rf⟩
  have hl := lv_entry ([.ref (sh.2 66), .int a1] : List Value) (n := 2) (Nat.le_of_ble_eq_true rfl)
  rw [lg_entry_eq]
  generalize (lg_sl ([.ref (sh.2 66), .int a1] : List Value) ++ List.replicate (2 - (lg_sl ([.ref (sh.2 66), .int a1] : List Value)).length) Slot.unset).toArray = ls at hl ⊢
  have hl : lv_has ls 2 [(0, .ref (sh.2 66)), (1, .int a1)] := hl
  have hc9 := hX.hc9
  have pc6 := hX.pc6
  have hn9 := hX.hn9
  refine lv_iload_n hx hb dk_X6_needPlayer_0 rfl (lv_at hl 1 rfl) ?_
  have k2 : (0 : Int32).toInt = 0 := by decide
  refine lv_if_lt (tgt := 12) hx hb dk_X6_needPlayer_1 (by decide) (fun c1 => ?_) (fun c1 => ?_)
  · skip
    have tc1 : (a1 : Int32).toInt < (0 : Int32).toInt := Int32.lt_iff_toInt_lt.mp c1
    exact kx_thr (en_tx3 hl9) G L (List.mem_of_getElem? (i := tf_ix 568) rfl) (hl.1.trans hml.symm) dk_X6_needPlayer_12 dk_X6_needPlayer_15 (Or.inr ⟨dk_X6_needPlayer_16, dk_X6_needPlayer_19, dk_X6_needPlayer_22⟩) hne (Nat.le_of_ble_eq_true rfl) (Nat.le_of_ble_eq_true rfl) (Nat.le_of_ble_eq_true rfl) (Nat.le_of_ble_eq_true rfl) hlocks (rfl) (Nat.le_of_ble_eq_true rfl) (Nat.le_of_ble_eq_true rfl)
  · skip
    have tc1 : ¬ (a1 : Int32).toInt < (0 : Int32).toInt := fun h => c1 (Int32.lt_iff_toInt_lt.mpr h)
    refine lv_iload_n hx hb dk_X6_needPlayer_4 rfl (lv_at hl 1 rfl) ?_
    refine lv_aload_n hx hb dk_X6_needPlayer_5 rfl (lv_at hl 0 rfl) ?_
    refine kx_get (v := .int (nI dt.pc)) G L (en_FTX6_ok (122, 12, 5) (by decide)) hX.o hX.f5 dk_X6_needPlayer_6 ?_
    have k4 : (nI dt.pc).toInt = (((dt.pc) : Nat) : Int) := kx_nI (by omega)
    refine lv_icmp_lt (tgt := 23) hx hb dk_X6_needPlayer_9 (by decide) (fun c3 => ?_) (fun c3 => ?_)
    · skip
      have tc3 : (a1 : Int32).toInt < ((nI dt.pc) : Int32).toInt := Int32.lt_iff_toInt_lt.mp c3
      exact vx_ret (W.widen (Nat.le_of_ble_eq_true rfl) (Nat.le_of_ble_eq_true rfl) (W.vret hx hb hr (fun T9 hT9 _ => ⟨⟨w, rfl, ⟨rfl, by omega, by omega⟩, by rw [hT9]; exact L.1, L.2.1⟩, L.2.2.F hT9⟩) L.2.2.2.2 dk_X6_needPlayer_23 hlocks))
    · skip
      have tc3 : ¬ (a1 : Int32).toInt < ((nI dt.pc) : Int32).toInt := fun h => c3 (Int32.lt_iff_toInt_lt.mpr h)
      exact kx_thr (en_tx3 hl9) G L (List.mem_of_getElem? (i := tf_ix 568) rfl) (hl.1.trans hml.symm) dk_X6_needPlayer_12 dk_X6_needPlayer_15 (Or.inr ⟨dk_X6_needPlayer_16, dk_X6_needPlayer_19, dk_X6_needPlayer_22⟩) hne (Nat.le_of_ble_eq_true rfl) (Nat.le_of_ble_eq_true rfl) (Nat.le_of_ble_eq_true rfl) (Nat.le_of_ble_eq_true rfl) hlocks (rfl) (Nat.le_of_ble_eq_true rfl) (Nat.le_of_ble_eq_true rfl)
