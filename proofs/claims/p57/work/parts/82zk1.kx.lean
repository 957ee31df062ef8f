/-! the class's own check of itself: pure. Forms -/
def ks_mi (a b : Int32) : Int32 := if b < a then b else a
def ks_fd (x y : Int32) : Int32 := if 0 ≤ x ^^^ y then x / y else if x / y * y = x then x / y else x / y - 1
theorem ks_mi_1 {a b : Int32} (h : b < a) : ks_mi a b = b := if_pos h
theorem ks_mi_0 {a b : Int32} (h : ¬ b < a) : ks_mi a b = a := if_neg h
theorem ks_fd_1 {x y : Int32} (h : 0 ≤ x ^^^ y) : ks_fd x y = x / y := if_pos h
theorem ks_fd_2 {x y : Int32} (h : ¬ 0 ≤ x ^^^ y) (h2 : x / y * y = x) : ks_fd x y = x / y := by unfold ks_fd; rw [if_neg h, if_pos h2]
theorem ks_fd_3 {x y : Int32} (h : ¬ 0 ≤ x ^^^ y) (h2 : ¬ x / y * y = x) : ks_fd x y = x / y - 1 := by unfold ks_fd; rw [if_neg h, if_neg h2]
/-- how many of the first k of a row stand ahead of the j-th -/
def ks_ha (g : Nat → Int32) (j : Nat) : Nat → Nat
  | 0 => 0
  | k + 1 => ks_ha g j k + (if (g k).toInt < (g j).toInt ∨ (g k = g j ∧ k < j) then 1 else 0)
theorem ks_ha_0 {g : Nat → Int32} {j : Nat} : ks_ha g j 0 = 0 := by rw [ks_ha]
theorem ks_ha_s {g : Nat → Int32} {j k : Nat} : ks_ha g j (k + 1) = ks_ha g j k + (if (g k).toInt < (g j).toInt ∨ (g k = g j ∧ k < j) then 1 else 0) := by rw [ks_ha]
theorem ks_ha_1 {g : Nat → Int32} {j k : Nat} (h : (g k).toInt < (g j).toInt ∨ (g k = g j ∧ k < j)) : ks_ha g j (k + 1) = ks_ha g j k + 1 := by rw [ks_ha_s, if_pos h]
theorem ks_ha_2 {g : Nat → Int32} {j k : Nat} (h : ¬ ((g k).toInt < (g j).toInt ∨ (g k = g j ∧ k < j))) : ks_ha g j (k + 1) = ks_ha g j k := by rw [ks_ha_s, if_neg h, Nat.add_zero]
theorem ks_ha_le {g : Nat → Int32} {j : Nat} (k : Nat) : ks_ha g j k ≤ k := by
  induction k with
  | zero => exact Nat.le_of_eq ks_ha_0
  | succ k ih =>
    rw [ks_ha_s]
    split <;> omega
def ks_hm (n : Nat) : Nat := if 19 ≤ n then n - 12 else if 15 ≤ n then (if 17 ≤ n then 6 else 5) else if 9 ≤ n then (if 12 ≤ n then 4 else 3) else if 6 ≤ n then 2 else 1
theorem ks_hm_b {n : Nat} (h : n ≤ 20) : 1 ≤ ks_hm n ∧ ks_hm n ≤ 8 := by
  unfold ks_hm
  split
  · omega
  split
  · split <;> omega
  split
  · split <;> omega
  split <;> omega
/-- the sum of those that count -/
def ks_sm (g : Nat → Int32) (n : Nat) : Nat → Int32
  | 0 => 0
  | k + 1 => if ks_ha g k n < ks_hm n then ks_sm g n k + g k else ks_sm g n k
theorem ks_sm_0 {g : Nat → Int32} {n : Nat} : ks_sm g n 0 = 0 := by rw [ks_sm]
theorem ks_sm_1 {g : Nat → Int32} {n k : Nat} (h : ks_ha g k n < ks_hm n) : ks_sm g n (k + 1) = ks_sm g n k + g k := by rw [ks_sm, if_pos h]
theorem ks_sm_2 {g : Nat → Int32} {n k : Nat} (h : ¬ ks_ha g k n < ks_hm n) : ks_sm g n (k + 1) = ks_sm g n k := by rw [ks_sm, if_neg h]
def ks_mn (g : Nat → Int32) (n : Nat) : Int32 := ks_fd (ks_sm g n n) (nI (ks_hm n))
def ks_bd (lo m : Int32) : Int32 := if 30 < m - lo then lo + ks_mi 50 (30 + (m - lo - 30) / 2) else m
theorem ks_bd_1 {lo m : Int32} (h : 30 < m - lo) : ks_bd lo m = lo + ks_mi 50 (30 + (m - lo - 30) / 2) := if_pos h
theorem ks_bd_0 {lo m : Int32} (h : ¬ 30 < m - lo) : ks_bd lo m = m := if_neg h
/-- what a form keeps: nothing posted, or the index is no more than the mean as bounded by the low one, which is no more than the index, and no giant -/
def ks_ok (g : Nat → Int32) (n : Nat) (ix lo : Int32) : Prop := n = 0 ∨ (ix.toInt ≤ (ks_bd lo (ks_mn g n)).toInt ∧ lo.toInt ≤ ix.toInt ∧ lo.toInt ≤ 40000000)
theorem ks_bd_self {m : Int32} : ks_bd m m = m := by
  refine ks_bd_0 fun h => ?_
  have h9 := Int32.lt_iff_toInt_lt.mp h
  rw [Int32.toInt_sub, Int.sub_self, show (30 : Int32).toInt = 30 from rfl, en_b32 (by omega) (by omega)] at h9
  omega
theorem ks_div1 {x : Int32} : x / 1 = x := by
  apply Int32.toInt_inj.mp
  rw [Int32.toInt_div_of_ne_right x 1 (by decide), show (1 : Int32).toInt = 1 from rfl, Int.tdiv_one]
theorem ks_fd1 {x : Int32} : ks_fd x 1 = x := by
  by_cases h : 0 ≤ x ^^^ 1
  · rw [ks_fd_1 h, ks_div1]
  · rw [ks_fd_2 h (by rw [ks_div1, Int32.mul_one]), ks_div1]
theorem ks_mn1 {g : Nat → Int32} : ks_mn g 1 = g 0 := by
  have e1 : ks_hm 1 = 1 := by decide
  have e2 : ks_ha g 0 1 = 0 := (ks_ha_2 (k := 0) (fun h => by
    rcases h with h | h
    · omega
    · exact absurd h.2 (Nat.lt_irrefl 0))).trans ks_ha_0
  have e3 : ks_sm g 1 1 = ks_sm g 1 0 + g 0 := ks_sm_1 (k := 0) (by rw [e2, e1]; decide)
  unfold ks_mn
  rw [e1, e3, ks_sm_0, Int32.zero_add, show nI 1 = 1 from rfl, ks_fd1]
theorem ks_first {g : Nat → Int32} (h : (g 0).toInt ≤ 40000000) : ks_ok g 1 (ks_mn g 1) (ks_mn g 1) := Or.inr ⟨Int.le_of_eq (by rw [ks_bd_self]), Int.le_refl _, by rw [ks_mn1]; exact h⟩
theorem ks_mi_le {a b : Int32} : (ks_mi a b).toInt ≤ a.toInt ∧ (ks_mi a b).toInt ≤ b.toInt := by
  by_cases h : b < a
  · have h9 := Int32.lt_iff_toInt_lt.mp h
    rw [ks_mi_1 h]
    omega
  · have h9 : ¬ b.toInt < a.toInt := fun h8 => h (Int32.lt_iff_toInt_lt.mpr h8)
    rw [ks_mi_0 h]
    omega
theorem ks_next {g : Nat → Int32} {n : Nat} {lo : Int32} (h : lo.toInt ≤ 40000000) : ks_ok g n (ks_bd lo (ks_mn g n)) (ks_mi lo (ks_bd lo (ks_mn g n))) := by
  unfold ks_ok
  generalize ks_mn g n = m
  refine Or.inr ⟨?_, ?_, ?_⟩
  · by_cases h1 : ks_bd lo m < lo
    · rw [ks_mi_1 h1]
      by_cases h2 : 30 < m - lo
      · exfalso
        have h3 := Int32.lt_iff_toInt_lt.mp h2
        have h4 := Int32.lt_iff_toInt_lt.mp h1
        rw [ks_bd_1 h2] at h4
        have k30 : (30 : Int32).toInt = 30 := rfl
        have k50 : (50 : Int32).toInt = 50 := rfl
        have hu := en_hi (m - lo)
        have l1 := en_lo lo
        have e1 : (m - lo - 30).toInt = (m - lo).toInt - 30 := by rw [Int32.toInt_sub, k30, en_b32 (by omega) (by omega)]
        have e2 : ((m - lo - 30) / 2).toInt = ((m - lo).toInt - 30) / 2 := by rw [Int32.toInt_div_of_ne_right _ 2 (by decide), e1, show (2 : Int32).toInt = 2 from rfl, Int.tdiv_eq_ediv_of_nonneg (by omega)]
        have e3 : (30 + (m - lo - 30) / 2).toInt = 30 + ((m - lo).toInt - 30) / 2 := by rw [Int32.toInt_add, k30, e2, en_b32 (by omega) (by omega)]
        have e4 : 30 ≤ (ks_mi 50 (30 + (m - lo - 30) / 2)).toInt := by
          by_cases h5 : (30 + (m - lo - 30) / 2) < 50
          · rw [ks_mi_1 h5, e3]
            omega
          · rw [ks_mi_0 h5, k50]
            omega
        have e5 := (ks_mi_le (a := 50) (b := 30 + (m - lo - 30) / 2)).1
        rw [Int32.toInt_add, en_b32 (by omega) (by omega)] at h4
        omega
      · rw [ks_bd_0 h2, ks_bd_self] <;> exact Int.le_refl _
    · rw [ks_mi_0 h1] <;> exact Int.le_refl _
  · exact ks_mi_le.2
  · exact Int.le_trans ks_mi_le.1 h
/-- a difference is no giant, however its parts wrap around -/
theorem ks_diff {x y w : Int32} (hy : 55 ≤ y.toInt) (h1 : -1 ≤ w.toInt) (h2 : w.toInt ≤ 3) : (ks_fd x y - 10 * w).toInt ≤ 40000000 := by
  have ed : (x / y).toInt = x.toInt.tdiv y.toInt := Int32.toInt_div_of_ne_right x y (en_1nm (by omega))
  have hu := en_hi x
  have hl := en_lo x
  have m1 := Int.tmod_add_tdiv_mul x.toInt y.toInt
  have b1 : x.toInt.tdiv y.toInt ≤ 39045157 := by
    rcases Int.lt_or_le x.toInt 0 with h | h
    · have g1 := Int.neg_tdiv (-x.toInt) y.toInt
      rw [Int.neg_neg] at g1
      have g2 := Int.tdiv_nonneg (a := -x.toInt) (b := y.toInt) (by omega) (by omega)
      omega
    · rw [Int.tdiv_eq_ediv_of_nonneg h]
      have g3 : x.toInt / y.toInt ≤ x.toInt / 55 := by
        refine (Int.le_ediv_iff_mul_le (by decide)).mpr ?_
        have g4 := Int.ediv_mul_le x.toInt (b := y.toInt) (by omega)
        have g5 : x.toInt / y.toInt * 55 ≤ x.toInt / y.toInt * y.toInt := Int.mul_le_mul_of_nonneg_left hy (Int.ediv_nonneg h (by omega))
        omega
      omega
  have b2 : -39045158 ≤ x.toInt.tdiv y.toInt := by
    rcases Int.lt_or_le x.toInt 0 with h | h
    · have g1 := Int.neg_tdiv (-x.toInt) y.toInt
      have g0 : (-x.toInt).tdiv y.toInt = -x.toInt / y.toInt := Int.tdiv_eq_ediv_of_nonneg (by omega)
      rw [Int.neg_neg, g0] at g1
      have g3 : -x.toInt / y.toInt ≤ -x.toInt / 55 := by
        refine (Int.le_ediv_iff_mul_le (by decide)).mpr ?_
        have g4 := Int.ediv_mul_le (-x.toInt) (b := y.toInt) (by omega)
        have g5 : -x.toInt / y.toInt * 55 ≤ -x.toInt / y.toInt * y.toInt := Int.mul_le_mul_of_nonneg_left hy (Int.ediv_nonneg (by omega) (by omega))
        omega
      omega
    · have g2 := Int.tdiv_nonneg (a := x.toInt) (b := y.toInt) h (by omega)
      omega
  have f1 : (ks_fd x y).toInt ≤ 39045157 ∧ -39045159 ≤ (ks_fd x y).toInt := by
    by_cases h : 0 ≤ x ^^^ y
    · rw [ks_fd_1 h, ed]
      omega
    · by_cases h3 : x / y * y = x
      · rw [ks_fd_2 h h3, ed]
        omega
      · rw [ks_fd_3 h h3, Int32.toInt_sub, ed, show (1 : Int32).toInt = 1 from rfl, en_b32 (by omega) (by omega)]
        omega
  have e10 : (10 * w).toInt = 10 * w.toInt := by rw [Int32.toInt_mul, show (10 : Int32).toInt = 10 from rfl, en_b32 (by omega) (by omega)]
  rw [Int32.toInt_sub, e10, en_b32 (by omega) (by omega)]
  omega
/-! cells -/
def ks_sq (a b : Nat) : Nat := (a - b) * (a - b) + (b - a) * (b - a)
theorem ks_sq_c {a b : Nat} : ks_sq a b = ks_sq b a := Nat.add_comm _ _
theorem ks_sq_a {a k : Nat} : ks_sq a (a + k) = k * k := by
  unfold ks_sq
  rw [show a - (a + k) = 0 by omega, Nat.add_sub_cancel_left, Nat.zero_mul, Nat.zero_add]
theorem ks_sq_le {a b n : Nat} (ha : a ≤ n) (hb : b ≤ n) : ks_sq a b ≤ n * n := by
  rcases Nat.le_total a b with h | h
  · obtain ⟨k, rfl⟩ := Nat.exists_eq_add_of_le h
    rw [ks_sq_a]
    exact Nat.mul_le_mul (by omega) (by omega)
  · obtain ⟨k, rfl⟩ := Nat.exists_eq_add_of_le h
    rw [ks_sq_c, ks_sq_a]
    exact Nat.mul_le_mul (by omega) (by omega)
theorem ks_sqI {p q : Nat} : ((p : Int) - (q : Int)) * ((p : Int) - (q : Int)) = ((ks_sq p q : Nat) : Int) := by
  rcases Nat.le_total p q with h | h
  · obtain ⟨k, rfl⟩ := Nat.exists_eq_add_of_le h
    rw [ks_sq_a, show (p : Int) - ((p + k : Nat) : Int) = -(k : Int) by omega, Int.neg_mul_neg] <;> rfl
  · obtain ⟨k, rfl⟩ := Nat.exists_eq_add_of_le h
    rw [ks_sq_c, ks_sq_a, show ((q + k : Nat) : Int) - (q : Int) = (k : Int) by omega] <;> rfl
theorem ks_sub {p q : Nat} (hp : p < 1000000) (hq : q < 1000000) : (nI p - nI q).toInt = (p : Int) - (q : Int) := by
  rw [Int32.toInt_sub, kx_nI hp, kx_nI hq]
  exact en_b32 (by omega) (by omega)
theorem ks_mulsq {p q : Nat} (hp : p < 30) (hq : q < 30) : (nI p - nI q) * (nI p - nI q) = nI (ks_sq p q) := by
  have h9 := ks_sq_le (n := 29) (show p ≤ 29 by omega) (show q ≤ 29 by omega)
  apply Int32.toInt_inj.mp
  rw [Int32.toInt_mul, ks_sub (by omega) (by omega), ks_sqI, kx_nI (by omega)]
  exact en_b32 (by omega) (by omega)
theorem ks_mul {a b : Nat} (ha : a ≤ 999) (hb : b ≤ 999) : nI a * nI b = nI (a * b) := by
  have h9 : a * b ≤ 999 * 999 := Nat.mul_le_mul ha hb
  apply Int32.toInt_inj.mp
  rw [Int32.toInt_mul, kx_nI (by omega), kx_nI (by omega), kx_nI (by omega), show (a : Int) * (b : Int) = ((a * b : Nat) : Int) from rfl]
  exact en_b32 (by omega) (by omega)
theorem ks_add {a b : Nat} (ha : a < 500000) (hb : b < 500000) : nI a + nI b = nI (a + b) := by
  apply Int32.toInt_inj.mp
  rw [Int32.toInt_add, kx_nI (by omega), kx_nI (by omega), kx_nI (by omega), en_b32 (by omega) (by omega)]
  omega
theorem ks_subn {a b : Nat} (h : b ≤ a) (ha : a < 1000000) : nI a - nI b = nI (a - b) := by
  apply Int32.toInt_inj.mp
  rw [ks_sub ha (by omega), kx_nI (by omega)]
  omega
theorem ks_div {a : Nat} (ha : a < 1000000) : nI a / 30 = nI (a / 30) := by
  apply Int32.toInt_inj.mp
  rw [Int32.toInt_div_of_ne_right _ 30 (by decide), kx_nI ha, kx_nI (by omega), show (30 : Int32).toInt = 30 from rfl, Int.tdiv_eq_ediv_of_nonneg (by omega)] <;> omega
theorem ks_rem {a : Nat} (ha : a < 1000000) : nI a - nI a / 30 * 30 = nI (a % 30) := by
  apply Int32.toInt_inj.mp
  rw [en_remI (show (1 : Int) ≤ (30 : Int32).toInt by decide), kx_nI ha, kx_nI (by omega), show (30 : Int32).toInt = 30 from rfl, Int.tmod_eq_emod_of_nonneg (by omega)] <;> omega
/-- how far, as the class counts it -/
def ks_di (a b : Int32) : Int32 := (a - a / 30 * 30 - (b - b / 30 * 30)) * (a - a / 30 * 30 - (b - b / 30 * 30)) + (a / 30 - b / 30) * (a / 30 - b / 30)
def ks_d (a b : Nat) : Nat := ks_sq (a % 30) (b % 30) + ks_sq (a / 30) (b / 30)
theorem ks_d_le {a b : Nat} (ha : a < 600) (hb : b < 600) : ks_d a b ≤ 1202 := by
  have h1 := ks_sq_le (n := 29) (show a % 30 ≤ 29 by omega) (show b % 30 ≤ 29 by omega)
  have h2 := ks_sq_le (n := 19) (show a / 30 ≤ 19 by omega) (show b / 30 ≤ 19 by omega)
  unfold ks_d
  omega
theorem ks_di_n {a b : Nat} (ha : a < 600) (hb : b < 600) : ks_di (nI a) (nI b) = nI (ks_d a b) := by
  have h1 := ks_sq_le (n := 29) (show a % 30 ≤ 29 by omega) (show b % 30 ≤ 29 by omega)
  have h2 := ks_sq_le (n := 19) (show a / 30 ≤ 19 by omega) (show b / 30 ≤ 19 by omega)
  unfold ks_di ks_d
  rw [ks_rem (by omega), ks_rem (by omega), ks_div (by omega), ks_div (by omega), ks_mulsq (by omega) (by omega), ks_mulsq (by omega) (by omega), ks_add (by omega) (by omega)]
/-- ground that isn't the cup, no nearer the cup than another cell -/
def ks_fg (ck : Nat → Int32) (cup : Int32) (c : Nat) : Prop := ck c = 46 ∧ ¬ nI c = cup
def ks_fr (ck : Nat → Int32) (cup lie : Int32) (c : Nat) : Prop := ks_fg ck cup c ∧ (ks_di lie cup).toInt ≤ (ks_di (nI c) cup).toInt
/-- the nearest, of like ones the first -/
def ks_np (P : Nat → Prop) (l : Nat) (r : Int32) : Prop := (r = -1 ∧ ∀ c, c < 600 → ¬ P c) ∨ ∃ b, b < 600 ∧ r = nI b ∧ P b ∧ ∀ c, c < 600 → P c → ks_d l b < ks_d l c ∨ (ks_d l b = ks_d l c ∧ b ≤ c)
theorem ks_np_u {P : Nat → Prop} {l : Nat} {r s : Int32} (h1 : ks_np P l r) (h2 : ks_np P l s) : r = s := by
  rcases h1 with ⟨e1, g1⟩ | ⟨b1, l1, e1, p1, g1⟩
  · rcases h2 with ⟨e2, g2⟩ | ⟨b2, l2, e2, p2, g2⟩
    · exact e1.trans e2.symm
    · exact absurd p2 (g1 b2 l2)
  · rcases h2 with ⟨e2, g2⟩ | ⟨b2, l2, e2, p2, g2⟩
    · exact absurd p1 (g2 b1 l1)
    · have h3 := g1 b2 l2 p2
      have h4 := g2 b1 l1 p1
      rw [e1, e2, show b1 = b2 by omega]
/-- a square between two squares that follow each other is the first -/
theorem ks_root {r k q : Nat} (h1 : r * r ≤ q) (h2 : q < (r + 1) * (r + 1)) (h : k * k = q) : k = r := by
  rcases Nat.lt_trichotomy k r with h3 | h3 | h3
  · have h4 : (k + 1) * (k + 1) ≤ r * r := Nat.mul_le_mul h3 h3
    rw [Nat.add_mul, Nat.mul_add] at h4
    omega
  · exact h3
  · have h4 : (r + 1) * (r + 1) ≤ k * k := Nat.mul_le_mul h3 h3
    omega
/-- so far apart in a row -/
theorem ks_sq_r {x y r : Nat} : ks_sq x y = r * r ↔ (x + r = y ∨ x = y + r) := by
  have inj : ∀ {a b : Nat}, a * a = b * b → a = b := fun {a b} h => by
    rcases Nat.lt_trichotomy a b with h3 | h3 | h3
    · have := Nat.mul_self_lt_mul_self h3
      omega
    · exact h3
    · have := Nat.mul_self_lt_mul_self h3
      omega
  rcases Nat.le_total x y with h | h
  · obtain ⟨k, rfl⟩ := Nat.exists_eq_add_of_le h
    rw [ks_sq_a]
    refine ⟨fun e => Or.inl (by rw [inj e]), fun e => ?_⟩
    have e9 : k = r := by omega
    rw [e9]
  · obtain ⟨k, rfl⟩ := Nat.exists_eq_add_of_le h
    rw [ks_sq_c, ks_sq_a]
    refine ⟨fun e => Or.inr (by rw [inj e]), fun e => ?_⟩
    have e9 : k = r := by omega
    rw [e9]
theorem ks_d_row {l x y : Nat} (hx : x < 30) : ks_d l (y * 30 + x) = ks_sq x (l % 30) + ks_sq y (l / 30) := by
  unfold ks_d
  rw [show (y * 30 + x) % 30 = x by omega, show (y * 30 + x) / 30 = y by omega, ks_sq_c, ks_sq_c (a := l / 30)]
/-! skins -/
/-- the winner of a hole: who, how many, whether any -/
def ks_sw (wr net : Nat → Int32) : Nat → Int32 × Int32 × Int32
  | 0 => (-1, 0, 0)
  | i + 1 => if wr i = 0 then ks_sw wr net i else if (ks_sw wr net i).2.2 = 0 ∨ net i < (ks_sw wr net i).2.1 then (nI i, net i, 1) else if net i = (ks_sw wr net i).2.1 then (-1, (ks_sw wr net i).2.1, 1) else ((ks_sw wr net i).1, (ks_sw wr net i).2.1, 1)
section
variable {wr net : Nat → Int32} {k : Nat} {a b c : Int32}
theorem ks_sw_z : ks_sw wr net 0 = (-1, 0, 0) := by rw [ks_sw]
theorem ks_sw_0 (h : ks_sw wr net k = (a, b, c)) (h1 : wr k = 0) : ks_sw wr net (k + 1) = (a, b, c) := by rw [ks_sw, if_pos h1, h]
theorem ks_sw_1 (h : ks_sw wr net k = (a, b, c)) (h1 : ¬ wr k = 0) (h2 : c = 0 ∨ net k < b) : ks_sw wr net (k + 1) = (nI k, net k, 1) := by rw [ks_sw, if_neg h1, h]; exact if_pos h2
theorem ks_sw_2 (h : ks_sw wr net k = (a, b, c)) (h1 : ¬ wr k = 0) (h2 : ¬ (c = 0 ∨ net k < b)) (h3 : net k = b) : ks_sw wr net (k + 1) = (-1, b, 1) := by rw [ks_sw, if_neg h1, h]; exact (if_neg h2).trans (if_pos h3)
theorem ks_sw_3 (h : ks_sw wr net k = (a, b, c)) (h1 : ¬ wr k = 0) (h2 : ¬ (c = 0 ∨ net k < b)) (h3 : ¬ net k = b) : ks_sw wr net (k + 1) = (a, b, 1) := by rw [ks_sw, if_neg h1, h]; exact (if_neg h2).trans (if_neg h3)
end
/-- a player's skins, and how many wait -/
def ks_sk (sw : Nat → Int32) (p : Int32) : Nat → Nat × Nat
  | 0 => (0, 0)
  | h + 1 => if sw h = -1 then ((ks_sk sw p h).1, (ks_sk sw p h).2 + 1) else if sw h = p then ((ks_sk sw p h).1 + ((ks_sk sw p h).2 + 1), 0) else ((ks_sk sw p h).1, 0)
section
variable {sw : Nat → Int32} {p : Int32} {h a b : Nat}
theorem ks_sk_z : ks_sk sw p 0 = (0, 0) := by rw [ks_sk]
theorem ks_sk_0 (e : ks_sk sw p h = (a, b)) (h1 : sw h = -1) : ks_sk sw p (h + 1) = (a, b + 1) := (by rw [ks_sk, if_pos h1] : ks_sk sw p (h + 1) = ((ks_sk sw p h).1, (ks_sk sw p h).2 + 1)).trans (congrArg (fun z : Nat × Nat => (z.1, z.2 + 1)) e)
theorem ks_sk_1 (e : ks_sk sw p h = (a, b)) (h1 : ¬ sw h = -1) (h2 : sw h = p) : ks_sk sw p (h + 1) = (a + (b + 1), 0) := (by rw [ks_sk, if_neg h1, if_pos h2] : ks_sk sw p (h + 1) = ((ks_sk sw p h).1 + ((ks_sk sw p h).2 + 1), 0)).trans (congrArg (fun z : Nat × Nat => (z.1 + (z.2 + 1), 0)) e)
theorem ks_sk_2 (e : ks_sk sw p h = (a, b)) (h1 : ¬ sw h = -1) (h2 : ¬ sw h = p) : ks_sk sw p (h + 1) = (a, 0) := (by rw [ks_sk, if_neg h1, if_neg h2] : ks_sk sw p (h + 1) = ((ks_sk sw p h).1, 0)).trans (congrArg (fun z : Nat × Nat => (z.1, 0)) e)
theorem ks_sk_le (h : Nat) : (ks_sk sw p h).1 + (ks_sk sw p h).2 ≤ h := by
  induction h with
  | zero => rw [ks_sk_z] <;> exact Nat.le_refl 0
  | succ h ih =>
    obtain ⟨a, b, e⟩ : ∃ a b, ks_sk sw p h = (a, b) := ⟨_, _, rfl⟩
    rw [e] at ih
    have ih : a + b ≤ h := ih
    by_cases h1 : sw h = -1
    · rw [ks_sk_0 e h1]
      show a + (b + 1) ≤ h + 1
      omega
    · by_cases h2 : sw h = p
      · rw [ks_sk_1 e h1 h2]
        show a + (b + 1) + 0 ≤ h + 1
        omega
      · rw [ks_sk_2 e h1 h2]
        show a + 0 ≤ h + 1
        omega
theorem ks_sk_w {q : Int32} (h : Nat) : (ks_sk sw p h).2 = (ks_sk sw q h).2 := by
  induction h with
  | zero => rw [ks_sk_z, ks_sk_z]
  | succ h ih =>
    obtain ⟨a, b, e⟩ : ∃ a b, ks_sk sw p h = (a, b) := ⟨_, _, rfl⟩
    obtain ⟨a', b', e'⟩ : ∃ a b, ks_sk sw q h = (a, b) := ⟨_, _, rfl⟩
    rw [e, e'] at ih
    have ih : b = b' := ih
    by_cases h1 : sw h = -1
    · rw [ks_sk_0 e h1, ks_sk_0 e' h1]
      show b + 1 = b' + 1
      omega
    · have z1 : (ks_sk sw p (h + 1)).2 = 0 := by
        by_cases h2 : sw h = p
        · exact congrArg Prod.snd (ks_sk_1 e h1 h2)
        · exact congrArg Prod.snd (ks_sk_2 e h1 h2)
      have z2 : (ks_sk sw q (h + 1)).2 = 0 := by
        by_cases h2 : sw h = q
        · exact congrArg Prod.snd (ks_sk_1 e' h1 h2)
        · exact congrArg Prod.snd (ks_sk_2 e' h1 h2)
      rw [z1, z2]
end
/-- the skins of the first n players -/
def ks_ss (sw : Nat → Int32) (h : Nat) : Nat → Nat
  | 0 => 0
  | n + 1 => ks_ss sw h n + (ks_sk sw (nI n) h).1
theorem ks_ss_z {sw : Nat → Int32} {h : Nat} : ks_ss sw h 0 = 0 := by rw [ks_ss]
theorem ks_ss_s {sw : Nat → Int32} {h n : Nat} : ks_ss sw h (n + 1) = ks_ss sw h n + (ks_sk sw (nI n) h).1 := by rw [ks_ss]
theorem ks_ss_n {sw : Nat → Int32} {h : Nat} (h1 : ¬ sw h = -1) (n : Nat) (hn : n < 1000000) : ks_ss sw (h + 1) n ≤ ks_ss sw h n + ((ks_sk sw 0 h).2 + 1) ∧ ((∀ j, j < n → ¬ sw h = nI j) → ks_ss sw (h + 1) n ≤ ks_ss sw h n) := by
  induction n with
  | zero =>
    rw [ks_ss_z, ks_ss_z]
    exact ⟨Nat.zero_le _, fun _ => Nat.le_refl 0⟩
  | succ n ih =>
    obtain ⟨i1, i2⟩ := ih (by omega)
    obtain ⟨a, b, e⟩ : ∃ a b, ks_sk sw (nI n) h = (a, b) := ⟨_, _, rfl⟩
    have hb : (ks_sk sw 0 h).2 = b := by
      have h9 := ks_sk_w (sw := sw) (p := nI n) (q := 0) h
      rw [e] at h9
      exact h9.symm
    have s1 := ks_ss_s (sw := sw) (h := h + 1) (n := n)
    have s2 := ks_ss_s (sw := sw) (h := h) (n := n)
    rw [e] at s2
    have s2 : ks_ss sw h (n + 1) = ks_ss sw h n + a := s2
    rw [hb] at i1 ⊢
    by_cases h2 : sw h = nI n
    · rw [ks_sk_1 e h1 h2] at s1
      have s1 : ks_ss sw (h + 1) (n + 1) = ks_ss sw (h + 1) n + (a + (b + 1)) := s1
      have i3 := i2 fun j hj hz => by
        have h9 : (nI n).toInt = (nI j).toInt := by rw [← h2, hz]
        rw [kx_nI (by omega), kx_nI (by omega)] at h9
        omega
      exact ⟨by omega, fun hz => absurd h2 (hz n (Nat.lt_succ_self n))⟩
    · rw [ks_sk_2 e h1 h2] at s1
      have s1 : ks_ss sw (h + 1) (n + 1) = ks_ss sw (h + 1) n + a := s1
      refine ⟨by omega, fun hz => ?_⟩
      have i3 := i2 fun j hj => hz j (by omega)
      omega
theorem ks_ss_e {sw : Nat → Int32} {h : Nat} (h1 : sw h = -1) (n : Nat) : ks_ss sw (h + 1) n = ks_ss sw h n := by
  induction n with
  | zero => rw [ks_ss_z, ks_ss_z]
  | succ n ih =>
    obtain ⟨a, b, e⟩ : ∃ a b, ks_sk sw (nI n) h = (a, b) := ⟨_, _, rfl⟩
    have s1 := ks_ss_s (sw := sw) (h := h + 1) (n := n)
    have s2 := ks_ss_s (sw := sw) (h := h) (n := n)
    rw [ks_sk_0 e h1] at s1
    rw [e] at s2
    have s1 : ks_ss sw (h + 1) (n + 1) = ks_ss sw (h + 1) n + a := s1
    have s2 : ks_ss sw h (n + 1) = ks_ss sw h n + a := s2
    omega
theorem ks_ss_le {sw : Nat → Int32} {n : Nat} (hn : n < 1000000) (h : Nat) : ks_ss sw h n + (ks_sk sw 0 h).2 ≤ h := by
  induction h with
  | zero =>
    have e : ∀ n, ks_ss sw 0 n = 0 := fun n => by
      induction n with
      | zero => exact ks_ss_z
      | succ n ih =>
        have s := ks_ss_s (sw := sw) (h := 0) (n := n)
        rw [ih, ks_sk_z] at s
        exact s
    rw [e, ks_sk_z] <;> exact Nat.le_refl 0
  | succ h ih =>
    obtain ⟨a, b, e⟩ : ∃ a b, ks_sk sw 0 h = (a, b) := ⟨_, _, rfl⟩
    rw [e] at ih
    have ih : ks_ss sw h n + b ≤ h := ih
    by_cases h1 : sw h = -1
    · rw [ks_ss_e h1, ks_sk_0 e h1]
      show ks_ss sw h n + (b + 1) ≤ h + 1
      omega
    · have g := (ks_ss_n h1 n hn).1
      rw [e] at g
      have g : ks_ss sw (h + 1) n ≤ ks_ss sw h n + (b + 1) := g
      have z : (ks_sk sw 0 (h + 1)).2 = 0 := by
        by_cases h2 : sw h = 0
        · exact congrArg Prod.snd (ks_sk_1 e h1 h2)
        · exact congrArg Prod.snd (ks_sk_2 e h1 h2)
      rw [z]
      omega
/-! the nearest point, cell by cell -/
def ks_nq (P : Nat → Prop) (l k : Nat) (r x : Int32) : Prop := (r = -1 ∧ ∀ c, c < k → ¬ P c) ∨ ∃ b, b < k ∧ r = nI b ∧ x = nI (ks_d l b) ∧ P b ∧ ∀ c, c < k → P c → ks_d l b < ks_d l c ∨ (ks_d l b = ks_d l c ∧ b ≤ c)
section
variable {P : Nat → Prop} {l k : Nat} {r x : Int32}
theorem ks_nq_z : ks_nq P l 0 (-1) 0 := Or.inl ⟨rfl, fun c h => absurd h (Nat.not_lt_zero c)⟩
theorem ks_nq_0 (h : ks_nq P l k r x) (hp : ¬ P k) : ks_nq P l (k + 1) r x := by
  rcases h with ⟨h1, h2⟩ | ⟨b, h1, h2, h3, h4, h5⟩
  · refine Or.inl ⟨h1, fun c hc => ?_⟩
    rcases Nat.lt_or_ge c k with g | g
    · exact h2 c g
    · rw [show c = k by omega]
      exact hp
  · refine Or.inr ⟨b, by omega, h2, h3, h4, fun c hc hq => ?_⟩
    rcases Nat.lt_or_ge c k with g | g
    · exact h5 c g hq
    · rw [show c = k by omega] at hq
      exact absurd hq hp
theorem ks_nq_1 (h : ks_nq P l k r x) (hp : P k) (hk : k < 600) (hr : r = -1) : ks_nq P l (k + 1) (nI k) (nI (ks_d l k)) := by
  rcases h with ⟨h1, h2⟩ | ⟨b, h1, h2, h3, h4, h5⟩
  · refine Or.inr ⟨k, Nat.lt_succ_self k, rfl, rfl, hp, fun c hc hq => ?_⟩
    rcases Nat.lt_or_ge c k with g | g
    · exact absurd hq (h2 c g)
    · rw [show c = k by omega]
      exact Or.inr ⟨rfl, Nat.le_refl k⟩
  · exfalso
    have e := congrArg Int32.toInt (h2.symm.trans hr)
    rw [kx_nI (by omega), show ((-1) : Int32).toInt = -1 from by decide] at e
    omega
theorem ks_nq_2 (h : ks_nq P l k r x) (hp : P k) (hk : k < 600) (hl6 : l < 600) (hr : ¬ r = -1) (hlt : (nI (ks_d l k)).toInt < x.toInt) : ks_nq P l (k + 1) (nI k) (nI (ks_d l k)) := by
  rcases h with ⟨h1, h2⟩ | ⟨b, h1, h2, h3, h4, h5⟩
  · exact absurd h1 hr
  · have d1 := ks_d_le hl6 hk
    have d2 := ks_d_le hl6 (show b < 600 by omega)
    rw [h3, kx_nI (by omega), kx_nI (by omega)] at hlt
    refine Or.inr ⟨k, Nat.lt_succ_self k, rfl, rfl, hp, fun c hc hq => ?_⟩
    rcases Nat.lt_or_ge c k with g | g
    · have g5 := h5 c g hq
      exact Or.inl (by omega)
    · rw [show c = k by omega]
      exact Or.inr ⟨rfl, Nat.le_refl k⟩
theorem ks_nq_3 (h : ks_nq P l k r x) (hk : k < 600) (hl6 : l < 600) (hr : ¬ r = -1) (hge : x.toInt ≤ (nI (ks_d l k)).toInt) : ks_nq P l (k + 1) r x := by
  rcases h with ⟨h1, h2⟩ | ⟨b, h1, h2, h3, h4, h5⟩
  · exact absurd h1 hr
  · have d1 := ks_d_le hl6 hk
    have d2 := ks_d_le hl6 (show b < 600 by omega)
    rw [h3, kx_nI (by omega), kx_nI (by omega)] at hge
    refine Or.inr ⟨b, by omega, h2, h3, h4, fun c hc hq => ?_⟩
    rcases Nat.lt_or_ge c k with g | g
    · exact h5 c g hq
    · rw [show c = k by omega]
      omega
theorem ks_nq_e (h : ks_nq P l 600 r x) : ks_np P l r := by
  rcases h with h | ⟨b, h1, h2, -, h4, h5⟩
  · exact Or.inl h
  · exact Or.inr ⟨b, h1, h2, h4, h5⟩
end
theorem ks_r34 {r q : Nat} (h : r * r ≤ q) (hq : q ≤ 1202) : r ≤ 34 := by
  rcases Nat.lt_or_ge 34 r with h1 | h1
  · have h2 : 35 * 35 ≤ r * r := Nat.mul_le_mul h1 h1
    omega
  · exact h1
/-- so far is no row's cell, if that is no square -/
theorem ks_no {x y r q : Nat} (h1 : r * r ≤ q) (h2 : q < (r + 1) * (r + 1)) (h : ks_sq x y = q) : r * r = q := by
  have go : ∀ k : Nat, k * k = q → r * r = q := fun k e => by rw [← ks_root h1 h2 e]; exact e
  rcases Nat.le_total x y with h3 | h3
  · obtain ⟨k, rfl⟩ := Nat.exists_eq_add_of_le h3
    exact go k ((ks_sq_a (a := x)).symm.trans h)
  · obtain ⟨k, rfl⟩ := Nat.exists_eq_add_of_le h3
    exact go k (((ks_sq_a (a := y)).symm.trans ks_sq_c).trans h)
theorem ks_decI {k : Nat} (h : k < 1000000) : nI (k + 1) + Int32.ofInt (-1) = nI k := by
  apply Int32.toInt_inj.mp
  rw [Int32.toInt_add, kx_nI h, nI_toInt (by omega), show (Int32.ofInt (-1)).toInt = -1 from by decide, en_b32 (by omega) (by omega)]
  omega
/-- a row more, where none is so far -/
theorem ks_row {P : Nat → Prop} {l y f : Nat} (h0 : ∀ c, c < y * 30 → P c → ¬ ks_d l c = f) (h1 : ∀ x, x < 30 → P (y * 30 + x) → ¬ ks_sq x (l % 30) + ks_sq y (l / 30) = f) : ∀ c, c < (y + 1) * 30 → P c → ¬ ks_d l c = f := fun c hc hp => by
  rcases Nat.lt_or_ge c (y * 30) with h | h
  · exact h0 c h hp
  · obtain ⟨x, hx, rfl⟩ : ∃ x, x < 30 ∧ c = y * 30 + x := ⟨c - y * 30, by omega, by omega⟩
    rw [ks_d_row hx]
    exact h1 x hx hp
/-- the first of a row, where none is so far ahead of it -/
theorem ks_rowf {P : Nat → Prop} {l y f x : Nat} (hx : x < 30) (h0 : ∀ c, c < y * 30 → P c → ¬ ks_d l c = f) (h1 : ∀ x9, x9 < 30 → P (y * 30 + x9) → ks_sq x9 (l % 30) + ks_sq y (l / 30) = f → x ≤ x9) : ∀ c, c < y * 30 + x → P c → ¬ ks_d l c = f := fun c hc hp => by
  rcases Nat.lt_or_ge c (y * 30) with h | h
  · exact h0 c h hp
  · obtain ⟨x9, h9, rfl⟩ : ∃ x9, x9 < 30 ∧ c = y * 30 + x9 := ⟨c - y * 30, by omega, by omega⟩
    rw [ks_d_row h9]
    intro e9
    have := h1 x9 h9 hp e9
    omega
