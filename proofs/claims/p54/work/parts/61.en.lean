/-! the engine: numbers -/
abbrev en_R : Type := Int × Int × Option Int
def en_top : en_R := (-2147483648, 2147483647, none)
theorem en_b32 {z : Int} (h1 : -2147483648 ≤ z) (h2 : z ≤ 2147483647) : z.bmod (2 ^ 32) = z := by
  rw [Int.bmod_eq_of_le (by omega) (by omega)]
/-- a bound on a binary operation: it may also say that the result is the first operand plus a number -/
def en_s2 (f : (Int × Int) → (Int × Int) → Option en_R) (op : Int32 → Int32 → Int32) (P : Int32 → Prop) : Prop :=
  ∀ (a b : (Int × Int)) (r : en_R) (x y : Int32), f a b = some r → a.1 ≤ x.toInt → x.toInt ≤ a.2 → b.1 ≤ y.toInt → y.toInt ≤ b.2 →
    P y ∧ r.1 ≤ (op x y).toInt ∧ (op x y).toInt ≤ r.2.1 ∧ ∀ k, r.2.2 = some k → (op x y).toInt = x.toInt + k
def en_s1 (f : (Int × Int) → Option en_R) (op : Int32 → Int32) : Prop :=
  ∀ (a : (Int × Int)) (r : en_R) (x : Int32), f a = some r → a.1 ≤ x.toInt → x.toInt ≤ a.2 → r.1 ≤ (op x).toInt ∧ (op x).toInt ≤ r.2.1 ∧ ∀ k, r.2.2 = some k → (op x).toInt = x.toInt + k
theorem en_top_ok {x z : Int32} {r : en_R} (h : en_top = r) : r.1 ≤ z.toInt ∧ z.toInt ≤ r.2.1 ∧ ∀ k, r.2.2 = some k → z.toInt = x.toInt + k := by
  subst h
  exact ⟨en_lo z, en_hi z, fun k hk => by cases hk⟩
def en_add (a b : (Int × Int)) : Option en_R := if -2147483648 ≤ a.1 + b.1 ∧ a.2 + b.2 ≤ 2147483647 then some (a.1 + b.1, a.2 + b.2, if b.1 = b.2 then some b.1 else none) else some en_top
theorem en_add_ok : en_s2 en_add (fun x y => x + y) (fun _ => True) := by
  intro a b r x y h h1 h2 h3 h4
  refine ⟨trivial, ?_⟩
  unfold en_add at h
  split at h
  · next c =>
    have e := Option.some.inj h
    subst e
    have e : (x + y).toInt = x.toInt + y.toInt := by rw [Int32.toInt_add, en_b32 (by omega) (by omega)]
    refine ⟨?_, ?_, fun k hk => ?_⟩
    · show a.1 + b.1 ≤ (x + y).toInt
      omega
    · show (x + y).toInt ≤ a.2 + b.2
      omega
    · have hk : (if b.1 = b.2 then some b.1 else none) = some k := hk
      split at hk
      · next c2 =>
        have e2 := Option.some.inj hk
        show (x + y).toInt = _
        omega
      · cases hk
  · exact en_top_ok (Option.some.inj h)
def en_sub (a b : (Int × Int)) : Option en_R := if -2147483648 ≤ a.1 - b.2 ∧ a.2 - b.1 ≤ 2147483647 then some (a.1 - b.2, a.2 - b.1, if b.1 = b.2 then some (-b.1) else none) else some en_top
theorem en_sub_ok : en_s2 en_sub (fun x y => x - y) (fun _ => True) := by
  intro a b r x y h h1 h2 h3 h4
  refine ⟨trivial, ?_⟩
  unfold en_sub at h
  split at h
  · next c =>
    have e := Option.some.inj h
    subst e
    have e : (x - y).toInt = x.toInt - y.toInt := by rw [Int32.toInt_sub, en_b32 (by omega) (by omega)]
    refine ⟨?_, ?_, fun k hk => ?_⟩
    · show a.1 - b.2 ≤ (x - y).toInt
      omega
    · show (x - y).toInt ≤ a.2 - b.1
      omega
    · have hk : (if b.1 = b.2 then some (-b.1) else none) = some k := hk
      split at hk
      · next c2 =>
        have e2 := Option.some.inj hk
        show (x - y).toInt = _
        omega
      · cases hk
  · exact en_top_ok (Option.some.inj h)
def en_mul (a b : (Int × Int)) : Option en_R :=
  if b.1 = b.2 ∧ 0 ≤ b.1 ∧ -2147483648 ≤ a.1 * b.1 ∧ a.2 * b.1 ≤ 2147483647 then some (a.1 * b.1, a.2 * b.1, none)
  else if a.1 = a.2 ∧ 0 ≤ a.1 ∧ -2147483648 ≤ b.1 * a.1 ∧ b.2 * a.1 ≤ 2147483647 then some (b.1 * a.1, b.2 * a.1, none) else some en_top
theorem en_mul_ok : en_s2 en_mul (fun x y => x * y) (fun _ => True) := by
  intro a b r x y h h1 h2 h3 h4
  refine ⟨trivial, ?_⟩
  unfold en_mul at h
  split at h
  · next c =>
    obtain ⟨c1, c2, c3, c4⟩ := c
    have e := Option.some.inj h
    subst e
    have ey : y.toInt = b.1 := by omega
    have g1 : a.1 * b.1 ≤ x.toInt * b.1 := Int.mul_le_mul_of_nonneg_right h1 c2
    have g2 : x.toInt * b.1 ≤ a.2 * b.1 := Int.mul_le_mul_of_nonneg_right h2 c2
    have e : (x * y).toInt = x.toInt * b.1 := by rw [Int32.toInt_mul, ey, en_b32 (Int.le_trans c3 g1) (Int.le_trans g2 c4)]
    refine ⟨?_, ?_, fun k hk => by cases hk⟩
    · show a.1 * b.1 ≤ (x * y).toInt
      rw [e]; exact g1
    · show (x * y).toInt ≤ a.2 * b.1
      rw [e]; exact g2
  · split at h
    · next c =>
      obtain ⟨c1, c2, c3, c4⟩ := c
      have e := Option.some.inj h
      subst e
      have ex : x.toInt = a.1 := by omega
      have g1 : b.1 * a.1 ≤ y.toInt * a.1 := Int.mul_le_mul_of_nonneg_right h3 c2
      have g2 : y.toInt * a.1 ≤ b.2 * a.1 := Int.mul_le_mul_of_nonneg_right h4 c2
      have e : (x * y).toInt = y.toInt * a.1 := by rw [Int32.toInt_mul, ex, Int.mul_comm, en_b32 (Int.le_trans c3 g1) (Int.le_trans g2 c4)]
      refine ⟨?_, ?_, fun k hk => by cases hk⟩
      · show b.1 * a.1 ≤ (x * y).toInt
        rw [e]; exact g1
      · show (x * y).toInt ≤ b.2 * a.1
        rw [e]; exact g2
    · exact en_top_ok (Option.some.inj h)
theorem en_1ne {y : Int32} (h : 1 ≤ y.toInt) : ¬ y = 0 := fun e => by
  subst e
  exact absurd h (by decide)
theorem en_1nm {y : Int32} (h : 1 ≤ y.toInt) : y ≠ -1 := fun e => by
  subst e
  exact absurd h (by decide)
def en_div (a b : (Int × Int)) : Option en_R := if 1 ≤ b.1 then (if 0 ≤ a.1 then (if b.1 = b.2 then some (a.1 / b.1, a.2 / b.1, none) else some (0, a.2, none)) else some en_top) else none
theorem en_div_ok : en_s2 en_div (fun x y => x / y) (fun y => ¬ y = 0) := by
  intro a b r x y h h1 h2 h3 h4
  unfold en_div at h
  split at h
  · next c =>
    have hy : 1 ≤ y.toInt := Int.le_trans c h3
    refine ⟨en_1ne hy, ?_⟩
    split at h
    · next c0 =>
      have hx : 0 ≤ x.toInt := Int.le_trans c0 h1
      have e0 : (x / y).toInt = x.toInt / y.toInt := by rw [Int32.toInt_div_of_ne_right x y (en_1nm hy), Int.tdiv_eq_ediv_of_nonneg hx]
      split at h
      · next c2 =>
        have e := Option.some.inj h
        subst e
        have ey : y.toInt = b.1 := by omega
        rw [ey] at e0
        refine ⟨?_, ?_, fun k hk => by cases hk⟩
        · show a.1 / b.1 ≤ (x / y).toInt
          rw [e0]; exact Int.ediv_le_ediv (by omega) h1
        · show (x / y).toInt ≤ a.2 / b.1
          rw [e0]; exact Int.ediv_le_ediv (by omega) h2
      · have e := Option.some.inj h
        subst e
        refine ⟨?_, ?_, fun k hk => by cases hk⟩
        · show 0 ≤ (x / y).toInt
          rw [e0]; exact Int.ediv_nonneg hx (by omega)
        · show (x / y).toInt ≤ a.2
          rw [e0]; exact Int.le_trans (Int.ediv_le_self _ hx) h2
    · exact en_top_ok (Option.some.inj h)
  · cases h
def en_rem (a b : (Int × Int)) : Option en_R := if 1 ≤ b.1 then (if 0 ≤ a.1 then some (0, b.2 - 1, none) else some (1 - b.2, b.2 - 1, none)) else none
theorem en_remI {x y : Int32} (hy : 1 ≤ y.toInt) : (x - x / y * y).toInt = x.toInt.tmod y.toInt := by
  have e0 : (x / y).toInt = x.toInt.tdiv y.toInt := Int32.toInt_div_of_ne_right x y (en_1nm hy)
  have e1 := Int.tmod_add_tdiv_mul x.toInt y.toInt
  have h2 := Int.tmod_lt_of_pos x.toInt (b := y.toInt) (by omega)
  have h3 := Int.lt_tmod_of_pos x.toInt (b := y.toInt) (by omega)
  have hu := en_hi x
  have hl := en_lo x
  have hyu := en_hi y
  have h4 : 0 ≤ x.toInt → 0 ≤ x.toInt.tmod y.toInt := fun h => Int.tmod_nonneg _ h
  have h5 : x.toInt < 0 → x.toInt.tmod y.toInt ≤ 0 := fun h => by
    have g1 := Int.neg_tmod (-x.toInt) y.toInt
    rw [Int.neg_neg] at g1
    have g2 := Int.tmod_nonneg (a := -x.toInt) y.toInt (by omega)
    omega
  have e2 : (x / y * y).toInt = x.toInt.tdiv y.toInt * y.toInt := by
    rw [Int32.toInt_mul, e0]
    rcases Int.lt_or_le x.toInt 0 with hx | hx
    · have := h5 hx
      exact en_b32 (by omega) (by omega)
    · have := h4 hx
      exact en_b32 (by omega) (by omega)
  rw [Int32.toInt_sub, e2]
  rw [show x.toInt - x.toInt.tdiv y.toInt * y.toInt = x.toInt.tmod y.toInt by omega]
  exact en_b32 (by omega) (by omega)
theorem en_rem_ok : en_s2 en_rem (fun x y => x - x / y * y) (fun y => ¬ y = 0) := by
  intro a b r x y h h1 h2 h3 h4
  unfold en_rem at h
  split at h
  · next c =>
    have hy : 1 ≤ y.toInt := Int.le_trans c h3
    refine ⟨en_1ne hy, ?_⟩
    have e0 := en_remI (x := x) hy
    have g2 := Int.tmod_lt_of_pos x.toInt (b := y.toInt) (by omega)
    have g3 := Int.lt_tmod_of_pos x.toInt (b := y.toInt) (by omega)
    split at h
    · next c0 =>
      have e := Option.some.inj h
      subst e
      have g4 := Int.tmod_nonneg (a := x.toInt) y.toInt (by omega)
      refine ⟨?_, ?_, fun k hk => by cases hk⟩
      · show 0 ≤ (x - x / y * y).toInt
        omega
      · show (x - x / y * y).toInt ≤ b.2 - 1
        omega
    · have e := Option.some.inj h
      subst e
      refine ⟨?_, ?_, fun k hk => by cases hk⟩
      · show 1 - b.2 ≤ (x - x / y * y).toInt
        omega
      · show (x - x / y * y).toInt ≤ b.2 - 1
        omega
  · cases h
/-- an operation of which nothing is said but that it is an int -/
def en_any (_ _ : (Int × Int)) : Option en_R := some en_top
theorem en_any_ok (op : Int32 → Int32 → Int32) : en_s2 en_any op (fun _ => True) := fun a b r x y h _ _ _ _ => ⟨trivial, en_top_ok (Option.some.inj h)⟩
theorem en_bit {x : Int32} (h1 : 0 ≤ x.toInt) (h2 : x.toInt ≤ 1) : x = 0 ∨ x = 1 := by
  have e0 : (0 : Int32).toInt = 0 := by decide
  have e1 : (1 : Int32).toInt = 1 := by decide
  rcases Int.lt_or_le x.toInt 1 with h | h
  · exact Or.inl (Int32.toInt_inj.mp (by omega))
  · exact Or.inr (Int32.toInt_inj.mp (by omega))
def en_or (a b : (Int × Int)) : Option en_R := if 0 ≤ a.1 ∧ a.2 ≤ 1 ∧ 0 ≤ b.1 ∧ b.2 ≤ 1 then some (0, 1, none) else some en_top
theorem en_or01 : ∀ x y : Int32, (x = 0 ∨ x = 1) → (y = 0 ∨ y = 1) → 0 ≤ (x ||| y).toInt ∧ (x ||| y).toInt ≤ 1 := by
  rintro x y (rfl | rfl) (rfl | rfl) <;> decide
theorem en_or_ok : en_s2 en_or (fun x y => x ||| y) (fun _ => True) := by
  intro a b r x y h h1 h2 h3 h4
  refine ⟨trivial, ?_⟩
  unfold en_or at h
  split at h
  · next c =>
    have e := Option.some.inj h
    subst e
    obtain ⟨g1, g2⟩ := en_or01 x y (en_bit (by omega) (by omega)) (en_bit (by omega) (by omega))
    exact ⟨g1, g2, fun k hk => by cases hk⟩
  · exact en_top_ok (Option.some.inj h)
theorem en_u32 (u : UInt32) (h : u.toNat < 2147483648) : u.toInt32.toInt = (u.toNat : Int) := BitVec.toInt_eq_toNat_of_lt (x := u.toBitVec) (by show 2 * u.toNat < 2 ^ 32; omega)
/-- z >>> 16 -/
def en_shr (_ b : (Int × Int)) : Option en_R := if b.1 = 16 ∧ b.2 = 16 then some (0, 65535, none) else some en_top
theorem en_shr_ok : en_s2 en_shr (fun x y => (x.toUInt32 >>> (y.toUInt32 &&& Int32.toUInt32 31)).toInt32) (fun _ => True) := by
  intro a b r x y h h1 h2 h3 h4
  refine ⟨trivial, ?_⟩
  unfold en_shr at h
  split at h
  · next c =>
    have e := Option.some.inj h
    subst e
    have e16 : (16 : Int32).toInt = 16 := by decide
    have ey : y = 16 := Int32.toInt_inj.mp (by omega)
    subst ey
    have em : ((16 : Int32).toUInt32 &&& Int32.toUInt32 31) = 16 := by decide
    have hn : (x.toUInt32 >>> (16 : UInt32)).toNat < 65536 := by
      rw [UInt32.toNat_shiftRight]
      have h0 : ((16 : UInt32).toNat % 32) = 16 := by decide
      rw [h0, Nat.shiftRight_eq_div_pow]
      have := x.toUInt32.toNat_lt
      omega
    have e : ((x.toUInt32 >>> ((16 : Int32).toUInt32 &&& Int32.toUInt32 31)).toInt32).toInt = ((x.toUInt32 >>> (16 : UInt32)).toNat : Int) := by
      rw [em]
      exact en_u32 _ (by omega)
    refine ⟨?_, ?_, fun k hk => by cases hk⟩
    · show 0 ≤ ((x.toUInt32 >>> ((16 : Int32).toUInt32 &&& Int32.toUInt32 31)).toInt32).toInt
      rw [e]; omega
    · show ((x.toUInt32 >>> ((16 : Int32).toUInt32 &&& Int32.toUInt32 31)).toInt32).toInt ≤ 65535
      rw [e]; omega
  · exact en_top_ok (Option.some.inj h)
def en_neg (a : (Int × Int)) : Option en_R := if -2147483648 < a.1 then some (-a.2, -a.1, none) else some en_top
theorem en_neg_ok : en_s1 en_neg (fun x => -x) := by
  intro a r x h h1 h2
  unfold en_neg at h
  split at h
  · next c =>
    have e := Option.some.inj h
    subst e
    have hu := en_hi x
    have e : (-x).toInt = -x.toInt := by rw [Int32.toInt_neg, en_b32 (by omega) (by omega)]
    refine ⟨?_, ?_, fun k hk => by cases hk⟩
    · show -a.2 ≤ (-x).toInt
      omega
    · show (-x).toInt ≤ -a.1
      omega
  · exact en_top_ok (Option.some.inj h)
theorem en_m16 (x : Int32) : ((x.toUInt32 % 65536).toInt32).toInt = ((x.toUInt32.toNat % 65536 : Nat) : Int) := by
  have h0 : (x.toUInt32 % 65536).toNat = x.toUInt32.toNat % 65536 := by rw [UInt32.toNat_mod]; rfl
  rw [en_u32 _ (by omega), h0]
def en_i2c (a : (Int × Int)) : Option en_R := if 0 ≤ a.1 ∧ a.2 ≤ 65535 then some (a.1, a.2, some 0) else some (0, 65535, none)
theorem en_i2c_ok : en_s1 en_i2c (fun x => (x.toUInt32 % 65536).toInt32) := by
  intro a r x h h1 h2
  have e0 := en_m16 x
  unfold en_i2c at h
  split at h
  · next c =>
    have e := Option.some.inj h
    subst e
    have hx : (0 : Int32) ≤ x := by rw [Int32.le_iff_toInt_le, Int32.toInt_zero]; omega
    have e1 : x.toUInt32.toNat = x.toInt.toNat := Int32.toNat_toUInt32_of_le hx
    have e2 : ((x.toUInt32 % 65536).toInt32).toInt = x.toInt := by rw [e0, e1]; omega
    refine ⟨?_, ?_, fun k hk => ?_⟩
    · show a.1 ≤ ((x.toUInt32 % 65536).toInt32).toInt
      omega
    · show ((x.toUInt32 % 65536).toInt32).toInt ≤ a.2
      omega
    · have ek := Option.some.inj hk
      show ((x.toUInt32 % 65536).toInt32).toInt = x.toInt + k
      omega
  · have e := Option.some.inj h
    subst e
    refine ⟨?_, ?_, fun k hk => by cases hk⟩
    · show 0 ≤ ((x.toUInt32 % 65536).toInt32).toInt
      omega
    · show ((x.toUInt32 % 65536).toInt32).toInt ≤ 65535
      omega
theorem en_and01 : ∀ x y : Int32, (x = 0 ∨ x = 1) → (y = 0 ∨ y = 1) → 0 ≤ (x &&& y).toInt ∧ (x &&& y).toInt ≤ 1 := by
  rintro x y (rfl | rfl) (rfl | rfl) <;> decide
def en_and (a b : Int × Int) : Option en_R := if 0 ≤ a.1 ∧ a.2 ≤ 1 ∧ 0 ≤ b.1 ∧ b.2 ≤ 1 then some (0, 1, none) else some en_top
theorem en_and_ok : en_s2 en_and (fun x y => x &&& y) (fun _ => True) := by
  intro a b r x y h h1 h2 h3 h4
  refine ⟨trivial, ?_⟩
  unfold en_and at h
  split at h
  · next c =>
    have e := Option.some.inj h
    subst e
    obtain ⟨g1, g2⟩ := en_and01 x y (en_bit (by omega) (by omega)) (en_bit (by omega) (by omega))
    exact ⟨g1, g2, fun k hk => by cases hk⟩
  · exact en_top_ok (Option.some.inj h)
