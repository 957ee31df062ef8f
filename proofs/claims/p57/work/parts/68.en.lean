/-! the engine: patterns, contracts, calls -/
abbrev en_Pt : Type := List en_A × List en_X
/-- a contract: how many arguments, what it asks, the ways it may come out, what it may write, the kinds that it looks at, cells and slots, the throws -/
abbrev en_K : Type := Nat × en_Pt × List en_Pt × List (Nat × Nat) × List Nat × (Nat × Nat) × List Nat
def en_Pa (PP : Int32 → Int32 → Prop) (Ω : Nat → en_H → va_W → Prop) (sh : en_H) (ws : va_W) (π : en_Pt) (ρ : List Value) : Prop := ρ.length = π.1.length ∧ (∀ (i : Nat) (a : en_A), π.1[i]? = some a → ∃ v : Value, ρ[i]? = some v ∧ en_V sh a v) ∧ ∀ f ∈ π.2, en_fs PP Ω sh ws ρ f
def en_mpf (ν : Nat → Nat) : en_X → en_X
  | (0, a, b, c, _, _) => (0, ν a, b, ν c, 0, 0)
  | (1, a, b, c, _, _) => (1, ν a, b, ν c, 0, 0)
  | (2, a, b, _, _, _) => (2, ν a, ν b, 0, 0, 0)
  | (3, a, b, c, lo, hi) => (3, ν a, ν b, ν c, lo, hi)
  | (4, a, b, c, _, _) => (4, ν a, ν b, ν c, 0, 0)
  | (5, a, _, _, _, _) => (5, a, 0, 0, 0, 0)
  | (6, a, _, _, _, _) => (6, ν a, 0, 0, 0, 0)
  | (7, a, b, _, _, _) => (7, ν a, ν b, 0, 0, 0)
  | (8, a, b, _, _, _) => (8, ν a, ν b, 0, 0, 0)
  | (9, a, b, c, _, _) => (9, ν a, ν b, ν c, 0, 0)
  | (10, a, b, c, lo, hi) => (10, ν a, ν b, ν c, lo, hi)
  | (11, a, b, _, _, _) => (11, ν a, ν b, 0, 0, 0)
  | (12, a, b, _, _, _) => (12, ν a, ν b, 0, 0, 0)
  | (13, a, b, c, _, _) => (13, ν a, ν b, ν c, 0, 0)
  | (14, a, _, _, _, _) => (14, ν a, 0, 0, 0, 0)
  | (15, a, _, _, _, _) => (15, ν a, 0, 0, 0, 0)
  | (16, a, b, _, _, _) => (16, ν a, ν b, 0, 0, 0)
  | f => f
def en_bd (n : Nat) : en_X → Bool
  | (0, a, _, c, _, _) => decide (a < n) && decide (c < n)
  | (1, a, _, c, _, _) => decide (a < n) && decide (c < n)
  | (2, a, b, _, _, _) => decide (a < n) && decide (b < n)
  | (3, a, b, c, _, _) => decide (a < n) && (decide (b < n) && decide (c < n))
  | (4, a, b, c, _, _) => decide (a < n) && (decide (b < n) && decide (c < n))
  | (5, _, _, _, _, _) => true
  | (6, a, _, _, _, _) => decide (a < n)
  | (7, a, b, _, _, _) => decide (a < n) && decide (b < n)
  | (8, a, b, _, _, _) => decide (a < n) && decide (b < n)
  | (9, a, b, c, _, _) => decide (a < n) && (decide (b < n) && decide (c < n))
  | (10, a, b, c, _, _) => decide (a < n) && (decide (b < n) && decide (c < n))
  | (11, a, b, _, _, _) => decide (a < n) && decide (b < n)
  | (12, a, b, _, _, _) => decide (a < n) && decide (b < n)
  | (13, a, b, c, _, _) => decide (a < n) && (decide (b < n) && decide (c < n))
  | (14, a, _, _, _, _) => decide (a < n)
  | (15, a, _, _, _, _) => decide (a < n)
  | (16, a, b, _, _, _) => decide (a < n) && decide (b < n)
  | _ => false
/-- out of a pattern's symbols into those of the one that uses it -/
theorem en_mpf_to {PP : Int32 → Int32 → Prop} {Ω : Nat → en_H → va_W → Prop} {sh : en_H} {ws : va_W} {ρ ρ' : List Value} {ν : Nat → Nat} (h : ∀ i v, ρ'[i]? = some v → ρ[ν i]? = some v) {f : en_X} (hf : en_fs PP Ω sh ws ρ' f) : en_fs PP Ω sh ws ρ (en_mpf ν f) := by
  obtain ⟨tag, a, b, c, lo, hi⟩ := f
  match tag with
  | 0 => obtain ⟨q, r, ci, fs, v, h1, h2, h3, h4⟩ := hf; exact ⟨q, r, ci, fs, v, h _ _ h1, h2, h3, h _ _ h4⟩
  | 1 => obtain ⟨q, r, n, cA, f, h1, h2, h3, h4⟩ := hf; exact ⟨q, r, n, cA, f, h _ _ h1, h2, h3, h _ _ h4⟩
  | 2 => obtain ⟨x, y, h1, h2, h3⟩ := hf; exact ⟨x, y, h _ _ h1, h _ _ h2, h3⟩
  | 3 => obtain ⟨x, y, z, h1, h2, h3, h4⟩ := hf; exact ⟨x, y, z, h _ _ h1, h _ _ h2, h _ _ h3, h4⟩
  | 4 => obtain ⟨q, r, n, cA, f, i, y, h1, h2, h3, h4, h5⟩ := hf; exact ⟨q, r, n, cA, f, i, y, h _ _ h1, h2, h _ _ h3, h4, h _ _ h5⟩
  | 5 => exact hf
  | 6 => obtain ⟨x, h1, h2⟩ := hf; exact ⟨x, h _ _ h1, h2⟩
  | 7 => obtain ⟨x, h1, h2⟩ := hf; exact ⟨x, h _ _ h1, h _ _ h2⟩
  | 8 => obtain ⟨x, h1, h2⟩ := hf; exact ⟨x, h _ _ h1, h _ _ h2⟩
  | 9 => obtain ⟨x, y, h1, h2, h3⟩ := hf; exact ⟨x, y, h _ _ h1, h _ _ h2, h _ _ h3⟩
  | 10 => obtain ⟨x, y, z, h1, h2, h3, h4⟩ := hf; exact ⟨x, y, z, h _ _ h1, h _ _ h2, h _ _ h3, h4⟩
  | 11 => obtain ⟨x, y, h1, h2, h3⟩ := hf; exact ⟨x, y, h _ _ h1, h _ _ h2, h3⟩
  | 12 => obtain ⟨x, y, h1, h2, h3⟩ := hf; exact ⟨x, y, h _ _ h1, h _ _ h2, h3⟩
  | 13 => obtain ⟨x, y, h1, h2, h3⟩ := hf; exact ⟨x, y, h _ _ h1, h _ _ h2, h _ _ h3⟩
  | 14 => obtain ⟨x, y, h1, h2⟩ := hf; exact ⟨x, y, h _ _ h1, h2⟩
  | 15 => obtain ⟨x, y, h1, h2⟩ := hf; exact ⟨x, y, h _ _ h1, h2⟩
  | 16 => obtain ⟨x, y, h1, h2, h3⟩ := hf; exact ⟨x, y, h _ _ h1, h _ _ h2, h3⟩
  | _ + 17 => exact hf.elim
theorem en_mpf_of {PP : Int32 → Int32 → Prop} {Ω : Nat → en_H → va_W → Prop} {sh : en_H} {ws : va_W} {ρ ρ' : List Value} {ν : Nat → Nat} {n : Nat} (h : ∀ i, i < n → ρ'[i]? = ρ[ν i]?) {f : en_X} (hb : en_bd n f = true) (hf : en_fs PP Ω sh ws ρ (en_mpf ν f)) : en_fs PP Ω sh ws ρ' f := by
  obtain ⟨tag, a, b, c, lo, hi⟩ := f
  match tag with
  | 0 =>
    simp only [en_bd, Bool.and_eq_true, decide_eq_true_eq] at hb
    obtain ⟨q, r, ci, fs, v, h1, h2, h3, h4⟩ := hf
    exact ⟨q, r, ci, fs, v, by rw [h _ hb.1]; exact h1, h2, h3, by rw [h _ hb.2]; exact h4⟩
  | 1 =>
    simp only [en_bd, Bool.and_eq_true, decide_eq_true_eq] at hb
    obtain ⟨q, r, n, cA, f, h1, h2, h3, h4⟩ := hf
    exact ⟨q, r, n, cA, f, by rw [h _ hb.1]; exact h1, h2, h3, by rw [h _ hb.2]; exact h4⟩
  | 2 =>
    simp only [en_bd, Bool.and_eq_true, decide_eq_true_eq] at hb
    obtain ⟨x, y, h1, h2, h3⟩ := hf
    exact ⟨x, y, by rw [h _ hb.1]; exact h1, by rw [h _ hb.2]; exact h2, h3⟩
  | 3 =>
    simp only [en_bd, Bool.and_eq_true, decide_eq_true_eq] at hb
    obtain ⟨x, y, z, h1, h2, h3, h4⟩ := hf
    exact ⟨x, y, z, by rw [h _ hb.1]; exact h1, by rw [h _ hb.2.1]; exact h2, by rw [h _ hb.2.2]; exact h3, h4⟩
  | 4 =>
    simp only [en_bd, Bool.and_eq_true, decide_eq_true_eq] at hb
    obtain ⟨q, r, n, cA, f, i, y, h1, h2, h3, h4, h5⟩ := hf
    exact ⟨q, r, n, cA, f, i, y, by rw [h _ hb.1]; exact h1, h2, by rw [h _ hb.2.1]; exact h3, h4, by rw [h _ hb.2.2]; exact h5⟩
  | 5 => exact hf
  | 6 =>
    simp only [en_bd, decide_eq_true_eq] at hb
    obtain ⟨x, h1, h2⟩ := hf
    exact ⟨x, by rw [h _ hb]; exact h1, h2⟩
  | 7 =>
    simp only [en_bd, Bool.and_eq_true, decide_eq_true_eq] at hb
    obtain ⟨x, h1, h2⟩ := hf
    exact ⟨x, by rw [h _ hb.2]; exact h1, by rw [h _ hb.1]; exact h2⟩
  | 8 =>
    simp only [en_bd, Bool.and_eq_true, decide_eq_true_eq] at hb
    obtain ⟨x, h1, h2⟩ := hf
    exact ⟨x, by rw [h _ hb.2]; exact h1, by rw [h _ hb.1]; exact h2⟩
  | 9 =>
    simp only [en_bd, Bool.and_eq_true, decide_eq_true_eq] at hb
    obtain ⟨x, y, h1, h2, h3⟩ := hf
    exact ⟨x, y, by rw [h _ hb.1]; exact h1, by rw [h _ hb.2.1]; exact h2, by rw [h _ hb.2.2]; exact h3⟩
  | 10 =>
    simp only [en_bd, Bool.and_eq_true, decide_eq_true_eq] at hb
    obtain ⟨x, y, z, h1, h2, h3, h4⟩ := hf
    exact ⟨x, y, z, by rw [h _ hb.1]; exact h1, by rw [h _ hb.2.1]; exact h2, by rw [h _ hb.2.2]; exact h3, h4⟩
  | 11 =>
    simp only [en_bd, Bool.and_eq_true, decide_eq_true_eq] at hb
    obtain ⟨x, y, h1, h2, h3⟩ := hf
    exact ⟨x, y, by rw [h _ hb.1]; exact h1, by rw [h _ hb.2]; exact h2, h3⟩
  | 12 =>
    simp only [en_bd, Bool.and_eq_true, decide_eq_true_eq] at hb
    obtain ⟨x, y, h1, h2, h3⟩ := hf
    exact ⟨x, y, by rw [h _ hb.1]; exact h1, by rw [h _ hb.2]; exact h2, h3⟩
  | 13 =>
    simp only [en_bd, Bool.and_eq_true, decide_eq_true_eq] at hb
    obtain ⟨x, y, h1, h2, h3⟩ := hf
    exact ⟨x, y, by rw [h _ hb.1]; exact h1, by rw [h _ hb.2.1]; exact h2, by rw [h _ hb.2.2]; exact h3⟩
  | 14 =>
    simp only [en_bd, decide_eq_true_eq] at hb
    obtain ⟨x, y, h1, h2⟩ := hf
    exact ⟨x, y, by rw [h _ hb]; exact h1, h2⟩
  | 15 =>
    simp only [en_bd, decide_eq_true_eq] at hb
    obtain ⟨x, y, h1, h2⟩ := hf
    exact ⟨x, y, by rw [h _ hb]; exact h1, h2⟩
  | 16 =>
    simp only [en_bd, Bool.and_eq_true, decide_eq_true_eq] at hb
    obtain ⟨x, y, h1, h2, h3⟩ := hf
    exact ⟨x, y, by rw [h _ hb.1]; exact h1, by rw [h _ hb.2]; exact h2, h3⟩
  | _ + 17 => cases hb
def en_ent (env : List en_A) (i : Nat) : en_A → Bool
  | .inl (lo, hi, b, _) => b == 0 && (match en_eff env i with
    | some r => decide (lo ≤ r.1) && decide (r.2 ≤ hi)
    | none => false)
  | .inr x => match env[i]? with
    | some (.inr y) => decide (x = y)
    | _ => false
theorem en_ent_ok {sh : en_H} {env : List en_A} {ρ : List Value} {i : Nat} {a : en_A} (he : en_E sh env ρ) (h : en_ent env i a = true) : ∃ v, ρ[i]? = some v ∧ en_V sh a v := by
  rcases a with ⟨lo, hi, b, o⟩ | x
  · simp only [en_ent, Bool.and_eq_true] at h
    obtain ⟨-, h⟩ := h
    split at h
    · next r hr =>
      obtain ⟨x, h1, h2, h3⟩ := en_eff_ok he hr
      simp only [Bool.and_eq_true, decide_eq_true_eq] at h
      exact ⟨_, h1, x, rfl, by show lo ≤ _; omega, by show _ ≤ hi; omega⟩
    · cases h
  · simp only [en_ent] at h
    split at h
    · next y hy =>
      have e0 : x = y := of_decide_eq_true h
      subst e0
      obtain ⟨v, h1, h2, -⟩ := he.2 i _ hy
      exact ⟨v, h1, h2⟩
    · cases h
def en_ents (env : List en_A) : List Nat → List en_A → Bool
  | [], [] => true
  | i :: is, a :: as => en_ent env i a && en_ents env is as
  | _, _ => false
theorem en_ents_ok {sh : en_H} {env : List en_A} {ρ : List Value} (he : en_E sh env ρ) : ∀ (is : List Nat) (as : List en_A), en_ents env is as = true → is.length = as.length ∧ ∀ (k : Nat) (i : Nat) (a : en_A), is[k]? = some i → as[k]? = some a → ∃ v, ρ[i]? = some v ∧ en_V sh a v
  | [], [], _ => ⟨rfl, fun k i a h => by simp at h⟩
  | [], _ :: _, h => by simp [en_ents] at h
  | _ :: _, [], h => by simp [en_ents] at h
  | i :: is, a :: as, h => by
    simp only [en_ents, Bool.and_eq_true] at h
    obtain ⟨h1, h2⟩ := en_ents_ok he is as h.2
    refine ⟨by rw [List.length_cons, List.length_cons, h1], fun k j b hj hb => ?_⟩
    cases k with
    | zero =>
      have e1 : i = j := Option.some.inj hj
      have e2 : a = b := Option.some.inj hb
      subst e1
      subst e2
      exact en_ent_ok he h.1
    | succ k => exact h2 k j b hj hb
def en_nu (μ : List Nat) (i : Nat) : Nat := (μ[i]?).getD 0
def en_chk (env : List en_A) (fa : List en_X) (μ : List Nat) (π : en_Pt) : Bool := en_ents env μ π.1 && π.2.all (fun f => en_bd μ.length f && en_has env fa (en_mpf (en_nu μ) f))
theorem en_chk_ok {PP : Int32 → Int32 → Prop} {Ω : Nat → en_H → va_W → Prop} {ws : va_W} {sh : en_H} {env : List en_A} {ρ : List Value} {fa : List en_X} {μ : List Nat} {π : en_Pt} (he : en_E sh env ρ) (hfa : ∀ f ∈ fa, en_fs PP Ω sh ws ρ f) (h : en_chk env fa μ π = true) :
    ∃ ρ' : List Value, en_Pa PP Ω sh ws π ρ' ∧ ρ'.length = μ.length ∧ ∀ i, i < μ.length → ρ'[i]? = ρ[en_nu μ i]? := by
  simp only [en_chk, Bool.and_eq_true] at h
  obtain ⟨h1, h2⟩ := h
  obtain ⟨g1, g2⟩ := en_ents_ok he _ _ h1
  have hr : ∀ i, i < μ.length → (μ.map (fun j => (ρ[j]?).getD .null))[i]? = ρ[en_nu μ i]? := fun i hi => by
    have hm : μ[i]? = some μ[i] := List.getElem?_eq_getElem hi
    have ha : π.1[i]? = some (π.1[i]'(by omega)) := List.getElem?_eq_getElem (by omega)
    obtain ⟨v, v1, -⟩ := g2 i _ _ hm ha
    rw [List.getElem?_map, hm]
    unfold en_nu
    rw [hm]
    show some ((ρ[μ[i]]?).getD .null) = ρ[μ[i]]?
    rw [v1]
    rfl
  refine ⟨μ.map (fun j => (ρ[j]?).getD .null), ⟨by rw [List.length_map, g1], fun i a ha => ?_, fun f hf => ?_⟩, by rw [List.length_map], hr⟩
  · have hi : i < μ.length := by rw [g1]; exact (List.getElem?_eq_some_iff.mp ha).1
    have hm : μ[i]? = some μ[i] := List.getElem?_eq_getElem hi
    obtain ⟨v, v1, v2⟩ := g2 i _ _ hm ha
    refine ⟨v, ?_, v2⟩
    rw [hr i hi]
    unfold en_nu
    rw [hm]
    exact v1
  · have h3 := List.all_eq_true.mp h2 f hf
    simp only [Bool.and_eq_true] at h3
    exact en_mpf_of hr h3.1 (en_has_ok he hfa h3.2)
/-- the symbols that a pattern's further ones stand for (a guess: en_chk holds it against the facts) -/
def en_srch (fa : List en_X) : List Nat → List en_X → List Nat
  | μ, [] => μ
  | μ, f :: r =>
    if (f.1 == 0 || f.1 == 1) && f.2.2.2.1 == μ.length then (match en_lkf fa f.1 (en_nu μ f.2.1) f.2.2.1 with
      | some s => en_srch fa (μ ++ [s]) r
      | none => μ)
    else if f.1 == 4 && (f.2.2.2.1 == μ.length && !(f.2.2.1 == μ.length)) then (match en_lkf fa 4 (en_nu μ f.2.1) (en_nu μ f.2.2.1) with
      | some s => en_srch fa (μ ++ [s]) r
      | none => μ)
    else if f.1 == 4 && f.2.2.1 == μ.length then (match fa.find? (fun g => g.1 == 4 && g.2.1 == en_nu μ f.2.1) with
      | some g => en_srch fa (μ ++ [g.2.2.1, g.2.2.2.1]) r
      | none => μ)
    else if f.1 == 12 && f.2.2.1 == μ.length then (match fa.find? (fun g => g.1 == 12 && g.2.1 == en_nu μ f.2.1) with
      | some g => en_srch fa (μ ++ [g.2.2.1]) r
      | none => μ)
    else if f.1 == 16 && f.2.1 == μ.length then (match fa.find? (fun g => g.1 == 16 && g.2.2.1 == en_nu μ f.2.2.1) with
      | some g => en_srch fa (μ ++ [g.2.1]) r
      | none => μ)
    else if f.1 == 13 && f.2.1 == μ.length then (match fa.find? (fun g => g.1 == 13 && g.2.2.2.1 == en_nu μ f.2.2.2.1) with
      | some g => en_srch fa (μ ++ [g.2.1, g.2.2.1]) r
      | none => μ)
    else en_srch fa μ r
/-- the world that a method leaves -/
def en_Px (tys : List (ClassId × FieldType)) (PP : Int32 → Int32 → Prop) (KT : List en_D) (tk : List Nat) (md : List (Nat × Nat)) (sh : en_H) (w : va_W) (u : en_H × va_W) : Prop := en_Gr tk sh u.1 ∧ en_W PP KT tk u.1 tys (fun _ => False) u.2 ∧ en_F md sh w u.2
def en_Po (tys : List (ClassId × FieldType)) (PP : Int32 → Int32 → Prop) (Ω : Nat → en_H → va_W → Prop) (KT : List en_D) (κ : en_K) (sh : en_H) (w : va_W) (ρ : List Value) (res : Option Value) (u : en_H × va_W) : Prop :=
  en_Px tys PP KT κ.2.2.2.2.1 κ.2.2.2.1 sh w u ∧ ∃ o ∈ κ.2.2.1, ∃ ρ' : List Value, en_Pa PP Ω u.1 u.2 o ρ' ∧ (∀ i, i < κ.1 → ρ'[i]? = ρ[i]?) ∧ ∀ v, res = some v → ρ'[κ.1]? = some v
def en_Bw (D : va_G) (cl : List vw_C) (A : Nat → Prop) (u : en_H × va_W) (t : State) : Prop := va_P D cl u.2 t.heap ∧ va_D A u.2
/-- 0 an int, 1 a long, 2 a float, 3 a double, else nothing -/
def en_Q (rs : Nat) (D : va_G) (cl : List vw_C) (tys : List (ClassId × FieldType)) (PP : Int32 → Int32 → Prop) (Ω : Nat → en_H → va_W → Prop) (KT : List en_D) (κ : en_K) (sh : en_H) (w : va_W) (ρ : List Value) (A : Nat → Prop) : Array Value → State → Outcome → State → Prop := match rs with
  | 0 => va_Qi (fun r u => en_Po tys PP Ω KT κ sh w ρ (some (.int r)) u) (en_Bw D cl A) A
  | 1 => va_Ql (fun r u => en_Po tys PP Ω KT κ sh w ρ (some (.long r)) u) (en_Bw D cl A) A
  | 2 => va_Qf (fun r u => en_Po tys PP Ω KT κ sh w ρ (some (.float r)) u) (en_Bw D cl A) A
  | 3 => va_Qd (fun r u => en_Po tys PP Ω KT κ sh w ρ (some (.double r)) u) (en_Bw D cl A) A
  | _ => va_Qv (fun u => en_Po tys PP Ω KT κ sh w ρ none u) (en_Bw D cl A) A
def en_xn : Nat → String
  | 0 => "java/lang/IllegalArgumentException"
  | 1 => "java/lang/IllegalStateException"
  | 2 => "java/lang/UnsupportedOperationException"
  | 3 => "java/lang/IndexOutOfBoundsException"
  | 4 => "java/util/NoSuchElementException"
  | _ => "java/lang/ArithmeticException"
def en_XC (D : va_G) (cl : List vw_C) (tys : List (ClassId × FieldType)) (PP : Int32 → Int32 → Prop) (KT : List en_D) (tk : List Nat) (md : List (Nat × Nat)) (exs : List Nat) (sh : en_H) (w : va_W) (A : Nat → Prop) : String → State → State → Prop :=
  vx_X (fun u => en_Px tys PP KT tk md sh w u) (fun E u t => (∃ x ∈ exs, E = en_xn x) ∧ en_Bw D cl A u t) A
/-- the start of a method -/
def en_B (D : va_G) (cl : List vw_C) (tys : List (ClassId × FieldType)) (w : va_W) (sz : Nat) : State → Prop := fun U => U.heap.size = sz ∧ va_P D cl w U.heap ∧ va_K D cl tys U ∧ tf (va_A w sz) U U.heap
theorem en_B.blind {D : va_G} {cl : List vw_C} {tys : List (ClassId × FieldType)} {w : va_W} {sz : Nat} {U : State} {g : JFrame} {mk : MethodId} {a : Array Value} (h : en_B D cl tys w sz U) : en_B D cl tys w sz (U.calling g mk a) := ⟨h.1, h.2.1, va_K.moved (u := U) (U := U.calling g mk a) (Vm.Alike.refl U.vm) h.2.2.1, h.2.2.2.blind⟩
/-- A CONTRACT -/
def en_Ctr (l : Launch) (cl : List vw_C) (TY : List FieldType) (PP : Int32 → Int32 → Prop) (om : List (Nat × Nat × Nat)) (Ω : Nat → en_H → va_W → Prop) (KT : List en_D) (y : MethodName) (wl : List Cond) (rm : Room) (rs : Nat) (κ : en_K) : Prop :=
  ∀ (D : va_G) (tys : List (ClassId × FieldType)) (sh : en_H) (w : va_W) (sz : Nat) (ρ : List Value), tys.map Prod.snd = TY → en_W PP KT κ.2.2.2.2.1 sh tys (fun _ => False) w → va_D (va_A w sz) w → en_Om om sh Ω → en_Pa PP Ω sh w κ.2.1 ρ →
    vx_Met l y wl rm (va_Pc (ρ.take κ.1) (en_B D cl tys w sz)) (en_Q rs D cl tys PP Ω KT κ sh w ρ (va_A w sz)) (en_XC D cl tys PP KT κ.2.2.2.2.1 κ.2.2.2.1 κ.2.2.2.2.2.2 sh w (va_A w sz)) κ.2.2.2.2.2.1.1 κ.2.2.2.2.2.1.2 (va_A w sz)
