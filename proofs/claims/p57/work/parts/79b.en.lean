/-! contracts out of contracts -/
section
variable {l : Launch} {cl : List vw_C} {TY : List FieldType} {PP : Int32 → Int32 → Prop} {om : List (Nat × Nat × Nat)} {Ω : Nat → en_H → va_W → Prop} {KT KT' : List en_D} {y : MethodName} {wl : List Cond} {rm : Room} {rs : Nat} {κ κ' : en_K}
theorem en_W.kt {tk : List Nat} {sh : en_H} {tys : List (ClassId × FieldType)} {ex : Nat → Prop} {ws : va_W} (h : en_W PP KT tk sh tys ex ws) (hk : ∀ k ∈ tk, KT[k]? = KT'[k]?) : en_W PP KT' tk sh tys ex ws := ⟨h.1, fun q k hq => by
  obtain ⟨e, h1, h2⟩ := h.2 q k hq
  refine ⟨e, h1, fun a b => ?_⟩
  obtain ⟨kd, k1, k2⟩ := h2 a b
  exact ⟨kd, by rw [← hk k a]; exact k1, k2⟩⟩
theorem en_Q.mono {D : va_G} {tys : List (ClassId × FieldType)} {sh : en_H} {w : va_W} {ρ ρ' : List Value} {A : Nat → Prop} (H : ∀ res u, en_Po tys PP Ω KT κ sh w ρ res u → en_Po tys PP Ω KT' κ' sh w ρ' res u) {a : Array Value} {s : State} {o : Outcome} {t : State} (h : en_Q rs D cl tys PP Ω KT κ sh w ρ A a s o t) : en_Q rs D cl tys PP Ω KT' κ' sh w ρ' A a s o t := by
  match rs with
  | 0 =>
    obtain ⟨⟨r, u, h1, h2, h3⟩, h4⟩ := h
    exact ⟨⟨r, u, h1, H _ _ h2, h3⟩, h4⟩
  | 1 =>
    obtain ⟨⟨r, u, h1, h2, h3⟩, h4⟩ := h
    exact ⟨⟨r, u, h1, H _ _ h2, h3⟩, h4⟩
  | 2 =>
    obtain ⟨⟨r, u, h1, h2, h3⟩, h4⟩ := h
    exact ⟨⟨r, u, h1, H _ _ h2, h3⟩, h4⟩
  | 3 =>
    obtain ⟨⟨r, u, h1, h2, h3⟩, h4⟩ := h
    exact ⟨⟨r, u, h1, H _ _ h2, h3⟩, h4⟩
  | _ + 4 =>
    obtain ⟨⟨u, h1, h2, h3⟩, h4⟩ := h
    exact ⟨⟨u, h1, H _ _ h2, h3⟩, h4⟩
/-- out of another contract, by the values -/
theorem en_Ctr.by (H : ∀ (D : va_G) (tys : List (ClassId × FieldType)) (sh : en_H) (w : va_W) (sz : Nat) (ρ : List Value), tys.map Prod.snd = TY → en_W PP KT κ'.2.2.2.2.1 sh tys (fun _ => False) w → va_D (va_A w sz) w → en_Om om sh Ω → en_Pa PP Ω sh w κ'.2.1 ρ →
    ∃ (κ : en_K) (ρ1 : List Value), en_Ctr l cl TY PP om Ω KT y wl rm rs κ ∧ en_Pa PP Ω sh w κ.2.1 ρ1 ∧ ρ1.take κ.1 = ρ.take κ'.1 ∧ κ.2.2.2 = κ'.2.2.2 ∧
      ∀ (u : en_H × va_W) (res : Option Value) (A' : Nat → Prop), en_Px tys PP KT κ'.2.2.2.2.1 κ'.2.2.2.1 sh w u → va_D A' u.2 → en_Om om u.1 Ω → ∀ o ∈ κ.2.2.1, ∀ ρ', en_Pa PP Ω u.1 u.2 o ρ' → (∀ i, i < κ.1 → ρ'[i]? = ρ1[i]?) → (∀ v, res = some v → ρ'[κ.1]? = some v) → ∃ o' ∈ κ'.2.2.1, ∃ ρ'', en_Pa PP Ω u.1 u.2 o' ρ'' ∧ (∀ i, i < κ'.1 → ρ''[i]? = ρ[i]?) ∧ ∀ v, res = some v → ρ''[κ'.1]? = some v) : en_Ctr l cl TY PP om Ω KT y wl rm rs κ' := by
  intro D tys sh w sz ρ hTY hW hD hΩ hPa
  obtain ⟨κ, ρ1, hC, hP1, ht, hr, hpost⟩ := H D tys sh w sz ρ hTY hW hD hΩ hPa
  have hr1 : κ.2.2.2.1 = κ'.2.2.2.1 := by rw [hr]
  have hr2 : κ.2.2.2.2.1 = κ'.2.2.2.2.1 := by rw [hr]
  have hr3 : κ.2.2.2.2.2 = κ'.2.2.2.2.2 := by rw [hr]
  have h := hC D tys sh w sz ρ1 hTY (by rw [hr2]; exact hW) hD hΩ hP1
  rw [ht, hr1, hr2, hr3] at h
  refine MetFree.mono h (fun _ _ z => z) (fun _ _ _ _ _ z => z) (fun a s o t _ hq => ?_)
  rcases hq with ⟨hq, hL⟩ | hq
  · refine Or.inl ⟨?_, hL⟩
    -- the world behind keeps apart
    have key : ∀ (res : Option Value) (u : en_H × va_W), va_D (va_A w sz) u.2 → en_Po tys PP Ω KT κ sh w ρ1 res u → en_Po tys PP Ω KT κ' sh w ρ res u := fun res u hDu hpo => by
      obtain ⟨hpx, o, ho, ρ', a1, a2, a3⟩ := hpo
      rw [hr1, hr2] at hpx
      obtain ⟨o', b1, ρ'', b2, b3, b4⟩ := hpost u res _ hpx hDu (hΩ.gr hpx.1) o ho ρ' a1 a2 a3
      exact ⟨hpx, o', b1, ρ'', b2, b3, b4⟩
    match rs with
    | 0 =>
      obtain ⟨⟨r, u, h1, h2, h3⟩, h4⟩ := hq
      exact ⟨⟨r, u, h1, key _ _ h3.2 h2, h3⟩, h4⟩
    | 1 =>
      obtain ⟨⟨r, u, h1, h2, h3⟩, h4⟩ := hq
      exact ⟨⟨r, u, h1, key _ _ h3.2 h2, h3⟩, h4⟩
    | 2 =>
      obtain ⟨⟨r, u, h1, h2, h3⟩, h4⟩ := hq
      exact ⟨⟨r, u, h1, key _ _ h3.2 h2, h3⟩, h4⟩
    | 3 =>
      obtain ⟨⟨r, u, h1, h2, h3⟩, h4⟩ := hq
      exact ⟨⟨r, u, h1, key _ _ h3.2 h2, h3⟩, h4⟩
    | _ + 4 =>
      obtain ⟨⟨u, h1, h2, h3⟩, h4⟩ := hq
      exact ⟨⟨u, h1, key _ _ h3.2 h2, h3⟩, h4⟩
  · exact Or.inr hq
/-- a contract that doesn't look at the kinds that differ -/
theorem en_Ctr.kt (h : en_Ctr l cl TY PP om Ω KT y wl rm rs κ) (hk : ∀ k ∈ κ.2.2.2.2.1, KT[k]? = KT'[k]?) : en_Ctr l cl TY PP om Ω KT' y wl rm rs κ := by
  intro D tys sh w sz ρ hTY hW hD hΩ hPa
  have hk' : ∀ k ∈ κ.2.2.2.2.1, KT'[k]? = KT[k]? := fun k hm => (hk k hm).symm
  have h := h D tys sh w sz ρ hTY (hW.kt hk') hD hΩ hPa
  have hx : ∀ u, en_Px tys PP KT κ.2.2.2.2.1 κ.2.2.2.1 sh w u → en_Px tys PP KT' κ.2.2.2.2.1 κ.2.2.2.1 sh w u := fun u z => ⟨z.1, z.2.1.kt hk, z.2.2⟩
  refine MetFree.mono h (fun _ _ z => z) (fun _ _ _ _ _ z => z) (fun a s o t _ hq => ?_)
  rcases hq with ⟨hq, hL⟩ | ⟨q, hq, hT⟩
  · exact Or.inl ⟨en_Q.mono (fun res u hpo => ⟨hx u hpo.1, hpo.2⟩) hq, hL⟩
  · refine Or.inr ⟨q, hq, ?_⟩
    obtain ⟨E, ce, L, hX, hrest⟩ := hT
    refine ⟨E, ce, L, ?_, hrest⟩
    obtain ⟨u, hu, hv⟩ := hX
    exact ⟨u, hx u hu, hv⟩
end
