/-! the law's wrappers -/
theorem wr_nil {P : ExceptionTableEntry → Prop} : ∀ z ∈ ([] : List ExceptionTableEntry), P z := fun _ h => absurd h List.not_mem_nil
theorem wr_cons {P : ExceptionTableEntry → Prop} {a : ExceptionTableEntry} {t : List ExceptionTableEntry} (h : P a) (ht : ∀ z ∈ t, P z) : ∀ z ∈ a :: t, P z := fun z hz => by
  rcases List.mem_cons.mp hz with rfl | hz
  · exact h
  · exact ht z hz
def wr_vs (sh : en_H) : List en_A → List Value → Prop
  | [], [] => True
  | a :: l, v :: m => en_V sh a v ∧ wr_vs sh l m
  | _, _ => False
theorem wr_pa {PP : Int32 → Int32 → Prop} {Ω : Nat → en_H → va_W → Prop} {sh : en_H} {ws : va_W} {env : List en_A} {ρ : List Value} (h : wr_vs sh env ρ) : en_Pa PP Ω sh ws (env, []) ρ := by
  refine ⟨?_, ?_, fun f hf => absurd hf List.not_mem_nil⟩
  · show ρ.length = env.length
    induction env generalizing ρ with
    | nil =>
      rcases ρ with _ | ⟨v, m⟩
      · rfl
      · exact h.elim
    | cons a l ih =>
      rcases ρ with _ | ⟨v, m⟩
      · exact h.elim
      · rw [List.length_cons, List.length_cons, ih h.2]
  · show ∀ (i : Nat) (a : en_A), env[i]? = some a → _
    induction env generalizing ρ with
    | nil => exact fun i a hi => by simp at hi
    | cons a l ih =>
      rcases ρ with _ | ⟨v, m⟩
      · exact h.elim
      · intro i b hi
        rcases i with _ | i
        · have e := Option.some.inj hi
          subst e
          exact ⟨v, rfl, h.1⟩
        · exact ih h.2 i b hi
section
variable {tys : List (ClassId × FieldType)} {PP : Int32 → Int32 → Prop} {KT : List en_D} {tk : List Nat} {md : List (Nat × Nat)} {sh : en_H} {w : va_W} {u : en_H × va_W} {k9 qo : Nat} {x0 x1 : ClassId × vp_A}
theorem wr_same (h : en_Px tys PP KT tk md sh w u) (md' : List (Nat × Nat)) (hs : ∀ z ∈ md, z ∈ md') : en_Px tys PP KT tk md' sh w u := ⟨h.1, h.2.1, h.2.2.sub hs⟩
theorem wr_keep (h : en_Px tys PP KT tk md sh w u) (hq : sh.1[qo]? = some k9) (hmd : (k9, 0) ∉ md) (hw : w[qo]? = some (sh.2 qo, .inl x0)) : u.2[qo]? = some (sh.2 qo, .inl x0) := by
  obtain ⟨e, h1, h2⟩ := h.2.2 qo k9 _ hq hw
  rcases e with x | o
  · rw [h1, h2.2.2 hmd]
  · exact h2.elim
theorem wr_get {q : Nat} {e e' : va_E} {r : Nat} (h : w[q]? = some (r, e)) : (w.set q (r, e'))[q]? = some (r, e') := List.getElem?_set_self (List.getElem?_eq_some_iff.mp h).1
theorem wr_set (h : en_Px tys PP KT tk md sh w u) (hq : sh.1[qo]? = some k9) (hmd : (k9, 0) ∉ md) (htk : k9 ∉ tk) (hw : w[qo]? = some (sh.2 qo, .inl x0)) (h1 : x1.1 = x0.1 ∧ x1.2.1 = x0.2.1) : en_Px tys PP KT tk ((k9, 0) :: md) sh w (u.1, u.2.set qo (sh.2 qo, .inl x1)) := by
  have hk := wr_keep h hq hmd hw
  obtain ⟨hg, hW, hF⟩ := h
  obtain ⟨g1, g2⟩ := hg.at hq
  refine ⟨hg, ⟨by rw [List.length_set]; exact hW.1, fun q k hk9 => ?_⟩, fun q k e0 hk9 h0 => ?_⟩
  · by_cases hqq : qo = q
    · subst hqq
      have ek : k9 = k := Option.some.inj (g1.symm.trans hk9)
      subst ek
      exact ⟨_, by rw [g2]; exact wr_get hk, fun z => absurd z htk⟩
    · obtain ⟨e, a1, a2⟩ := hW.2 q k hk9
      exact ⟨e, by rw [List.getElem?_set_ne hqq]; exact a1, a2⟩
  · by_cases hqq : qo = q
    · subst hqq
      have ek : k9 = k := Option.some.inj (hq.symm.trans hk9)
      subst ek
      have ee := (Prod.mk.inj (Option.some.inj (h0.symm.trans hw))).2
      subst ee
      exact ⟨_, wr_get hk, h1.1, h1.2, fun z => absurd List.mem_cons_self z⟩
    · obtain ⟨e, a1, a2⟩ := hF q k e0 hk9 h0
      exact ⟨e, by rw [List.getElem?_set_ne hqq]; exact a1, a2.sub fun z hz => List.mem_cons_of_mem _ hz⟩
end
theorem wr_tl {tys : List (ClassId × FieldType)} (h : tys.map Prod.snd = en_TY0) : tys.length = 7 := by
  have e := congrArg List.length h
  rw [List.length_map] at e
  exact e
theorem wr_ty {tys : List (ClassId × FieldType)} {a b : ClassId × FieldType} (h : tys.map Prod.snd = en_TY0) : (tys ++ [a, b])[7]? = some a := by
  rw [List.getElem?_append_right (by rw [wr_tl h]; exact Nat.le_refl 7), wr_tl h]
  rfl
theorem wr_ty2 {tys : List (ClassId × FieldType)} {a b : ClassId × FieldType} (h : tys.map Prod.snd = en_TY0) : (tys ++ [a, b])[8]? = some b := by
  rw [List.getElem?_append_right (by rw [wr_tl h]; decide), wr_tl h]
  rfl
theorem va_K.pre {D : va_G} {cl : List vw_C} {tys ts : List (ClassId × FieldType)} {s : State} (h : va_K D cl (tys ++ ts) s) : va_K D cl tys s := ⟨h.1, fun k q hq => h.2 k q (by rw [List.getElem?_append_left (List.getElem?_eq_some_iff.mp hq).1]; exact hq)⟩
theorem wr_f2d {x : UInt32} (h : vf_n32 x) : vf_n64 (FP.f2d x) := by
  have e : FP.dIsNaN (FP.f2d x) = FP.fIsNaN x := FP.f2d_nan x
  have h1 : FP.fIsNaN x = false := by
    rw [Bool.eq_false_iff]
    intro h2
    have h3 := (FP.Core.isNaN_bits32 x).mp h2
    have h4 : (x &&& 0x7fffffff).toNat ≤ (0x7f800000 : UInt32).toNat := UInt32.le_iff_toNat_le.mp h
    rw [UInt32.toNat_and] at h4
    have e1 : (0x7fffffff : UInt32).toNat = 2 ^ 31 - 1 := rfl
    have e2 : (0x7f800000 : UInt32).toNat = 2139095040 := rfl
    rw [e1, e2, Nat.and_two_pow_sub_one_eq_mod] at h4
    omega
  have h5 : ¬ FP.dIsNaN (FP.f2d x) = true := by rw [e, h1]; exact Bool.false_ne_true
  have h6 : ¬ 9218868437227405312 < (FP.f2d x).toNat % 2 ^ 63 := fun z => h5 ((FP.Core.isNaN_bits (FP.f2d x)).mpr z)
  show FP.f2d x &&& 0x7fffffffffffffff ≤ 0x7ff0000000000000
  rw [UInt64.le_iff_toNat_le, UInt64.toNat_and]
  have e1 : (0x7fffffffffffffff : UInt64).toNat = 2 ^ 63 - 1 := rfl
  have e2 : (0x7ff0000000000000 : UInt64).toNat = 9218868437227405312 := rfl
  rw [e1, e2, Nat.and_two_pow_sub_one_eq_mod]
  omega
theorem wr_pf {PP : Int32 → Int32 → Prop} {Ω : Nat → en_H → va_W → Prop} {sh : en_H} {ws : va_W} {env : List en_A} {fa : List en_X} {ρ : List Value} (h : wr_vs sh env ρ) (hf : ∀ f ∈ fa, en_fs PP Ω sh ws ρ f) : en_Pa PP Ω sh ws (env, fa) ρ := by
  obtain ⟨h1, h2, -⟩ := wr_pa (PP := PP) (Ω := Ω) (ws := ws) h
  exact ⟨h1, h2, hf⟩
theorem cwl75 : Cond.initialized RX6 ∈ en_cw := cw_at 75 (by decide +kernel) (by decide +kernel)
theorem cwl498 : Cond.classLink RL 13 "java/lang/IllegalArgumentException" ∈ en_cw := cw_at 498 (by decide +kernel) (by decide +kernel)
theorem cwl499 : Cond.classLink RL 15 "java/lang/IllegalStateException" ∈ en_cw := cw_at 499 (by decide +kernel) (by decide +kernel)
theorem cwl500 : Cond.classLink RL 17 "java/lang/UnsupportedOperationException" ∈ en_cw := cw_at 500 (by decide +kernel) (by decide +kernel)
theorem cwl501 : Cond.methodLink RL 7 yX6_hole ∈ en_cw := cw_at 501 (by decide +kernel) (by decide +kernel)
theorem cwl502 : Cond.instanceMethod yX6_hole ∈ en_cw := cw_at 502 (by decide +kernel) (by decide +kernel)
theorem cwl503 : Cond.selects RX6 yX6_hole yX6_hole ∈ en_cw := cw_at 503 (by decide +kernel) (by decide +kernel)
theorem cwl504 : Cond.code yX6_hole cX6_hole 8 (some .int) ∈ en_cw := cw_at 504 (by decide +kernel) (by decide +kernel)
theorem cwl619 : Cond.classLink RL 23 "java/lang/IndexOutOfBoundsException" ∈ en_cw := cw_at 619 (by decide +kernel) (by decide +kernel)
theorem cwl643 : Cond.methodLink RL 19 yX6_area ∈ en_cw := cw_at 643 (by decide +kernel) (by decide +kernel)
theorem cwl644 : Cond.instanceMethod yX6_area ∈ en_cw := cw_at 644 (by decide +kernel) (by decide +kernel)
theorem cwl645 : Cond.selects RX6 yX6_area yX6_area ∈ en_cw := cw_at 645 (by decide +kernel) (by decide +kernel)
theorem cwl646 : Cond.code yX6_area cX6_area 7 (some .int) ∈ en_cw := cw_at 646 (by decide +kernel) (by decide +kernel)
theorem cwl676 : Cond.methodLink RL 25 yX6_kindAt ∈ en_cw := cw_at 676 (by decide +kernel) (by decide +kernel)
theorem cwl677 : Cond.instanceMethod yX6_kindAt ∈ en_cw := cw_at 677 (by decide +kernel) (by decide +kernel)
theorem cwl678 : Cond.selects RX6 yX6_kindAt yX6_kindAt ∈ en_cw := cw_at 678 (by decide +kernel) (by decide +kernel)
theorem cwl679 : Cond.code yX6_kindAt cX6_kindAt 4 (some .char) ∈ en_cw := cw_at 679 (by decide +kernel) (by decide +kernel)
theorem cwl687 : Cond.methodLink RL 29 yX6_player ∈ en_cw := cw_at 687 (by decide +kernel) (by decide +kernel)
theorem cwl688 : Cond.instanceMethod yX6_player ∈ en_cw := cw_at 688 (by decide +kernel) (by decide +kernel)
theorem cwl689 : Cond.selects RX6 yX6_player yX6_player ∈ en_cw := cw_at 689 (by decide +kernel) (by decide +kernel)
theorem cwl690 : Cond.code yX6_player cX6_player 1 (some .int) ∈ en_cw := cw_at 690 (by decide +kernel) (by decide +kernel)
theorem cwl695 : Cond.methodLink RL 33 yX6_setHandicap ∈ en_cw := cw_at 695 (by decide +kernel) (by decide +kernel)
theorem cwl696 : Cond.instanceMethod yX6_setHandicap ∈ en_cw := cw_at 696 (by decide +kernel) (by decide +kernel)
theorem cwl697 : Cond.selects RX6 yX6_setHandicap yX6_setHandicap ∈ en_cw := cw_at 697 (by decide +kernel) (by decide +kernel)
theorem cwl698 : Cond.code yX6_setHandicap cX6_setHandicap 4 (some .int) ∈ en_cw := cw_at 698 (by decide +kernel) (by decide +kernel)
theorem cwl709 : Cond.methodLink RL 37 yX6_gets ∈ en_cw := cw_at 709 (by decide +kernel) (by decide +kernel)
theorem cwl710 : Cond.instanceMethod yX6_gets ∈ en_cw := cw_at 710 (by decide +kernel) (by decide +kernel)
theorem cwl711 : Cond.selects RX6 yX6_gets yX6_gets ∈ en_cw := cw_at 711 (by decide +kernel) (by decide +kernel)
theorem cwl712 : Cond.code yX6_gets cX6_gets 3 (some .int) ∈ en_cw := cw_at 712 (by decide +kernel) (by decide +kernel)
theorem cwl716 : Cond.methodLink RL 40 yX6_edition ∈ en_cw := cw_at 716 (by decide +kernel) (by decide +kernel)
theorem cwl717 : Cond.instanceMethod yX6_edition ∈ en_cw := cw_at 717 (by decide +kernel) (by decide +kernel)
theorem cwl718 : Cond.selects RX6 yX6_edition yX6_edition ∈ en_cw := cw_at 718 (by decide +kernel) (by decide +kernel)
theorem cwl719 : Cond.code yX6_edition cX6_edition 3 (some .char) ∈ en_cw := cw_at 719 (by decide +kernel) (by decide +kernel)
theorem cwl724 : Cond.methodLink RL 44 yX6_begin ∈ en_cw := cw_at 724 (by decide +kernel) (by decide +kernel)
theorem cwl725 : Cond.instanceMethod yX6_begin ∈ en_cw := cw_at 725 (by decide +kernel) (by decide +kernel)
theorem cwl726 : Cond.selects RX6 yX6_begin yX6_begin ∈ en_cw := cw_at 726 (by decide +kernel) (by decide +kernel)
theorem cwl727 : Cond.code yX6_begin cX6_begin 3 (some .int) ∈ en_cw := cw_at 727 (by decide +kernel) (by decide +kernel)
theorem cwl753 : Cond.methodLink RL 48 yX6_holeOn ∈ en_cw := cw_at 753 (by decide +kernel) (by decide +kernel)
theorem cwl754 : Cond.instanceMethod yX6_holeOn ∈ en_cw := cw_at 754 (by decide +kernel) (by decide +kernel)
theorem cwl755 : Cond.selects RX6 yX6_holeOn yX6_holeOn ∈ en_cw := cw_at 755 (by decide +kernel) (by decide +kernel)
theorem cwl756 : Cond.code yX6_holeOn cX6_holeOn 1 (some .int) ∈ en_cw := cw_at 756 (by decide +kernel) (by decide +kernel)
theorem cwl765 : Cond.classLink RL 54 "java/util/NoSuchElementException" ∈ en_cw := cw_at 765 (by decide +kernel) (by decide +kernel)
theorem cwl766 : Cond.methodLink RL 51 yX6_away ∈ en_cw := cw_at 766 (by decide +kernel) (by decide +kernel)
theorem cwl767 : Cond.instanceMethod yX6_away ∈ en_cw := cw_at 767 (by decide +kernel) (by decide +kernel)
theorem cwl768 : Cond.selects RX6 yX6_away yX6_away ∈ en_cw := cw_at 768 (by decide +kernel) (by decide +kernel)
theorem cwl769 : Cond.code yX6_away cX6_away 2 (some .int) ∈ en_cw := cw_at 769 (by decide +kernel) (by decide +kernel)
theorem cwl806 : Cond.methodLink RL 56 yX6_stroke ∈ en_cw := cw_at 806 (by decide +kernel) (by decide +kernel)
theorem cwl807 : Cond.instanceMethod yX6_stroke ∈ en_cw := cw_at 807 (by decide +kernel) (by decide +kernel)
theorem cwl808 : Cond.selects RX6 yX6_stroke yX6_stroke ∈ en_cw := cw_at 808 (by decide +kernel) (by decide +kernel)
theorem cwl809 : Cond.code yX6_stroke cX6_stroke 8 (some .char) ∈ en_cw := cw_at 809 (by decide +kernel) (by decide +kernel)
theorem cwl879 : Cond.methodLink RL 59 yX6_odds ∈ en_cw := cw_at 879 (by decide +kernel) (by decide +kernel)
theorem cwl880 : Cond.instanceMethod yX6_odds ∈ en_cw := cw_at 880 (by decide +kernel) (by decide +kernel)
theorem cwl881 : Cond.selects RX6 yX6_odds yX6_odds ∈ en_cw := cw_at 881 (by decide +kernel) (by decide +kernel)
theorem cwl882 : Cond.code yX6_odds cX6_odds 11 (some .int) ∈ en_cw := cw_at 882 (by decide +kernel) (by decide +kernel)
theorem cwl887 : Cond.methodLink RL 63 yX6_provisional ∈ en_cw := cw_at 887 (by decide +kernel) (by decide +kernel)
theorem cwl888 : Cond.instanceMethod yX6_provisional ∈ en_cw := cw_at 888 (by decide +kernel) (by decide +kernel)
theorem cwl889 : Cond.selects RX6 yX6_provisional yX6_provisional ∈ en_cw := cw_at 889 (by decide +kernel) (by decide +kernel)
theorem cwl890 : Cond.code yX6_provisional cX6_provisional 8 (some .char) ∈ en_cw := cw_at 890 (by decide +kernel) (by decide +kernel)
theorem cwl895 : Cond.methodLink RL 66 yX6_search ∈ en_cw := cw_at 895 (by decide +kernel) (by decide +kernel)
theorem cwl896 : Cond.instanceMethod yX6_search ∈ en_cw := cw_at 896 (by decide +kernel) (by decide +kernel)
theorem cwl897 : Cond.selects RX6 yX6_search yX6_search ∈ en_cw := cw_at 897 (by decide +kernel) (by decide +kernel)
theorem cwl898 : Cond.code yX6_search cX6_search 3 (some .char) ∈ en_cw := cw_at 898 (by decide +kernel) (by decide +kernel)
theorem cwl911 : Cond.methodLink RL 70 yX6_again ∈ en_cw := cw_at 911 (by decide +kernel) (by decide +kernel)
theorem cwl912 : Cond.instanceMethod yX6_again ∈ en_cw := cw_at 912 (by decide +kernel) (by decide +kernel)
theorem cwl913 : Cond.selects RX6 yX6_again yX6_again ∈ en_cw := cw_at 913 (by decide +kernel) (by decide +kernel)
theorem cwl914 : Cond.code yX6_again cX6_again 3 (some .int) ∈ en_cw := cw_at 914 (by decide +kernel) (by decide +kernel)
theorem cwl931 : Cond.methodLink RL 74 yX6_line ∈ en_cw := cw_at 931 (by decide +kernel) (by decide +kernel)
theorem cwl932 : Cond.instanceMethod yX6_line ∈ en_cw := cw_at 932 (by decide +kernel) (by decide +kernel)
theorem cwl933 : Cond.selects RX6 yX6_line yX6_line ∈ en_cw := cw_at 933 (by decide +kernel) (by decide +kernel)
theorem cwl934 : Cond.code yX6_line cX6_line 6 (some .int) ∈ en_cw := cw_at 934 (by decide +kernel) (by decide +kernel)
theorem cwl956 : Cond.methodLink RL 77 yX6_aside ∈ en_cw := cw_at 956 (by decide +kernel) (by decide +kernel)
theorem cwl957 : Cond.instanceMethod yX6_aside ∈ en_cw := cw_at 957 (by decide +kernel) (by decide +kernel)
theorem cwl958 : Cond.selects RX6 yX6_aside yX6_aside ∈ en_cw := cw_at 958 (by decide +kernel) (by decide +kernel)
theorem cwl959 : Cond.code yX6_aside cX6_aside 5 (some .int) ∈ en_cw := cw_at 959 (by decide +kernel) (by decide +kernel)
theorem cwl973 : Cond.methodLink RL 81 yX6_point ∈ en_cw := cw_at 973 (by decide +kernel) (by decide +kernel)
theorem cwl974 : Cond.instanceMethod yX6_point ∈ en_cw := cw_at 974 (by decide +kernel) (by decide +kernel)
theorem cwl975 : Cond.selects RX6 yX6_point yX6_point ∈ en_cw := cw_at 975 (by decide +kernel) (by decide +kernel)
theorem cwl976 : Cond.code yX6_point cX6_point 5 (some .int) ∈ en_cw := cw_at 976 (by decide +kernel) (by decide +kernel)
theorem cwl982 : Cond.methodLink RL 85 yX6_free ∈ en_cw := cw_at 982 (by decide +kernel) (by decide +kernel)
theorem cwl983 : Cond.instanceMethod yX6_free ∈ en_cw := cw_at 983 (by decide +kernel) (by decide +kernel)
theorem cwl984 : Cond.selects RX6 yX6_free yX6_free ∈ en_cw := cw_at 984 (by decide +kernel) (by decide +kernel)
theorem cwl985 : Cond.code yX6_free cX6_free 9 (some .char) ∈ en_cw := cw_at 985 (by decide +kernel) (by decide +kernel)
theorem cwl992 : Cond.methodLink RL 88 yX6_wrongPlace ∈ en_cw := cw_at 992 (by decide +kernel) (by decide +kernel)
theorem cwl993 : Cond.instanceMethod yX6_wrongPlace ∈ en_cw := cw_at 993 (by decide +kernel) (by decide +kernel)
theorem cwl994 : Cond.selects RX6 yX6_wrongPlace yX6_wrongPlace ∈ en_cw := cw_at 994 (by decide +kernel) (by decide +kernel)
theorem cwl995 : Cond.code yX6_wrongPlace cX6_wrongPlace 7 (some .boolean) ∈ en_cw := cw_at 995 (by decide +kernel) (by decide +kernel)
theorem cwl1005 : Cond.methodLink RL 92 yX6_correct ∈ en_cw := cw_at 1005 (by decide +kernel) (by decide +kernel)
theorem cwl1006 : Cond.instanceMethod yX6_correct ∈ en_cw := cw_at 1006 (by decide +kernel) (by decide +kernel)
theorem cwl1007 : Cond.selects RX6 yX6_correct yX6_correct ∈ en_cw := cw_at 1007 (by decide +kernel) (by decide +kernel)
theorem cwl1008 : Cond.code yX6_correct cX6_correct 3 (some .int) ∈ en_cw := cw_at 1008 (by decide +kernel) (by decide +kernel)
theorem cwl1017 : Cond.methodLink RL 95 yX6_move ∈ en_cw := cw_at 1017 (by decide +kernel) (by decide +kernel)
theorem cwl1018 : Cond.instanceMethod yX6_move ∈ en_cw := cw_at 1018 (by decide +kernel) (by decide +kernel)
theorem cwl1019 : Cond.selects RX6 yX6_move yX6_move ∈ en_cw := cw_at 1019 (by decide +kernel) (by decide +kernel)
theorem cwl1020 : Cond.code yX6_move cX6_move 8 (some .int) ∈ en_cw := cw_at 1020 (by decide +kernel) (by decide +kernel)
theorem cwl1026 : Cond.methodLink RL 99 yX6_wrongBall ∈ en_cw := cw_at 1026 (by decide +kernel) (by decide +kernel)
theorem cwl1027 : Cond.instanceMethod yX6_wrongBall ∈ en_cw := cw_at 1027 (by decide +kernel) (by decide +kernel)
theorem cwl1028 : Cond.selects RX6 yX6_wrongBall yX6_wrongBall ∈ en_cw := cw_at 1028 (by decide +kernel) (by decide +kernel)
theorem cwl1029 : Cond.code yX6_wrongBall cX6_wrongBall 4 (some .int) ∈ en_cw := cw_at 1029 (by decide +kernel) (by decide +kernel)
theorem cwl1034 : Cond.methodLink RL 102 yX6_pickUp ∈ en_cw := cw_at 1034 (by decide +kernel) (by decide +kernel)
theorem cwl1035 : Cond.instanceMethod yX6_pickUp ∈ en_cw := cw_at 1035 (by decide +kernel) (by decide +kernel)
theorem cwl1036 : Cond.selects RX6 yX6_pickUp yX6_pickUp ∈ en_cw := cw_at 1036 (by decide +kernel) (by decide +kernel)
theorem cwl1037 : Cond.code yX6_pickUp cX6_pickUp 3 (some .int) ∈ en_cw := cw_at 1037 (by decide +kernel) (by decide +kernel)
theorem cwl1046 : Cond.methodLink RL 105 yX6_suspend ∈ en_cw := cw_at 1046 (by decide +kernel) (by decide +kernel)
theorem cwl1047 : Cond.instanceMethod yX6_suspend ∈ en_cw := cw_at 1047 (by decide +kernel) (by decide +kernel)
theorem cwl1048 : Cond.selects RX6 yX6_suspend yX6_suspend ∈ en_cw := cw_at 1048 (by decide +kernel) (by decide +kernel)
theorem cwl1049 : Cond.code yX6_suspend cX6_suspend 3 (some .boolean) ∈ en_cw := cw_at 1049 (by decide +kernel) (by decide +kernel)
theorem cwl1053 : Cond.methodLink RL 109 yX6_cancel ∈ en_cw := cw_at 1053 (by decide +kernel) (by decide +kernel)
theorem cwl1054 : Cond.instanceMethod yX6_cancel ∈ en_cw := cw_at 1054 (by decide +kernel) (by decide +kernel)
theorem cwl1055 : Cond.selects RX6 yX6_cancel yX6_cancel ∈ en_cw := cw_at 1055 (by decide +kernel) (by decide +kernel)
theorem cwl1056 : Cond.code yX6_cancel cX6_cancel 2 (some .boolean) ∈ en_cw := cw_at 1056 (by decide +kernel) (by decide +kernel)
theorem cwl1061 : Cond.methodLink RL 113 yX6_concede ∈ en_cw := cw_at 1061 (by decide +kernel) (by decide +kernel)
theorem cwl1062 : Cond.instanceMethod yX6_concede ∈ en_cw := cw_at 1062 (by decide +kernel) (by decide +kernel)
theorem cwl1063 : Cond.selects RX6 yX6_concede yX6_concede ∈ en_cw := cw_at 1063 (by decide +kernel) (by decide +kernel)
theorem cwl1064 : Cond.code yX6_concede cX6_concede 3 (some .int) ∈ en_cw := cw_at 1064 (by decide +kernel) (by decide +kernel)
theorem cwl1085 : Cond.methodLink RL 117 yX6_nextHole ∈ en_cw := cw_at 1085 (by decide +kernel) (by decide +kernel)
theorem cwl1086 : Cond.instanceMethod yX6_nextHole ∈ en_cw := cw_at 1086 (by decide +kernel) (by decide +kernel)
theorem cwl1087 : Cond.selects RX6 yX6_nextHole yX6_nextHole ∈ en_cw := cw_at 1087 (by decide +kernel) (by decide +kernel)
theorem cwl1088 : Cond.code yX6_nextHole cX6_nextHole 2 (some .int) ∈ en_cw := cw_at 1088 (by decide +kernel) (by decide +kernel)
theorem cwl1119 : Cond.methodLink RL 120 yX6_state ∈ en_cw := cw_at 1119 (by decide +kernel) (by decide +kernel)
theorem cwl1120 : Cond.instanceMethod yX6_state ∈ en_cw := cw_at 1120 (by decide +kernel) (by decide +kernel)
theorem cwl1121 : Cond.selects RX6 yX6_state yX6_state ∈ en_cw := cw_at 1121 (by decide +kernel) (by decide +kernel)
theorem cwl1122 : Cond.code yX6_state cX6_state 2 (some .char) ∈ en_cw := cw_at 1122 (by decide +kernel) (by decide +kernel)
theorem cwl1126 : Cond.methodLink RL 123 yX6_lie ∈ en_cw := cw_at 1126 (by decide +kernel) (by decide +kernel)
theorem cwl1127 : Cond.instanceMethod yX6_lie ∈ en_cw := cw_at 1127 (by decide +kernel) (by decide +kernel)
theorem cwl1128 : Cond.selects RX6 yX6_lie yX6_lie ∈ en_cw := cw_at 1128 (by decide +kernel) (by decide +kernel)
theorem cwl1129 : Cond.code yX6_lie cX6_lie 4 (some .int) ∈ en_cw := cw_at 1129 (by decide +kernel) (by decide +kernel)
theorem cwl1134 : Cond.methodLink RL 126 yX6_strokes ∈ en_cw := cw_at 1134 (by decide +kernel) (by decide +kernel)
theorem cwl1135 : Cond.instanceMethod yX6_strokes ∈ en_cw := cw_at 1135 (by decide +kernel) (by decide +kernel)
theorem cwl1136 : Cond.selects RX6 yX6_strokes yX6_strokes ∈ en_cw := cw_at 1136 (by decide +kernel) (by decide +kernel)
theorem cwl1137 : Cond.code yX6_strokes cX6_strokes 2 (some .int) ∈ en_cw := cw_at 1137 (by decide +kernel) (by decide +kernel)
theorem cwl1141 : Cond.methodLink RL 129 yX6_penalties ∈ en_cw := cw_at 1141 (by decide +kernel) (by decide +kernel)
theorem cwl1142 : Cond.instanceMethod yX6_penalties ∈ en_cw := cw_at 1142 (by decide +kernel) (by decide +kernel)
theorem cwl1143 : Cond.selects RX6 yX6_penalties yX6_penalties ∈ en_cw := cw_at 1143 (by decide +kernel) (by decide +kernel)
theorem cwl1144 : Cond.code yX6_penalties cX6_penalties 2 (some .int) ∈ en_cw := cw_at 1144 (by decide +kernel) (by decide +kernel)
theorem cwl1148 : Cond.methodLink RL 132 yX6_isOut ∈ en_cw := cw_at 1148 (by decide +kernel) (by decide +kernel)
theorem cwl1149 : Cond.instanceMethod yX6_isOut ∈ en_cw := cw_at 1149 (by decide +kernel) (by decide +kernel)
theorem cwl1150 : Cond.selects RX6 yX6_isOut yX6_isOut ∈ en_cw := cw_at 1150 (by decide +kernel) (by decide +kernel)
theorem cwl1151 : Cond.code yX6_isOut cX6_isOut 2 (some .boolean) ∈ en_cw := cw_at 1151 (by decide +kernel) (by decide +kernel)
theorem cwl1155 : Cond.methodLink RL 135 yX6_score ∈ en_cw := cw_at 1155 (by decide +kernel) (by decide +kernel)
theorem cwl1156 : Cond.instanceMethod yX6_score ∈ en_cw := cw_at 1156 (by decide +kernel) (by decide +kernel)
theorem cwl1157 : Cond.selects RX6 yX6_score yX6_score ∈ en_cw := cw_at 1157 (by decide +kernel) (by decide +kernel)
theorem cwl1158 : Cond.code yX6_score cX6_score 4 (some .int) ∈ en_cw := cw_at 1158 (by decide +kernel) (by decide +kernel)
theorem cwl1163 : Cond.methodLink RL 138 yX6_up ∈ en_cw := cw_at 1163 (by decide +kernel) (by decide +kernel)
theorem cwl1164 : Cond.instanceMethod yX6_up ∈ en_cw := cw_at 1164 (by decide +kernel) (by decide +kernel)
theorem cwl1165 : Cond.selects RX6 yX6_up yX6_up ∈ en_cw := cw_at 1165 (by decide +kernel) (by decide +kernel)
theorem cwl1166 : Cond.code yX6_up cX6_up 1 (some .int) ∈ en_cw := cw_at 1166 (by decide +kernel) (by decide +kernel)
theorem cwl1175 : Cond.methodLink RL 141 yX6_isMatchOver ∈ en_cw := cw_at 1175 (by decide +kernel) (by decide +kernel)
theorem cwl1176 : Cond.instanceMethod yX6_isMatchOver ∈ en_cw := cw_at 1176 (by decide +kernel) (by decide +kernel)
theorem cwl1177 : Cond.selects RX6 yX6_isMatchOver yX6_isMatchOver ∈ en_cw := cw_at 1177 (by decide +kernel) (by decide +kernel)
theorem cwl1178 : Cond.code yX6_isMatchOver cX6_isMatchOver 1 (some .boolean) ∈ en_cw := cw_at 1178 (by decide +kernel) (by decide +kernel)
theorem cwl1185 : Cond.methodLink RL 145 yX6_write ∈ en_cw := cw_at 1185 (by decide +kernel) (by decide +kernel)
theorem cwl1186 : Cond.instanceMethod yX6_write ∈ en_cw := cw_at 1186 (by decide +kernel) (by decide +kernel)
theorem cwl1187 : Cond.selects RX6 yX6_write yX6_write ∈ en_cw := cw_at 1187 (by decide +kernel) (by decide +kernel)
theorem cwl1188 : Cond.code yX6_write cX6_write 6 (some .int) ∈ en_cw := cw_at 1188 (by decide +kernel) (by decide +kernel)
theorem cwl1194 : Cond.methodLink RL 148 yX6_sign ∈ en_cw := cw_at 1194 (by decide +kernel) (by decide +kernel)
theorem cwl1195 : Cond.instanceMethod yX6_sign ∈ en_cw := cw_at 1195 (by decide +kernel) (by decide +kernel)
theorem cwl1196 : Cond.selects RX6 yX6_sign yX6_sign ∈ en_cw := cw_at 1196 (by decide +kernel) (by decide +kernel)
theorem cwl1197 : Cond.code yX6_sign cX6_sign 3 (some .boolean) ∈ en_cw := cw_at 1197 (by decide +kernel) (by decide +kernel)
theorem cwl1213 : Cond.methodLink RL 151 yX6_total ∈ en_cw := cw_at 1213 (by decide +kernel) (by decide +kernel)
theorem cwl1214 : Cond.instanceMethod yX6_total ∈ en_cw := cw_at 1214 (by decide +kernel) (by decide +kernel)
theorem cwl1215 : Cond.selects RX6 yX6_total yX6_total ∈ en_cw := cw_at 1215 (by decide +kernel) (by decide +kernel)
theorem cwl1216 : Cond.code yX6_total cX6_total 3 (some .int) ∈ en_cw := cw_at 1216 (by decide +kernel) (by decide +kernel)
theorem cwl1229 : Cond.methodLink RL 154 yX6_stableford ∈ en_cw := cw_at 1229 (by decide +kernel) (by decide +kernel)
theorem cwl1230 : Cond.instanceMethod yX6_stableford ∈ en_cw := cw_at 1230 (by decide +kernel) (by decide +kernel)
theorem cwl1231 : Cond.selects RX6 yX6_stableford yX6_stableford ∈ en_cw := cw_at 1231 (by decide +kernel) (by decide +kernel)
theorem cwl1232 : Cond.code yX6_stableford cX6_stableford 4 (some .int) ∈ en_cw := cw_at 1232 (by decide +kernel) (by decide +kernel)
theorem cwl1239 : Cond.methodLink RL 157 yX6_parPlay ∈ en_cw := cw_at 1239 (by decide +kernel) (by decide +kernel)
theorem cwl1240 : Cond.instanceMethod yX6_parPlay ∈ en_cw := cw_at 1240 (by decide +kernel) (by decide +kernel)
theorem cwl1241 : Cond.selects RX6 yX6_parPlay yX6_parPlay ∈ en_cw := cw_at 1241 (by decide +kernel) (by decide +kernel)
theorem cwl1242 : Cond.code yX6_parPlay cX6_parPlay 5 (some .int) ∈ en_cw := cw_at 1242 (by decide +kernel) (by decide +kernel)
theorem cwl1251 : Cond.methodLink RL 160 yX6_together ∈ en_cw := cw_at 1251 (by decide +kernel) (by decide +kernel)
theorem cwl1252 : Cond.instanceMethod yX6_together ∈ en_cw := cw_at 1252 (by decide +kernel) (by decide +kernel)
theorem cwl1253 : Cond.selects RX6 yX6_together yX6_together ∈ en_cw := cw_at 1253 (by decide +kernel) (by decide +kernel)
theorem cwl1254 : Cond.code yX6_together cX6_together 9 (some .int) ∈ en_cw := cw_at 1254 (by decide +kernel) (by decide +kernel)
theorem cwl1261 : Cond.methodLink RL 163 yX6_skins ∈ en_cw := cw_at 1261 (by decide +kernel) (by decide +kernel)
theorem cwl1262 : Cond.instanceMethod yX6_skins ∈ en_cw := cw_at 1262 (by decide +kernel) (by decide +kernel)
theorem cwl1263 : Cond.selects RX6 yX6_skins yX6_skins ∈ en_cw := cw_at 1263 (by decide +kernel) (by decide +kernel)
theorem cwl1264 : Cond.code yX6_skins cX6_skins 2 (some .int) ∈ en_cw := cw_at 1264 (by decide +kernel) (by decide +kernel)
theorem cwl1268 : Cond.methodLink RL 166 yX6_rank ∈ en_cw := cw_at 1268 (by decide +kernel) (by decide +kernel)
theorem cwl1269 : Cond.instanceMethod yX6_rank ∈ en_cw := cw_at 1269 (by decide +kernel) (by decide +kernel)
theorem cwl1270 : Cond.selects RX6 yX6_rank yX6_rank ∈ en_cw := cw_at 1270 (by decide +kernel) (by decide +kernel)
theorem cwl1271 : Cond.code yX6_rank cX6_rank 2 (some .int) ∈ en_cw := cw_at 1271 (by decide +kernel) (by decide +kernel)
theorem cwl1292 : Cond.methodLink RL 169 yX6_isAhead ∈ en_cw := cw_at 1292 (by decide +kernel) (by decide +kernel)
theorem cwl1293 : Cond.instanceMethod yX6_isAhead ∈ en_cw := cw_at 1293 (by decide +kernel) (by decide +kernel)
theorem cwl1294 : Cond.selects RX6 yX6_isAhead yX6_isAhead ∈ en_cw := cw_at 1294 (by decide +kernel) (by decide +kernel)
theorem cwl1295 : Cond.code yX6_isAhead cX6_isAhead 4 (some .boolean) ∈ en_cw := cw_at 1295 (by decide +kernel) (by decide +kernel)
theorem cwl1299 : Cond.methodLink RL 173 yX6_cut ∈ en_cw := cw_at 1299 (by decide +kernel) (by decide +kernel)
theorem cwl1300 : Cond.instanceMethod yX6_cut ∈ en_cw := cw_at 1300 (by decide +kernel) (by decide +kernel)
theorem cwl1301 : Cond.selects RX6 yX6_cut yX6_cut ∈ en_cw := cw_at 1301 (by decide +kernel) (by decide +kernel)
theorem cwl1302 : Cond.code yX6_cut cX6_cut 4 (some .int) ∈ en_cw := cw_at 1302 (by decide +kernel) (by decide +kernel)
theorem cwl1307 : Cond.methodLink RL 176 yX6_conditions ∈ en_cw := cw_at 1307 (by decide +kernel) (by decide +kernel)
theorem cwl1308 : Cond.instanceMethod yX6_conditions ∈ en_cw := cw_at 1308 (by decide +kernel) (by decide +kernel)
theorem cwl1309 : Cond.selects RX6 yX6_conditions yX6_conditions ∈ en_cw := cw_at 1309 (by decide +kernel) (by decide +kernel)
theorem cwl1310 : Cond.code yX6_conditions cX6_conditions 3 (some .int) ∈ en_cw := cw_at 1310 (by decide +kernel) (by decide +kernel)
theorem cwl1315 : Cond.methodLink RL 179 yX6_post ∈ en_cw := cw_at 1315 (by decide +kernel) (by decide +kernel)
theorem cwl1316 : Cond.instanceMethod yX6_post ∈ en_cw := cw_at 1316 (by decide +kernel) (by decide +kernel)
theorem cwl1317 : Cond.selects RX6 yX6_post yX6_post ∈ en_cw := cw_at 1317 (by decide +kernel) (by decide +kernel)
theorem cwl1318 : Cond.code yX6_post cX6_post 8 (some .int) ∈ en_cw := cw_at 1318 (by decide +kernel) (by decide +kernel)
theorem cwl1340 : Cond.methodLink RL 182 yX6_difference ∈ en_cw := cw_at 1340 (by decide +kernel) (by decide +kernel)
theorem cwl1341 : Cond.instanceMethod yX6_difference ∈ en_cw := cw_at 1341 (by decide +kernel) (by decide +kernel)
theorem cwl1342 : Cond.selects RX6 yX6_difference yX6_difference ∈ en_cw := cw_at 1342 (by decide +kernel) (by decide +kernel)
theorem cwl1343 : Cond.code yX6_difference cX6_difference 3 (some .int) ∈ en_cw := cw_at 1343 (by decide +kernel) (by decide +kernel)
theorem cwl1349 : Cond.methodLink RL 185 yX6_index ∈ en_cw := cw_at 1349 (by decide +kernel) (by decide +kernel)
theorem cwl1350 : Cond.instanceMethod yX6_index ∈ en_cw := cw_at 1350 (by decide +kernel) (by decide +kernel)
theorem cwl1351 : Cond.selects RX6 yX6_index yX6_index ∈ en_cw := cw_at 1351 (by decide +kernel) (by decide +kernel)
theorem cwl1352 : Cond.code yX6_index cX6_index 2 (some .int) ∈ en_cw := cw_at 1352 (by decide +kernel) (by decide +kernel)
theorem cwl1361 : Cond.methodLink RL 188 yX6_lowIndex ∈ en_cw := cw_at 1361 (by decide +kernel) (by decide +kernel)
theorem cwl1362 : Cond.instanceMethod yX6_lowIndex ∈ en_cw := cw_at 1362 (by decide +kernel) (by decide +kernel)
theorem cwl1363 : Cond.selects RX6 yX6_lowIndex yX6_lowIndex ∈ en_cw := cw_at 1363 (by decide +kernel) (by decide +kernel)
theorem cwl1364 : Cond.code yX6_lowIndex cX6_lowIndex 2 (some .int) ∈ en_cw := cw_at 1364 (by decide +kernel) (by decide +kernel)
theorem cwl1368 : Cond.classLink RL 195 "java/lang/ArithmeticException" ∈ en_cw := cw_at 1368 (by decide +kernel) (by decide +kernel)
theorem cwl1382 : Cond.methodLink RL 191 yX6_penaltyShare ∈ en_cw := cw_at 1382 (by decide +kernel) (by decide +kernel)
theorem cwl1383 : Cond.instanceMethod yX6_penaltyShare ∈ en_cw := cw_at 1383 (by decide +kernel) (by decide +kernel)
theorem cwl1384 : Cond.selects RX6 yX6_penaltyShare yX6_penaltyShare ∈ en_cw := cw_at 1384 (by decide +kernel) (by decide +kernel)
theorem cwl1385 : Cond.code yX6_penaltyShare cX6_penaltyShare 6 (some .float) ∈ en_cw := cw_at 1385 (by decide +kernel) (by decide +kernel)
theorem cwl1391 : Cond.methodLink RL 197 yX6_meanScore ∈ en_cw := cw_at 1391 (by decide +kernel) (by decide +kernel)
theorem cwl1392 : Cond.instanceMethod yX6_meanScore ∈ en_cw := cw_at 1392 (by decide +kernel) (by decide +kernel)
theorem cwl1393 : Cond.selects RX6 yX6_meanScore yX6_meanScore ∈ en_cw := cw_at 1393 (by decide +kernel) (by decide +kernel)
theorem cwl1394 : Cond.code yX6_meanScore cX6_meanScore 6 (some .double) ∈ en_cw := cw_at 1394 (by decide +kernel) (by decide +kernel)
theorem dw_again_0 : decode cL_again 0 = .ok (.aload_n 2, 1) := by decide +kernel
theorem dw_again_1 : decode cL_again 1 = .ok (.iconst 0, 1) := by decide +kernel
theorem dw_again_2 : decode cL_again 2 = .ok (.aload_n 0, 1) := by decide +kernel
theorem dw_again_3 : decode cL_again 3 = .ok (.iload_n 1, 1) := by decide +kernel
theorem dw_again_4 : decode cL_again 4 = .ok (.invokevirtual 70, 3) := by decide +kernel
theorem dw_again_7 : decode cL_again 7 = .ok (.i2l, 1) := by decide +kernel
theorem dw_again_8 : decode cL_again 8 = .ok (.lastore, 1) := by decide +kernel
theorem dw_again_9 : decode cL_again 9 = .ok (.goto 12, 3) := by decide +kernel
theorem dw_again_12 : decode cL_again 12 = .ok (.astore_n 3, 1) := by decide +kernel
theorem dw_again_13 : decode cL_again 13 = .ok (.iconst 1, 1) := by decide +kernel
theorem dw_again_14 : decode cL_again 14 = .ok (.ireturn, 1) := by decide +kernel
theorem dw_again_15 : decode cL_again 15 = .ok (.astore_n 3, 1) := by decide +kernel
theorem dw_again_16 : decode cL_again 16 = .ok (.iconst 2, 1) := by decide +kernel
theorem dw_again_17 : decode cL_again 17 = .ok (.ireturn, 1) := by decide +kernel
theorem dw_again_18 : decode cL_again 18 = .ok (.astore_n 3, 1) := by decide +kernel
theorem dw_again_19 : decode cL_again 19 = .ok (.iconst 3, 1) := by decide +kernel
theorem dw_again_20 : decode cL_again 20 = .ok (.ireturn, 1) := by decide +kernel
theorem dw_again_21 : decode cL_again 21 = .ok (.iconst 0, 1) := by decide +kernel
theorem dw_again_22 : decode cL_again 22 = .ok (.ireturn, 1) := by decide +kernel
theorem gw_X6_again : en_CV en_cw RL 70 yX6_again RX6 cX6_again 3 (some .int) 1 := en_gv cwl911 cwl912 cwl913 cwl75 cwl914 ⟨rfl, by decide, by decide, by decide +kernel⟩
set_option maxHeartbeats 4000000 in
set_option maxRecDepth 100000 in
theorem wr_again {l : Launch} (hl9 : l.stackTraces = false) {PP : Int32 → Int32 → Prop} (hPP : en_P0 PP) (Ω : Nat → en_H → va_W → Prop) (D : va_G) (tys : List (ClassId × FieldType)) (cO cD : ClassId) (sh : en_H) (w : va_W) (sz qx qo : Nat) (fx : List Value) (g0 : (Nat → Int64)) (a1 : Int32) (hTY : tys.map Prod.snd = en_TY0) (hW : en_W PP en_KT k_X6_again_0.2.2.2.2.1 sh tys (fun _ => False) w) (hD0 : va_D (va_A w sz) w) (hΩ : en_Om en_om0 sh Ω) (hqx : sh.1[qx]? = some 0) (hwx : w[qx]? = some (sh.2 qx, .inr (12, fx))) (hqo : sh.1[qo]? = some 56) (hwo : w[qo]? = some (sh.2 qo, .inl (cO, 1, .inr (.inl g0)))) :
    Met l yL_again (Cond.codeWith yL_again cL_again 4 (some .int) [(0, 9, 12, 23), (0, 9, 15, 15), (0, 9, 18, 17)] :: en_cw) (en_rm 3 (3, 18)) (va_Pc [.ref (sh.2 qx), .int a1, .ref (sh.2 qo)] (en_B D vwCl (tys ++ [(cO, .long), (cD, .double)]) w sz)) (va_Qi (fun _ u => (en_Px tys PP en_KT k_X6_again_0.2.2.2.2.1 ((56, 0) :: k_X6_again_0.2.2.2.1) sh w u ∧ ∃ g, u.2[qo]? = some (sh.2 qo, .inl (cO, 1, .inr (.inl g))))) (en_Bw D vwCl (va_A w sz)) (va_A w sz)) 3 18 (va_A w sz) := by
  refine va_MetW (cc := cL_again) (maxL := 4) (ret := some .int) (hh := [(0, 9, 12, 23), (0, 9, 15, 15), (0, 9, 18, 17)]) (by decide +kernel) rfl ?_
  intro p e s m args below meth c s₁ B hml hv
  obtain ⟨rfl, hsz, hP, hK, hT⟩ := hv
  subst hsz
  have hx := B.exec
  have hb := B.bytes
  have hr := B.returns
  have hts0 := atoms_spec (ws := Cond.codeWith yL_again cL_again 4 (some .int) [(0, 9, 12, 23), (0, 9, 15, 15), (0, 9, 18, 17)] :: en_cw) B.pre
  have hts : ∀ z ∈ en_cw, z.before _ s = true := fun z hz => hts0 z (List.mem_cons_of_mem _ hz)
  have hown : s.vm.findClass RL = some m.cls := findClass_of_methodNamed B.named
  have htab := vx_table (x := yL_again) B (hts0 _ List.mem_cons_self)
  have hA : ∀ q : Nat, s.heap.size ≤ q → va_A w s.heap.size q := fun q h => Or.inr h
  have hS : va_S (va_A w s.heap.size) s.heap s.heap [] := va_S.rf
  have hK0 : va_K D vwCl tys s := hK.pre
  have hTt : (tys ++ [(cO, .long), (cD, .double)])[7]? = some (cO, .long) := wr_ty hTY
  have hl := lv_entry ([.ref (sh.2 qx), .int a1, .ref (sh.2 qo)]) (n := 4) (Nat.le_of_ble_eq_true rfl)
  rw [lg_entry_eq]
  generalize (lg_sl ([.ref (sh.2 qx), .int a1, .ref (sh.2 qo)]) ++ List.replicate (4 - (lg_sl ([.ref (sh.2 qx), .int a1, .ref (sh.2 qo)])).length) Slot.unset).toArray = ls at hl ⊢
  have hl : lv_has ls 4 [(0, .ref (sh.2 qx)), (1, .int a1), (2, .ref (sh.2 qo))] := hl
  refine lv_aload_n hx hb dw_again_0 rfl (lv_at hl 2 rfl) ?_
  refine lv_iconst (v := 0) hx hb dw_again_1 (by decide) ?_
  refine lv_aload_n hx hb dw_again_2 rfl (lv_at hl 0 rfl) ?_
  refine lv_iload_n hx hb dw_again_3 rfl (lv_at hl 1 rfl) ?_
  refine en_hcV (q0 := qx) (b := sh.2 qx) (fs := fx) (co := 12) (ρp := [.ref (sh.2 qx), .int a1]) (As := [.int a1]) (rest := [.int 0, .ref (sh.2 qo)]) (lv' := 2) (ct_X6_again_0 hl9 hPP Ω) gw_X6_again rfl rfl hwx rfl rfl (Nat.le_of_ble_eq_true rfl) ⟨Nat.le_of_ble_eq_true rfl, Nat.le_of_ble_eq_true rfl⟩ ⟨Nat.le_of_ble_eq_true rfl, Nat.le_of_ble_eq_true rfl⟩ (Nat.le_of_ble_eq_true rfl) hx hb (hml.trans hl.1.symm) hts hown hTY hK0 hT hP hD0 hS hA hW hΩ (wr_pa (env := k_X6_again_0.2.1.1) ⟨⟨qx, hqx, rfl⟩, ⟨a1, rfl, en_lo a1, en_hi a1⟩, trivial⟩) dw_again_4 (fun x9 hx9 ce q9 u H1 locs1 hpx hP1 hD1 hS1 hcell hvm hcl => ?_) (fun u res H1 locs1 hrv hpo hP1 hD1 hS1 => ?_)
  · have hku := wr_keep hpx hqo (by decide +kernel) hwo
    have hpx9 := wr_same hpx ((56, 0) :: k_X6_again_0.2.2.2.1) (fun z hz => List.mem_cons_of_mem _ hz)
    rcases List.mem_cons.mp hx9 with hx8 | hx9
    · subst hx8
      refine vx_catch (E := "java/lang/IllegalStateException") (name := "java/lang/IllegalStateException") hown [⟨0, 9, 12, 23⟩] ⟨0, 9, 15, 15⟩ [⟨0, 9, 18, 17⟩] (htab.trans rfl) (wr_cons (Or.inr ⟨by decide, "java/lang/IndexOutOfBoundsException", (hts (.classLink RL 23 "java/lang/IndexOutOfBoundsException") cwl619), hT.2.2.2.2.1 _ (by decide +kernel) _ (by decide +kernel) (by decide)⟩) wr_nil) (by decide) (by decide) (hts (.classLink RL 15 "java/lang/IllegalStateException") cwl499) (va_Nw.use rfl (hT.1 (Cond.castable "java/lang/IllegalStateException" "java/lang/IllegalStateException") (tf_cast (69, "java/lang/IllegalStateException") (by decide +kernel)))) hcell hvm hcl ?_
      refine lv_astore_n (lv' := (3, .ref q9) :: [(0, .ref (sh.2 qx)), (1, .int a1), (2, .ref (sh.2 qo))]) hx hb dw_again_15 rfl hl (by decide) rfl (fun ls hl => ?_)
      refine lv_iconst (v := 2) hx hb dw_again_16 (by decide) ?_
      exact W.widen (Nat.le_of_ble_eq_true rfl) (Nat.le_of_ble_eq_true rfl) (W.iret (v := 2) hx hb hr (fun t ht hW9 => ⟨⟨2, u, rfl, ⟨hpx9, g0, hku⟩, by rw [ht]; exact hP1, hD1⟩, hS1.F ht⟩) hS1.2.2 dw_again_17)
    rcases List.mem_cons.mp hx9 with hx8 | hx9
    · subst hx8
      refine vx_catch (E := "java/lang/UnsupportedOperationException") (name := "java/lang/UnsupportedOperationException") hown [⟨0, 9, 12, 23⟩, ⟨0, 9, 15, 15⟩] ⟨0, 9, 18, 17⟩ [] (htab.trans rfl) (wr_cons (Or.inr ⟨by decide, "java/lang/IndexOutOfBoundsException", (hts (.classLink RL 23 "java/lang/IndexOutOfBoundsException") cwl619), hT.2.2.2.2.1 _ (by decide +kernel) _ (by decide +kernel) (by decide)⟩) (wr_cons (Or.inr ⟨by decide, "java/lang/IllegalStateException", (hts (.classLink RL 15 "java/lang/IllegalStateException") cwl499), hT.2.2.2.2.1 _ (by decide +kernel) _ (by decide +kernel) (by decide)⟩) wr_nil)) (by decide) (by decide) (hts (.classLink RL 17 "java/lang/UnsupportedOperationException") cwl500) (va_Nw.use rfl (hT.1 (Cond.castable "java/lang/UnsupportedOperationException" "java/lang/UnsupportedOperationException") (tf_cast (78, "java/lang/UnsupportedOperationException") (by decide +kernel)))) hcell hvm hcl ?_
      refine lv_astore_n (lv' := (3, .ref q9) :: [(0, .ref (sh.2 qx)), (1, .int a1), (2, .ref (sh.2 qo))]) hx hb dw_again_18 rfl hl (by decide) rfl (fun ls hl => ?_)
      refine lv_iconst (v := 3) hx hb dw_again_19 (by decide) ?_
      exact W.widen (Nat.le_of_ble_eq_true rfl) (Nat.le_of_ble_eq_true rfl) (W.iret (v := 3) hx hb hr (fun t ht hW9 => ⟨⟨3, u, rfl, ⟨hpx9, g0, hku⟩, by rw [ht]; exact hP1, hD1⟩, hS1.F ht⟩) hS1.2.2 dw_again_20)
    have hx8 := List.mem_singleton.mp hx9
    subst hx8
    refine vx_catch (E := "java/lang/IndexOutOfBoundsException") (name := "java/lang/IndexOutOfBoundsException") hown [] ⟨0, 9, 12, 23⟩ [⟨0, 9, 15, 15⟩, ⟨0, 9, 18, 17⟩] (htab.trans rfl) wr_nil (by decide) (by decide) (hts (.classLink RL 23 "java/lang/IndexOutOfBoundsException") cwl619) (va_Nw.use rfl (hT.1 (Cond.castable "java/lang/IndexOutOfBoundsException" "java/lang/IndexOutOfBoundsException") (tf_cast (539, "java/lang/IndexOutOfBoundsException") (by decide +kernel)))) hcell hvm hcl ?_
    refine lv_astore_n (lv' := (3, .ref q9) :: [(0, .ref (sh.2 qx)), (1, .int a1), (2, .ref (sh.2 qo))]) hx hb dw_again_12 rfl hl (by decide) rfl (fun ls hl => ?_)
    refine lv_iconst (v := 1) hx hb dw_again_13 (by decide) ?_
    exact W.widen (Nat.le_of_ble_eq_true rfl) (Nat.le_of_ble_eq_true rfl) (W.iret (v := 1) hx hb hr (fun t ht hW9 => ⟨⟨1, u, rfl, ⟨hpx9, g0, hku⟩, by rw [ht]; exact hP1, hD1⟩, hS1.F ht⟩) hS1.2.2 dw_again_14)
  · obtain ⟨hpx, hpo9⟩ := hpo
    have hku := wr_keep hpx hqo (by decide +kernel) hwo
    obtain ⟨r9, rfl⟩ := hrv
    refine lv_i2l hx hb dw_again_7 rfl ?_
    refine va_last hx hb hK hP1 hD1 hS1 qo 7 hku hTt (vp_in_nI (n := 0) (by decide) (by decide)) dw_again_8 (fun H2 locs2 hP2 hD2 hS2 => ?_)
    obtain ⟨g9, hg9⟩ : ∃ g9, g9 = vp_updL g0 (0 : Int32).toNatClampNeg r9.toInt64 := ⟨_, rfl⟩
    rw [← hg9] at hP2 hD2
    refine lv_goto (tgt := 21) hx hb dw_again_9 (by decide) ?_
    refine lv_iconst (v := 0) hx hb dw_again_21 (by decide) ?_
    exact W.widen (Nat.le_of_ble_eq_true rfl) (Nat.le_of_ble_eq_true rfl) (W.iret (v := 0) hx hb hr (fun t ht hW9 => ⟨⟨0, (u.1, u.2.set qo (sh.2 qo, .inl (cO, 1, .inr (.inl g9)))), rfl, ⟨wr_set hpx hqo (by decide +kernel) (by decide +kernel) hwo ⟨rfl, rfl⟩, g9, wr_get hku⟩, by rw [ht]; exact hP2, hD2⟩, hS2.F ht⟩) hS2.2.2 dw_again_22)
theorem dw_area_0 : decode cL_area 0 = .ok (.aload 7, 2) := by decide +kernel
theorem dw_area_2 : decode cL_area 2 = .ok (.iconst 0, 1) := by decide +kernel
theorem dw_area_3 : decode cL_area 3 = .ok (.aload_n 0, 1) := by decide +kernel
theorem dw_area_4 : decode cL_area 4 = .ok (.iload_n 1, 1) := by decide +kernel
theorem dw_area_5 : decode cL_area 5 = .ok (.iload_n 2, 1) := by decide +kernel
theorem dw_area_6 : decode cL_area 6 = .ok (.iload_n 3, 1) := by decide +kernel
theorem dw_area_7 : decode cL_area 7 = .ok (.iload 4, 2) := by decide +kernel
theorem dw_area_9 : decode cL_area 9 = .ok (.iload 5, 2) := by decide +kernel
theorem dw_area_11 : decode cL_area 11 = .ok (.iload 6, 2) := by decide +kernel
theorem dw_area_13 : decode cL_area 13 = .ok (.invokevirtual 19, 3) := by decide +kernel
theorem dw_area_16 : decode cL_area 16 = .ok (.i2l, 1) := by decide +kernel
theorem dw_area_17 : decode cL_area 17 = .ok (.lastore, 1) := by decide +kernel
theorem dw_area_18 : decode cL_area 18 = .ok (.goto 15, 3) := by decide +kernel
theorem dw_area_21 : decode cL_area 21 = .ok (.astore 8, 2) := by decide +kernel
theorem dw_area_23 : decode cL_area 23 = .ok (.iconst 1, 1) := by decide +kernel
theorem dw_area_24 : decode cL_area 24 = .ok (.ireturn, 1) := by decide +kernel
theorem dw_area_25 : decode cL_area 25 = .ok (.astore 8, 2) := by decide +kernel
theorem dw_area_27 : decode cL_area 27 = .ok (.iconst 2, 1) := by decide +kernel
theorem dw_area_28 : decode cL_area 28 = .ok (.ireturn, 1) := by decide +kernel
theorem dw_area_29 : decode cL_area 29 = .ok (.astore 8, 2) := by decide +kernel
theorem dw_area_31 : decode cL_area 31 = .ok (.iconst 3, 1) := by decide +kernel
theorem dw_area_32 : decode cL_area 32 = .ok (.ireturn, 1) := by decide +kernel
theorem dw_area_33 : decode cL_area 33 = .ok (.iconst 0, 1) := by decide +kernel
theorem dw_area_34 : decode cL_area 34 = .ok (.ireturn, 1) := by decide +kernel
theorem gw_X6_area : en_CV en_cw RL 19 yX6_area RX6 cX6_area 7 (some .int) 6 := en_gv cwl643 cwl644 cwl645 cwl75 cwl646 ⟨rfl, by decide, by decide, by decide +kernel⟩
set_option maxHeartbeats 4000000 in
set_option maxRecDepth 100000 in
theorem wr_area {l : Launch} (hl9 : l.stackTraces = false) {PP : Int32 → Int32 → Prop} (hPP : en_P0 PP) (Ω : Nat → en_H → va_W → Prop) (D : va_G) (tys : List (ClassId × FieldType)) (cO cD : ClassId) (sh : en_H) (w : va_W) (sz qx qo : Nat) (fx : List Value) (g0 : (Nat → Int64)) (a1 : Int32) (a2 : Int32) (a3 : Int32) (a4 : Int32) (a5 : Int32) (a6 : Int32) (hb2 : 0 ≤ a2.toInt ∧ a2.toInt ≤ 65535) (hTY : tys.map Prod.snd = en_TY0) (hW : en_W PP en_KT k_X6_area_0.2.2.2.2.1 sh tys (fun _ => False) w) (hD0 : va_D (va_A w sz) w) (hΩ : en_Om en_om0 sh Ω) (hqx : sh.1[qx]? = some 0) (hwx : w[qx]? = some (sh.2 qx, .inr (12, fx))) (hqo : sh.1[qo]? = some 56) (hwo : w[qo]? = some (sh.2 qo, .inl (cO, 1, .inr (.inl g0)))) :
    Met l yL_area (Cond.codeWith yL_area cL_area 9 (some .int) [(0, 18, 21, 23), (0, 18, 25, 13), (0, 18, 29, 15)] :: en_cw) (en_rm 3 (2, 12)) (va_Pc [.ref (sh.2 qx), .int a1, .int a2, .int a3, .int a4, .int a5, .int a6, .ref (sh.2 qo)] (en_B D vwCl (tys ++ [(cO, .long), (cD, .double)]) w sz)) (va_Qi (fun _ u => (en_Px tys PP en_KT k_X6_area_0.2.2.2.2.1 ((56, 0) :: k_X6_area_0.2.2.2.1) sh w u ∧ ∃ g, u.2[qo]? = some (sh.2 qo, .inl (cO, 1, .inr (.inl g))))) (en_Bw D vwCl (va_A w sz)) (va_A w sz)) 2 12 (va_A w sz) := by
  refine va_MetW (cc := cL_area) (maxL := 9) (ret := some .int) (hh := [(0, 18, 21, 23), (0, 18, 25, 13), (0, 18, 29, 15)]) (by decide +kernel) rfl ?_
  intro p e s m args below meth c s₁ B hml hv
  obtain ⟨rfl, hsz, hP, hK, hT⟩ := hv
  subst hsz
  have hx := B.exec
  have hb := B.bytes
  have hr := B.returns
  have hts0 := atoms_spec (ws := Cond.codeWith yL_area cL_area 9 (some .int) [(0, 18, 21, 23), (0, 18, 25, 13), (0, 18, 29, 15)] :: en_cw) B.pre
  have hts : ∀ z ∈ en_cw, z.before _ s = true := fun z hz => hts0 z (List.mem_cons_of_mem _ hz)
  have hown : s.vm.findClass RL = some m.cls := findClass_of_methodNamed B.named
  have htab := vx_table (x := yL_area) B (hts0 _ List.mem_cons_self)
  have hA : ∀ q : Nat, s.heap.size ≤ q → va_A w s.heap.size q := fun q h => Or.inr h
  have hS : va_S (va_A w s.heap.size) s.heap s.heap [] := va_S.rf
  have hK0 : va_K D vwCl tys s := hK.pre
  have hTt : (tys ++ [(cO, .long), (cD, .double)])[7]? = some (cO, .long) := wr_ty hTY
  have hl := lv_entry ([.ref (sh.2 qx), .int a1, .int a2, .int a3, .int a4, .int a5, .int a6, .ref (sh.2 qo)]) (n := 9) (Nat.le_of_ble_eq_true rfl)
  rw [lg_entry_eq]
  generalize (lg_sl ([.ref (sh.2 qx), .int a1, .int a2, .int a3, .int a4, .int a5, .int a6, .ref (sh.2 qo)]) ++ List.replicate (9 - (lg_sl ([.ref (sh.2 qx), .int a1, .int a2, .int a3, .int a4, .int a5, .int a6, .ref (sh.2 qo)])).length) Slot.unset).toArray = ls at hl ⊢
  have hl : lv_has ls 9 [(0, .ref (sh.2 qx)), (1, .int a1), (2, .int a2), (3, .int a3), (4, .int a4), (5, .int a5), (6, .int a6), (7, .ref (sh.2 qo))] := hl
  refine lv_aload hx hb dw_area_0 (lv_at hl 7 rfl) ?_
  refine lv_iconst (v := 0) hx hb dw_area_2 (by decide) ?_
  refine lv_aload_n hx hb dw_area_3 rfl (lv_at hl 0 rfl) ?_
  refine lv_iload_n hx hb dw_area_4 rfl (lv_at hl 1 rfl) ?_
  refine lv_iload_n hx hb dw_area_5 rfl (lv_at hl 2 rfl) ?_
  refine lv_iload_n hx hb dw_area_6 rfl (lv_at hl 3 rfl) ?_
  refine lv_iload hx hb dw_area_7 (lv_at hl 4 rfl) ?_
  refine lv_iload hx hb dw_area_9 (lv_at hl 5 rfl) ?_
  refine lv_iload hx hb dw_area_11 (lv_at hl 6 rfl) ?_
  refine en_hcV (q0 := qx) (b := sh.2 qx) (fs := fx) (co := 12) (ρp := [.ref (sh.2 qx), .int a1, .int a2, .int a3, .int a4, .int a5, .int a6]) (As := [.int a1, .int a2, .int a3, .int a4, .int a5, .int a6]) (rest := [.int 0, .ref (sh.2 qo)]) (lv' := 2) (ct_X6_area_0 hl9 hPP Ω) gw_X6_area rfl rfl hwx rfl rfl (Nat.le_of_ble_eq_true rfl) ⟨Nat.le_of_ble_eq_true rfl, Nat.le_of_ble_eq_true rfl⟩ ⟨Nat.le_of_ble_eq_true rfl, Nat.le_of_ble_eq_true rfl⟩ (Nat.le_of_ble_eq_true rfl) hx hb (hml.trans hl.1.symm) hts hown hTY hK0 hT hP hD0 hS hA hW hΩ (wr_pa (env := k_X6_area_0.2.1.1) ⟨⟨qx, hqx, rfl⟩, ⟨a1, rfl, en_lo a1, en_hi a1⟩, ⟨a2, rfl, hb2.1, hb2.2⟩, ⟨a3, rfl, en_lo a3, en_hi a3⟩, ⟨a4, rfl, en_lo a4, en_hi a4⟩, ⟨a5, rfl, en_lo a5, en_hi a5⟩, ⟨a6, rfl, en_lo a6, en_hi a6⟩, trivial⟩) dw_area_13 (fun x9 hx9 ce q9 u H1 locs1 hpx hP1 hD1 hS1 hcell hvm hcl => ?_) (fun u res H1 locs1 hrv hpo hP1 hD1 hS1 => ?_)
  · have hku := wr_keep hpx hqo (by decide +kernel) hwo
    have hpx9 := wr_same hpx ((56, 0) :: k_X6_area_0.2.2.2.1) (fun z hz => List.mem_cons_of_mem _ hz)
    rcases List.mem_cons.mp hx9 with hx8 | hx9
    · subst hx8
      refine vx_catch (E := "java/lang/IllegalArgumentException") (name := "java/lang/IllegalArgumentException") hown [⟨0, 18, 21, 23⟩] ⟨0, 18, 25, 13⟩ [⟨0, 18, 29, 15⟩] (htab.trans rfl) (wr_cons (Or.inr ⟨by decide, "java/lang/IndexOutOfBoundsException", (hts (.classLink RL 23 "java/lang/IndexOutOfBoundsException") cwl619), hT.2.2.2.2.1 _ (by decide +kernel) _ (by decide +kernel) (by decide)⟩) wr_nil) (by decide) (by decide) (hts (.classLink RL 13 "java/lang/IllegalArgumentException") cwl498) (va_Nw.use rfl (hT.1 (Cond.castable "java/lang/IllegalArgumentException" "java/lang/IllegalArgumentException") (tf_cast (53, "java/lang/IllegalArgumentException") (by decide +kernel)))) hcell hvm hcl ?_
      refine lv_astore (lv' := (8, .ref q9) :: [(0, .ref (sh.2 qx)), (1, .int a1), (2, .int a2), (3, .int a3), (4, .int a4), (5, .int a5), (6, .int a6), (7, .ref (sh.2 qo))]) hx hb dw_area_25 hl (by decide) rfl (fun ls hl => ?_)
      refine lv_iconst (v := 2) hx hb dw_area_27 (by decide) ?_
      exact W.widen (Nat.le_of_ble_eq_true rfl) (Nat.le_of_ble_eq_true rfl) (W.iret (v := 2) hx hb hr (fun t ht hW9 => ⟨⟨2, u, rfl, ⟨hpx9, g0, hku⟩, by rw [ht]; exact hP1, hD1⟩, hS1.F ht⟩) hS1.2.2 dw_area_28)
    rcases List.mem_cons.mp hx9 with hx8 | hx9
    · subst hx8
      refine vx_catch (E := "java/lang/IllegalStateException") (name := "java/lang/IllegalStateException") hown [⟨0, 18, 21, 23⟩, ⟨0, 18, 25, 13⟩] ⟨0, 18, 29, 15⟩ [] (htab.trans rfl) (wr_cons (Or.inr ⟨by decide, "java/lang/IndexOutOfBoundsException", (hts (.classLink RL 23 "java/lang/IndexOutOfBoundsException") cwl619), hT.2.2.2.2.1 _ (by decide +kernel) _ (by decide +kernel) (by decide)⟩) (wr_cons (Or.inr ⟨by decide, "java/lang/IllegalArgumentException", (hts (.classLink RL 13 "java/lang/IllegalArgumentException") cwl498), hT.2.2.2.2.1 _ (by decide +kernel) _ (by decide +kernel) (by decide)⟩) wr_nil)) (by decide) (by decide) (hts (.classLink RL 15 "java/lang/IllegalStateException") cwl499) (va_Nw.use rfl (hT.1 (Cond.castable "java/lang/IllegalStateException" "java/lang/IllegalStateException") (tf_cast (69, "java/lang/IllegalStateException") (by decide +kernel)))) hcell hvm hcl ?_
      refine lv_astore (lv' := (8, .ref q9) :: [(0, .ref (sh.2 qx)), (1, .int a1), (2, .int a2), (3, .int a3), (4, .int a4), (5, .int a5), (6, .int a6), (7, .ref (sh.2 qo))]) hx hb dw_area_29 hl (by decide) rfl (fun ls hl => ?_)
      refine lv_iconst (v := 3) hx hb dw_area_31 (by decide) ?_
      exact W.widen (Nat.le_of_ble_eq_true rfl) (Nat.le_of_ble_eq_true rfl) (W.iret (v := 3) hx hb hr (fun t ht hW9 => ⟨⟨3, u, rfl, ⟨hpx9, g0, hku⟩, by rw [ht]; exact hP1, hD1⟩, hS1.F ht⟩) hS1.2.2 dw_area_32)
    have hx8 := List.mem_singleton.mp hx9
    subst hx8
    refine vx_catch (E := "java/lang/IndexOutOfBoundsException") (name := "java/lang/IndexOutOfBoundsException") hown [] ⟨0, 18, 21, 23⟩ [⟨0, 18, 25, 13⟩, ⟨0, 18, 29, 15⟩] (htab.trans rfl) wr_nil (by decide) (by decide) (hts (.classLink RL 23 "java/lang/IndexOutOfBoundsException") cwl619) (va_Nw.use rfl (hT.1 (Cond.castable "java/lang/IndexOutOfBoundsException" "java/lang/IndexOutOfBoundsException") (tf_cast (539, "java/lang/IndexOutOfBoundsException") (by decide +kernel)))) hcell hvm hcl ?_
    refine lv_astore (lv' := (8, .ref q9) :: [(0, .ref (sh.2 qx)), (1, .int a1), (2, .int a2), (3, .int a3), (4, .int a4), (5, .int a5), (6, .int a6), (7, .ref (sh.2 qo))]) hx hb dw_area_21 hl (by decide) rfl (fun ls hl => ?_)
    refine lv_iconst (v := 1) hx hb dw_area_23 (by decide) ?_
    exact W.widen (Nat.le_of_ble_eq_true rfl) (Nat.le_of_ble_eq_true rfl) (W.iret (v := 1) hx hb hr (fun t ht hW9 => ⟨⟨1, u, rfl, ⟨hpx9, g0, hku⟩, by rw [ht]; exact hP1, hD1⟩, hS1.F ht⟩) hS1.2.2 dw_area_24)
  · obtain ⟨hpx, hpo9⟩ := hpo
    have hku := wr_keep hpx hqo (by decide +kernel) hwo
    obtain ⟨r9, rfl⟩ := hrv
    refine lv_i2l hx hb dw_area_16 rfl ?_
    refine va_last hx hb hK hP1 hD1 hS1 qo 7 hku hTt (vp_in_nI (n := 0) (by decide) (by decide)) dw_area_17 (fun H2 locs2 hP2 hD2 hS2 => ?_)
    obtain ⟨g9, hg9⟩ : ∃ g9, g9 = vp_updL g0 (0 : Int32).toNatClampNeg r9.toInt64 := ⟨_, rfl⟩
    rw [← hg9] at hP2 hD2
    refine lv_goto (tgt := 33) hx hb dw_area_18 (by decide) ?_
    refine lv_iconst (v := 0) hx hb dw_area_33 (by decide) ?_
    exact W.widen (Nat.le_of_ble_eq_true rfl) (Nat.le_of_ble_eq_true rfl) (W.iret (v := 0) hx hb hr (fun t ht hW9 => ⟨⟨0, (u.1, u.2.set qo (sh.2 qo, .inl (cO, 1, .inr (.inl g9)))), rfl, ⟨wr_set hpx hqo (by decide +kernel) (by decide +kernel) hwo ⟨rfl, rfl⟩, g9, wr_get hku⟩, by rw [ht]; exact hP2, hD2⟩, hS2.F ht⟩) hS2.2.2 dw_area_34)
theorem dw_aside_0 : decode cL_aside 0 = .ok (.aload 4, 2) := by decide +kernel
theorem dw_aside_2 : decode cL_aside 2 = .ok (.iconst 0, 1) := by decide +kernel
theorem dw_aside_3 : decode cL_aside 3 = .ok (.aload_n 0, 1) := by decide +kernel
theorem dw_aside_4 : decode cL_aside 4 = .ok (.iload_n 1, 1) := by decide +kernel
theorem dw_aside_5 : decode cL_aside 5 = .ok (.iload_n 2, 1) := by decide +kernel
theorem dw_aside_6 : decode cL_aside 6 = .ok (.iload_n 3, 1) := by decide +kernel
theorem dw_aside_7 : decode cL_aside 7 = .ok (.invokevirtual 77, 3) := by decide +kernel
theorem dw_aside_10 : decode cL_aside 10 = .ok (.i2l, 1) := by decide +kernel
theorem dw_aside_11 : decode cL_aside 11 = .ok (.lastore, 1) := by decide +kernel
theorem dw_aside_12 : decode cL_aside 12 = .ok (.goto 15, 3) := by decide +kernel
theorem dw_aside_15 : decode cL_aside 15 = .ok (.astore 5, 2) := by decide +kernel
theorem dw_aside_17 : decode cL_aside 17 = .ok (.iconst 1, 1) := by decide +kernel
theorem dw_aside_18 : decode cL_aside 18 = .ok (.ireturn, 1) := by decide +kernel
theorem dw_aside_19 : decode cL_aside 19 = .ok (.astore 5, 2) := by decide +kernel
theorem dw_aside_21 : decode cL_aside 21 = .ok (.iconst 2, 1) := by decide +kernel
theorem dw_aside_22 : decode cL_aside 22 = .ok (.ireturn, 1) := by decide +kernel
theorem dw_aside_23 : decode cL_aside 23 = .ok (.astore 5, 2) := by decide +kernel
theorem dw_aside_25 : decode cL_aside 25 = .ok (.iconst 3, 1) := by decide +kernel
theorem dw_aside_26 : decode cL_aside 26 = .ok (.ireturn, 1) := by decide +kernel
theorem dw_aside_27 : decode cL_aside 27 = .ok (.iconst 0, 1) := by decide +kernel
theorem dw_aside_28 : decode cL_aside 28 = .ok (.ireturn, 1) := by decide +kernel
theorem gw_X6_aside : en_CV en_cw RL 77 yX6_aside RX6 cX6_aside 5 (some .int) 3 := en_gv cwl956 cwl957 cwl958 cwl75 cwl959 ⟨rfl, by decide, by decide, by decide +kernel⟩
set_option maxHeartbeats 4000000 in
set_option maxRecDepth 100000 in
theorem wr_aside {l : Launch} (hl9 : l.stackTraces = false) {PP : Int32 → Int32 → Prop} (hPP : en_P0 PP) (Ω : Nat → en_H → va_W → Prop) (D : va_G) (tys : List (ClassId × FieldType)) (cO cD : ClassId) (sh : en_H) (w : va_W) (sz qx qo : Nat) (fx : List Value) (g0 : (Nat → Int64)) (a1 : Int32) (a2 : Int32) (a3 : Int32) (hTY : tys.map Prod.snd = en_TY0) (hW : en_W PP en_KT k_X6_aside_0.2.2.2.2.1 sh tys (fun _ => False) w) (hD0 : va_D (va_A w sz) w) (hΩ : en_Om en_om0 sh Ω) (hqx : sh.1[qx]? = some 0) (hwx : w[qx]? = some (sh.2 qx, .inr (12, fx))) (hqo : sh.1[qo]? = some 56) (hwo : w[qo]? = some (sh.2 qo, .inl (cO, 1, .inr (.inl g0)))) :
    Met l yL_aside (Cond.codeWith yL_aside cL_aside 6 (some .int) [(0, 12, 15, 23), (0, 12, 19, 15), (0, 12, 23, 17)] :: en_cw) (en_rm 6 (4, 24)) (va_Pc [.ref (sh.2 qx), .int a1, .int a2, .int a3, .ref (sh.2 qo)] (en_B D vwCl (tys ++ [(cO, .long), (cD, .double)]) w sz)) (va_Qi (fun _ u => (en_Px tys PP en_KT k_X6_aside_0.2.2.2.2.1 ((56, 0) :: k_X6_aside_0.2.2.2.1) sh w u ∧ ∃ g, u.2[qo]? = some (sh.2 qo, .inl (cO, 1, .inr (.inl g))))) (en_Bw D vwCl (va_A w sz)) (va_A w sz)) 4 24 (va_A w sz) := by
  refine va_MetW (cc := cL_aside) (maxL := 6) (ret := some .int) (hh := [(0, 12, 15, 23), (0, 12, 19, 15), (0, 12, 23, 17)]) (by decide +kernel) rfl ?_
  intro p e s m args below meth c s₁ B hml hv
  obtain ⟨rfl, hsz, hP, hK, hT⟩ := hv
  subst hsz
  have hx := B.exec
  have hb := B.bytes
  have hr := B.returns
  have hts0 := atoms_spec (ws := Cond.codeWith yL_aside cL_aside 6 (some .int) [(0, 12, 15, 23), (0, 12, 19, 15), (0, 12, 23, 17)] :: en_cw) B.pre
  have hts : ∀ z ∈ en_cw, z.before _ s = true := fun z hz => hts0 z (List.mem_cons_of_mem _ hz)
  have hown : s.vm.findClass RL = some m.cls := findClass_of_methodNamed B.named
  have htab := vx_table (x := yL_aside) B (hts0 _ List.mem_cons_self)
  have hA : ∀ q : Nat, s.heap.size ≤ q → va_A w s.heap.size q := fun q h => Or.inr h
  have hS : va_S (va_A w s.heap.size) s.heap s.heap [] := va_S.rf
  have hK0 : va_K D vwCl tys s := hK.pre
  have hTt : (tys ++ [(cO, .long), (cD, .double)])[7]? = some (cO, .long) := wr_ty hTY
  have hl := lv_entry ([.ref (sh.2 qx), .int a1, .int a2, .int a3, .ref (sh.2 qo)]) (n := 6) (Nat.le_of_ble_eq_true rfl)
  rw [lg_entry_eq]
  generalize (lg_sl ([.ref (sh.2 qx), .int a1, .int a2, .int a3, .ref (sh.2 qo)]) ++ List.replicate (6 - (lg_sl ([.ref (sh.2 qx), .int a1, .int a2, .int a3, .ref (sh.2 qo)])).length) Slot.unset).toArray = ls at hl ⊢
  have hl : lv_has ls 6 [(0, .ref (sh.2 qx)), (1, .int a1), (2, .int a2), (3, .int a3), (4, .ref (sh.2 qo))] := hl
  refine lv_aload hx hb dw_aside_0 (lv_at hl 4 rfl) ?_
  refine lv_iconst (v := 0) hx hb dw_aside_2 (by decide) ?_
  refine lv_aload_n hx hb dw_aside_3 rfl (lv_at hl 0 rfl) ?_
  refine lv_iload_n hx hb dw_aside_4 rfl (lv_at hl 1 rfl) ?_
  refine lv_iload_n hx hb dw_aside_5 rfl (lv_at hl 2 rfl) ?_
  refine lv_iload_n hx hb dw_aside_6 rfl (lv_at hl 3 rfl) ?_
  refine en_hcV (q0 := qx) (b := sh.2 qx) (fs := fx) (co := 12) (ρp := [.ref (sh.2 qx), .int a1, .int a2, .int a3]) (As := [.int a1, .int a2, .int a3]) (rest := [.int 0, .ref (sh.2 qo)]) (lv' := 5) (ct_X6_aside_0 hl9 hPP Ω) gw_X6_aside rfl rfl hwx rfl rfl (Nat.le_of_ble_eq_true rfl) ⟨Nat.le_of_ble_eq_true rfl, Nat.le_of_ble_eq_true rfl⟩ ⟨Nat.le_of_ble_eq_true rfl, Nat.le_of_ble_eq_true rfl⟩ (Nat.le_of_ble_eq_true rfl) hx hb (hml.trans hl.1.symm) hts hown hTY hK0 hT hP hD0 hS hA hW hΩ (wr_pa (env := k_X6_aside_0.2.1.1) ⟨⟨qx, hqx, rfl⟩, ⟨a1, rfl, en_lo a1, en_hi a1⟩, ⟨a2, rfl, en_lo a2, en_hi a2⟩, ⟨a3, rfl, en_lo a3, en_hi a3⟩, trivial⟩) dw_aside_7 (fun x9 hx9 ce q9 u H1 locs1 hpx hP1 hD1 hS1 hcell hvm hcl => ?_) (fun u res H1 locs1 hrv hpo hP1 hD1 hS1 => ?_)
  · have hku := wr_keep hpx hqo (by decide +kernel) hwo
    have hpx9 := wr_same hpx ((56, 0) :: k_X6_aside_0.2.2.2.1) (fun z hz => List.mem_cons_of_mem _ hz)
    rcases List.mem_cons.mp hx9 with hx8 | hx9
    · subst hx8
      refine vx_catch (E := "java/lang/IllegalStateException") (name := "java/lang/IllegalStateException") hown [⟨0, 12, 15, 23⟩] ⟨0, 12, 19, 15⟩ [⟨0, 12, 23, 17⟩] (htab.trans rfl) (wr_cons (Or.inr ⟨by decide, "java/lang/IndexOutOfBoundsException", (hts (.classLink RL 23 "java/lang/IndexOutOfBoundsException") cwl619), hT.2.2.2.2.1 _ (by decide +kernel) _ (by decide +kernel) (by decide)⟩) wr_nil) (by decide) (by decide) (hts (.classLink RL 15 "java/lang/IllegalStateException") cwl499) (va_Nw.use rfl (hT.1 (Cond.castable "java/lang/IllegalStateException" "java/lang/IllegalStateException") (tf_cast (69, "java/lang/IllegalStateException") (by decide +kernel)))) hcell hvm hcl ?_
      refine lv_astore (lv' := (5, .ref q9) :: [(0, .ref (sh.2 qx)), (1, .int a1), (2, .int a2), (3, .int a3), (4, .ref (sh.2 qo))]) hx hb dw_aside_19 hl (by decide) rfl (fun ls hl => ?_)
      refine lv_iconst (v := 2) hx hb dw_aside_21 (by decide) ?_
      exact W.widen (Nat.le_of_ble_eq_true rfl) (Nat.le_of_ble_eq_true rfl) (W.iret (v := 2) hx hb hr (fun t ht hW9 => ⟨⟨2, u, rfl, ⟨hpx9, g0, hku⟩, by rw [ht]; exact hP1, hD1⟩, hS1.F ht⟩) hS1.2.2 dw_aside_22)
    rcases List.mem_cons.mp hx9 with hx8 | hx9
    · subst hx8
      refine vx_catch (E := "java/lang/UnsupportedOperationException") (name := "java/lang/UnsupportedOperationException") hown [⟨0, 12, 15, 23⟩, ⟨0, 12, 19, 15⟩] ⟨0, 12, 23, 17⟩ [] (htab.trans rfl) (wr_cons (Or.inr ⟨by decide, "java/lang/IndexOutOfBoundsException", (hts (.classLink RL 23 "java/lang/IndexOutOfBoundsException") cwl619), hT.2.2.2.2.1 _ (by decide +kernel) _ (by decide +kernel) (by decide)⟩) (wr_cons (Or.inr ⟨by decide, "java/lang/IllegalStateException", (hts (.classLink RL 15 "java/lang/IllegalStateException") cwl499), hT.2.2.2.2.1 _ (by decide +kernel) _ (by decide +kernel) (by decide)⟩) wr_nil)) (by decide) (by decide) (hts (.classLink RL 17 "java/lang/UnsupportedOperationException") cwl500) (va_Nw.use rfl (hT.1 (Cond.castable "java/lang/UnsupportedOperationException" "java/lang/UnsupportedOperationException") (tf_cast (78, "java/lang/UnsupportedOperationException") (by decide +kernel)))) hcell hvm hcl ?_
      refine lv_astore (lv' := (5, .ref q9) :: [(0, .ref (sh.2 qx)), (1, .int a1), (2, .int a2), (3, .int a3), (4, .ref (sh.2 qo))]) hx hb dw_aside_23 hl (by decide) rfl (fun ls hl => ?_)
      refine lv_iconst (v := 3) hx hb dw_aside_25 (by decide) ?_
      exact W.widen (Nat.le_of_ble_eq_true rfl) (Nat.le_of_ble_eq_true rfl) (W.iret (v := 3) hx hb hr (fun t ht hW9 => ⟨⟨3, u, rfl, ⟨hpx9, g0, hku⟩, by rw [ht]; exact hP1, hD1⟩, hS1.F ht⟩) hS1.2.2 dw_aside_26)
    have hx8 := List.mem_singleton.mp hx9
    subst hx8
    refine vx_catch (E := "java/lang/IndexOutOfBoundsException") (name := "java/lang/IndexOutOfBoundsException") hown [] ⟨0, 12, 15, 23⟩ [⟨0, 12, 19, 15⟩, ⟨0, 12, 23, 17⟩] (htab.trans rfl) wr_nil (by decide) (by decide) (hts (.classLink RL 23 "java/lang/IndexOutOfBoundsException") cwl619) (va_Nw.use rfl (hT.1 (Cond.castable "java/lang/IndexOutOfBoundsException" "java/lang/IndexOutOfBoundsException") (tf_cast (539, "java/lang/IndexOutOfBoundsException") (by decide +kernel)))) hcell hvm hcl ?_
    refine lv_astore (lv' := (5, .ref q9) :: [(0, .ref (sh.2 qx)), (1, .int a1), (2, .int a2), (3, .int a3), (4, .ref (sh.2 qo))]) hx hb dw_aside_15 hl (by decide) rfl (fun ls hl => ?_)
    refine lv_iconst (v := 1) hx hb dw_aside_17 (by decide) ?_
    exact W.widen (Nat.le_of_ble_eq_true rfl) (Nat.le_of_ble_eq_true rfl) (W.iret (v := 1) hx hb hr (fun t ht hW9 => ⟨⟨1, u, rfl, ⟨hpx9, g0, hku⟩, by rw [ht]; exact hP1, hD1⟩, hS1.F ht⟩) hS1.2.2 dw_aside_18)
  · obtain ⟨hpx, hpo9⟩ := hpo
    have hku := wr_keep hpx hqo (by decide +kernel) hwo
    obtain ⟨r9, rfl⟩ := hrv
    refine lv_i2l hx hb dw_aside_10 rfl ?_
    refine va_last hx hb hK hP1 hD1 hS1 qo 7 hku hTt (vp_in_nI (n := 0) (by decide) (by decide)) dw_aside_11 (fun H2 locs2 hP2 hD2 hS2 => ?_)
    obtain ⟨g9, hg9⟩ : ∃ g9, g9 = vp_updL g0 (0 : Int32).toNatClampNeg r9.toInt64 := ⟨_, rfl⟩
    rw [← hg9] at hP2 hD2
    refine lv_goto (tgt := 27) hx hb dw_aside_12 (by decide) ?_
    refine lv_iconst (v := 0) hx hb dw_aside_27 (by decide) ?_
    exact W.widen (Nat.le_of_ble_eq_true rfl) (Nat.le_of_ble_eq_true rfl) (W.iret (v := 0) hx hb hr (fun t ht hW9 => ⟨⟨0, (u.1, u.2.set qo (sh.2 qo, .inl (cO, 1, .inr (.inl g9)))), rfl, ⟨wr_set hpx hqo (by decide +kernel) (by decide +kernel) hwo ⟨rfl, rfl⟩, g9, wr_get hku⟩, by rw [ht]; exact hP2, hD2⟩, hS2.F ht⟩) hS2.2.2 dw_aside_28)
theorem dw_away_0 : decode cL_away 0 = .ok (.aload_n 1, 1) := by decide +kernel
theorem dw_away_1 : decode cL_away 1 = .ok (.iconst 0, 1) := by decide +kernel
theorem dw_away_2 : decode cL_away 2 = .ok (.aload_n 0, 1) := by decide +kernel
theorem dw_away_3 : decode cL_away 3 = .ok (.invokevirtual 51, 3) := by decide +kernel
theorem dw_away_6 : decode cL_away 6 = .ok (.i2l, 1) := by decide +kernel
theorem dw_away_7 : decode cL_away 7 = .ok (.lastore, 1) := by decide +kernel
theorem dw_away_8 : decode cL_away 8 = .ok (.goto 9, 3) := by decide +kernel
theorem dw_away_11 : decode cL_away 11 = .ok (.astore_n 2, 1) := by decide +kernel
theorem dw_away_12 : decode cL_away 12 = .ok (.iconst 1, 1) := by decide +kernel
theorem dw_away_13 : decode cL_away 13 = .ok (.ireturn, 1) := by decide +kernel
theorem dw_away_14 : decode cL_away 14 = .ok (.astore_n 2, 1) := by decide +kernel
theorem dw_away_15 : decode cL_away 15 = .ok (.iconst 2, 1) := by decide +kernel
theorem dw_away_16 : decode cL_away 16 = .ok (.ireturn, 1) := by decide +kernel
theorem dw_away_17 : decode cL_away 17 = .ok (.iconst 0, 1) := by decide +kernel
theorem dw_away_18 : decode cL_away 18 = .ok (.ireturn, 1) := by decide +kernel
theorem gw_X6_away : en_CV en_cw RL 51 yX6_away RX6 cX6_away 2 (some .int) 0 := en_gv cwl766 cwl767 cwl768 cwl75 cwl769 ⟨rfl, by decide, by decide, by decide +kernel⟩
set_option maxHeartbeats 4000000 in
set_option maxRecDepth 100000 in
theorem wr_away {l : Launch} (hl9 : l.stackTraces = false) {PP : Int32 → Int32 → Prop} (hPP : en_P0 PP) (Ω : Nat → en_H → va_W → Prop) (D : va_G) (tys : List (ClassId × FieldType)) (cO cD : ClassId) (sh : en_H) (w : va_W) (sz qx qo : Nat) (fx : List Value) (g0 : (Nat → Int64)) (hTY : tys.map Prod.snd = en_TY0) (hW : en_W PP en_KT k_X6_away_0.2.2.2.2.1 sh tys (fun _ => False) w) (hD0 : va_D (va_A w sz) w) (hΩ : en_Om en_om0 sh Ω) (hqx : sh.1[qx]? = some 0) (hwx : w[qx]? = some (sh.2 qx, .inr (12, fx))) (hqo : sh.1[qo]? = some 56) (hwo : w[qo]? = some (sh.2 qo, .inl (cO, 1, .inr (.inl g0)))) :
    Met l yL_away (Cond.codeWith yL_away cL_away 3 (some .int) [(0, 8, 11, 15), (0, 8, 14, 54)] :: en_cw) (en_rm 4 (2, 12)) (va_Pc [.ref (sh.2 qx), .ref (sh.2 qo)] (en_B D vwCl (tys ++ [(cO, .long), (cD, .double)]) w sz)) (va_Qi (fun _ u => (en_Px tys PP en_KT k_X6_away_0.2.2.2.2.1 ((56, 0) :: k_X6_away_0.2.2.2.1) sh w u ∧ ∃ g, u.2[qo]? = some (sh.2 qo, .inl (cO, 1, .inr (.inl g))))) (en_Bw D vwCl (va_A w sz)) (va_A w sz)) 2 12 (va_A w sz) := by
  refine va_MetW (cc := cL_away) (maxL := 3) (ret := some .int) (hh := [(0, 8, 11, 15), (0, 8, 14, 54)]) (by decide +kernel) rfl ?_
  intro p e s m args below meth c s₁ B hml hv
  obtain ⟨rfl, hsz, hP, hK, hT⟩ := hv
  subst hsz
  have hx := B.exec
  have hb := B.bytes
  have hr := B.returns
  have hts0 := atoms_spec (ws := Cond.codeWith yL_away cL_away 3 (some .int) [(0, 8, 11, 15), (0, 8, 14, 54)] :: en_cw) B.pre
  have hts : ∀ z ∈ en_cw, z.before _ s = true := fun z hz => hts0 z (List.mem_cons_of_mem _ hz)
  have hown : s.vm.findClass RL = some m.cls := findClass_of_methodNamed B.named
  have htab := vx_table (x := yL_away) B (hts0 _ List.mem_cons_self)
  have hA : ∀ q : Nat, s.heap.size ≤ q → va_A w s.heap.size q := fun q h => Or.inr h
  have hS : va_S (va_A w s.heap.size) s.heap s.heap [] := va_S.rf
  have hK0 : va_K D vwCl tys s := hK.pre
  have hTt : (tys ++ [(cO, .long), (cD, .double)])[7]? = some (cO, .long) := wr_ty hTY
  have hl := lv_entry ([.ref (sh.2 qx), .ref (sh.2 qo)]) (n := 3) (Nat.le_of_ble_eq_true rfl)
  rw [lg_entry_eq]
  generalize (lg_sl ([.ref (sh.2 qx), .ref (sh.2 qo)]) ++ List.replicate (3 - (lg_sl ([.ref (sh.2 qx), .ref (sh.2 qo)])).length) Slot.unset).toArray = ls at hl ⊢
  have hl : lv_has ls 3 [(0, .ref (sh.2 qx)), (1, .ref (sh.2 qo))] := hl
  refine lv_aload_n hx hb dw_away_0 rfl (lv_at hl 1 rfl) ?_
  refine lv_iconst (v := 0) hx hb dw_away_1 (by decide) ?_
  refine lv_aload_n hx hb dw_away_2 rfl (lv_at hl 0 rfl) ?_
  refine en_hcV (q0 := qx) (b := sh.2 qx) (fs := fx) (co := 12) (ρp := [.ref (sh.2 qx)]) (As := []) (rest := [.int 0, .ref (sh.2 qo)]) (lv' := 3) (ct_X6_away_0 hl9 hPP Ω) gw_X6_away rfl rfl hwx rfl rfl (Nat.le_of_ble_eq_true rfl) ⟨Nat.le_of_ble_eq_true rfl, Nat.le_of_ble_eq_true rfl⟩ ⟨Nat.le_of_ble_eq_true rfl, Nat.le_of_ble_eq_true rfl⟩ (Nat.le_of_ble_eq_true rfl) hx hb (hml.trans hl.1.symm) hts hown hTY hK0 hT hP hD0 hS hA hW hΩ (wr_pa (env := k_X6_away_0.2.1.1) ⟨⟨qx, hqx, rfl⟩, trivial⟩) dw_away_3 (fun x9 hx9 ce q9 u H1 locs1 hpx hP1 hD1 hS1 hcell hvm hcl => ?_) (fun u res H1 locs1 hrv hpo hP1 hD1 hS1 => ?_)
  · have hku := wr_keep hpx hqo (by decide +kernel) hwo
    have hpx9 := wr_same hpx ((56, 0) :: k_X6_away_0.2.2.2.1) (fun z hz => List.mem_cons_of_mem _ hz)
    rcases List.mem_cons.mp hx9 with hx8 | hx9
    · subst hx8
      refine vx_catch (E := "java/lang/IllegalStateException") (name := "java/lang/IllegalStateException") hown [] ⟨0, 8, 11, 15⟩ [⟨0, 8, 14, 54⟩] (htab.trans rfl) wr_nil (by decide) (by decide) (hts (.classLink RL 15 "java/lang/IllegalStateException") cwl499) (va_Nw.use rfl (hT.1 (Cond.castable "java/lang/IllegalStateException" "java/lang/IllegalStateException") (tf_cast (69, "java/lang/IllegalStateException") (by decide +kernel)))) hcell hvm hcl ?_
      refine lv_astore_n (lv' := (2, .ref q9) :: [(0, .ref (sh.2 qx)), (1, .ref (sh.2 qo))]) hx hb dw_away_11 rfl hl (by decide) rfl (fun ls hl => ?_)
      refine lv_iconst (v := 1) hx hb dw_away_12 (by decide) ?_
      exact W.widen (Nat.le_of_ble_eq_true rfl) (Nat.le_of_ble_eq_true rfl) (W.iret (v := 1) hx hb hr (fun t ht hW9 => ⟨⟨1, u, rfl, ⟨hpx9, g0, hku⟩, by rw [ht]; exact hP1, hD1⟩, hS1.F ht⟩) hS1.2.2 dw_away_13)
    have hx8 := List.mem_singleton.mp hx9
    subst hx8
    refine vx_catch (E := "java/util/NoSuchElementException") (name := "java/util/NoSuchElementException") hown [⟨0, 8, 11, 15⟩] ⟨0, 8, 14, 54⟩ [] (htab.trans rfl) (wr_cons (Or.inr ⟨by decide, "java/lang/IllegalStateException", (hts (.classLink RL 15 "java/lang/IllegalStateException") cwl499), hT.2.2.2.2.1 _ (by decide +kernel) _ (by decide +kernel) (by decide)⟩) wr_nil) (by decide) (by decide) (hts (.classLink RL 54 "java/util/NoSuchElementException") cwl765) (va_Nw.use rfl (hT.1 (Cond.castable "java/util/NoSuchElementException" "java/util/NoSuchElementException") (tf_cast (181, "java/util/NoSuchElementException") (by decide +kernel)))) hcell hvm hcl ?_
    refine lv_astore_n (lv' := (2, .ref q9) :: [(0, .ref (sh.2 qx)), (1, .ref (sh.2 qo))]) hx hb dw_away_14 rfl hl (by decide) rfl (fun ls hl => ?_)
    refine lv_iconst (v := 2) hx hb dw_away_15 (by decide) ?_
    exact W.widen (Nat.le_of_ble_eq_true rfl) (Nat.le_of_ble_eq_true rfl) (W.iret (v := 2) hx hb hr (fun t ht hW9 => ⟨⟨2, u, rfl, ⟨hpx9, g0, hku⟩, by rw [ht]; exact hP1, hD1⟩, hS1.F ht⟩) hS1.2.2 dw_away_16)
  · obtain ⟨hpx, hpo9⟩ := hpo
    have hku := wr_keep hpx hqo (by decide +kernel) hwo
    obtain ⟨r9, rfl⟩ := hrv
    refine lv_i2l hx hb dw_away_6 rfl ?_
    refine va_last hx hb hK hP1 hD1 hS1 qo 7 hku hTt (vp_in_nI (n := 0) (by decide) (by decide)) dw_away_7 (fun H2 locs2 hP2 hD2 hS2 => ?_)
    obtain ⟨g9, hg9⟩ : ∃ g9, g9 = vp_updL g0 (0 : Int32).toNatClampNeg r9.toInt64 := ⟨_, rfl⟩
    rw [← hg9] at hP2 hD2
    refine lv_goto (tgt := 17) hx hb dw_away_8 (by decide) ?_
    refine lv_iconst (v := 0) hx hb dw_away_17 (by decide) ?_
    exact W.widen (Nat.le_of_ble_eq_true rfl) (Nat.le_of_ble_eq_true rfl) (W.iret (v := 0) hx hb hr (fun t ht hW9 => ⟨⟨0, (u.1, u.2.set qo (sh.2 qo, .inl (cO, 1, .inr (.inl g9)))), rfl, ⟨wr_set hpx hqo (by decide +kernel) (by decide +kernel) hwo ⟨rfl, rfl⟩, g9, wr_get hku⟩, by rw [ht]; exact hP2, hD2⟩, hS2.F ht⟩) hS2.2.2 dw_away_18)
theorem dw_begin_0 : decode cL_begin 0 = .ok (.aload_n 2, 1) := by decide +kernel
theorem dw_begin_1 : decode cL_begin 1 = .ok (.iconst 0, 1) := by decide +kernel
theorem dw_begin_2 : decode cL_begin 2 = .ok (.aload_n 0, 1) := by decide +kernel
theorem dw_begin_3 : decode cL_begin 3 = .ok (.iload_n 1, 1) := by decide +kernel
theorem dw_begin_4 : decode cL_begin 4 = .ok (.invokevirtual 44, 3) := by decide +kernel
theorem dw_begin_7 : decode cL_begin 7 = .ok (.i2l, 1) := by decide +kernel
theorem dw_begin_8 : decode cL_begin 8 = .ok (.lastore, 1) := by decide +kernel
theorem dw_begin_9 : decode cL_begin 9 = .ok (.goto 9, 3) := by decide +kernel
theorem dw_begin_12 : decode cL_begin 12 = .ok (.astore_n 3, 1) := by decide +kernel
theorem dw_begin_13 : decode cL_begin 13 = .ok (.iconst 1, 1) := by decide +kernel
theorem dw_begin_14 : decode cL_begin 14 = .ok (.ireturn, 1) := by decide +kernel
theorem dw_begin_15 : decode cL_begin 15 = .ok (.astore_n 3, 1) := by decide +kernel
theorem dw_begin_16 : decode cL_begin 16 = .ok (.iconst 2, 1) := by decide +kernel
theorem dw_begin_17 : decode cL_begin 17 = .ok (.ireturn, 1) := by decide +kernel
theorem dw_begin_18 : decode cL_begin 18 = .ok (.iconst 0, 1) := by decide +kernel
theorem dw_begin_19 : decode cL_begin 19 = .ok (.ireturn, 1) := by decide +kernel
theorem gw_X6_begin : en_CV en_cw RL 44 yX6_begin RX6 cX6_begin 3 (some .int) 1 := en_gv cwl724 cwl725 cwl726 cwl75 cwl727 ⟨rfl, by decide, by decide, by decide +kernel⟩
set_option maxHeartbeats 4000000 in
set_option maxRecDepth 100000 in
theorem wr_begin {l : Launch} (hl9 : l.stackTraces = false) {PP : Int32 → Int32 → Prop} (hPP : en_P0 PP) (Ω : Nat → en_H → va_W → Prop) (D : va_G) (tys : List (ClassId × FieldType)) (cO cD : ClassId) (sh : en_H) (w : va_W) (sz qx qo : Nat) (fx : List Value) (g0 : (Nat → Int64)) (a1 : Int32) (hb1 : 0 ≤ a1.toInt ∧ a1.toInt ≤ 65535) (hTY : tys.map Prod.snd = en_TY0) (hW : en_W PP en_KT k_X6_begin_0.2.2.2.2.1 sh tys (fun _ => False) w) (hD0 : va_D (va_A w sz) w) (hΩ : en_Om en_om0 sh Ω) (hqx : sh.1[qx]? = some 0) (hwx : w[qx]? = some (sh.2 qx, .inr (12, fx))) (hqo : sh.1[qo]? = some 56) (hwo : w[qo]? = some (sh.2 qo, .inl (cO, 1, .inr (.inl g0)))) :
    Met l yL_begin (Cond.codeWith yL_begin cL_begin 4 (some .int) [(0, 9, 12, 13), (0, 9, 15, 17)] :: en_cw) (en_rm 3 (1, 6)) (va_Pc [.ref (sh.2 qx), .int a1, .ref (sh.2 qo)] (en_B D vwCl (tys ++ [(cO, .long), (cD, .double)]) w sz)) (va_Qi (fun _ u => (en_Px tys PP en_KT k_X6_begin_0.2.2.2.2.1 ((56, 0) :: k_X6_begin_0.2.2.2.1) sh w u ∧ ∃ g, u.2[qo]? = some (sh.2 qo, .inl (cO, 1, .inr (.inl g))))) (en_Bw D vwCl (va_A w sz)) (va_A w sz)) 1 6 (va_A w sz) := by
  refine va_MetW (cc := cL_begin) (maxL := 4) (ret := some .int) (hh := [(0, 9, 12, 13), (0, 9, 15, 17)]) (by decide +kernel) rfl ?_
  intro p e s m args below meth c s₁ B hml hv
  obtain ⟨rfl, hsz, hP, hK, hT⟩ := hv
  subst hsz
  have hx := B.exec
  have hb := B.bytes
  have hr := B.returns
  have hts0 := atoms_spec (ws := Cond.codeWith yL_begin cL_begin 4 (some .int) [(0, 9, 12, 13), (0, 9, 15, 17)] :: en_cw) B.pre
  have hts : ∀ z ∈ en_cw, z.before _ s = true := fun z hz => hts0 z (List.mem_cons_of_mem _ hz)
  have hown : s.vm.findClass RL = some m.cls := findClass_of_methodNamed B.named
  have htab := vx_table (x := yL_begin) B (hts0 _ List.mem_cons_self)
  have hA : ∀ q : Nat, s.heap.size ≤ q → va_A w s.heap.size q := fun q h => Or.inr h
  have hS : va_S (va_A w s.heap.size) s.heap s.heap [] := va_S.rf
  have hK0 : va_K D vwCl tys s := hK.pre
  have hTt : (tys ++ [(cO, .long), (cD, .double)])[7]? = some (cO, .long) := wr_ty hTY
  have hl := lv_entry ([.ref (sh.2 qx), .int a1, .ref (sh.2 qo)]) (n := 4) (Nat.le_of_ble_eq_true rfl)
  rw [lg_entry_eq]
  generalize (lg_sl ([.ref (sh.2 qx), .int a1, .ref (sh.2 qo)]) ++ List.replicate (4 - (lg_sl ([.ref (sh.2 qx), .int a1, .ref (sh.2 qo)])).length) Slot.unset).toArray = ls at hl ⊢
  have hl : lv_has ls 4 [(0, .ref (sh.2 qx)), (1, .int a1), (2, .ref (sh.2 qo))] := hl
  refine lv_aload_n hx hb dw_begin_0 rfl (lv_at hl 2 rfl) ?_
  refine lv_iconst (v := 0) hx hb dw_begin_1 (by decide) ?_
  refine lv_aload_n hx hb dw_begin_2 rfl (lv_at hl 0 rfl) ?_
  refine lv_iload_n hx hb dw_begin_3 rfl (lv_at hl 1 rfl) ?_
  refine en_hcV (q0 := qx) (b := sh.2 qx) (fs := fx) (co := 12) (ρp := [.ref (sh.2 qx), .int a1]) (As := [.int a1]) (rest := [.int 0, .ref (sh.2 qo)]) (lv' := 2) (ct_X6_begin_0 hl9 hPP Ω) gw_X6_begin rfl rfl hwx rfl rfl (Nat.le_of_ble_eq_true rfl) ⟨Nat.le_of_ble_eq_true rfl, Nat.le_of_ble_eq_true rfl⟩ ⟨Nat.le_of_ble_eq_true rfl, Nat.le_of_ble_eq_true rfl⟩ (Nat.le_of_ble_eq_true rfl) hx hb (hml.trans hl.1.symm) hts hown hTY hK0 hT hP hD0 hS hA hW hΩ (wr_pa (env := k_X6_begin_0.2.1.1) ⟨⟨qx, hqx, rfl⟩, ⟨a1, rfl, hb1.1, hb1.2⟩, trivial⟩) dw_begin_4 (fun x9 hx9 ce q9 u H1 locs1 hpx hP1 hD1 hS1 hcell hvm hcl => ?_) (fun u res H1 locs1 hrv hpo hP1 hD1 hS1 => ?_)
  · have hku := wr_keep hpx hqo (by decide +kernel) hwo
    have hpx9 := wr_same hpx ((56, 0) :: k_X6_begin_0.2.2.2.1) (fun z hz => List.mem_cons_of_mem _ hz)
    rcases List.mem_cons.mp hx9 with hx8 | hx9
    · subst hx8
      refine vx_catch (E := "java/lang/IllegalArgumentException") (name := "java/lang/IllegalArgumentException") hown [] ⟨0, 9, 12, 13⟩ [⟨0, 9, 15, 17⟩] (htab.trans rfl) wr_nil (by decide) (by decide) (hts (.classLink RL 13 "java/lang/IllegalArgumentException") cwl498) (va_Nw.use rfl (hT.1 (Cond.castable "java/lang/IllegalArgumentException" "java/lang/IllegalArgumentException") (tf_cast (53, "java/lang/IllegalArgumentException") (by decide +kernel)))) hcell hvm hcl ?_
      refine lv_astore_n (lv' := (3, .ref q9) :: [(0, .ref (sh.2 qx)), (1, .int a1), (2, .ref (sh.2 qo))]) hx hb dw_begin_12 rfl hl (by decide) rfl (fun ls hl => ?_)
      refine lv_iconst (v := 1) hx hb dw_begin_13 (by decide) ?_
      exact W.widen (Nat.le_of_ble_eq_true rfl) (Nat.le_of_ble_eq_true rfl) (W.iret (v := 1) hx hb hr (fun t ht hW9 => ⟨⟨1, u, rfl, ⟨hpx9, g0, hku⟩, by rw [ht]; exact hP1, hD1⟩, hS1.F ht⟩) hS1.2.2 dw_begin_14)
    have hx8 := List.mem_singleton.mp hx9
    subst hx8
    refine vx_catch (E := "java/lang/UnsupportedOperationException") (name := "java/lang/UnsupportedOperationException") hown [⟨0, 9, 12, 13⟩] ⟨0, 9, 15, 17⟩ [] (htab.trans rfl) (wr_cons (Or.inr ⟨by decide, "java/lang/IllegalArgumentException", (hts (.classLink RL 13 "java/lang/IllegalArgumentException") cwl498), hT.2.2.2.2.1 _ (by decide +kernel) _ (by decide +kernel) (by decide)⟩) wr_nil) (by decide) (by decide) (hts (.classLink RL 17 "java/lang/UnsupportedOperationException") cwl500) (va_Nw.use rfl (hT.1 (Cond.castable "java/lang/UnsupportedOperationException" "java/lang/UnsupportedOperationException") (tf_cast (78, "java/lang/UnsupportedOperationException") (by decide +kernel)))) hcell hvm hcl ?_
    refine lv_astore_n (lv' := (3, .ref q9) :: [(0, .ref (sh.2 qx)), (1, .int a1), (2, .ref (sh.2 qo))]) hx hb dw_begin_15 rfl hl (by decide) rfl (fun ls hl => ?_)
    refine lv_iconst (v := 2) hx hb dw_begin_16 (by decide) ?_
    exact W.widen (Nat.le_of_ble_eq_true rfl) (Nat.le_of_ble_eq_true rfl) (W.iret (v := 2) hx hb hr (fun t ht hW9 => ⟨⟨2, u, rfl, ⟨hpx9, g0, hku⟩, by rw [ht]; exact hP1, hD1⟩, hS1.F ht⟩) hS1.2.2 dw_begin_17)
  · obtain ⟨hpx, hpo9⟩ := hpo
    have hku := wr_keep hpx hqo (by decide +kernel) hwo
    obtain ⟨r9, rfl⟩ := hrv
    refine lv_i2l hx hb dw_begin_7 rfl ?_
    refine va_last hx hb hK hP1 hD1 hS1 qo 7 hku hTt (vp_in_nI (n := 0) (by decide) (by decide)) dw_begin_8 (fun H2 locs2 hP2 hD2 hS2 => ?_)
    obtain ⟨g9, hg9⟩ : ∃ g9, g9 = vp_updL g0 (0 : Int32).toNatClampNeg r9.toInt64 := ⟨_, rfl⟩
    rw [← hg9] at hP2 hD2
    refine lv_goto (tgt := 18) hx hb dw_begin_9 (by decide) ?_
    refine lv_iconst (v := 0) hx hb dw_begin_18 (by decide) ?_
    exact W.widen (Nat.le_of_ble_eq_true rfl) (Nat.le_of_ble_eq_true rfl) (W.iret (v := 0) hx hb hr (fun t ht hW9 => ⟨⟨0, (u.1, u.2.set qo (sh.2 qo, .inl (cO, 1, .inr (.inl g9)))), rfl, ⟨wr_set hpx hqo (by decide +kernel) (by decide +kernel) hwo ⟨rfl, rfl⟩, g9, wr_get hku⟩, by rw [ht]; exact hP2, hD2⟩, hS2.F ht⟩) hS2.2.2 dw_begin_19)
theorem dw_cancel_0 : decode cL_cancel 0 = .ok (.aload_n 2, 1) := by decide +kernel
theorem dw_cancel_1 : decode cL_cancel 1 = .ok (.iconst 0, 1) := by decide +kernel
theorem dw_cancel_2 : decode cL_cancel 2 = .ok (.aload_n 0, 1) := by decide +kernel
theorem dw_cancel_3 : decode cL_cancel 3 = .ok (.iload_n 1, 1) := by decide +kernel
theorem dw_cancel_4 : decode cL_cancel 4 = .ok (.invokevirtual 109, 3) := by decide +kernel
theorem dw_cancel_7 : decode cL_cancel 7 = .ok (.ifCond .eq 7, 3) := by decide +kernel
theorem dw_cancel_10 : decode cL_cancel 10 = .ok (.lconst 1, 1) := by decide +kernel
theorem dw_cancel_11 : decode cL_cancel 11 = .ok (.goto 4, 3) := by decide +kernel
theorem dw_cancel_14 : decode cL_cancel 14 = .ok (.lconst 0, 1) := by decide +kernel
theorem dw_cancel_15 : decode cL_cancel 15 = .ok (.lastore, 1) := by decide +kernel
theorem dw_cancel_16 : decode cL_cancel 16 = .ok (.goto 12, 3) := by decide +kernel
theorem dw_cancel_19 : decode cL_cancel 19 = .ok (.astore_n 3, 1) := by decide +kernel
theorem dw_cancel_20 : decode cL_cancel 20 = .ok (.iconst 1, 1) := by decide +kernel
theorem dw_cancel_21 : decode cL_cancel 21 = .ok (.ireturn, 1) := by decide +kernel
theorem dw_cancel_22 : decode cL_cancel 22 = .ok (.astore_n 3, 1) := by decide +kernel
theorem dw_cancel_23 : decode cL_cancel 23 = .ok (.iconst 2, 1) := by decide +kernel
theorem dw_cancel_24 : decode cL_cancel 24 = .ok (.ireturn, 1) := by decide +kernel
theorem dw_cancel_25 : decode cL_cancel 25 = .ok (.astore_n 3, 1) := by decide +kernel
theorem dw_cancel_26 : decode cL_cancel 26 = .ok (.iconst 3, 1) := by decide +kernel
theorem dw_cancel_27 : decode cL_cancel 27 = .ok (.ireturn, 1) := by decide +kernel
theorem dw_cancel_28 : decode cL_cancel 28 = .ok (.iconst 0, 1) := by decide +kernel
theorem dw_cancel_29 : decode cL_cancel 29 = .ok (.ireturn, 1) := by decide +kernel
theorem gw_X6_cancel : en_CV en_cw RL 109 yX6_cancel RX6 cX6_cancel 2 (some .boolean) 1 := en_gv cwl1053 cwl1054 cwl1055 cwl75 cwl1056 ⟨rfl, by decide, by decide, by decide +kernel⟩
set_option maxHeartbeats 4000000 in
set_option maxRecDepth 100000 in
theorem wr_cancel {l : Launch} (hl9 : l.stackTraces = false) {PP : Int32 → Int32 → Prop} (hPP : en_P0 PP) (Ω : Nat → en_H → va_W → Prop) (D : va_G) (tys : List (ClassId × FieldType)) (cO cD : ClassId) (sh : en_H) (w : va_W) (sz qx qo : Nat) (fx : List Value) (g0 : (Nat → Int64)) (a1 : Int32) (hTY : tys.map Prod.snd = en_TY0) (hW : en_W PP en_KT k_X6_cancel_0.2.2.2.2.1 sh tys (fun _ => False) w) (hD0 : va_D (va_A w sz) w) (hΩ : en_Om en_om0 sh Ω) (hqx : sh.1[qx]? = some 0) (hwx : w[qx]? = some (sh.2 qx, .inr (12, fx))) (hqo : sh.1[qo]? = some 56) (hwo : w[qo]? = some (sh.2 qo, .inl (cO, 1, .inr (.inl g0)))) :
    Met l yL_cancel (Cond.codeWith yL_cancel cL_cancel 4 (some .int) [(0, 16, 19, 23), (0, 16, 22, 15), (0, 16, 25, 17)] :: en_cw) (en_rm 2 (3, 18)) (va_Pc [.ref (sh.2 qx), .int a1, .ref (sh.2 qo)] (en_B D vwCl (tys ++ [(cO, .long), (cD, .double)]) w sz)) (va_Qi (fun _ u => (en_Px tys PP en_KT k_X6_cancel_0.2.2.2.2.1 ((56, 0) :: k_X6_cancel_0.2.2.2.1) sh w u ∧ ∃ g, u.2[qo]? = some (sh.2 qo, .inl (cO, 1, .inr (.inl g))))) (en_Bw D vwCl (va_A w sz)) (va_A w sz)) 3 18 (va_A w sz) := by
  refine va_MetW (cc := cL_cancel) (maxL := 4) (ret := some .int) (hh := [(0, 16, 19, 23), (0, 16, 22, 15), (0, 16, 25, 17)]) (by decide +kernel) rfl ?_
  intro p e s m args below meth c s₁ B hml hv
  obtain ⟨rfl, hsz, hP, hK, hT⟩ := hv
  subst hsz
  have hx := B.exec
  have hb := B.bytes
  have hr := B.returns
  have hts0 := atoms_spec (ws := Cond.codeWith yL_cancel cL_cancel 4 (some .int) [(0, 16, 19, 23), (0, 16, 22, 15), (0, 16, 25, 17)] :: en_cw) B.pre
  have hts : ∀ z ∈ en_cw, z.before _ s = true := fun z hz => hts0 z (List.mem_cons_of_mem _ hz)
  have hown : s.vm.findClass RL = some m.cls := findClass_of_methodNamed B.named
  have htab := vx_table (x := yL_cancel) B (hts0 _ List.mem_cons_self)
  have hA : ∀ q : Nat, s.heap.size ≤ q → va_A w s.heap.size q := fun q h => Or.inr h
  have hS : va_S (va_A w s.heap.size) s.heap s.heap [] := va_S.rf
  have hK0 : va_K D vwCl tys s := hK.pre
  have hTt : (tys ++ [(cO, .long), (cD, .double)])[7]? = some (cO, .long) := wr_ty hTY
  have hl := lv_entry ([.ref (sh.2 qx), .int a1, .ref (sh.2 qo)]) (n := 4) (Nat.le_of_ble_eq_true rfl)
  rw [lg_entry_eq]
  generalize (lg_sl ([.ref (sh.2 qx), .int a1, .ref (sh.2 qo)]) ++ List.replicate (4 - (lg_sl ([.ref (sh.2 qx), .int a1, .ref (sh.2 qo)])).length) Slot.unset).toArray = ls at hl ⊢
  have hl : lv_has ls 4 [(0, .ref (sh.2 qx)), (1, .int a1), (2, .ref (sh.2 qo))] := hl
  refine lv_aload_n hx hb dw_cancel_0 rfl (lv_at hl 2 rfl) ?_
  refine lv_iconst (v := 0) hx hb dw_cancel_1 (by decide) ?_
  refine lv_aload_n hx hb dw_cancel_2 rfl (lv_at hl 0 rfl) ?_
  refine lv_iload_n hx hb dw_cancel_3 rfl (lv_at hl 1 rfl) ?_
  refine en_hcV (q0 := qx) (b := sh.2 qx) (fs := fx) (co := 12) (ρp := [.ref (sh.2 qx), .int a1]) (As := [.int a1]) (rest := [.int 0, .ref (sh.2 qo)]) (lv' := 1) (ct_X6_cancel_0 hl9 hPP Ω) gw_X6_cancel rfl rfl hwx rfl rfl (Nat.le_of_ble_eq_true rfl) ⟨Nat.le_of_ble_eq_true rfl, Nat.le_of_ble_eq_true rfl⟩ ⟨Nat.le_of_ble_eq_true rfl, Nat.le_of_ble_eq_true rfl⟩ (Nat.le_of_ble_eq_true rfl) hx hb (hml.trans hl.1.symm) hts hown hTY hK0 hT hP hD0 hS hA hW hΩ (wr_pa (env := k_X6_cancel_0.2.1.1) ⟨⟨qx, hqx, rfl⟩, ⟨a1, rfl, en_lo a1, en_hi a1⟩, trivial⟩) dw_cancel_4 (fun x9 hx9 ce q9 u H1 locs1 hpx hP1 hD1 hS1 hcell hvm hcl => ?_) (fun u res H1 locs1 hrv hpo hP1 hD1 hS1 => ?_)
  · have hku := wr_keep hpx hqo (by decide +kernel) hwo
    have hpx9 := wr_same hpx ((56, 0) :: k_X6_cancel_0.2.2.2.1) (fun z hz => List.mem_cons_of_mem _ hz)
    rcases List.mem_cons.mp hx9 with hx8 | hx9
    · subst hx8
      refine vx_catch (E := "java/lang/IllegalStateException") (name := "java/lang/IllegalStateException") hown [⟨0, 16, 19, 23⟩] ⟨0, 16, 22, 15⟩ [⟨0, 16, 25, 17⟩] (htab.trans rfl) (wr_cons (Or.inr ⟨by decide, "java/lang/IndexOutOfBoundsException", (hts (.classLink RL 23 "java/lang/IndexOutOfBoundsException") cwl619), hT.2.2.2.2.1 _ (by decide +kernel) _ (by decide +kernel) (by decide)⟩) wr_nil) (by decide) (by decide) (hts (.classLink RL 15 "java/lang/IllegalStateException") cwl499) (va_Nw.use rfl (hT.1 (Cond.castable "java/lang/IllegalStateException" "java/lang/IllegalStateException") (tf_cast (69, "java/lang/IllegalStateException") (by decide +kernel)))) hcell hvm hcl ?_
      refine lv_astore_n (lv' := (3, .ref q9) :: [(0, .ref (sh.2 qx)), (1, .int a1), (2, .ref (sh.2 qo))]) hx hb dw_cancel_22 rfl hl (by decide) rfl (fun ls hl => ?_)
      refine lv_iconst (v := 2) hx hb dw_cancel_23 (by decide) ?_
      exact W.widen (Nat.le_of_ble_eq_true rfl) (Nat.le_of_ble_eq_true rfl) (W.iret (v := 2) hx hb hr (fun t ht hW9 => ⟨⟨2, u, rfl, ⟨hpx9, g0, hku⟩, by rw [ht]; exact hP1, hD1⟩, hS1.F ht⟩) hS1.2.2 dw_cancel_24)
    rcases List.mem_cons.mp hx9 with hx8 | hx9
    · subst hx8
      refine vx_catch (E := "java/lang/UnsupportedOperationException") (name := "java/lang/UnsupportedOperationException") hown [⟨0, 16, 19, 23⟩, ⟨0, 16, 22, 15⟩] ⟨0, 16, 25, 17⟩ [] (htab.trans rfl) (wr_cons (Or.inr ⟨by decide, "java/lang/IndexOutOfBoundsException", (hts (.classLink RL 23 "java/lang/IndexOutOfBoundsException") cwl619), hT.2.2.2.2.1 _ (by decide +kernel) _ (by decide +kernel) (by decide)⟩) (wr_cons (Or.inr ⟨by decide, "java/lang/IllegalStateException", (hts (.classLink RL 15 "java/lang/IllegalStateException") cwl499), hT.2.2.2.2.1 _ (by decide +kernel) _ (by decide +kernel) (by decide)⟩) wr_nil)) (by decide) (by decide) (hts (.classLink RL 17 "java/lang/UnsupportedOperationException") cwl500) (va_Nw.use rfl (hT.1 (Cond.castable "java/lang/UnsupportedOperationException" "java/lang/UnsupportedOperationException") (tf_cast (78, "java/lang/UnsupportedOperationException") (by decide +kernel)))) hcell hvm hcl ?_
      refine lv_astore_n (lv' := (3, .ref q9) :: [(0, .ref (sh.2 qx)), (1, .int a1), (2, .ref (sh.2 qo))]) hx hb dw_cancel_25 rfl hl (by decide) rfl (fun ls hl => ?_)
      refine lv_iconst (v := 3) hx hb dw_cancel_26 (by decide) ?_
      exact W.widen (Nat.le_of_ble_eq_true rfl) (Nat.le_of_ble_eq_true rfl) (W.iret (v := 3) hx hb hr (fun t ht hW9 => ⟨⟨3, u, rfl, ⟨hpx9, g0, hku⟩, by rw [ht]; exact hP1, hD1⟩, hS1.F ht⟩) hS1.2.2 dw_cancel_27)
    have hx8 := List.mem_singleton.mp hx9
    subst hx8
    refine vx_catch (E := "java/lang/IndexOutOfBoundsException") (name := "java/lang/IndexOutOfBoundsException") hown [] ⟨0, 16, 19, 23⟩ [⟨0, 16, 22, 15⟩, ⟨0, 16, 25, 17⟩] (htab.trans rfl) wr_nil (by decide) (by decide) (hts (.classLink RL 23 "java/lang/IndexOutOfBoundsException") cwl619) (va_Nw.use rfl (hT.1 (Cond.castable "java/lang/IndexOutOfBoundsException" "java/lang/IndexOutOfBoundsException") (tf_cast (539, "java/lang/IndexOutOfBoundsException") (by decide +kernel)))) hcell hvm hcl ?_
    refine lv_astore_n (lv' := (3, .ref q9) :: [(0, .ref (sh.2 qx)), (1, .int a1), (2, .ref (sh.2 qo))]) hx hb dw_cancel_19 rfl hl (by decide) rfl (fun ls hl => ?_)
    refine lv_iconst (v := 1) hx hb dw_cancel_20 (by decide) ?_
    exact W.widen (Nat.le_of_ble_eq_true rfl) (Nat.le_of_ble_eq_true rfl) (W.iret (v := 1) hx hb hr (fun t ht hW9 => ⟨⟨1, u, rfl, ⟨hpx9, g0, hku⟩, by rw [ht]; exact hP1, hD1⟩, hS1.F ht⟩) hS1.2.2 dw_cancel_21)
  · obtain ⟨hpx, hpo9⟩ := hpo
    have hku := wr_keep hpx hqo (by decide +kernel) hwo
    obtain ⟨r9, rfl⟩ := hrv
    refine lv_if_eq (tgt := 14) hx hb dw_cancel_7 (by decide) (fun _ => ?_) (fun _ => ?_)
    · refine lv_lconst (v := 0) hx hb dw_cancel_14 (by decide) ?_
      refine va_last hx hb hK hP1 hD1 hS1 qo 7 hku hTt (vp_in_nI (n := 0) (by decide) (by decide)) dw_cancel_15 (fun H2 locs2 hP2 hD2 hS2 => ?_)
      obtain ⟨g9, hg9⟩ : ∃ g9, g9 = vp_updL g0 (0 : Int32).toNatClampNeg 0 := ⟨_, rfl⟩
      rw [← hg9] at hP2 hD2
      refine lv_goto (tgt := 28) hx hb dw_cancel_16 (by decide) ?_
      refine lv_iconst (v := 0) hx hb dw_cancel_28 (by decide) ?_
      exact W.widen (Nat.le_of_ble_eq_true rfl) (Nat.le_of_ble_eq_true rfl) (W.iret (v := 0) hx hb hr (fun t ht hW9 => ⟨⟨0, (u.1, u.2.set qo (sh.2 qo, .inl (cO, 1, .inr (.inl g9)))), rfl, ⟨wr_set hpx hqo (by decide +kernel) (by decide +kernel) hwo ⟨rfl, rfl⟩, g9, wr_get hku⟩, by rw [ht]; exact hP2, hD2⟩, hS2.F ht⟩) hS2.2.2 dw_cancel_29)
    · refine lv_lconst (v := 1) hx hb dw_cancel_10 (by decide) ?_
      refine lv_goto (tgt := 15) hx hb dw_cancel_11 (by decide) ?_
      refine va_last hx hb hK hP1 hD1 hS1 qo 7 hku hTt (vp_in_nI (n := 0) (by decide) (by decide)) dw_cancel_15 (fun H2 locs2 hP2 hD2 hS2 => ?_)
      obtain ⟨g9, hg9⟩ : ∃ g9, g9 = vp_updL g0 (0 : Int32).toNatClampNeg 1 := ⟨_, rfl⟩
      rw [← hg9] at hP2 hD2
      refine lv_goto (tgt := 28) hx hb dw_cancel_16 (by decide) ?_
      refine lv_iconst (v := 0) hx hb dw_cancel_28 (by decide) ?_
      exact W.widen (Nat.le_of_ble_eq_true rfl) (Nat.le_of_ble_eq_true rfl) (W.iret (v := 0) hx hb hr (fun t ht hW9 => ⟨⟨0, (u.1, u.2.set qo (sh.2 qo, .inl (cO, 1, .inr (.inl g9)))), rfl, ⟨wr_set hpx hqo (by decide +kernel) (by decide +kernel) hwo ⟨rfl, rfl⟩, g9, wr_get hku⟩, by rw [ht]; exact hP2, hD2⟩, hS2.F ht⟩) hS2.2.2 dw_cancel_29)
theorem dw_concede_0 : decode cL_concede 0 = .ok (.aload_n 3, 1) := by decide +kernel
theorem dw_concede_1 : decode cL_concede 1 = .ok (.iconst 0, 1) := by decide +kernel
theorem dw_concede_2 : decode cL_concede 2 = .ok (.aload_n 0, 1) := by decide +kernel
theorem dw_concede_3 : decode cL_concede 3 = .ok (.iload_n 1, 1) := by decide +kernel
theorem dw_concede_4 : decode cL_concede 4 = .ok (.iload_n 2, 1) := by decide +kernel
theorem dw_concede_5 : decode cL_concede 5 = .ok (.invokevirtual 113, 3) := by decide +kernel
theorem dw_concede_8 : decode cL_concede 8 = .ok (.i2l, 1) := by decide +kernel
theorem dw_concede_9 : decode cL_concede 9 = .ok (.lastore, 1) := by decide +kernel
theorem dw_concede_10 : decode cL_concede 10 = .ok (.goto 19, 3) := by decide +kernel
theorem dw_concede_13 : decode cL_concede 13 = .ok (.astore 4, 2) := by decide +kernel
theorem dw_concede_15 : decode cL_concede 15 = .ok (.iconst 1, 1) := by decide +kernel
theorem dw_concede_16 : decode cL_concede 16 = .ok (.ireturn, 1) := by decide +kernel
theorem dw_concede_17 : decode cL_concede 17 = .ok (.astore 4, 2) := by decide +kernel
theorem dw_concede_19 : decode cL_concede 19 = .ok (.iconst 2, 1) := by decide +kernel
theorem dw_concede_20 : decode cL_concede 20 = .ok (.ireturn, 1) := by decide +kernel
theorem dw_concede_21 : decode cL_concede 21 = .ok (.astore 4, 2) := by decide +kernel
theorem dw_concede_23 : decode cL_concede 23 = .ok (.iconst 3, 1) := by decide +kernel
theorem dw_concede_24 : decode cL_concede 24 = .ok (.ireturn, 1) := by decide +kernel
theorem dw_concede_25 : decode cL_concede 25 = .ok (.astore 4, 2) := by decide +kernel
theorem dw_concede_27 : decode cL_concede 27 = .ok (.iconst 4, 1) := by decide +kernel
theorem dw_concede_28 : decode cL_concede 28 = .ok (.ireturn, 1) := by decide +kernel
theorem dw_concede_29 : decode cL_concede 29 = .ok (.iconst 0, 1) := by decide +kernel
theorem dw_concede_30 : decode cL_concede 30 = .ok (.ireturn, 1) := by decide +kernel
theorem gw_X6_concede : en_CV en_cw RL 113 yX6_concede RX6 cX6_concede 3 (some .int) 2 := en_gv cwl1061 cwl1062 cwl1063 cwl75 cwl1064 ⟨rfl, by decide, by decide, by decide +kernel⟩
set_option maxHeartbeats 4000000 in
set_option maxRecDepth 100000 in
theorem wr_concede {l : Launch} (hl9 : l.stackTraces = false) {PP : Int32 → Int32 → Prop} (hPP : en_P0 PP) (Ω : Nat → en_H → va_W → Prop) (D : va_G) (tys : List (ClassId × FieldType)) (cO cD : ClassId) (sh : en_H) (w : va_W) (sz qx qo : Nat) (fx : List Value) (g0 : (Nat → Int64)) (a1 : Int32) (a2 : Int32) (hb2 : 0 ≤ a2.toInt ∧ a2.toInt ≤ 65535) (hTY : tys.map Prod.snd = en_TY0) (hW : en_W PP en_KT k_X6_concede_0.2.2.2.2.1 sh tys (fun _ => False) w) (hD0 : va_D (va_A w sz) w) (hΩ : en_Om en_om0 sh Ω) (hqx : sh.1[qx]? = some 0) (hwx : w[qx]? = some (sh.2 qx, .inr (12, fx))) (hqo : sh.1[qo]? = some 56) (hwo : w[qo]? = some (sh.2 qo, .inl (cO, 1, .inr (.inl g0)))) :
    Met l yL_concede (Cond.codeWith yL_concede cL_concede 5 (some .int) [(0, 10, 13, 23), (0, 10, 17, 13), (0, 10, 21, 15), (0, 10, 25, 17)] :: en_cw) (en_rm 3 (3, 18)) (va_Pc [.ref (sh.2 qx), .int a1, .int a2, .ref (sh.2 qo)] (en_B D vwCl (tys ++ [(cO, .long), (cD, .double)]) w sz)) (va_Qi (fun _ u => (en_Px tys PP en_KT k_X6_concede_0.2.2.2.2.1 ((56, 0) :: k_X6_concede_0.2.2.2.1) sh w u ∧ ∃ g, u.2[qo]? = some (sh.2 qo, .inl (cO, 1, .inr (.inl g))))) (en_Bw D vwCl (va_A w sz)) (va_A w sz)) 3 18 (va_A w sz) := by
  refine va_MetW (cc := cL_concede) (maxL := 5) (ret := some .int) (hh := [(0, 10, 13, 23), (0, 10, 17, 13), (0, 10, 21, 15), (0, 10, 25, 17)]) (by decide +kernel) rfl ?_
  intro p e s m args below meth c s₁ B hml hv
  obtain ⟨rfl, hsz, hP, hK, hT⟩ := hv
  subst hsz
  have hx := B.exec
  have hb := B.bytes
  have hr := B.returns
  have hts0 := atoms_spec (ws := Cond.codeWith yL_concede cL_concede 5 (some .int) [(0, 10, 13, 23), (0, 10, 17, 13), (0, 10, 21, 15), (0, 10, 25, 17)] :: en_cw) B.pre
  have hts : ∀ z ∈ en_cw, z.before _ s = true := fun z hz => hts0 z (List.mem_cons_of_mem _ hz)
  have hown : s.vm.findClass RL = some m.cls := findClass_of_methodNamed B.named
  have htab := vx_table (x := yL_concede) B (hts0 _ List.mem_cons_self)
  have hA : ∀ q : Nat, s.heap.size ≤ q → va_A w s.heap.size q := fun q h => Or.inr h
  have hS : va_S (va_A w s.heap.size) s.heap s.heap [] := va_S.rf
  have hK0 : va_K D vwCl tys s := hK.pre
  have hTt : (tys ++ [(cO, .long), (cD, .double)])[7]? = some (cO, .long) := wr_ty hTY
  have hl := lv_entry ([.ref (sh.2 qx), .int a1, .int a2, .ref (sh.2 qo)]) (n := 5) (Nat.le_of_ble_eq_true rfl)
  rw [lg_entry_eq]
  generalize (lg_sl ([.ref (sh.2 qx), .int a1, .int a2, .ref (sh.2 qo)]) ++ List.replicate (5 - (lg_sl ([.ref (sh.2 qx), .int a1, .int a2, .ref (sh.2 qo)])).length) Slot.unset).toArray = ls at hl ⊢
  have hl : lv_has ls 5 [(0, .ref (sh.2 qx)), (1, .int a1), (2, .int a2), (3, .ref (sh.2 qo))] := hl
  refine lv_aload_n hx hb dw_concede_0 rfl (lv_at hl 3 rfl) ?_
  refine lv_iconst (v := 0) hx hb dw_concede_1 (by decide) ?_
  refine lv_aload_n hx hb dw_concede_2 rfl (lv_at hl 0 rfl) ?_
  refine lv_iload_n hx hb dw_concede_3 rfl (lv_at hl 1 rfl) ?_
  refine lv_iload_n hx hb dw_concede_4 rfl (lv_at hl 2 rfl) ?_
  refine en_hcV (q0 := qx) (b := sh.2 qx) (fs := fx) (co := 12) (ρp := [.ref (sh.2 qx), .int a1, .int a2]) (As := [.int a1, .int a2]) (rest := [.int 0, .ref (sh.2 qo)]) (lv' := 2) (ct_X6_concede_0 hl9 hPP Ω) gw_X6_concede rfl rfl hwx rfl rfl (Nat.le_of_ble_eq_true rfl) ⟨Nat.le_of_ble_eq_true rfl, Nat.le_of_ble_eq_true rfl⟩ ⟨Nat.le_of_ble_eq_true rfl, Nat.le_of_ble_eq_true rfl⟩ (Nat.le_of_ble_eq_true rfl) hx hb (hml.trans hl.1.symm) hts hown hTY hK0 hT hP hD0 hS hA hW hΩ (wr_pa (env := k_X6_concede_0.2.1.1) ⟨⟨qx, hqx, rfl⟩, ⟨a1, rfl, en_lo a1, en_hi a1⟩, ⟨a2, rfl, hb2.1, hb2.2⟩, trivial⟩) dw_concede_5 (fun x9 hx9 ce q9 u H1 locs1 hpx hP1 hD1 hS1 hcell hvm hcl => ?_) (fun u res H1 locs1 hrv hpo hP1 hD1 hS1 => ?_)
  · have hku := wr_keep hpx hqo (by decide +kernel) hwo
    have hpx9 := wr_same hpx ((56, 0) :: k_X6_concede_0.2.2.2.1) (fun z hz => List.mem_cons_of_mem _ hz)
    rcases List.mem_cons.mp hx9 with hx8 | hx9
    · subst hx8
      refine vx_catch (E := "java/lang/IllegalArgumentException") (name := "java/lang/IllegalArgumentException") hown [⟨0, 10, 13, 23⟩] ⟨0, 10, 17, 13⟩ [⟨0, 10, 21, 15⟩, ⟨0, 10, 25, 17⟩] (htab.trans rfl) (wr_cons (Or.inr ⟨by decide, "java/lang/IndexOutOfBoundsException", (hts (.classLink RL 23 "java/lang/IndexOutOfBoundsException") cwl619), hT.2.2.2.2.1 _ (by decide +kernel) _ (by decide +kernel) (by decide)⟩) wr_nil) (by decide) (by decide) (hts (.classLink RL 13 "java/lang/IllegalArgumentException") cwl498) (va_Nw.use rfl (hT.1 (Cond.castable "java/lang/IllegalArgumentException" "java/lang/IllegalArgumentException") (tf_cast (53, "java/lang/IllegalArgumentException") (by decide +kernel)))) hcell hvm hcl ?_
      refine lv_astore (lv' := (4, .ref q9) :: [(0, .ref (sh.2 qx)), (1, .int a1), (2, .int a2), (3, .ref (sh.2 qo))]) hx hb dw_concede_17 hl (by decide) rfl (fun ls hl => ?_)
      refine lv_iconst (v := 2) hx hb dw_concede_19 (by decide) ?_
      exact W.widen (Nat.le_of_ble_eq_true rfl) (Nat.le_of_ble_eq_true rfl) (W.iret (v := 2) hx hb hr (fun t ht hW9 => ⟨⟨2, u, rfl, ⟨hpx9, g0, hku⟩, by rw [ht]; exact hP1, hD1⟩, hS1.F ht⟩) hS1.2.2 dw_concede_20)
    rcases List.mem_cons.mp hx9 with hx8 | hx9
    · subst hx8
      refine vx_catch (E := "java/lang/IllegalStateException") (name := "java/lang/IllegalStateException") hown [⟨0, 10, 13, 23⟩, ⟨0, 10, 17, 13⟩] ⟨0, 10, 21, 15⟩ [⟨0, 10, 25, 17⟩] (htab.trans rfl) (wr_cons (Or.inr ⟨by decide, "java/lang/IndexOutOfBoundsException", (hts (.classLink RL 23 "java/lang/IndexOutOfBoundsException") cwl619), hT.2.2.2.2.1 _ (by decide +kernel) _ (by decide +kernel) (by decide)⟩) (wr_cons (Or.inr ⟨by decide, "java/lang/IllegalArgumentException", (hts (.classLink RL 13 "java/lang/IllegalArgumentException") cwl498), hT.2.2.2.2.1 _ (by decide +kernel) _ (by decide +kernel) (by decide)⟩) wr_nil)) (by decide) (by decide) (hts (.classLink RL 15 "java/lang/IllegalStateException") cwl499) (va_Nw.use rfl (hT.1 (Cond.castable "java/lang/IllegalStateException" "java/lang/IllegalStateException") (tf_cast (69, "java/lang/IllegalStateException") (by decide +kernel)))) hcell hvm hcl ?_
      refine lv_astore (lv' := (4, .ref q9) :: [(0, .ref (sh.2 qx)), (1, .int a1), (2, .int a2), (3, .ref (sh.2 qo))]) hx hb dw_concede_21 hl (by decide) rfl (fun ls hl => ?_)
      refine lv_iconst (v := 3) hx hb dw_concede_23 (by decide) ?_
      exact W.widen (Nat.le_of_ble_eq_true rfl) (Nat.le_of_ble_eq_true rfl) (W.iret (v := 3) hx hb hr (fun t ht hW9 => ⟨⟨3, u, rfl, ⟨hpx9, g0, hku⟩, by rw [ht]; exact hP1, hD1⟩, hS1.F ht⟩) hS1.2.2 dw_concede_24)
    rcases List.mem_cons.mp hx9 with hx8 | hx9
    · subst hx8
      refine vx_catch (E := "java/lang/UnsupportedOperationException") (name := "java/lang/UnsupportedOperationException") hown [⟨0, 10, 13, 23⟩, ⟨0, 10, 17, 13⟩, ⟨0, 10, 21, 15⟩] ⟨0, 10, 25, 17⟩ [] (htab.trans rfl) (wr_cons (Or.inr ⟨by decide, "java/lang/IndexOutOfBoundsException", (hts (.classLink RL 23 "java/lang/IndexOutOfBoundsException") cwl619), hT.2.2.2.2.1 _ (by decide +kernel) _ (by decide +kernel) (by decide)⟩) (wr_cons (Or.inr ⟨by decide, "java/lang/IllegalArgumentException", (hts (.classLink RL 13 "java/lang/IllegalArgumentException") cwl498), hT.2.2.2.2.1 _ (by decide +kernel) _ (by decide +kernel) (by decide)⟩) (wr_cons (Or.inr ⟨by decide, "java/lang/IllegalStateException", (hts (.classLink RL 15 "java/lang/IllegalStateException") cwl499), hT.2.2.2.2.1 _ (by decide +kernel) _ (by decide +kernel) (by decide)⟩) wr_nil))) (by decide) (by decide) (hts (.classLink RL 17 "java/lang/UnsupportedOperationException") cwl500) (va_Nw.use rfl (hT.1 (Cond.castable "java/lang/UnsupportedOperationException" "java/lang/UnsupportedOperationException") (tf_cast (78, "java/lang/UnsupportedOperationException") (by decide +kernel)))) hcell hvm hcl ?_
      refine lv_astore (lv' := (4, .ref q9) :: [(0, .ref (sh.2 qx)), (1, .int a1), (2, .int a2), (3, .ref (sh.2 qo))]) hx hb dw_concede_25 hl (by decide) rfl (fun ls hl => ?_)
      refine lv_iconst (v := 4) hx hb dw_concede_27 (by decide) ?_
      exact W.widen (Nat.le_of_ble_eq_true rfl) (Nat.le_of_ble_eq_true rfl) (W.iret (v := 4) hx hb hr (fun t ht hW9 => ⟨⟨4, u, rfl, ⟨hpx9, g0, hku⟩, by rw [ht]; exact hP1, hD1⟩, hS1.F ht⟩) hS1.2.2 dw_concede_28)
    have hx8 := List.mem_singleton.mp hx9
    subst hx8
    refine vx_catch (E := "java/lang/IndexOutOfBoundsException") (name := "java/lang/IndexOutOfBoundsException") hown [] ⟨0, 10, 13, 23⟩ [⟨0, 10, 17, 13⟩, ⟨0, 10, 21, 15⟩, ⟨0, 10, 25, 17⟩] (htab.trans rfl) wr_nil (by decide) (by decide) (hts (.classLink RL 23 "java/lang/IndexOutOfBoundsException") cwl619) (va_Nw.use rfl (hT.1 (Cond.castable "java/lang/IndexOutOfBoundsException" "java/lang/IndexOutOfBoundsException") (tf_cast (539, "java/lang/IndexOutOfBoundsException") (by decide +kernel)))) hcell hvm hcl ?_
    refine lv_astore (lv' := (4, .ref q9) :: [(0, .ref (sh.2 qx)), (1, .int a1), (2, .int a2), (3, .ref (sh.2 qo))]) hx hb dw_concede_13 hl (by decide) rfl (fun ls hl => ?_)
    refine lv_iconst (v := 1) hx hb dw_concede_15 (by decide) ?_
    exact W.widen (Nat.le_of_ble_eq_true rfl) (Nat.le_of_ble_eq_true rfl) (W.iret (v := 1) hx hb hr (fun t ht hW9 => ⟨⟨1, u, rfl, ⟨hpx9, g0, hku⟩, by rw [ht]; exact hP1, hD1⟩, hS1.F ht⟩) hS1.2.2 dw_concede_16)
  · obtain ⟨hpx, hpo9⟩ := hpo
    have hku := wr_keep hpx hqo (by decide +kernel) hwo
    obtain ⟨r9, rfl⟩ := hrv
    refine lv_i2l hx hb dw_concede_8 rfl ?_
    refine va_last hx hb hK hP1 hD1 hS1 qo 7 hku hTt (vp_in_nI (n := 0) (by decide) (by decide)) dw_concede_9 (fun H2 locs2 hP2 hD2 hS2 => ?_)
    obtain ⟨g9, hg9⟩ : ∃ g9, g9 = vp_updL g0 (0 : Int32).toNatClampNeg r9.toInt64 := ⟨_, rfl⟩
    rw [← hg9] at hP2 hD2
    refine lv_goto (tgt := 29) hx hb dw_concede_10 (by decide) ?_
    refine lv_iconst (v := 0) hx hb dw_concede_29 (by decide) ?_
    exact W.widen (Nat.le_of_ble_eq_true rfl) (Nat.le_of_ble_eq_true rfl) (W.iret (v := 0) hx hb hr (fun t ht hW9 => ⟨⟨0, (u.1, u.2.set qo (sh.2 qo, .inl (cO, 1, .inr (.inl g9)))), rfl, ⟨wr_set hpx hqo (by decide +kernel) (by decide +kernel) hwo ⟨rfl, rfl⟩, g9, wr_get hku⟩, by rw [ht]; exact hP2, hD2⟩, hS2.F ht⟩) hS2.2.2 dw_concede_30)
theorem dw_conditions_0 : decode cL_conditions 0 = .ok (.aload_n 2, 1) := by decide +kernel
theorem dw_conditions_1 : decode cL_conditions 1 = .ok (.iconst 0, 1) := by decide +kernel
theorem dw_conditions_2 : decode cL_conditions 2 = .ok (.aload_n 0, 1) := by decide +kernel
theorem dw_conditions_3 : decode cL_conditions 3 = .ok (.iload_n 1, 1) := by decide +kernel
theorem dw_conditions_4 : decode cL_conditions 4 = .ok (.invokevirtual 176, 3) := by decide +kernel
theorem dw_conditions_7 : decode cL_conditions 7 = .ok (.i2l, 1) := by decide +kernel
theorem dw_conditions_8 : decode cL_conditions 8 = .ok (.lastore, 1) := by decide +kernel
theorem dw_conditions_9 : decode cL_conditions 9 = .ok (.goto 6, 3) := by decide +kernel
theorem dw_conditions_12 : decode cL_conditions 12 = .ok (.astore_n 3, 1) := by decide +kernel
theorem dw_conditions_13 : decode cL_conditions 13 = .ok (.iconst 1, 1) := by decide +kernel
theorem dw_conditions_14 : decode cL_conditions 14 = .ok (.ireturn, 1) := by decide +kernel
theorem dw_conditions_15 : decode cL_conditions 15 = .ok (.iconst 0, 1) := by decide +kernel
theorem dw_conditions_16 : decode cL_conditions 16 = .ok (.ireturn, 1) := by decide +kernel
theorem gw_X6_conditions : en_CV en_cw RL 176 yX6_conditions RX6 cX6_conditions 3 (some .int) 1 := en_gv cwl1307 cwl1308 cwl1309 cwl75 cwl1310 ⟨rfl, by decide, by decide, by decide +kernel⟩
set_option maxHeartbeats 4000000 in
set_option maxRecDepth 100000 in
theorem wr_conditions {l : Launch} (hl9 : l.stackTraces = false) {PP : Int32 → Int32 → Prop} (hPP : en_P0 PP) (Ω : Nat → en_H → va_W → Prop) (D : va_G) (tys : List (ClassId × FieldType)) (cO cD : ClassId) (sh : en_H) (w : va_W) (sz qx qo : Nat) (fx : List Value) (g0 : (Nat → Int64)) (a1 : Int32) (hTY : tys.map Prod.snd = en_TY0) (hW : en_W PP en_KT k_X6_conditions_0.2.2.2.2.1 sh tys (fun _ => False) w) (hD0 : va_D (va_A w sz) w) (hΩ : en_Om en_om0 sh Ω) (hqx : sh.1[qx]? = some 0) (hwx : w[qx]? = some (sh.2 qx, .inr (12, fx))) (hqo : sh.1[qo]? = some 56) (hwo : w[qo]? = some (sh.2 qo, .inl (cO, 1, .inr (.inl g0)))) :
    Met l yL_conditions (Cond.codeWith yL_conditions cL_conditions 4 (some .int) [(0, 9, 12, 13)] :: en_cw) (en_rm 1 (1, 6)) (va_Pc [.ref (sh.2 qx), .int a1, .ref (sh.2 qo)] (en_B D vwCl (tys ++ [(cO, .long), (cD, .double)]) w sz)) (va_Qi (fun _ u => (en_Px tys PP en_KT k_X6_conditions_0.2.2.2.2.1 ((56, 0) :: k_X6_conditions_0.2.2.2.1) sh w u ∧ ∃ g, u.2[qo]? = some (sh.2 qo, .inl (cO, 1, .inr (.inl g))))) (en_Bw D vwCl (va_A w sz)) (va_A w sz)) 1 6 (va_A w sz) := by
  refine va_MetW (cc := cL_conditions) (maxL := 4) (ret := some .int) (hh := [(0, 9, 12, 13)]) (by decide +kernel) rfl ?_
  intro p e s m args below meth c s₁ B hml hv
  obtain ⟨rfl, hsz, hP, hK, hT⟩ := hv
  subst hsz
  have hx := B.exec
  have hb := B.bytes
  have hr := B.returns
  have hts0 := atoms_spec (ws := Cond.codeWith yL_conditions cL_conditions 4 (some .int) [(0, 9, 12, 13)] :: en_cw) B.pre
  have hts : ∀ z ∈ en_cw, z.before _ s = true := fun z hz => hts0 z (List.mem_cons_of_mem _ hz)
  have hown : s.vm.findClass RL = some m.cls := findClass_of_methodNamed B.named
  have htab := vx_table (x := yL_conditions) B (hts0 _ List.mem_cons_self)
  have hA : ∀ q : Nat, s.heap.size ≤ q → va_A w s.heap.size q := fun q h => Or.inr h
  have hS : va_S (va_A w s.heap.size) s.heap s.heap [] := va_S.rf
  have hK0 : va_K D vwCl tys s := hK.pre
  have hTt : (tys ++ [(cO, .long), (cD, .double)])[7]? = some (cO, .long) := wr_ty hTY
  have hl := lv_entry ([.ref (sh.2 qx), .int a1, .ref (sh.2 qo)]) (n := 4) (Nat.le_of_ble_eq_true rfl)
  rw [lg_entry_eq]
  generalize (lg_sl ([.ref (sh.2 qx), .int a1, .ref (sh.2 qo)]) ++ List.replicate (4 - (lg_sl ([.ref (sh.2 qx), .int a1, .ref (sh.2 qo)])).length) Slot.unset).toArray = ls at hl ⊢
  have hl : lv_has ls 4 [(0, .ref (sh.2 qx)), (1, .int a1), (2, .ref (sh.2 qo))] := hl
  refine lv_aload_n hx hb dw_conditions_0 rfl (lv_at hl 2 rfl) ?_
  refine lv_iconst (v := 0) hx hb dw_conditions_1 (by decide) ?_
  refine lv_aload_n hx hb dw_conditions_2 rfl (lv_at hl 0 rfl) ?_
  refine lv_iload_n hx hb dw_conditions_3 rfl (lv_at hl 1 rfl) ?_
  refine en_hcV (q0 := qx) (b := sh.2 qx) (fs := fx) (co := 12) (ρp := [.ref (sh.2 qx), .int a1]) (As := [.int a1]) (rest := [.int 0, .ref (sh.2 qo)]) (lv' := 0) (ct_X6_conditions_0 hl9 hPP Ω) gw_X6_conditions rfl rfl hwx rfl rfl (Nat.le_of_ble_eq_true rfl) ⟨Nat.le_of_ble_eq_true rfl, Nat.le_of_ble_eq_true rfl⟩ ⟨Nat.le_of_ble_eq_true rfl, Nat.le_of_ble_eq_true rfl⟩ (Nat.le_of_ble_eq_true rfl) hx hb (hml.trans hl.1.symm) hts hown hTY hK0 hT hP hD0 hS hA hW hΩ (wr_pa (env := k_X6_conditions_0.2.1.1) ⟨⟨qx, hqx, rfl⟩, ⟨a1, rfl, en_lo a1, en_hi a1⟩, trivial⟩) dw_conditions_4 (fun x9 hx9 ce q9 u H1 locs1 hpx hP1 hD1 hS1 hcell hvm hcl => ?_) (fun u res H1 locs1 hrv hpo hP1 hD1 hS1 => ?_)
  · have hku := wr_keep hpx hqo (by decide +kernel) hwo
    have hpx9 := wr_same hpx ((56, 0) :: k_X6_conditions_0.2.2.2.1) (fun z hz => List.mem_cons_of_mem _ hz)
    have hx8 := List.mem_singleton.mp hx9
    subst hx8
    refine vx_catch (E := "java/lang/IllegalArgumentException") (name := "java/lang/IllegalArgumentException") hown [] ⟨0, 9, 12, 13⟩ [] (htab.trans rfl) wr_nil (by decide) (by decide) (hts (.classLink RL 13 "java/lang/IllegalArgumentException") cwl498) (va_Nw.use rfl (hT.1 (Cond.castable "java/lang/IllegalArgumentException" "java/lang/IllegalArgumentException") (tf_cast (53, "java/lang/IllegalArgumentException") (by decide +kernel)))) hcell hvm hcl ?_
    refine lv_astore_n (lv' := (3, .ref q9) :: [(0, .ref (sh.2 qx)), (1, .int a1), (2, .ref (sh.2 qo))]) hx hb dw_conditions_12 rfl hl (by decide) rfl (fun ls hl => ?_)
    refine lv_iconst (v := 1) hx hb dw_conditions_13 (by decide) ?_
    exact W.widen (Nat.le_of_ble_eq_true rfl) (Nat.le_of_ble_eq_true rfl) (W.iret (v := 1) hx hb hr (fun t ht hW9 => ⟨⟨1, u, rfl, ⟨hpx9, g0, hku⟩, by rw [ht]; exact hP1, hD1⟩, hS1.F ht⟩) hS1.2.2 dw_conditions_14)
  · obtain ⟨hpx, hpo9⟩ := hpo
    have hku := wr_keep hpx hqo (by decide +kernel) hwo
    obtain ⟨r9, rfl⟩ := hrv
    refine lv_i2l hx hb dw_conditions_7 rfl ?_
    refine va_last hx hb hK hP1 hD1 hS1 qo 7 hku hTt (vp_in_nI (n := 0) (by decide) (by decide)) dw_conditions_8 (fun H2 locs2 hP2 hD2 hS2 => ?_)
    obtain ⟨g9, hg9⟩ : ∃ g9, g9 = vp_updL g0 (0 : Int32).toNatClampNeg r9.toInt64 := ⟨_, rfl⟩
    rw [← hg9] at hP2 hD2
    refine lv_goto (tgt := 15) hx hb dw_conditions_9 (by decide) ?_
    refine lv_iconst (v := 0) hx hb dw_conditions_15 (by decide) ?_
    exact W.widen (Nat.le_of_ble_eq_true rfl) (Nat.le_of_ble_eq_true rfl) (W.iret (v := 0) hx hb hr (fun t ht hW9 => ⟨⟨0, (u.1, u.2.set qo (sh.2 qo, .inl (cO, 1, .inr (.inl g9)))), rfl, ⟨wr_set hpx hqo (by decide +kernel) (by decide +kernel) hwo ⟨rfl, rfl⟩, g9, wr_get hku⟩, by rw [ht]; exact hP2, hD2⟩, hS2.F ht⟩) hS2.2.2 dw_conditions_16)
theorem dw_correct_0 : decode cL_correct 0 = .ok (.aload_n 2, 1) := by decide +kernel
theorem dw_correct_1 : decode cL_correct 1 = .ok (.iconst 0, 1) := by decide +kernel
theorem dw_correct_2 : decode cL_correct 2 = .ok (.aload_n 0, 1) := by decide +kernel
theorem dw_correct_3 : decode cL_correct 3 = .ok (.iload_n 1, 1) := by decide +kernel
theorem dw_correct_4 : decode cL_correct 4 = .ok (.invokevirtual 92, 3) := by decide +kernel
theorem dw_correct_7 : decode cL_correct 7 = .ok (.i2l, 1) := by decide +kernel
theorem dw_correct_8 : decode cL_correct 8 = .ok (.lastore, 1) := by decide +kernel
theorem dw_correct_9 : decode cL_correct 9 = .ok (.goto 12, 3) := by decide +kernel
theorem dw_correct_12 : decode cL_correct 12 = .ok (.astore_n 3, 1) := by decide +kernel
theorem dw_correct_13 : decode cL_correct 13 = .ok (.iconst 1, 1) := by decide +kernel
theorem dw_correct_14 : decode cL_correct 14 = .ok (.ireturn, 1) := by decide +kernel
theorem dw_correct_15 : decode cL_correct 15 = .ok (.astore_n 3, 1) := by decide +kernel
theorem dw_correct_16 : decode cL_correct 16 = .ok (.iconst 2, 1) := by decide +kernel
theorem dw_correct_17 : decode cL_correct 17 = .ok (.ireturn, 1) := by decide +kernel
theorem dw_correct_18 : decode cL_correct 18 = .ok (.astore_n 3, 1) := by decide +kernel
theorem dw_correct_19 : decode cL_correct 19 = .ok (.iconst 3, 1) := by decide +kernel
theorem dw_correct_20 : decode cL_correct 20 = .ok (.ireturn, 1) := by decide +kernel
theorem dw_correct_21 : decode cL_correct 21 = .ok (.iconst 0, 1) := by decide +kernel
theorem dw_correct_22 : decode cL_correct 22 = .ok (.ireturn, 1) := by decide +kernel
theorem gw_X6_correct : en_CV en_cw RL 92 yX6_correct RX6 cX6_correct 3 (some .int) 1 := en_gv cwl1005 cwl1006 cwl1007 cwl75 cwl1008 ⟨rfl, by decide, by decide, by decide +kernel⟩
set_option maxHeartbeats 4000000 in
set_option maxRecDepth 100000 in
theorem wr_correct {l : Launch} (hl9 : l.stackTraces = false) {PP : Int32 → Int32 → Prop} (hPP : en_P0 PP) (Ω : Nat → en_H → va_W → Prop) (D : va_G) (tys : List (ClassId × FieldType)) (cO cD : ClassId) (sh : en_H) (w : va_W) (sz qx qo : Nat) (fx : List Value) (g0 : (Nat → Int64)) (a1 : Int32) (hTY : tys.map Prod.snd = en_TY0) (hW : en_W PP en_KT k_X6_correct_0.2.2.2.2.1 sh tys (fun _ => False) w) (hD0 : va_D (va_A w sz) w) (hΩ : en_Om en_om0 sh Ω) (hqx : sh.1[qx]? = some 0) (hwx : w[qx]? = some (sh.2 qx, .inr (12, fx))) (hqo : sh.1[qo]? = some 56) (hwo : w[qo]? = some (sh.2 qo, .inl (cO, 1, .inr (.inl g0)))) :
    Met l yL_correct (Cond.codeWith yL_correct cL_correct 4 (some .int) [(0, 9, 12, 23), (0, 9, 15, 15), (0, 9, 18, 17)] :: en_cw) (en_rm 2 (3, 18)) (va_Pc [.ref (sh.2 qx), .int a1, .ref (sh.2 qo)] (en_B D vwCl (tys ++ [(cO, .long), (cD, .double)]) w sz)) (va_Qi (fun _ u => (en_Px tys PP en_KT k_X6_correct_0.2.2.2.2.1 ((56, 0) :: k_X6_correct_0.2.2.2.1) sh w u ∧ ∃ g, u.2[qo]? = some (sh.2 qo, .inl (cO, 1, .inr (.inl g))))) (en_Bw D vwCl (va_A w sz)) (va_A w sz)) 3 18 (va_A w sz) := by
  refine va_MetW (cc := cL_correct) (maxL := 4) (ret := some .int) (hh := [(0, 9, 12, 23), (0, 9, 15, 15), (0, 9, 18, 17)]) (by decide +kernel) rfl ?_
  intro p e s m args below meth c s₁ B hml hv
  obtain ⟨rfl, hsz, hP, hK, hT⟩ := hv
  subst hsz
  have hx := B.exec
  have hb := B.bytes
  have hr := B.returns
  have hts0 := atoms_spec (ws := Cond.codeWith yL_correct cL_correct 4 (some .int) [(0, 9, 12, 23), (0, 9, 15, 15), (0, 9, 18, 17)] :: en_cw) B.pre
  have hts : ∀ z ∈ en_cw, z.before _ s = true := fun z hz => hts0 z (List.mem_cons_of_mem _ hz)
  have hown : s.vm.findClass RL = some m.cls := findClass_of_methodNamed B.named
  have htab := vx_table (x := yL_correct) B (hts0 _ List.mem_cons_self)
  have hA : ∀ q : Nat, s.heap.size ≤ q → va_A w s.heap.size q := fun q h => Or.inr h
  have hS : va_S (va_A w s.heap.size) s.heap s.heap [] := va_S.rf
  have hK0 : va_K D vwCl tys s := hK.pre
  have hTt : (tys ++ [(cO, .long), (cD, .double)])[7]? = some (cO, .long) := wr_ty hTY
  have hl := lv_entry ([.ref (sh.2 qx), .int a1, .ref (sh.2 qo)]) (n := 4) (Nat.le_of_ble_eq_true rfl)
  rw [lg_entry_eq]
  generalize (lg_sl ([.ref (sh.2 qx), .int a1, .ref (sh.2 qo)]) ++ List.replicate (4 - (lg_sl ([.ref (sh.2 qx), .int a1, .ref (sh.2 qo)])).length) Slot.unset).toArray = ls at hl ⊢
  have hl : lv_has ls 4 [(0, .ref (sh.2 qx)), (1, .int a1), (2, .ref (sh.2 qo))] := hl
  refine lv_aload_n hx hb dw_correct_0 rfl (lv_at hl 2 rfl) ?_
  refine lv_iconst (v := 0) hx hb dw_correct_1 (by decide) ?_
  refine lv_aload_n hx hb dw_correct_2 rfl (lv_at hl 0 rfl) ?_
  refine lv_iload_n hx hb dw_correct_3 rfl (lv_at hl 1 rfl) ?_
  refine en_hcV (q0 := qx) (b := sh.2 qx) (fs := fx) (co := 12) (ρp := [.ref (sh.2 qx), .int a1]) (As := [.int a1]) (rest := [.int 0, .ref (sh.2 qo)]) (lv' := 1) (ct_X6_correct_0 hl9 hPP Ω) gw_X6_correct rfl rfl hwx rfl rfl (Nat.le_of_ble_eq_true rfl) ⟨Nat.le_of_ble_eq_true rfl, Nat.le_of_ble_eq_true rfl⟩ ⟨Nat.le_of_ble_eq_true rfl, Nat.le_of_ble_eq_true rfl⟩ (Nat.le_of_ble_eq_true rfl) hx hb (hml.trans hl.1.symm) hts hown hTY hK0 hT hP hD0 hS hA hW hΩ (wr_pa (env := k_X6_correct_0.2.1.1) ⟨⟨qx, hqx, rfl⟩, ⟨a1, rfl, en_lo a1, en_hi a1⟩, trivial⟩) dw_correct_4 (fun x9 hx9 ce q9 u H1 locs1 hpx hP1 hD1 hS1 hcell hvm hcl => ?_) (fun u res H1 locs1 hrv hpo hP1 hD1 hS1 => ?_)
  · have hku := wr_keep hpx hqo (by decide +kernel) hwo
    have hpx9 := wr_same hpx ((56, 0) :: k_X6_correct_0.2.2.2.1) (fun z hz => List.mem_cons_of_mem _ hz)
    rcases List.mem_cons.mp hx9 with hx8 | hx9
    · subst hx8
      refine vx_catch (E := "java/lang/IllegalStateException") (name := "java/lang/IllegalStateException") hown [⟨0, 9, 12, 23⟩] ⟨0, 9, 15, 15⟩ [⟨0, 9, 18, 17⟩] (htab.trans rfl) (wr_cons (Or.inr ⟨by decide, "java/lang/IndexOutOfBoundsException", (hts (.classLink RL 23 "java/lang/IndexOutOfBoundsException") cwl619), hT.2.2.2.2.1 _ (by decide +kernel) _ (by decide +kernel) (by decide)⟩) wr_nil) (by decide) (by decide) (hts (.classLink RL 15 "java/lang/IllegalStateException") cwl499) (va_Nw.use rfl (hT.1 (Cond.castable "java/lang/IllegalStateException" "java/lang/IllegalStateException") (tf_cast (69, "java/lang/IllegalStateException") (by decide +kernel)))) hcell hvm hcl ?_
      refine lv_astore_n (lv' := (3, .ref q9) :: [(0, .ref (sh.2 qx)), (1, .int a1), (2, .ref (sh.2 qo))]) hx hb dw_correct_15 rfl hl (by decide) rfl (fun ls hl => ?_)
      refine lv_iconst (v := 2) hx hb dw_correct_16 (by decide) ?_
      exact W.widen (Nat.le_of_ble_eq_true rfl) (Nat.le_of_ble_eq_true rfl) (W.iret (v := 2) hx hb hr (fun t ht hW9 => ⟨⟨2, u, rfl, ⟨hpx9, g0, hku⟩, by rw [ht]; exact hP1, hD1⟩, hS1.F ht⟩) hS1.2.2 dw_correct_17)
    rcases List.mem_cons.mp hx9 with hx8 | hx9
    · subst hx8
      refine vx_catch (E := "java/lang/UnsupportedOperationException") (name := "java/lang/UnsupportedOperationException") hown [⟨0, 9, 12, 23⟩, ⟨0, 9, 15, 15⟩] ⟨0, 9, 18, 17⟩ [] (htab.trans rfl) (wr_cons (Or.inr ⟨by decide, "java/lang/IndexOutOfBoundsException", (hts (.classLink RL 23 "java/lang/IndexOutOfBoundsException") cwl619), hT.2.2.2.2.1 _ (by decide +kernel) _ (by decide +kernel) (by decide)⟩) (wr_cons (Or.inr ⟨by decide, "java/lang/IllegalStateException", (hts (.classLink RL 15 "java/lang/IllegalStateException") cwl499), hT.2.2.2.2.1 _ (by decide +kernel) _ (by decide +kernel) (by decide)⟩) wr_nil)) (by decide) (by decide) (hts (.classLink RL 17 "java/lang/UnsupportedOperationException") cwl500) (va_Nw.use rfl (hT.1 (Cond.castable "java/lang/UnsupportedOperationException" "java/lang/UnsupportedOperationException") (tf_cast (78, "java/lang/UnsupportedOperationException") (by decide +kernel)))) hcell hvm hcl ?_
      refine lv_astore_n (lv' := (3, .ref q9) :: [(0, .ref (sh.2 qx)), (1, .int a1), (2, .ref (sh.2 qo))]) hx hb dw_correct_18 rfl hl (by decide) rfl (fun ls hl => ?_)
      refine lv_iconst (v := 3) hx hb dw_correct_19 (by decide) ?_
      exact W.widen (Nat.le_of_ble_eq_true rfl) (Nat.le_of_ble_eq_true rfl) (W.iret (v := 3) hx hb hr (fun t ht hW9 => ⟨⟨3, u, rfl, ⟨hpx9, g0, hku⟩, by rw [ht]; exact hP1, hD1⟩, hS1.F ht⟩) hS1.2.2 dw_correct_20)
    have hx8 := List.mem_singleton.mp hx9
    subst hx8
    refine vx_catch (E := "java/lang/IndexOutOfBoundsException") (name := "java/lang/IndexOutOfBoundsException") hown [] ⟨0, 9, 12, 23⟩ [⟨0, 9, 15, 15⟩, ⟨0, 9, 18, 17⟩] (htab.trans rfl) wr_nil (by decide) (by decide) (hts (.classLink RL 23 "java/lang/IndexOutOfBoundsException") cwl619) (va_Nw.use rfl (hT.1 (Cond.castable "java/lang/IndexOutOfBoundsException" "java/lang/IndexOutOfBoundsException") (tf_cast (539, "java/lang/IndexOutOfBoundsException") (by decide +kernel)))) hcell hvm hcl ?_
    refine lv_astore_n (lv' := (3, .ref q9) :: [(0, .ref (sh.2 qx)), (1, .int a1), (2, .ref (sh.2 qo))]) hx hb dw_correct_12 rfl hl (by decide) rfl (fun ls hl => ?_)
    refine lv_iconst (v := 1) hx hb dw_correct_13 (by decide) ?_
    exact W.widen (Nat.le_of_ble_eq_true rfl) (Nat.le_of_ble_eq_true rfl) (W.iret (v := 1) hx hb hr (fun t ht hW9 => ⟨⟨1, u, rfl, ⟨hpx9, g0, hku⟩, by rw [ht]; exact hP1, hD1⟩, hS1.F ht⟩) hS1.2.2 dw_correct_14)
  · obtain ⟨hpx, hpo9⟩ := hpo
    have hku := wr_keep hpx hqo (by decide +kernel) hwo
    obtain ⟨r9, rfl⟩ := hrv
    refine lv_i2l hx hb dw_correct_7 rfl ?_
    refine va_last hx hb hK hP1 hD1 hS1 qo 7 hku hTt (vp_in_nI (n := 0) (by decide) (by decide)) dw_correct_8 (fun H2 locs2 hP2 hD2 hS2 => ?_)
    obtain ⟨g9, hg9⟩ : ∃ g9, g9 = vp_updL g0 (0 : Int32).toNatClampNeg r9.toInt64 := ⟨_, rfl⟩
    rw [← hg9] at hP2 hD2
    refine lv_goto (tgt := 21) hx hb dw_correct_9 (by decide) ?_
    refine lv_iconst (v := 0) hx hb dw_correct_21 (by decide) ?_
    exact W.widen (Nat.le_of_ble_eq_true rfl) (Nat.le_of_ble_eq_true rfl) (W.iret (v := 0) hx hb hr (fun t ht hW9 => ⟨⟨0, (u.1, u.2.set qo (sh.2 qo, .inl (cO, 1, .inr (.inl g9)))), rfl, ⟨wr_set hpx hqo (by decide +kernel) (by decide +kernel) hwo ⟨rfl, rfl⟩, g9, wr_get hku⟩, by rw [ht]; exact hP2, hD2⟩, hS2.F ht⟩) hS2.2.2 dw_correct_22)
theorem dw_cut_0 : decode cL_cut 0 = .ok (.aload_n 2, 1) := by decide +kernel
theorem dw_cut_1 : decode cL_cut 1 = .ok (.iconst 0, 1) := by decide +kernel
theorem dw_cut_2 : decode cL_cut 2 = .ok (.aload_n 0, 1) := by decide +kernel
theorem dw_cut_3 : decode cL_cut 3 = .ok (.iload_n 1, 1) := by decide +kernel
theorem dw_cut_4 : decode cL_cut 4 = .ok (.invokevirtual 173, 3) := by decide +kernel
theorem dw_cut_7 : decode cL_cut 7 = .ok (.i2l, 1) := by decide +kernel
theorem dw_cut_8 : decode cL_cut 8 = .ok (.lastore, 1) := by decide +kernel
theorem dw_cut_9 : decode cL_cut 9 = .ok (.goto 6, 3) := by decide +kernel
theorem dw_cut_12 : decode cL_cut 12 = .ok (.astore_n 3, 1) := by decide +kernel
theorem dw_cut_13 : decode cL_cut 13 = .ok (.iconst 1, 1) := by decide +kernel
theorem dw_cut_14 : decode cL_cut 14 = .ok (.ireturn, 1) := by decide +kernel
theorem dw_cut_15 : decode cL_cut 15 = .ok (.iconst 0, 1) := by decide +kernel
theorem dw_cut_16 : decode cL_cut 16 = .ok (.ireturn, 1) := by decide +kernel
theorem gw_X6_cut : en_CV en_cw RL 173 yX6_cut RX6 cX6_cut 4 (some .int) 1 := en_gv cwl1299 cwl1300 cwl1301 cwl75 cwl1302 ⟨rfl, by decide, by decide, by decide +kernel⟩
set_option maxHeartbeats 4000000 in
set_option maxRecDepth 100000 in
theorem wr_cut {l : Launch} (hl9 : l.stackTraces = false) {PP : Int32 → Int32 → Prop} (hPP : en_P0 PP) (Ω : Nat → en_H → va_W → Prop) (D : va_G) (tys : List (ClassId × FieldType)) (cO cD : ClassId) (sh : en_H) (w : va_W) (sz qx qo : Nat) (fx : List Value) (g0 : (Nat → Int64)) (a1 : Int32) (hTY : tys.map Prod.snd = en_TY0) (hW : en_W PP en_KT k_X6_cut_0.2.2.2.2.1 sh tys (fun _ => False) w) (hD0 : va_D (va_A w sz) w) (hΩ : en_Om en_om0 sh Ω) (hqx : sh.1[qx]? = some 0) (hwx : w[qx]? = some (sh.2 qx, .inr (12, fx))) (hqo : sh.1[qo]? = some 56) (hwo : w[qo]? = some (sh.2 qo, .inl (cO, 1, .inr (.inl g0)))) :
    Met l yL_cut (Cond.codeWith yL_cut cL_cut 4 (some .int) [(0, 9, 12, 13)] :: en_cw) (en_rm 5 (1, 6)) (va_Pc [.ref (sh.2 qx), .int a1, .ref (sh.2 qo)] (en_B D vwCl (tys ++ [(cO, .long), (cD, .double)]) w sz)) (va_Qi (fun _ u => (en_Px tys PP en_KT k_X6_cut_0.2.2.2.2.1 ((56, 0) :: k_X6_cut_0.2.2.2.1) sh w u ∧ ∃ g, u.2[qo]? = some (sh.2 qo, .inl (cO, 1, .inr (.inl g))))) (en_Bw D vwCl (va_A w sz)) (va_A w sz)) 1 6 (va_A w sz) := by
  refine va_MetW (cc := cL_cut) (maxL := 4) (ret := some .int) (hh := [(0, 9, 12, 13)]) (by decide +kernel) rfl ?_
  intro p e s m args below meth c s₁ B hml hv
  obtain ⟨rfl, hsz, hP, hK, hT⟩ := hv
  subst hsz
  have hx := B.exec
  have hb := B.bytes
  have hr := B.returns
  have hts0 := atoms_spec (ws := Cond.codeWith yL_cut cL_cut 4 (some .int) [(0, 9, 12, 13)] :: en_cw) B.pre
  have hts : ∀ z ∈ en_cw, z.before _ s = true := fun z hz => hts0 z (List.mem_cons_of_mem _ hz)
  have hown : s.vm.findClass RL = some m.cls := findClass_of_methodNamed B.named
  have htab := vx_table (x := yL_cut) B (hts0 _ List.mem_cons_self)
  have hA : ∀ q : Nat, s.heap.size ≤ q → va_A w s.heap.size q := fun q h => Or.inr h
  have hS : va_S (va_A w s.heap.size) s.heap s.heap [] := va_S.rf
  have hK0 : va_K D vwCl tys s := hK.pre
  have hTt : (tys ++ [(cO, .long), (cD, .double)])[7]? = some (cO, .long) := wr_ty hTY
  have hl := lv_entry ([.ref (sh.2 qx), .int a1, .ref (sh.2 qo)]) (n := 4) (Nat.le_of_ble_eq_true rfl)
  rw [lg_entry_eq]
  generalize (lg_sl ([.ref (sh.2 qx), .int a1, .ref (sh.2 qo)]) ++ List.replicate (4 - (lg_sl ([.ref (sh.2 qx), .int a1, .ref (sh.2 qo)])).length) Slot.unset).toArray = ls at hl ⊢
  have hl : lv_has ls 4 [(0, .ref (sh.2 qx)), (1, .int a1), (2, .ref (sh.2 qo))] := hl
  refine lv_aload_n hx hb dw_cut_0 rfl (lv_at hl 2 rfl) ?_
  refine lv_iconst (v := 0) hx hb dw_cut_1 (by decide) ?_
  refine lv_aload_n hx hb dw_cut_2 rfl (lv_at hl 0 rfl) ?_
  refine lv_iload_n hx hb dw_cut_3 rfl (lv_at hl 1 rfl) ?_
  refine en_hcV (q0 := qx) (b := sh.2 qx) (fs := fx) (co := 12) (ρp := [.ref (sh.2 qx), .int a1]) (As := [.int a1]) (rest := [.int 0, .ref (sh.2 qo)]) (lv' := 4) (ct_X6_cut_0 hl9 hPP Ω) gw_X6_cut rfl rfl hwx rfl rfl (Nat.le_of_ble_eq_true rfl) ⟨Nat.le_of_ble_eq_true rfl, Nat.le_of_ble_eq_true rfl⟩ ⟨Nat.le_of_ble_eq_true rfl, Nat.le_of_ble_eq_true rfl⟩ (Nat.le_of_ble_eq_true rfl) hx hb (hml.trans hl.1.symm) hts hown hTY hK0 hT hP hD0 hS hA hW hΩ (wr_pa (env := k_X6_cut_0.2.1.1) ⟨⟨qx, hqx, rfl⟩, ⟨a1, rfl, en_lo a1, en_hi a1⟩, trivial⟩) dw_cut_4 (fun x9 hx9 ce q9 u H1 locs1 hpx hP1 hD1 hS1 hcell hvm hcl => ?_) (fun u res H1 locs1 hrv hpo hP1 hD1 hS1 => ?_)
  · have hku := wr_keep hpx hqo (by decide +kernel) hwo
    have hpx9 := wr_same hpx ((56, 0) :: k_X6_cut_0.2.2.2.1) (fun z hz => List.mem_cons_of_mem _ hz)
    have hx8 := List.mem_singleton.mp hx9
    subst hx8
    refine vx_catch (E := "java/lang/IllegalArgumentException") (name := "java/lang/IllegalArgumentException") hown [] ⟨0, 9, 12, 13⟩ [] (htab.trans rfl) wr_nil (by decide) (by decide) (hts (.classLink RL 13 "java/lang/IllegalArgumentException") cwl498) (va_Nw.use rfl (hT.1 (Cond.castable "java/lang/IllegalArgumentException" "java/lang/IllegalArgumentException") (tf_cast (53, "java/lang/IllegalArgumentException") (by decide +kernel)))) hcell hvm hcl ?_
    refine lv_astore_n (lv' := (3, .ref q9) :: [(0, .ref (sh.2 qx)), (1, .int a1), (2, .ref (sh.2 qo))]) hx hb dw_cut_12 rfl hl (by decide) rfl (fun ls hl => ?_)
    refine lv_iconst (v := 1) hx hb dw_cut_13 (by decide) ?_
    exact W.widen (Nat.le_of_ble_eq_true rfl) (Nat.le_of_ble_eq_true rfl) (W.iret (v := 1) hx hb hr (fun t ht hW9 => ⟨⟨1, u, rfl, ⟨hpx9, g0, hku⟩, by rw [ht]; exact hP1, hD1⟩, hS1.F ht⟩) hS1.2.2 dw_cut_14)
  · obtain ⟨hpx, hpo9⟩ := hpo
    have hku := wr_keep hpx hqo (by decide +kernel) hwo
    obtain ⟨r9, rfl⟩ := hrv
    refine lv_i2l hx hb dw_cut_7 rfl ?_
    refine va_last hx hb hK hP1 hD1 hS1 qo 7 hku hTt (vp_in_nI (n := 0) (by decide) (by decide)) dw_cut_8 (fun H2 locs2 hP2 hD2 hS2 => ?_)
    obtain ⟨g9, hg9⟩ : ∃ g9, g9 = vp_updL g0 (0 : Int32).toNatClampNeg r9.toInt64 := ⟨_, rfl⟩
    rw [← hg9] at hP2 hD2
    refine lv_goto (tgt := 15) hx hb dw_cut_9 (by decide) ?_
    refine lv_iconst (v := 0) hx hb dw_cut_15 (by decide) ?_
    exact W.widen (Nat.le_of_ble_eq_true rfl) (Nat.le_of_ble_eq_true rfl) (W.iret (v := 0) hx hb hr (fun t ht hW9 => ⟨⟨0, (u.1, u.2.set qo (sh.2 qo, .inl (cO, 1, .inr (.inl g9)))), rfl, ⟨wr_set hpx hqo (by decide +kernel) (by decide +kernel) hwo ⟨rfl, rfl⟩, g9, wr_get hku⟩, by rw [ht]; exact hP2, hD2⟩, hS2.F ht⟩) hS2.2.2 dw_cut_16)
