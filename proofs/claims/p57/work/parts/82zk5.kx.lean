/-- what post leaves: the card posted, the form another one that is lawful, all else as it was -/
def ks_F (tys : List (ClassId × FieldType)) (sh : en_H) (w w1 : va_W) (pj : Nat) : Prop := (∃ (r0 r1 : Nat) (b3 b4 b5 : Int32), w[89 + 8 * pj]? = some (sh.2 (89 + 8 * pj), .inr (7, [.ref r0, .ref r1, .ref (sh.2 (92 + 8 * pj)), .int b3, .int b4, .int b5])) ∧ w1[89 + 8 * pj]? = some (sh.2 (89 + 8 * pj), .inr (7, [.ref r0, .ref r1, .ref (sh.2 (92 + 8 * pj)), .int b3, .int b4, .int 1]))) ∧ (∃ (cI : ClassId) (g : Nat → Int32) (n : Nat) (ix lo : Int32), tys[0]? = some (cI, .int) ∧ w1[93 + 8 * pj]? = some (sh.2 (93 + 8 * pj), .inr (8, [.ref (sh.2 (94 + 8 * pj)), .int (nI n), .int ix, .int lo])) ∧ w1[94 + 8 * pj]? = some (sh.2 (94 + 8 * pj), .inl (cI, 20, .inl g)) ∧ n ≤ 20 ∧ ks_ok g n ix lo) ∧ w1.length = w.length ∧ ∀ j, j ≠ 89 + 8 * pj → j ≠ 93 + 8 * pj → j ≠ 94 + 8 * pj → w1[j]? = w[j]?
theorem dk_X6_isSound_0 : decode cX6_isSound 0 = .ok (.iconst 0, 1) := by decide +kernel
theorem dk_X6_isSound_1 : decode cX6_isSound 1 = .ok (.istore_n 1, 1) := by decide +kernel
theorem dk_X6_isSound_2 : decode cX6_isSound 2 = .ok (.iconst 0, 1) := by decide +kernel
theorem dk_X6_isSound_3 : decode cX6_isSound 3 = .ok (.istore_n 2, 1) := by decide +kernel
theorem dk_X6_isSound_4 : decode cX6_isSound 4 = .ok (.iload_n 2, 1) := by decide +kernel
theorem dk_X6_isSound_5 : decode cX6_isSound 5 = .ok (.aload_n 0, 1) := by decide +kernel
theorem dk_X6_isSound_6 : decode cX6_isSound 6 = .ok (.getfield 122, 3) := by decide +kernel
theorem dk_X6_isSound_9 : decode cX6_isSound 9 = .ok (.if_icmp .ge 61, 3) := by decide +kernel
theorem dk_X6_isSound_12 : decode cX6_isSound 12 = .ok (.aload_n 0, 1) := by decide +kernel
theorem dk_X6_isSound_13 : decode cX6_isSound 13 = .ok (.getfield 18, 3) := by decide +kernel
theorem dk_X6_isSound_16 : decode cX6_isSound 16 = .ok (.iload_n 2, 1) := by decide +kernel
theorem dk_X6_isSound_17 : decode cX6_isSound 17 = .ok (.aaload, 1) := by decide +kernel
theorem dk_X6_isSound_18 : decode cX6_isSound 18 = .ok (.getfield 524, 3) := by decide +kernel
theorem dk_X6_isSound_21 : decode cX6_isSound 21 = .ok (.invokevirtual 562, 3) := by decide +kernel
theorem dk_X6_isSound_24 : decode cX6_isSound 24 = .ok (.ifCond .eq 19, 3) := by decide +kernel
theorem dk_X6_isSound_27 : decode cX6_isSound 27 = .ok (.aload_n 0, 1) := by decide +kernel
theorem dk_X6_isSound_28 : decode cX6_isSound 28 = .ok (.aload_n 0, 1) := by decide +kernel
theorem dk_X6_isSound_29 : decode cX6_isSound 29 = .ok (.getfield 18, 3) := by decide +kernel
theorem dk_X6_isSound_32 : decode cX6_isSound 32 = .ok (.iload_n 2, 1) := by decide +kernel
theorem dk_X6_isSound_33 : decode cX6_isSound 33 = .ok (.aaload, 1) := by decide +kernel
theorem dk_X6_isSound_34 : decode cX6_isSound 34 = .ok (.getfield 185, 3) := by decide +kernel
theorem dk_X6_isSound_37 : decode cX6_isSound 37 = .ok (.invokevirtual 565, 3) := by decide +kernel
theorem dk_X6_isSound_40 : decode cX6_isSound 40 = .ok (.ifCond .ne 5, 3) := by decide +kernel
theorem dk_X6_isSound_45 : decode cX6_isSound 45 = .ok (.iload_n 1, 1) := by decide +kernel
theorem dk_X6_isSound_46 : decode cX6_isSound 46 = .ok (.aload_n 0, 1) := by decide +kernel
theorem dk_X6_isSound_47 : decode cX6_isSound 47 = .ok (.invokevirtual 440, 3) := by decide +kernel
theorem dk_X6_isSound_50 : decode cX6_isSound 50 = .ok (.ifCond .eq 11, 3) := by decide +kernel
theorem dk_X6_isSound_53 : decode cX6_isSound 53 = .ok (.aload_n 0, 1) := by decide +kernel
theorem dk_X6_isSound_54 : decode cX6_isSound 54 = .ok (.iload_n 2, 1) := by decide +kernel
theorem dk_X6_isSound_55 : decode cX6_isSound 55 = .ok (.invokevirtual 493, 3) := by decide +kernel
theorem dk_X6_isSound_58 : decode cX6_isSound 58 = .ok (.goto 4, 3) := by decide +kernel
theorem dk_X6_isSound_61 : decode cX6_isSound 61 = .ok (.iconst 0, 1) := by decide +kernel
theorem dk_X6_isSound_62 : decode cX6_isSound 62 = .ok (.iadd, 1) := by decide +kernel
theorem dk_X6_isSound_63 : decode cX6_isSound 63 = .ok (.istore_n 1, 1) := by decide +kernel
theorem dk_X6_isSound_64 : decode cX6_isSound 64 = .ok (.iinc 2 1, 3) := by decide +kernel
theorem dk_X6_isSound_67 : decode cX6_isSound 67 = .ok (.goto (-63), 3) := by decide +kernel
theorem dk_X6_isSound_70 : decode cX6_isSound 70 = .ok (.iload_n 1, 1) := by decide +kernel
theorem dk_X6_isSound_71 : decode cX6_isSound 71 = .ok (.aload_n 0, 1) := by decide +kernel
theorem dk_X6_isSound_72 : decode cX6_isSound 72 = .ok (.getfield 62, 3) := by decide +kernel
theorem dk_X6_isSound_75 : decode cX6_isSound 75 = .ok (.if_icmp .gt 7, 3) := by decide +kernel
theorem dk_X6_isSound_78 : decode cX6_isSound 78 = .ok (.iconst 1, 1) := by decide +kernel
theorem dk_X6_isSound_79 : decode cX6_isSound 79 = .ok (.goto 4, 3) := by decide +kernel
theorem dk_X6_isSound_83 : decode cX6_isSound 83 = .ok (.ireturn, 1) := by decide +kernel
theorem dk_X6_post_0 : decode cX6_post 0 = .ok (.aload_n 0, 1) := by decide +kernel
theorem dk_X6_post_1 : decode cX6_post 1 = .ok (.iload_n 1, 1) := by decide +kernel
theorem dk_X6_post_2 : decode cX6_post 2 = .ok (.invokevirtual 127, 3) := by decide +kernel
theorem dk_X6_post_5 : decode cX6_post 5 = .ok (.iload_n 2, 1) := by decide +kernel
theorem dk_X6_post_6 : decode cX6_post 6 = .ok (.bipush 100, 2) := by decide +kernel
theorem dk_X6_post_8 : decode cX6_post 8 = .ok (.if_icmp .lt 23, 3) := by decide +kernel
theorem dk_X6_post_11 : decode cX6_post 11 = .ok (.iload_n 2, 1) := by decide +kernel
theorem dk_X6_post_12 : decode cX6_post 12 = .ok (.sipush 800, 3) := by decide +kernel
theorem dk_X6_post_15 : decode cX6_post 15 = .ok (.if_icmp .gt 16, 3) := by decide +kernel
theorem dk_X6_post_18 : decode cX6_post 18 = .ok (.iload_n 3, 1) := by decide +kernel
theorem dk_X6_post_19 : decode cX6_post 19 = .ok (.bipush 55, 2) := by decide +kernel
theorem dk_X6_post_21 : decode cX6_post 21 = .ok (.if_icmp .lt 10, 3) := by decide +kernel
theorem dk_X6_post_24 : decode cX6_post 24 = .ok (.iload_n 3, 1) := by decide +kernel
theorem dk_X6_post_25 : decode cX6_post 25 = .ok (.sipush 155, 3) := by decide +kernel
theorem dk_X6_post_28 : decode cX6_post 28 = .ok (.if_icmp .le 13, 3) := by decide +kernel
theorem dk_X6_post_31 : decode cX6_post 31 = .ok (.new 49, 3) := by decide +kernel
theorem dk_X6_post_34 : decode cX6_post 34 = .ok (.dup, 1) := by decide +kernel
theorem dk_X6_post_35 : decode cX6_post 35 = .ok (.ldc 51, 2) := by decide +kernel
theorem dk_X6_post_37 : decode cX6_post 37 = .ok (.invokespecial 53, 3) := by decide +kernel
theorem dk_X6_post_40 : decode cX6_post 40 = .ok (.athrow, 1) := by decide +kernel
theorem dk_X6_post_41 : decode cX6_post 41 = .ok (.aload_n 0, 1) := by decide +kernel
theorem dk_X6_post_42 : decode cX6_post 42 = .ok (.getfield 18, 3) := by decide +kernel
theorem dk_X6_post_45 : decode cX6_post 45 = .ok (.iload_n 1, 1) := by decide +kernel
theorem dk_X6_post_46 : decode cX6_post 46 = .ok (.aaload, 1) := by decide +kernel
theorem dk_X6_post_47 : decode cX6_post 47 = .ok (.getfield 155, 3) := by decide +kernel
theorem dk_X6_post_50 : decode cX6_post 50 = .ok (.astore 4, 2) := by decide +kernel
theorem dk_X6_post_52 : decode cX6_post 52 = .ok (.aload 4, 2) := by decide +kernel
theorem dk_X6_post_54 : decode cX6_post 54 = .ok (.invokevirtual 508, 3) := by decide +kernel
theorem dk_X6_post_57 : decode cX6_post 57 = .ok (.ifCond .eq 11, 3) := by decide +kernel
theorem dk_X6_post_60 : decode cX6_post 60 = .ok (.aload 4, 2) := by decide +kernel
theorem dk_X6_post_62 : decode cX6_post 62 = .ok (.getfield 516, 3) := by decide +kernel
theorem dk_X6_post_65 : decode cX6_post 65 = .ok (.ifCond .eq 14, 3) := by decide +kernel
theorem dk_X6_post_68 : decode cX6_post 68 = .ok (.new 74, 3) := by decide +kernel
theorem dk_X6_post_71 : decode cX6_post 71 = .ok (.dup, 1) := by decide +kernel
theorem dk_X6_post_72 : decode cX6_post 72 = .ok (.ldc_w 519, 3) := by decide +kernel
theorem dk_X6_post_75 : decode cX6_post 75 = .ok (.invokespecial 78, 3) := by decide +kernel
theorem dk_X6_post_78 : decode cX6_post 78 = .ok (.athrow, 1) := by decide +kernel
theorem dk_X6_post_79 : decode cX6_post 79 = .ok (.iconst 0, 1) := by decide +kernel
theorem dk_X6_post_80 : decode cX6_post 80 = .ok (.istore 5, 2) := by decide +kernel
theorem dk_X6_post_82 : decode cX6_post 82 = .ok (.iconst 0, 1) := by decide +kernel
theorem dk_X6_post_83 : decode cX6_post 83 = .ok (.istore 6, 2) := by decide +kernel
theorem dk_X6_post_85 : decode cX6_post 85 = .ok (.iload 6, 2) := by decide +kernel
theorem dk_X6_post_87 : decode cX6_post 87 = .ok (.aload_n 0, 1) := by decide +kernel
theorem dk_X6_post_88 : decode cX6_post 88 = .ok (.getfield 62, 3) := by decide +kernel
theorem dk_X6_post_91 : decode cX6_post 91 = .ok (.if_icmp .ge 56, 3) := by decide +kernel
theorem dk_X6_post_94 : decode cX6_post 94 = .ok (.aload_n 0, 1) := by decide +kernel
theorem dk_X6_post_95 : decode cX6_post 95 = .ok (.getfield 11, 3) := by decide +kernel
theorem dk_X6_post_98 : decode cX6_post 98 = .ok (.iload 6, 2) := by decide +kernel
theorem dk_X6_post_100 : decode cX6_post 100 = .ok (.aaload, 1) := by decide +kernel
theorem dk_X6_post_101 : decode cX6_post 101 = .ok (.getfield 79, 3) := by decide +kernel
theorem dk_X6_post_104 : decode cX6_post 104 = .ok (.iconst 2, 1) := by decide +kernel
theorem dk_X6_post_105 : decode cX6_post 105 = .ok (.iadd, 1) := by decide +kernel
theorem dk_X6_post_106 : decode cX6_post 106 = .ok (.aload_n 0, 1) := by decide +kernel
theorem dk_X6_post_107 : decode cX6_post 107 = .ok (.aload_n 0, 1) := by decide +kernel
theorem dk_X6_post_108 : decode cX6_post 108 = .ok (.getfield 18, 3) := by decide +kernel
theorem dk_X6_post_111 : decode cX6_post 111 = .ok (.iload_n 1, 1) := by decide +kernel
theorem dk_X6_post_112 : decode cX6_post 112 = .ok (.aaload, 1) := by decide +kernel
theorem dk_X6_post_113 : decode cX6_post 113 = .ok (.getfield 137, 3) := by decide +kernel
theorem dk_X6_post_116 : decode cX6_post 116 = .ok (.iload 6, 2) := by decide +kernel
theorem dk_X6_post_118 : decode cX6_post 118 = .ok (.invokevirtual 140, 3) := by decide +kernel
theorem dk_X6_post_121 : decode cX6_post 121 = .ok (.iadd, 1) := by decide +kernel
theorem dk_X6_post_122 : decode cX6_post 122 = .ok (.istore 7, 2) := by decide +kernel
theorem dk_X6_post_124 : decode cX6_post 124 = .ok (.iload 5, 2) := by decide +kernel
theorem dk_X6_post_126 : decode cX6_post 126 = .ok (.aload 4, 2) := by decide +kernel
theorem dk_X6_post_128 : decode cX6_post 128 = .ok (.iload 6, 2) := by decide +kernel
theorem dk_X6_post_130 : decode cX6_post 130 = .ok (.invokevirtual 469, 3) := by decide +kernel
theorem dk_X6_post_133 : decode cX6_post 133 = .ok (.iload 7, 2) := by decide +kernel
theorem dk_X6_post_135 : decode cX6_post 135 = .ok (.invokestatic 490, 3) := by decide +kernel
theorem dk_X6_post_138 : decode cX6_post 138 = .ok (.iadd, 1) := by decide +kernel
theorem dk_X6_post_139 : decode cX6_post 139 = .ok (.istore 5, 2) := by decide +kernel
theorem dk_X6_post_141 : decode cX6_post 141 = .ok (.iinc 6 1, 3) := by decide +kernel
theorem dk_X6_post_144 : decode cX6_post 144 = .ok (.goto (-59), 3) := by decide +kernel
theorem dk_X6_post_147 : decode cX6_post 147 = .ok (.iload 5, 2) := by decide +kernel
theorem dk_X6_post_149 : decode cX6_post 149 = .ok (.bipush 10, 2) := by decide +kernel
theorem dk_X6_post_151 : decode cX6_post 151 = .ok (.imul, 1) := by decide +kernel
theorem dk_X6_post_152 : decode cX6_post 152 = .ok (.iload_n 2, 1) := by decide +kernel
theorem dk_X6_post_153 : decode cX6_post 153 = .ok (.isub, 1) := by decide +kernel
theorem dk_X6_post_154 : decode cX6_post 154 = .ok (.bipush 113, 2) := by decide +kernel
theorem dk_X6_post_156 : decode cX6_post 156 = .ok (.imul, 1) := by decide +kernel
theorem dk_X6_post_157 : decode cX6_post 157 = .ok (.iload_n 3, 1) := by decide +kernel
theorem dk_X6_post_158 : decode cX6_post 158 = .ok (.invokestatic 521, 3) := by decide +kernel
theorem dk_X6_post_161 : decode cX6_post 161 = .ok (.bipush 10, 2) := by decide +kernel
theorem dk_X6_post_163 : decode cX6_post 163 = .ok (.aload_n 0, 1) := by decide +kernel
theorem dk_X6_post_164 : decode cX6_post 164 = .ok (.getfield 513, 3) := by decide +kernel
theorem dk_X6_post_167 : decode cX6_post 167 = .ok (.imul, 1) := by decide +kernel
theorem dk_X6_post_168 : decode cX6_post 168 = .ok (.isub, 1) := by decide +kernel
theorem dk_X6_post_169 : decode cX6_post 169 = .ok (.istore 6, 2) := by decide +kernel
theorem dk_X6_post_171 : decode cX6_post 171 = .ok (.aload 4, 2) := by decide +kernel
theorem dk_X6_post_173 : decode cX6_post 173 = .ok (.iconst 1, 1) := by decide +kernel
theorem dk_X6_post_174 : decode cX6_post 174 = .ok (.putfield 516, 3) := by decide +kernel
theorem dk_X6_post_177 : decode cX6_post 177 = .ok (.aload_n 0, 1) := by decide +kernel
theorem dk_X6_post_178 : decode cX6_post 178 = .ok (.getfield 18, 3) := by decide +kernel
theorem dk_X6_post_181 : decode cX6_post 181 = .ok (.iload_n 1, 1) := by decide +kernel
theorem dk_X6_post_182 : decode cX6_post 182 = .ok (.aaload, 1) := by decide +kernel
theorem dk_X6_post_183 : decode cX6_post 183 = .ok (.getfield 524, 3) := by decide +kernel
theorem dk_X6_post_186 : decode cX6_post 186 = .ok (.iload 6, 2) := by decide +kernel
theorem dk_X6_post_188 : decode cX6_post 188 = .ok (.invokevirtual 528, 3) := by decide +kernel
theorem dk_X6_post_191 : decode cX6_post 191 = .ok (.iload 6, 2) := by decide +kernel
theorem dk_X6_post_193 : decode cX6_post 193 = .ok (.ireturn, 1) := by decide +kernel
theorem dk_X7_isSound_0 : decode cX7_isSound 0 = .ok (.aload_n 0, 1) := by decide +kernel
theorem dk_X7_isSound_1 : decode cX7_isSound 1 = .ok (.iconst 0, 1) := by decide +kernel
theorem dk_X7_isSound_2 : decode cX7_isSound 2 = .ok (.putfield 79, 3) := by decide +kernel
theorem dk_X7_isSound_5 : decode cX7_isSound 5 = .ok (.iconst 1, 1) := by decide +kernel
theorem dk_X7_isSound_6 : decode cX7_isSound 6 = .ok (.ireturn, 1) := by decide +kernel
set_option maxHeartbeats 4000000 in
theorem kx_X6_isSound {l : Launch} (hl9 : l.stackTraces = false) (D : va_G) {tys : List (ClassId × FieldType)} {sh : en_H} {w : va_W} {sz : Nat} (hD0 : va_D (va_A w sz) w) {dt : ks_D} (hX : ks_X tys sh w dt) : kx_C l yX6_isSound cX6_isSound 3 (some .boolean) 7 0 0 0 [.ref (sh.2 66)] D tys w sz (fun res w1 => w1 = w ∧ res = some (.int 1)) (fun _ => False) := by
  refine vx_ofW (cc := cX6_isSound) (maxL := 3) (ret := (some .boolean)) (by decide +kernel) rfl ?_
  intro p e s m args below meth c s₁ B9 hml hne hv
  obtain ⟨rfl, hsz, hP, hK, hT⟩ := hv
  subst hsz
  have hx := B9.exec
  have hb := B9.bytes
  have hr := B9.returns
  have hlocks := B9.notSynchronized
  have hts0 := atoms_spec (ws := Cond.code yX6_isSound cX6_isSound 3 (some .boolean) :: en_cw) B9.pre
  have hts : ∀ z ∈ en_cw, z.before _ s = true := fun z hz => hts0 z (List.mem_cons_of_mem _ hz)
  have hown : s.vm.findClass RX6 = some m.cls := findClass_of_methodNamed B9.named
  have G : kx_G p s m ([.ref (sh.2 66)] : List Value).toArray c cX6_isSound RX6 D tys (va_A w s.heap.size) := ⟨hx, hb, hts, hown, hK, hT, fun q h => Or.inr h⟩
  have L : kx_H D (va_A w s.heap.size) s w s.heap [] := ⟨hP, ⟨hD0.1, fun j z hz => Or.inl ⟨j, z.2, hz⟩⟩, va_S.rf⟩
  have hl := lv_entry ([.ref (sh.2 66)] : List Value) (n := 3) (Nat.le_of_ble_eq_true rfl)
  rw [lg_entry_eq]
  generalize (lg_sl ([.ref (sh.2 66)] : List Value) ++ List.replicate (3 - (lg_sl ([.ref (sh.2 66)] : List Value)).length) Slot.unset).toArray = ls at hl ⊢
  have hl : lv_has ls 3 [(0, .ref (sh.2 66))] := hl
  have hc9 := hX.hc9
  have pc6 := hX.pc6
  have hn9 := hX.hn9
  obtain ⟨cH, fH, ht3, hw67, hf67⟩ := hX.ha
  obtain ⟨cP, fP, ht4, hw86, hf86⟩ := hX.pa
  refine lv_iconst (v := 0) hx hb dk_X6_isSound_0 (by decide) ?_
  refine lv_istore_n (lv' := [(1, .int 0), (0, .ref (sh.2 66))]) hx hb dk_X6_isSound_1 rfl hl (by decide) rfl (fun ls hl => ?_)
  refine lv_iconst (v := 0) hx hb dk_X6_isSound_2 (by decide) ?_
  refine lv_istore_n (lv' := [(2, .int 0), (1, .int 0), (0, .ref (sh.2 66))]) hx hb dk_X6_isSound_3 rfl hl (by decide) rfl (fun ls hl => ?_)
  have loop : ∀ (d : Nat) (k : Nat), k + d = dt.pc → ∀ (a : Nat), a ≤ ks_ss (ks_win dt) dt.hc k → ∀ (H : Heap) (locs : List Loc), kx_H D (va_A w s.heap.size) s w H locs → ∀ (ls : Array Slot), lv_has ls 3 [(2, .int (nI k)), (1, .int (nI a)), (0, .ref (sh.2 66))] → W p l e (headSpec (Cond.code yX6_isSound cX6_isSound 3 (some .boolean) :: en_cw) (en_rm 7 (0, 0))).room s m ([.ref (sh.2 66)] : List Value).toArray below meth c H locs (0) (0) (vx_MQ below (kx_Q 0 D (fun res w1 => w1 = w ∧ res = some (.int 1)) (va_A w s.heap.size)) (kx_XC D w (fun _ => False) (va_A w s.heap.size)) ([.ref (sh.2 66)] : List Value).toArray s 0 0 (va_A w s.heap.size)) (F0 m 4 ls []) := by
    intro d
    induction d with
    | zero =>
      intro k hk a ha H locs L ls hl
      refine lv_iload_n hx hb dk_X6_isSound_4 rfl (lv_at hl 0 rfl) ?_
      refine lv_aload_n hx hb dk_X6_isSound_5 rfl (lv_at hl 2 rfl) ?_
      refine kx_get (v := .int (nI dt.pc)) G L (en_FTX6_ok (122, 12, 5) (by decide)) hX.o hX.f5 dk_X6_isSound_6 ?_
      refine lv_icmp_ge (tgt := 70) hx hb dk_X6_isSound_9 (by decide) (fun _ => ?_) (fun c9 => absurd (nI_le (a := dt.pc) (b := k) (by omega) (by omega)) c9)
      have e9 : k = dt.pc := by omega
      have sb := ks_ss_le (sw := ks_win dt) (n := k) (by omega) dt.hc
      refine lv_iload_n hx hb dk_X6_isSound_70 rfl (lv_at hl 1 rfl) ?_
      refine lv_aload_n hx hb dk_X6_isSound_71 rfl (lv_at hl 2 rfl) ?_
      refine kx_get (v := .int (nI dt.hc)) G L (en_FTX6_ok (62, 12, 4) (by decide)) hX.o hX.f4 dk_X6_isSound_72 ?_
      have k2 : (nI a).toInt = (((a) : Nat) : Int) := kx_nI (by omega)
      have k3 : (nI dt.hc).toInt = (((dt.hc) : Nat) : Int) := kx_nI (by omega)
      refine lv_icmp_gt (tgt := 82) hx hb dk_X6_isSound_75 (by decide) (fun c1 => ?_) (fun c1 => ?_)
      · skip
        have tc1 : ((nI dt.hc) : Int32).toInt < ((nI a) : Int32).toInt := Int32.lt_iff_toInt_lt.mp c1
        exfalso
        omega
      · skip
        have tc1 : ¬ ((nI dt.hc) : Int32).toInt < ((nI a) : Int32).toInt := fun h => c1 (Int32.lt_iff_toInt_lt.mpr h)
        refine lv_iconst (v := 1) hx hb dk_X6_isSound_78 (by decide) ?_
        refine lv_goto (tgt := 83) hx hb dk_X6_isSound_79 (by decide) ?_
        exact vx_ret (W.widen (Nat.le_of_ble_eq_true rfl) (Nat.le_of_ble_eq_true rfl) (W.zret (v := 1) (ty := .boolean) hx hb hr (by decide) (fun T9 hT9 _ => ⟨⟨1, w, rfl, ⟨rfl, rfl⟩, by rw [hT9]; exact L.1, L.2.1⟩, L.2.2.F hT9⟩) L.2.2.2.2 dk_X6_isSound_83 hlocks))
    | succ d ih =>
      intro k hk a ha H locs L ls hl
      refine lv_iload_n hx hb dk_X6_isSound_4 rfl (lv_at hl 0 rfl) ?_
      refine lv_aload_n hx hb dk_X6_isSound_5 rfl (lv_at hl 2 rfl) ?_
      refine kx_get (v := .int (nI dt.pc)) G L (en_FTX6_ok (122, 12, 5) (by decide)) hX.o hX.f5 dk_X6_isSound_6 ?_
      refine lv_icmp_ge (tgt := 70) hx hb dk_X6_isSound_9 (by decide) (fun c9 => absurd c9 (nI_ge (a := k) (b := dt.pc) (by omega) (by omega))) (fun _ => ?_)
      have hk6 : k < 6 := by omega
      have sb := ks_ss_le (sw := ks_win dt) (n := k) (by omega) dt.hc
      refine lv_aload_n hx hb dk_X6_isSound_12 rfl (lv_at hl 2 rfl) ?_
      refine kx_get (v := .ref (sh.2 86)) G L (en_FTX6_ok (18, 12, 1) (by decide)) hX.o hX.f1 dk_X6_isSound_13 ?_
      refine lv_iload_n hx hb dk_X6_isSound_16 rfl (lv_at hl 0 rfl) ?_
      refine kx_aald G L hw86 ht4 (show k < 6 from hk6) (by decide) (hf86 k hk6) dk_X6_isSound_17 ?_
      obtain ⟨cI, g, n, ix, low, hti, hfr, hfg, hn, hok⟩ := hX.fr k hk6
      refine kx_get (v := .ref (sh.2 (93 + 8 * k))) G L (en_FTX6_ok (524, 11, 2) (by decide)) (hX.pr k hk6) rfl dk_X6_isSound_18 ?_
      refine kx_cV (As := []) (rest := []) (q := (93 + 8 * k)) (ci := 8) G L (kx_X2_isLawful hl9 D (kx_D1 L) hti hfr hfg hn hok) gc_RX6_562v hfr rfl rfl rfl (hml.trans hl.1.symm) ⟨Nat.le_of_ble_eq_true rfl, Nat.le_of_ble_eq_true rfl⟩ ⟨Nat.le_of_ble_eq_true rfl, Nat.le_of_ble_eq_true rfl⟩ (Nat.le_of_ble_eq_true rfl) dk_X6_isSound_21 (fun _ _ _ _ _ h9 => h9.elim) (fun res w4 H locs hrv hq4 L => ?_)
      obtain ⟨ew4, hq4⟩ := hq4
      have ew4 := ew4.symm
      subst ew4
      obtain rfl := hq4
      refine lv_if_eq (tgt := 43) hx hb dk_X6_isSound_24 (by decide) (fun c9 => absurd c9 (by decide)) (fun _ => ?_)
      refine lv_aload_n hx hb dk_X6_isSound_27 rfl (lv_at hl 2 rfl) ?_
      refine lv_aload_n hx hb dk_X6_isSound_28 rfl (lv_at hl 2 rfl) ?_
      refine kx_get (v := .ref (sh.2 86)) G L (en_FTX6_ok (18, 12, 1) (by decide)) hX.o hX.f1 dk_X6_isSound_29 ?_
      refine lv_iload_n hx hb dk_X6_isSound_32 rfl (lv_at hl 0 rfl) ?_
      refine kx_aald G L hw86 ht4 (show k < 6 from hk6) (by decide) (hf86 k hk6) dk_X6_isSound_33 ?_
      refine kx_get (v := .ref (sh.2 (88 + 8 * k))) G L (en_FTX6_ok (185, 11, 0) (by decide)) (hX.pr k hk6) rfl dk_X6_isSound_34 ?_
      refine kx_cV (As := [.ref (sh.2 (88 + 8 * k))]) (rest := []) (q := 66) (ci := 12) G L (kx_X6_isPointNearest hl9 D (kx_D1 L) hX (pj := k) hk6) gc_RX6_565v hX.o rfl rfl rfl (hml.trans hl.1.symm) ⟨Nat.le_of_ble_eq_true rfl, Nat.le_of_ble_eq_true rfl⟩ ⟨Nat.le_of_ble_eq_true rfl, Nat.le_of_ble_eq_true rfl⟩ (Nat.le_of_ble_eq_true rfl) dk_X6_isSound_37 (fun _ _ _ _ _ h9 => h9.elim) (fun res w5 H locs hrv hq5 L => ?_)
      obtain ⟨ew5, hq5⟩ := hq5
      have ew5 := ew5.symm
      subst ew5
      obtain rfl := hq5
      refine lv_if_ne (tgt := 45) hx hb dk_X6_isSound_40 (by decide) (fun _ => ?_) (fun c9 => absurd c9 (by decide))
      refine lv_iload_n hx hb dk_X6_isSound_45 rfl (lv_at hl 1 rfl) ?_
      refine lv_aload_n hx hb dk_X6_isSound_46 rfl (lv_at hl 2 rfl) ?_
      refine kx_cV (As := []) (rest := [.int (nI a)]) (q := 66) (ci := 12) G L (kx_X6_isRoundOver hl9 D (kx_D1 L) hX) gc_RX6_440v hX.o rfl rfl rfl (hml.trans hl.1.symm) ⟨Nat.le_of_ble_eq_true rfl, Nat.le_of_ble_eq_true rfl⟩ ⟨Nat.le_of_ble_eq_true rfl, Nat.le_of_ble_eq_true rfl⟩ (Nat.le_of_ble_eq_true rfl) dk_X6_isSound_47 (fun _ _ _ _ _ h9 => h9.elim) (fun res w6 H locs hrv hq6 L => ?_)
      obtain ⟨ew6, hq6⟩ := hq6
      have ew6 := ew6.symm
      subst ew6
      rcases hq6 with rfl | rfl
      · skip
        refine lv_if_eq (tgt := 61) hx hb dk_X6_isSound_50 (by decide) (fun _ => ?_) (fun c9 => absurd (by decide) c9)
        refine lv_iconst (v := 0) hx hb dk_X6_isSound_61 (by decide) ?_
        refine lv_iadd hx hb dk_X6_isSound_62 ?_
        refine lv_topi (fun y7 ey7 => ?_)
        obtain rfl : y7 = (nI a) := ey7.trans (ks_add (a := a) (b := 0) (by omega) (by omega))
        refine lv_istore_n (lv' := [(1, .int (nI a)), (2, .int (nI k)), (0, .ref (sh.2 66))]) hx hb dk_X6_isSound_63 rfl hl (by decide) rfl (fun ls hl => ?_)
        refine lv_iinc (v := (nI (k + 1))) (lv' := [(2, .int (nI (k + 1))), (1, .int (nI a)), (0, .ref (sh.2 66))]) hx hb dk_X6_isSound_64 hl (k := 1) rfl (kx_inc (by omega)) (by decide) rfl (fun ls hl => ?_)
        refine lv_goto (tgt := 4) hx hb dk_X6_isSound_67 (by decide) ?_
        exact ih (k + 1) (by omega) a (by rw [ks_ss_s]; omega) H locs L ls (lv_sub hl [0, 1, 2] rfl)
      · skip
        refine lv_if_eq (tgt := 61) hx hb dk_X6_isSound_50 (by decide) (fun c9 => absurd c9 (by decide)) (fun _ => ?_)
        refine lv_aload_n hx hb dk_X6_isSound_53 rfl (lv_at hl 2 rfl) ?_
        refine lv_iload_n hx hb dk_X6_isSound_54 rfl (lv_at hl 0 rfl) ?_
        refine kx_cV (As := [.int (nI k)]) (rest := [.int (nI a)]) (q := 66) (ci := 12) G L (kx_X6_skinsOf hl9 D (kx_D1 L) hX (a1 := nI k)) gc_RX6_493v hX.o rfl rfl rfl (hml.trans hl.1.symm) ⟨Nat.le_of_ble_eq_true rfl, Nat.le_of_ble_eq_true rfl⟩ ⟨Nat.le_of_ble_eq_true rfl, Nat.le_of_ble_eq_true rfl⟩ (Nat.le_of_ble_eq_true rfl) dk_X6_isSound_55 (fun _ _ _ _ _ h9 => h9.elim) (fun res w8 H locs hrv hq8 L => ?_)
        obtain ⟨ew8, hq8⟩ := hq8
        have ew8 := ew8.symm
        subst ew8
        obtain rfl := hq8
        have zk := ks_sk_le (sw := ks_win dt) (p := nI k) dt.hc
        obtain ⟨z, ez⟩ : ∃ z : Nat, z = (ks_sk (ks_win dt) (nI k) dt.hc).1 := ⟨_, rfl⟩
        rw [← ez] at zk
        refine lv_topi (fun y9 ey9 => ?_)
        obtain rfl : y9 = (nI z) := ey9.trans (by rw [ez])
        refine lv_goto (tgt := 62) hx hb dk_X6_isSound_58 (by decide) ?_
        refine lv_iadd hx hb dk_X6_isSound_62 ?_
        refine lv_topi (fun y10 ey10 => ?_)
        obtain rfl : y10 = (nI (a + z)) := ey10.trans (ks_add (a := a) (b := z) (by omega) (by omega))
        refine lv_istore_n (lv' := [(1, .int (nI (a + z))), (2, .int (nI k)), (0, .ref (sh.2 66))]) hx hb dk_X6_isSound_63 rfl hl (by decide) rfl (fun ls hl => ?_)
        refine lv_iinc (v := (nI (k + 1))) (lv' := [(2, .int (nI (k + 1))), (1, .int (nI (a + z))), (0, .ref (sh.2 66))]) hx hb dk_X6_isSound_64 hl (k := 1) rfl (kx_inc (by omega)) (by decide) rfl (fun ls hl => ?_)
        refine lv_goto (tgt := 4) hx hb dk_X6_isSound_67 (by decide) ?_
        exact ih (k + 1) (by omega) (a + z) (by rw [ks_ss_s, ← ez]; omega) H locs L ls (lv_sub hl [0, 1, 2] rfl)
  exact loop dt.pc 0 (by omega) 0 (Nat.zero_le _) _ _ L ls (lv_sub hl [0, 1, 2] rfl)
set_option maxHeartbeats 4000000 in
theorem kx_X6_post {l : Launch} (hl9 : l.stackTraces = false) (D : va_G) {tys : List (ClassId × FieldType)} {sh : en_H} {w : va_W} {sz : Nat} (hD0 : va_D (va_A w sz) w) {dt : ks_D} {a1 a2 a3 : Int32} (hX : ks_X tys sh w dt) : kx_C l yX6_post cX6_post 8 (some .int) 4 2 12 0 [.ref (sh.2 66), .int a1, .int a2, .int a3] D tys w sz (fun res w1 => ∃ (r : Int32) (pj : Nat), res = some (.int r) ∧ pj < 6 ∧ ks_F tys sh w w1 pj) (fun E => E = en_xn 3 ∨ E = en_xn 0 ∨ E = en_xn 2) := by
  refine vx_ofW (cc := cX6_post) (maxL := 8) (ret := (some .int)) (by decide +kernel) rfl ?_
  intro p e s m args below meth c s₁ B9 hml hne hv
  obtain ⟨rfl, hsz, hP, hK, hT⟩ := hv
  subst hsz
  have hx := B9.exec
  have hb := B9.bytes
  have hr := B9.returns
  have hlocks := B9.notSynchronized
  have hts0 := atoms_spec (ws := Cond.code yX6_post cX6_post 8 (some .int) :: en_cw) B9.pre
  have hts : ∀ z ∈ en_cw, z.before _ s = true := fun z hz => hts0 z (List.mem_cons_of_mem _ hz)
  have hown : s.vm.findClass RX6 = some m.cls := findClass_of_methodNamed B9.named
  have G : kx_G p s m ([.ref (sh.2 66), .int a1, .int a2, .int a3] : List Value).toArray c cX6_post RX6 D tys (va_A w s.heap.size) := ⟨hx, hb, hts, hown, hK, hT, fun q h => Or.inr h⟩
  have L : kx_H D (va_A w s.heap.size) s w s.heap [] := ⟨hP, ⟨hD0.1, fun j z hz => Or.inl ⟨j, z.2, hz⟩⟩, va_S.rf⟩
  have hl := lv_entry ([.ref (sh.2 66), .int a1, .int a2, .int a3] : List Value) (n := 8) (Nat.le_of_ble_eq_true rfl)
  rw [lg_entry_eq]
  generalize (lg_sl ([.ref (sh.2 66), .int a1, .int a2, .int a3] : List Value) ++ List.replicate (8 - (lg_sl ([.ref (sh.2 66), .int a1, .int a2, .int a3] : List Value)).length) Slot.unset).toArray = ls at hl ⊢
  have hl : lv_has ls 8 [(0, .ref (sh.2 66)), (1, .int a1), (2, .int a2), (3, .int a3)] := hl
  have hc9 := hX.hc9
  have pc6 := hX.pc6
  have hn9 := hX.hn9
  obtain ⟨cH, fH, ht3, hw67, hf67⟩ := hX.ha
  obtain ⟨cP, fP, ht4, hw86, hf86⟩ := hX.pa
  refine lv_aload_n hx hb dk_X6_post_0 rfl (lv_at hl 0 rfl) ?_
  refine lv_iload_n hx hb dk_X6_post_1 rfl (lv_at hl 1 rfl) ?_
  refine kx_cV (As := [.int a1]) (rest := []) (q := 66) (ci := 12) G L (kx_X6_needPlayer hl9 D (kx_D1 L) hX) gc_RX6_127v hX.o rfl rfl rfl (hml.trans hl.1.symm) ⟨Nat.le_of_ble_eq_true rfl, Nat.le_of_ble_eq_true rfl⟩ ⟨Nat.le_of_ble_eq_true rfl, Nat.le_of_ble_eq_true rfl⟩ (Nat.le_of_ble_eq_true rfl) dk_X6_post_2 (fun E ce q9 H1 locs1 h9 L9 hcell hv hcl => kx_out hne hlocks L9 hcell hv hcl (Or.inl h9) (Nat.le_of_ble_eq_true rfl) (Nat.le_of_ble_eq_true rfl)) (fun res w1 H locs hrv hq1 L => ?_)
  obtain ⟨ew1, hq1⟩ := hq1
  have ew1 := ew1.symm
  subst ew1
  obtain ⟨hin1, hin2⟩ := hq1
  obtain rfl := (show res = none from hrv)
  obtain ⟨pj, ep⟩ : ∃ pj : Nat, pj = a1.toInt.toNat := ⟨_, rfl⟩
  have hp6 : pj < 6 := by omega
  have ea : a1 = nI pj := by rw [ep]; exact kx_cN hin1
  obtain ⟨r0, r1, b3, b4, b5, hcr⟩ := hX.cr pj hp6
  obtain ⟨cI, hti, hwa⟩ := hX.wa pj hp6
  refine lv_iload_n hx hb dk_X6_post_5 rfl (lv_at hl 2 rfl) ?_
  refine lv_bipush (v := 100) hx hb dk_X6_post_6 (by decide) ?_
  have k3 : (100 : Int32).toInt = 100 := by decide
  refine lv_icmp_lt (tgt := 31) hx hb dk_X6_post_8 (by decide) (fun c2 => ?_) (fun c2 => ?_)
  · skip
    have tc2 : (a2 : Int32).toInt < (100 : Int32).toInt := Int32.lt_iff_toInt_lt.mp c2
    exact kx_thr (en_tx0 hl9) G L (List.mem_of_getElem? (i := tf_ix 51) rfl) (hl.1.trans hml.symm) dk_X6_post_31 dk_X6_post_34 (Or.inl ⟨dk_X6_post_35, dk_X6_post_37, dk_X6_post_40⟩) hne (Nat.le_of_ble_eq_true rfl) (Nat.le_of_ble_eq_true rfl) (Nat.le_of_ble_eq_true rfl) (Nat.le_of_ble_eq_true rfl) hlocks (Or.inr (Or.inl rfl)) (Nat.le_of_ble_eq_true rfl) (Nat.le_of_ble_eq_true rfl)
  · skip
    have tc2 : ¬ (a2 : Int32).toInt < (100 : Int32).toInt := fun h => c2 (Int32.lt_iff_toInt_lt.mpr h)
    refine lv_iload_n hx hb dk_X6_post_11 rfl (lv_at hl 2 rfl) ?_
    refine lv_sipush (v := 800) hx hb dk_X6_post_12 (by decide) ?_
    have k5 : (800 : Int32).toInt = 800 := by decide
    refine lv_icmp_gt (tgt := 31) hx hb dk_X6_post_15 (by decide) (fun c4 => ?_) (fun c4 => ?_)
    · skip
      have tc4 : (800 : Int32).toInt < (a2 : Int32).toInt := Int32.lt_iff_toInt_lt.mp c4
      exact kx_thr (en_tx0 hl9) G L (List.mem_of_getElem? (i := tf_ix 51) rfl) (hl.1.trans hml.symm) dk_X6_post_31 dk_X6_post_34 (Or.inl ⟨dk_X6_post_35, dk_X6_post_37, dk_X6_post_40⟩) hne (Nat.le_of_ble_eq_true rfl) (Nat.le_of_ble_eq_true rfl) (Nat.le_of_ble_eq_true rfl) (Nat.le_of_ble_eq_true rfl) hlocks (Or.inr (Or.inl rfl)) (Nat.le_of_ble_eq_true rfl) (Nat.le_of_ble_eq_true rfl)
    · skip
      have tc4 : ¬ (800 : Int32).toInt < (a2 : Int32).toInt := fun h => c4 (Int32.lt_iff_toInt_lt.mpr h)
      refine lv_iload_n hx hb dk_X6_post_18 rfl (lv_at hl 3 rfl) ?_
      refine lv_bipush (v := 55) hx hb dk_X6_post_19 (by decide) ?_
      have k7 : (55 : Int32).toInt = 55 := by decide
      refine lv_icmp_lt (tgt := 31) hx hb dk_X6_post_21 (by decide) (fun c6 => ?_) (fun c6 => ?_)
      · skip
        have tc6 : (a3 : Int32).toInt < (55 : Int32).toInt := Int32.lt_iff_toInt_lt.mp c6
        exact kx_thr (en_tx0 hl9) G L (List.mem_of_getElem? (i := tf_ix 51) rfl) (hl.1.trans hml.symm) dk_X6_post_31 dk_X6_post_34 (Or.inl ⟨dk_X6_post_35, dk_X6_post_37, dk_X6_post_40⟩) hne (Nat.le_of_ble_eq_true rfl) (Nat.le_of_ble_eq_true rfl) (Nat.le_of_ble_eq_true rfl) (Nat.le_of_ble_eq_true rfl) hlocks (Or.inr (Or.inl rfl)) (Nat.le_of_ble_eq_true rfl) (Nat.le_of_ble_eq_true rfl)
      · skip
        have tc6 : ¬ (a3 : Int32).toInt < (55 : Int32).toInt := fun h => c6 (Int32.lt_iff_toInt_lt.mpr h)
        refine lv_iload_n hx hb dk_X6_post_24 rfl (lv_at hl 3 rfl) ?_
        refine lv_sipush (v := 155) hx hb dk_X6_post_25 (by decide) ?_
        have k9 : (155 : Int32).toInt = 155 := by decide
        refine lv_icmp_le (tgt := 41) hx hb dk_X6_post_28 (by decide) (fun c8 => ?_) (fun c8 => ?_)
        · skip
          have tc8 : (a3 : Int32).toInt ≤ (155 : Int32).toInt := Int32.le_iff_toInt_le.mp c8
          have ha3 : 55 ≤ a3.toInt := by omega
          refine lv_aload_n hx hb dk_X6_post_41 rfl (lv_at hl 0 rfl) ?_
          refine kx_get (v := .ref (sh.2 86)) G L (en_FTX6_ok (18, 12, 1) (by decide)) hX.o hX.f1 dk_X6_post_42 ?_
          refine lv_iload_n hx hb dk_X6_post_45 rfl (lv_at hl 1 rfl) ?_
          refine lv_topi (fun y10 ey10 => ?_)
          obtain rfl : y10 = (nI pj) := ey10.trans (ea)
          refine kx_aald G L hw86 ht4 (show pj < 6 from hp6) (by decide) (hf86 pj hp6) dk_X6_post_46 ?_
          refine kx_get (v := .ref (sh.2 (89 + 8 * pj))) G L (en_FTX6_ok (155, 11, 1) (by decide)) (hX.pr pj hp6) rfl dk_X6_post_47 ?_
          refine lv_astore (lv' := [(4, .ref (sh.2 (89 + 8 * pj))), (0, .ref (sh.2 66)), (1, .int a1), (2, .int a2), (3, .int a3)]) hx hb dk_X6_post_50 hl (by decide) rfl (fun ls hl => ?_)
          refine lv_aload hx hb dk_X6_post_52 (lv_at hl 0 rfl) ?_
          refine kx_cV (As := []) (rest := []) (q := (89 + 8 * pj)) (ci := 7) G L (kx_X1_isRanked hl9 D (kx_D1 L) hcr) gc_RX6_508v hcr rfl rfl rfl (hml.trans hl.1.symm) ⟨Nat.le_of_ble_eq_true rfl, Nat.le_of_ble_eq_true rfl⟩ ⟨Nat.le_of_ble_eq_true rfl, Nat.le_of_ble_eq_true rfl⟩ (Nat.le_of_ble_eq_true rfl) dk_X6_post_54 (fun _ _ _ _ _ h9 => h9.elim) (fun res w11 H locs hrv hq11 L => ?_)
          obtain ⟨ew11, hq11⟩ := hq11
          have ew11 := ew11.symm
          subst ew11
          rcases hq11 with rfl | rfl
          · skip
            refine lv_if_eq (tgt := 68) hx hb dk_X6_post_57 (by decide) (fun _ => ?_) (fun c9 => absurd (by decide) c9)
            exact kx_thr (en_tx2 hl9) G L (List.mem_of_getElem? (i := tf_ix 519) rfl) (hl.1.trans hml.symm) dk_X6_post_68 dk_X6_post_71 (Or.inr ⟨dk_X6_post_72, dk_X6_post_75, dk_X6_post_78⟩) hne (Nat.le_of_ble_eq_true rfl) (Nat.le_of_ble_eq_true rfl) (Nat.le_of_ble_eq_true rfl) (Nat.le_of_ble_eq_true rfl) hlocks (Or.inr (Or.inr rfl)) (Nat.le_of_ble_eq_true rfl) (Nat.le_of_ble_eq_true rfl)
          · skip
            refine lv_if_eq (tgt := 68) hx hb dk_X6_post_57 (by decide) (fun c9 => absurd c9 (by decide)) (fun _ => ?_)
            refine lv_aload hx hb dk_X6_post_60 (lv_at hl 0 rfl) ?_
            refine kx_get (v := .int b5) G L (en_FTX6_ok (516, 7, 5) (by decide)) hcr rfl dk_X6_post_62 ?_
            have k13 : (0 : Int32).toInt = 0 := by decide
            refine lv_if_eq (tgt := 79) hx hb dk_X6_post_65 (by decide) (fun c12 => ?_) (fun c12 => ?_)
            · skip
              have tc12 : (b5 : Int32).toInt = (0 : Int32).toInt := by rw [c12]
              refine lv_iconst (v := 0) hx hb dk_X6_post_79 (by decide) ?_
              refine lv_istore (lv' := [(5, .int 0), (4, .ref (sh.2 (89 + 8 * pj))), (0, .ref (sh.2 66)), (1, .int a1), (2, .int a2), (3, .int a3)]) hx hb dk_X6_post_80 hl (by decide) rfl (fun ls hl => ?_)
              refine lv_iconst (v := 0) hx hb dk_X6_post_82 (by decide) ?_
              refine lv_istore (lv' := [(6, .int 0), (5, .int 0), (4, .ref (sh.2 (89 + 8 * pj))), (0, .ref (sh.2 66)), (1, .int a1), (2, .int a2), (3, .int a3)]) hx hb dk_X6_post_83 hl (by decide) rfl (fun ls hl => ?_)
              have loop : ∀ (d k : Nat), k + d = dt.hc → ∀ (v : Int32), ∀ (H : Heap) (locs : List Loc), kx_H D (va_A w s.heap.size) s w H locs → ∀ (ls : Array Slot), lv_has ls 8 [(6, .int (nI k)), (5, .int v), (4, .ref (sh.2 (89 + 8 * pj))), (3, .int a3), (2, .int a2), (1, .int a1), (0, .ref (sh.2 66))] → W p l e (headSpec (Cond.code yX6_post cX6_post 8 (some .int) :: en_cw) (en_rm 4 (2, 12))).room s m ([.ref (sh.2 66), .int a1, .int a2, .int a3] : List Value).toArray below meth c H locs (1) (6) (vx_MQ below (kx_Q 0 D (fun res w1 => ∃ (r : Int32) (pj : Nat), res = some (.int r) ∧ pj < 6 ∧ ks_F tys sh w w1 pj) (va_A w s.heap.size)) (kx_XC D w (fun E => E = en_xn 3 ∨ E = en_xn 0 ∨ E = en_xn 2) (va_A w s.heap.size)) ([.ref (sh.2 66), .int a1, .int a2, .int a3] : List Value).toArray s 2 12 (va_A w s.heap.size)) (F0 m 85 ls []) := by
                intro d
                induction d with
                | zero =>
                  intro k hk v H locs L ls hl
                  refine lv_iload hx hb dk_X6_post_85 (lv_at hl 0 rfl) ?_
                  refine lv_aload_n hx hb dk_X6_post_87 rfl (lv_at hl 6 rfl) ?_
                  refine kx_get (v := .int (nI dt.hc)) G L (en_FTX6_ok (62, 12, 4) (by decide)) hX.o hX.f4 dk_X6_post_88 ?_
                  refine lv_icmp_ge (tgt := 147) hx hb dk_X6_post_91 (by decide) (fun _ => ?_) (fun c9 => absurd (nI_le (a := dt.hc) (b := k) (by omega) (by omega)) c9)
                  refine lv_iload hx hb dk_X6_post_147 (lv_at hl 1 rfl) ?_
                  refine lv_bipush (v := 10) hx hb dk_X6_post_149 (by decide) ?_
                  refine lv_imul hx hb dk_X6_post_151 ?_
                  refine lv_iload_n hx hb dk_X6_post_152 rfl (lv_at hl 4 rfl) ?_
                  refine lv_isub hx hb dk_X6_post_153 ?_
                  refine lv_bipush (v := 113) hx hb dk_X6_post_154 (by decide) ?_
                  refine lv_imul hx hb dk_X6_post_156 ?_
                  refine lv_iload_n hx hb dk_X6_post_157 rfl (lv_at hl 3 rfl) ?_
                  have hne0 : ¬ a3 = 0 := fun e => by rw [e] at ha3; exact absurd ha3 (by decide)
                  refine kx_cS (As := [.int (((v * 10) - a2) * 113), .int a3]) (rest := []) G L (kx_J9_floorDiv_7cf53 hl9 D (kx_D1 L) hne0) gc_RX6_521s rfl (hml.trans hl.1.symm) ⟨Nat.le_of_ble_eq_true rfl, Nat.le_of_ble_eq_true rfl⟩ ⟨Nat.le_of_ble_eq_true rfl, Nat.le_of_ble_eq_true rfl⟩ (Nat.le_of_ble_eq_true rfl) dk_X6_post_158 (fun _ _ _ _ _ h9 => h9.elim) (fun res w14 H locs hrv hq14 L => ?_)
                  obtain ⟨ew14, hq14⟩ := hq14
                  have ew14 := ew14.symm
                  subst ew14
                  obtain rfl := hq14
                  refine lv_bipush (v := 10) hx hb dk_X6_post_161 (by decide) ?_
                  refine lv_aload_n hx hb dk_X6_post_163 rfl (lv_at hl 6 rfl) ?_
                  refine kx_get (v := .int dt.we) G L (en_FTX6_ok (513, 12, 8) (by decide)) hX.o hX.f8 dk_X6_post_164 ?_
                  refine lv_imul hx hb dk_X6_post_167 ?_
                  refine lv_isub hx hb dk_X6_post_168 ?_
                  refine lv_istore (lv' := [(6, .int ((ks_fd (((v * 10) - a2) * 113) a3) - (10 * dt.we))), (5, .int v), (4, .ref (sh.2 (89 + 8 * pj))), (3, .int a3), (2, .int a2), (1, .int a1), (0, .ref (sh.2 66))]) hx hb dk_X6_post_169 hl (by decide) rfl (fun ls hl => ?_)
                  refine lv_aload hx hb dk_X6_post_171 (lv_at hl 2 rfl) ?_
                  refine lv_iconst (v := 1) hx hb dk_X6_post_173 (by decide) ?_
                  have hgi : (((ks_fd (((v * 10) - a2) * 113) a3) - (10 * dt.we)) : Int32).toInt ≤ 40000000 := ks_diff ha3 hX.w1 hX.w3
                  refine kx_put (x := 1) G L (en_PTX6_ok (516, 7, 5, 2) (by decide)) hcr (Nat.le_of_ble_eq_true rfl) (by decide) (by decide) dk_X6_post_174 (fun w15 H locs e15 n15 o15 L => ?_)
                  refine lv_aload_n hx hb dk_X6_post_177 rfl (lv_at hl 6 rfl) ?_
                  refine kx_get (v := .ref (sh.2 86)) G L (en_FTX6_ok (18, 12, 1) (by decide)) ((o15 66 (by omega)).trans hX.o) hX.f1 dk_X6_post_178 ?_
                  refine lv_iload_n hx hb dk_X6_post_181 rfl (lv_at hl 5 rfl) ?_
                  refine lv_topi (fun y16 ey16 => ?_)
                  obtain rfl : y16 = (nI pj) := ey16.trans (ea)
                  refine kx_aald G L ((o15 86 (by omega)).trans hw86) ht4 (show pj < 6 from hp6) (by decide) (hf86 pj hp6) dk_X6_post_182 ?_
                  obtain ⟨cI2, g, n, ix, low, hti2, hfr, hfg, hn, hok⟩ := hX.fr pj hp6
                  have hfr9 := (o15 _ (by omega)).trans hfr
                  have hfg9 := (o15 _ (by omega)).trans hfg
                  refine kx_get (v := .ref (sh.2 (93 + 8 * pj))) G L (en_FTX6_ok (524, 11, 2) (by decide)) ((o15 _ (by omega)).trans (hX.pr pj hp6)) rfl dk_X6_post_183 ?_
                  refine lv_iload hx hb dk_X6_post_186 (lv_at hl 0 rfl) ?_
                  refine kx_cV (As := [.int ((ks_fd (((v * 10) - a2) * 113) a3) - (10 * dt.we))]) (rest := []) (q := (93 + 8 * pj)) (ci := 8) G L (kx_X2_add hl9 D (kx_D1 L) hti2 hfr9 hfg9 hn hok hgi) gc_RX6_528v hfr9 rfl rfl rfl (hml.trans hl.1.symm) ⟨Nat.le_of_ble_eq_true rfl, Nat.le_of_ble_eq_true rfl⟩ ⟨Nat.le_of_ble_eq_true rfl, Nat.le_of_ble_eq_true rfl⟩ (Nat.le_of_ble_eq_true rfl) dk_X6_post_188 (fun _ _ _ _ _ h9 => h9.elim) (fun res w17 H locs hrv hq17 L => ?_)
                  obtain ⟨mm, ix1, lo1, g1, hm, h1, h2, hok1, hlen, hoth⟩ := hq17
                  obtain rfl := (show res = none from hrv)
                  refine lv_iload hx hb dk_X6_post_191 (lv_at hl 0 rfl) ?_
                  exact vx_ret (W.widen (Nat.le_of_ble_eq_true rfl) (Nat.le_of_ble_eq_true rfl) (W.iret (v := ((ks_fd (((v * 10) - a2) * 113) a3) - (10 * dt.we))) hx hb hr (fun T9 hT9 _ => ⟨⟨((ks_fd (((v * 10) - a2) * 113) a3) - (10 * dt.we)), w17, rfl, ⟨_, pj, rfl, hp6, ⟨r0, r1, b3, b4, b5, hcr, (hoth _ (by omega) (by omega)).trans e15⟩, ⟨cI2, g1, mm, ix1, lo1, hti2, h1, h2, hm, hok1⟩, hlen.trans n15, fun j j1 j2 j3 => (hoth j j2 j3).trans (o15 j j1)⟩, by rw [hT9]; exact L.1, L.2.1⟩, L.2.2.F hT9⟩) L.2.2.2.2 dk_X6_post_193 hlocks))
                | succ d ih =>
                  intro k hk v H locs L ls hl
                  refine lv_iload hx hb dk_X6_post_85 (lv_at hl 0 rfl) ?_
                  refine lv_aload_n hx hb dk_X6_post_87 rfl (lv_at hl 6 rfl) ?_
                  refine kx_get (v := .int (nI dt.hc)) G L (en_FTX6_ok (62, 12, 4) (by decide)) hX.o hX.f4 dk_X6_post_88 ?_
                  refine lv_icmp_ge (tgt := 147) hx hb dk_X6_post_91 (by decide) (fun c9 => absurd c9 (nI_ge (a := k) (b := dt.hc) (by omega) (by omega))) (fun _ => ?_)
                  have hk9 : k < 9 := by omega
                  refine lv_aload_n hx hb dk_X6_post_94 rfl (lv_at hl 6 rfl) ?_
                  refine kx_get (v := .ref (sh.2 67)) G L (en_FTX6_ok (11, 12, 0) (by decide)) hX.o hX.f0 dk_X6_post_95 ?_
                  refine lv_iload hx hb dk_X6_post_98 (lv_at hl 0 rfl) ?_
                  obtain ⟨tq1, aq1, hq1⟩ := hX.hr k hk9
                  refine kx_aald G L hw67 ht3 (show k < 9 from hk9) (by decide) (hf67 k hk9) dk_X6_post_100 ?_
                  refine kx_get (v := .int (dt.par k)) G L (en_FTX6_ok (79, 9, 1) (by decide)) hq1 rfl dk_X6_post_101 ?_
                  refine lv_iconst (v := 2) hx hb dk_X6_post_104 (by decide) ?_
                  refine lv_iadd hx hb dk_X6_post_105 ?_
                  refine lv_aload_n hx hb dk_X6_post_106 rfl (lv_at hl 6 rfl) ?_
                  refine lv_aload_n hx hb dk_X6_post_107 rfl (lv_at hl 6 rfl) ?_
                  refine kx_get (v := .ref (sh.2 86)) G L (en_FTX6_ok (18, 12, 1) (by decide)) hX.o hX.f1 dk_X6_post_108 ?_
                  refine lv_iload_n hx hb dk_X6_post_111 rfl (lv_at hl 5 rfl) ?_
                  refine lv_topi (fun y18 ey18 => ?_)
                  obtain rfl : y18 = (nI pj) := ey18.trans (ea)
                  refine kx_aald G L hw86 ht4 (show pj < 6 from hp6) (by decide) (hf86 pj hp6) dk_X6_post_112 ?_
                  refine kx_get (v := .int (dt.hp pj)) G L (en_FTX6_ok (137, 11, 3) (by decide)) (hX.pr pj hp6) rfl dk_X6_post_113 ?_
                  refine lv_iload hx hb dk_X6_post_116 (lv_at hl 0 rfl) ?_
                  refine kx_cV (As := [.int (dt.hp pj), .int (nI k)]) (rest := [.int ((dt.par k) + 2)]) (q := 66) (ci := 12) G L (kx_X6_strokesGiven hl9 D (kx_D1 L) hX (a1 := dt.hp pj) (h := k) hk9) gc_RX6_140v hX.o rfl rfl rfl (hml.trans hl.1.symm) ⟨Nat.le_of_ble_eq_true rfl, Nat.le_of_ble_eq_true rfl⟩ ⟨Nat.le_of_ble_eq_true rfl, Nat.le_of_ble_eq_true rfl⟩ (Nat.le_of_ble_eq_true rfl) dk_X6_post_118 (fun _ _ _ _ _ h9 => h9.elim) (fun res w19 H locs hrv hq19 L => ?_)
                  obtain ⟨ew19, hq19⟩ := hq19
                  have ew19 := ew19.symm
                  subst ew19
                  obtain rfl := hq19
                  refine lv_iadd hx hb dk_X6_post_121 ?_
                  refine lv_istore (lv' := [(7, .int (((dt.par k) + 2) + (ks_sg dt.ix dt.hc (dt.hp pj) k))), (6, .int (nI k)), (5, .int v), (4, .ref (sh.2 (89 + 8 * pj))), (3, .int a3), (2, .int a2), (1, .int a1), (0, .ref (sh.2 66))]) hx hb dk_X6_post_122 hl (by decide) rfl (fun ls hl => ?_)
                  refine lv_iload hx hb dk_X6_post_124 (lv_at hl 2 rfl) ?_
                  refine lv_aload hx hb dk_X6_post_126 (lv_at hl 3 rfl) ?_
                  refine lv_iload hx hb dk_X6_post_128 (lv_at hl 1 rfl) ?_
                  refine kx_cV (As := [.int (nI k)]) (rest := [.int v]) (q := (89 + 8 * pj)) (ci := 7) G L (kx_X1_writtenOn hl9 D (kx_D1 L) hti hcr hwa (k := k) hk9) gc_RX6_469v hcr rfl rfl rfl (hml.trans hl.1.symm) ⟨Nat.le_of_ble_eq_true rfl, Nat.le_of_ble_eq_true rfl⟩ ⟨Nat.le_of_ble_eq_true rfl, Nat.le_of_ble_eq_true rfl⟩ (Nat.le_of_ble_eq_true rfl) dk_X6_post_130 (fun _ _ _ _ _ h9 => h9.elim) (fun res w20 H locs hrv hq20 L => ?_)
                  obtain ⟨ew20, hq20⟩ := hq20
                  have ew20 := ew20.symm
                  subst ew20
                  obtain rfl := hq20
                  refine lv_iload hx hb dk_X6_post_133 (lv_at hl 0 rfl) ?_
                  refine kx_cS (As := [.int (dt.wr pj k), .int (((dt.par k) + 2) + (ks_sg dt.ix dt.hc (dt.hp pj) k))]) (rest := [.int v]) G L (kx_J9_min_7cf53 hl9 D (kx_D1 L)) gc_RX6_490s rfl (hml.trans hl.1.symm) ⟨Nat.le_of_ble_eq_true rfl, Nat.le_of_ble_eq_true rfl⟩ ⟨Nat.le_of_ble_eq_true rfl, Nat.le_of_ble_eq_true rfl⟩ (Nat.le_of_ble_eq_true rfl) dk_X6_post_135 (fun _ _ _ _ _ h9 => h9.elim) (fun res w21 H locs hrv hq21 L => ?_)
                  obtain ⟨ew21, hq21⟩ := hq21
                  have ew21 := ew21.symm
                  subst ew21
                  obtain rfl := hq21
                  refine lv_iadd hx hb dk_X6_post_138 ?_
                  refine lv_istore (lv' := [(5, .int (v + (ks_mi (dt.wr pj k) (((dt.par k) + 2) + (ks_sg dt.ix dt.hc (dt.hp pj) k))))), (7, .int (((dt.par k) + 2) + (ks_sg dt.ix dt.hc (dt.hp pj) k))), (6, .int (nI k)), (4, .ref (sh.2 (89 + 8 * pj))), (3, .int a3), (2, .int a2), (1, .int a1), (0, .ref (sh.2 66))]) hx hb dk_X6_post_139 hl (by decide) rfl (fun ls hl => ?_)
                  refine lv_iinc (v := (nI (k + 1))) (lv' := [(6, .int (nI (k + 1))), (5, .int (v + (ks_mi (dt.wr pj k) (((dt.par k) + 2) + (ks_sg dt.ix dt.hc (dt.hp pj) k))))), (7, .int (((dt.par k) + 2) + (ks_sg dt.ix dt.hc (dt.hp pj) k))), (4, .ref (sh.2 (89 + 8 * pj))), (3, .int a3), (2, .int a2), (1, .int a1), (0, .ref (sh.2 66))]) hx hb dk_X6_post_141 hl (k := 2) rfl (kx_inc (by omega)) (by decide) rfl (fun ls hl => ?_)
                  refine lv_goto (tgt := 85) hx hb dk_X6_post_144 (by decide) ?_
                  exact ih (k + 1) (by omega) (v + (ks_mi (dt.wr pj k) (((dt.par k) + 2) + (ks_sg dt.ix dt.hc (dt.hp pj) k)))) H locs L ls (lv_sub hl [0, 1, 3, 4, 5, 6, 7] rfl)
              exact loop dt.hc 0 (by omega) 0 _ _ L ls (lv_sub hl [0, 1, 2, 6, 5, 4, 3] rfl)
            · skip
              have tc12 : ¬ (b5 : Int32).toInt = (0 : Int32).toInt := fun h => c12 (Int32.toInt_inj.mp h)
              exact kx_thr (en_tx2 hl9) G L (List.mem_of_getElem? (i := tf_ix 519) rfl) (hl.1.trans hml.symm) dk_X6_post_68 dk_X6_post_71 (Or.inr ⟨dk_X6_post_72, dk_X6_post_75, dk_X6_post_78⟩) hne (Nat.le_of_ble_eq_true rfl) (Nat.le_of_ble_eq_true rfl) (Nat.le_of_ble_eq_true rfl) (Nat.le_of_ble_eq_true rfl) hlocks (Or.inr (Or.inr rfl)) (Nat.le_of_ble_eq_true rfl) (Nat.le_of_ble_eq_true rfl)
        · skip
          have tc8 : ¬ (a3 : Int32).toInt ≤ (155 : Int32).toInt := fun h => c8 (Int32.le_iff_toInt_le.mpr h)
          exact kx_thr (en_tx0 hl9) G L (List.mem_of_getElem? (i := tf_ix 51) rfl) (hl.1.trans hml.symm) dk_X6_post_31 dk_X6_post_34 (Or.inl ⟨dk_X6_post_35, dk_X6_post_37, dk_X6_post_40⟩) hne (Nat.le_of_ble_eq_true rfl) (Nat.le_of_ble_eq_true rfl) (Nat.le_of_ble_eq_true rfl) (Nat.le_of_ble_eq_true rfl) hlocks (Or.inr (Or.inl rfl)) (Nat.le_of_ble_eq_true rfl) (Nat.le_of_ble_eq_true rfl)
set_option maxHeartbeats 4000000 in
theorem kx_X7_isSound {l : Launch} (hl9 : l.stackTraces = false) (D : va_G) {tys : List (ClassId × FieldType)} {sh : en_H} {w : va_W} {sz : Nat} (hD0 : va_D (va_A w sz) w) {fs : List Value} (hw : w[0]? = some (sh.2 0, .inr (13, fs))) (h30 : 30 < fs.length) : kx_C l yX7_isSound cX7_isSound 1 (some .boolean) 0 0 0 0 [.ref (sh.2 0)] D tys w sz (fun res w1 => res = some (.int 1) ∧ ∃ fs1 : List Value, kx_T sh w w1 fs fs1 0) (fun _ => False) := by
  refine vx_ofW (cc := cX7_isSound) (maxL := 1) (ret := (some .boolean)) (by decide +kernel) rfl ?_
  intro p e s m args below meth c s₁ B9 hml hne hv
  obtain ⟨rfl, hsz, hP, hK, hT⟩ := hv
  subst hsz
  have hx := B9.exec
  have hb := B9.bytes
  have hr := B9.returns
  have hlocks := B9.notSynchronized
  have hts0 := atoms_spec (ws := Cond.code yX7_isSound cX7_isSound 1 (some .boolean) :: en_cw) B9.pre
  have hts : ∀ z ∈ en_cw, z.before _ s = true := fun z hz => hts0 z (List.mem_cons_of_mem _ hz)
  have hown : s.vm.findClass RX7 = some m.cls := findClass_of_methodNamed B9.named
  have G : kx_G p s m ([.ref (sh.2 0)] : List Value).toArray c cX7_isSound RX7 D tys (va_A w s.heap.size) := ⟨hx, hb, hts, hown, hK, hT, fun q h => Or.inr h⟩
  have L : kx_H D (va_A w s.heap.size) s w s.heap [] := ⟨hP, ⟨hD0.1, fun j z hz => Or.inl ⟨j, z.2, hz⟩⟩, va_S.rf⟩
  have hl := lv_entry ([.ref (sh.2 0)] : List Value) (n := 1) (Nat.le_of_ble_eq_true rfl)
  rw [lg_entry_eq]
  generalize (lg_sl ([.ref (sh.2 0)] : List Value) ++ List.replicate (1 - (lg_sl ([.ref (sh.2 0)] : List Value)).length) Slot.unset).toArray = ls at hl ⊢
  have hl : lv_has ls 1 [(0, .ref (sh.2 0))] := hl
  refine lv_aload_n hx hb dk_X7_isSound_0 rfl (lv_at hl 0 rfl) ?_
  refine lv_iconst (v := 0) hx hb dk_X7_isSound_1 (by decide) ?_
  refine kx_put (x := 0) G L (en_PTX7_ok (79, 13, 30, 0) (by decide)) hw h30 (en_lo _) (en_hi _) dk_X7_isSound_2 (fun w1 H locs e1 n1 o1 L => ?_)
  refine lv_iconst (v := 1) hx hb dk_X7_isSound_5 (by decide) ?_
  exact vx_ret (W.widen (Nat.le_of_ble_eq_true rfl) (Nat.le_of_ble_eq_true rfl) (W.zret (v := 1) (ty := .boolean) hx hb hr (by decide) (fun T9 hT9 _ => ⟨⟨1, w1, rfl, ⟨rfl, _, ⟨e1, List.length_set, List.getElem?_set_self h30, fun j hj => List.getElem?_set_ne (Ne.symm hj), n1, o1⟩⟩, by rw [hT9]; exact L.1, L.2.1⟩, L.2.2.F hT9⟩) L.2.2.2.2 dk_X7_isSound_6 hlocks))
