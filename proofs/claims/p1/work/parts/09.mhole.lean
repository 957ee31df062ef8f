set_option maxRecDepth 20000 in
theorem ggX7_hole_X7_isIn : GoodIn wsX7_hole wsX7_isIn := goodIn_r _ [13] (by decide +kernel) (by decide +kernel)
set_option maxRecDepth 20000 in
theorem gX7_hole_X7_isIn : GoodIn wsX7_hole (va_wsS RX7 82 yX7_isIn wsX7_isIn) := goodIn_app (goodIn_of _ (by decide +kernel)) ggX7_hole_X7_isIn
set_option maxRecDepth 20000 in
theorem ggX7_hole_X7_isCell : GoodIn wsX7_hole wsX7_isCell := goodIn_r _ [16, 10, 11, 12, 13] (by decide +kernel) (by decide +kernel)
set_option maxRecDepth 20000 in
theorem gX7_hole_X7_isCell : GoodIn wsX7_hole (va_wsS RX7 106 yX7_isCell wsX7_isCell) := goodIn_app (goodIn_of _ (by decide +kernel)) ggX7_hole_X7_isCell
set_option maxRecDepth 20000 in
theorem ggX7_hole_X7_isThrown : GoodIn wsX7_hole wsX7_isThrown := goodIn_r _ [20, 21, 22, 23, 24, 25, 26, 27, 28, 29, 30, 31, 32, 33, 34, 35, 36, 37, 38, 39, 40, 41, 42, 43, 44, 45, 46, 47, 48, 49, 50, 51, 52] (by decide +kernel) (by decide +kernel)
set_option maxRecDepth 20000 in
theorem gX7_hole_X7_isThrown : GoodIn wsX7_hole (wsV RX7 110 RX7 yX7_isThrown wsX7_isThrown) := goodIn_app (goodIn_of _ (by decide +kernel)) ggX7_hole_X7_isThrown
theorem dX7_hole_0 : decode cX7_hole 0 = .ok (.iload_n 1, 1) := by decide +kernel
theorem dX7_hole_1 : decode cX7_hole 1 = .ok (.iconst 3, 1) := by decide +kernel
theorem dX7_hole_2 : decode cX7_hole 2 = .ok (.iconst 5, 1) := by decide +kernel
theorem dX7_hole_3 : decode cX7_hole 3 = .ok (.invokestatic 82, 3) := by decide +kernel
theorem dX7_hole_6 : decode cX7_hole 6 = .ok (.ifCond .eq 36, 3) := by decide +kernel
theorem dX7_hole_9 : decode cX7_hole 9 = .ok (.iload_n 2, 1) := by decide +kernel
theorem dX7_hole_10 : decode cX7_hole 10 = .ok (.iconst 1, 1) := by decide +kernel
theorem dX7_hole_11 : decode cX7_hole 11 = .ok (.bipush 9, 2) := by decide +kernel
theorem dX7_hole_13 : decode cX7_hole 13 = .ok (.invokestatic 82, 3) := by decide +kernel
theorem dX7_hole_16 : decode cX7_hole 16 = .ok (.ifCond .eq 26, 3) := by decide +kernel
theorem dX7_hole_19 : decode cX7_hole 19 = .ok (.iload_n 3, 1) := by decide +kernel
theorem dX7_hole_20 : decode cX7_hole 20 = .ok (.iload 4, 2) := by decide +kernel
theorem dX7_hole_22 : decode cX7_hole 22 = .ok (.invokestatic 106, 3) := by decide +kernel
theorem dX7_hole_25 : decode cX7_hole 25 = .ok (.ifCond .eq 17, 3) := by decide +kernel
theorem dX7_hole_28 : decode cX7_hole 28 = .ok (.iload 5, 2) := by decide +kernel
theorem dX7_hole_30 : decode cX7_hole 30 = .ok (.iload 6, 2) := by decide +kernel
theorem dX7_hole_32 : decode cX7_hole 32 = .ok (.invokestatic 106, 3) := by decide +kernel
theorem dX7_hole_35 : decode cX7_hole 35 = .ok (.ifCond .eq 7, 3) := by decide +kernel
theorem dX7_hole_38 : decode cX7_hole 38 = .ok (.iconst 1, 1) := by decide +kernel
theorem dX7_hole_39 : decode cX7_hole 39 = .ok (.goto 4, 3) := by decide +kernel
theorem dX7_hole_42 : decode cX7_hole 42 = .ok (.iconst 0, 1) := by decide +kernel
theorem dX7_hole_43 : decode cX7_hole 43 = .ok (.istore 7, 2) := by decide +kernel
theorem dX7_hole_45 : decode cX7_hole 45 = .ok (.iconst 0, 1) := by decide +kernel
theorem dX7_hole_46 : decode cX7_hole 46 = .ok (.istore 8, 2) := by decide +kernel
theorem dX7_hole_48 : decode cX7_hole 48 = .ok (.iconst 0, 1) := by decide +kernel
theorem dX7_hole_49 : decode cX7_hole 49 = .ok (.istore 9, 2) := by decide +kernel
theorem dX7_hole_51 : decode cX7_hole 51 = .ok (.iload 9, 2) := by decide +kernel
theorem dX7_hole_53 : decode cX7_hole 53 = .ok (.aload_n 0, 1) := by decide +kernel
theorem dX7_hole_54 : decode cX7_hole 54 = .ok (.getfield 86, 3) := by decide +kernel
theorem dX7_hole_57 : decode cX7_hole 57 = .ok (.if_icmp .ge 32, 3) := by decide +kernel
theorem dX7_hole_89 : decode cX7_hole 89 = .ok (.aload_n 0, 1) := by decide +kernel
theorem dX7_hole_90 : decode cX7_hole 90 = .ok (.iload 7, 2) := by decide +kernel
theorem dX7_hole_92 : decode cX7_hole 92 = .ok (.ifCond .eq 16, 3) := by decide +kernel
theorem dX7_hole_95 : decode cX7_hole 95 = .ok (.iload_n 3, 1) := by decide +kernel
theorem dX7_hole_96 : decode cX7_hole 96 = .ok (.iload 5, 2) := by decide +kernel
theorem dX7_hole_98 : decode cX7_hole 98 = .ok (.if_icmp .ne 14, 3) := by decide +kernel
theorem dX7_hole_101 : decode cX7_hole 101 = .ok (.iload 4, 2) := by decide +kernel
theorem dX7_hole_103 : decode cX7_hole 103 = .ok (.iload 6, 2) := by decide +kernel
theorem dX7_hole_105 : decode cX7_hole 105 = .ok (.if_icmp .ne 7, 3) := by decide +kernel
theorem dX7_hole_108 : decode cX7_hole 108 = .ok (.iconst 1, 1) := by decide +kernel
theorem dX7_hole_109 : decode cX7_hole 109 = .ok (.goto 4, 3) := by decide +kernel
theorem dX7_hole_112 : decode cX7_hole 112 = .ok (.iconst 0, 1) := by decide +kernel
theorem dX7_hole_113 : decode cX7_hole 113 = .ok (.iconst 1, 1) := by decide +kernel
theorem dX7_hole_114 : decode cX7_hole 114 = .ok (.invokevirtual 110, 3) := by decide +kernel
theorem dX7_hole_117 : decode cX7_hole 117 = .ok (.ifCond .ne 42, 3) := by decide +kernel
theorem dX7_hole_120 : decode cX7_hole 120 = .ok (.aload_n 0, 1) := by decide +kernel
theorem dX7_hole_121 : decode cX7_hole 121 = .ok (.aload_n 0, 1) := by decide +kernel
theorem dX7_hole_122 : decode cX7_hole 122 = .ok (.getfield 86, 3) := by decide +kernel
theorem dX7_hole_125 : decode cX7_hole 125 = .ok (.bipush 9, 2) := by decide +kernel
theorem dX7_hole_127 : decode cX7_hole 127 = .ok (.if_icmp .eq 10, 3) := by decide +kernel
theorem dX7_hole_130 : decode cX7_hole 130 = .ok (.aload_n 0, 1) := by decide +kernel
theorem dX7_hole_131 : decode cX7_hole 131 = .ok (.getfield 114, 3) := by decide +kernel
theorem dX7_hole_134 : decode cX7_hole 134 = .ok (.ifCond .eq 7, 3) := by decide +kernel
theorem dX7_hole_141 : decode cX7_hole 141 = .ok (.iconst 0, 1) := by decide +kernel
theorem dX7_hole_142 : decode cX7_hole 142 = .ok (.iconst 2, 1) := by decide +kernel
theorem dX7_hole_143 : decode cX7_hole 143 = .ok (.invokevirtual 110, 3) := by decide +kernel
theorem dX7_hole_146 : decode cX7_hole 146 = .ok (.ifCond .ne 13, 3) := by decide +kernel
theorem dX7_hole_149 : decode cX7_hole 149 = .ok (.aload_n 0, 1) := by decide +kernel
theorem dX7_hole_150 : decode cX7_hole 150 = .ok (.iload 8, 2) := by decide +kernel
theorem dX7_hole_152 : decode cX7_hole 152 = .ok (.iconst 3, 1) := by decide +kernel
theorem dX7_hole_153 : decode cX7_hole 153 = .ok (.invokevirtual 110, 3) := by decide +kernel
theorem dX7_hole_156 : decode cX7_hole 156 = .ok (.ifCond .eq 5, 3) := by decide +kernel
theorem dX7_hole_159 : decode cX7_hole 159 = .ok (.iconst 0, 1) := by decide +kernel
theorem dX7_hole_160 : decode cX7_hole 160 = .ok (.ireturn, 1) := by decide +kernel
theorem dX7_hole_161 : decode cX7_hole 161 = .ok (.bipush 7, 2) := by decide +kernel
theorem dX7_hole_163 : decode cX7_hole 163 = .ok (.newarray .int, 2) := by decide +kernel
theorem dX7_hole_165 : decode cX7_hole 165 = .ok (.dup, 1) := by decide +kernel
theorem dX7_hole_166 : decode cX7_hole 166 = .ok (.iconst 0, 1) := by decide +kernel
theorem dX7_hole_167 : decode cX7_hole 167 = .ok (.iload_n 1, 1) := by decide +kernel
theorem dX7_hole_168 : decode cX7_hole 168 = .ok (.iastore, 1) := by decide +kernel
theorem dX7_hole_169 : decode cX7_hole 169 = .ok (.dup, 1) := by decide +kernel
theorem dX7_hole_170 : decode cX7_hole 170 = .ok (.iconst 1, 1) := by decide +kernel
theorem dX7_hole_171 : decode cX7_hole 171 = .ok (.iload_n 2, 1) := by decide +kernel
theorem dX7_hole_172 : decode cX7_hole 172 = .ok (.iastore, 1) := by decide +kernel
theorem dX7_hole_173 : decode cX7_hole 173 = .ok (.dup, 1) := by decide +kernel
theorem dX7_hole_174 : decode cX7_hole 174 = .ok (.iconst 2, 1) := by decide +kernel
theorem dX7_hole_175 : decode cX7_hole 175 = .ok (.iload_n 3, 1) := by decide +kernel
theorem dX7_hole_176 : decode cX7_hole 176 = .ok (.iastore, 1) := by decide +kernel
theorem dX7_hole_177 : decode cX7_hole 177 = .ok (.dup, 1) := by decide +kernel
theorem dX7_hole_178 : decode cX7_hole 178 = .ok (.iconst 3, 1) := by decide +kernel
theorem dX7_hole_179 : decode cX7_hole 179 = .ok (.iload 4, 2) := by decide +kernel
theorem dX7_hole_181 : decode cX7_hole 181 = .ok (.iastore, 1) := by decide +kernel
theorem dX7_hole_182 : decode cX7_hole 182 = .ok (.dup, 1) := by decide +kernel
theorem dX7_hole_183 : decode cX7_hole 183 = .ok (.iconst 4, 1) := by decide +kernel
theorem dX7_hole_184 : decode cX7_hole 184 = .ok (.iload 5, 2) := by decide +kernel
theorem dX7_hole_186 : decode cX7_hole 186 = .ok (.iastore, 1) := by decide +kernel
theorem dX7_hole_187 : decode cX7_hole 187 = .ok (.dup, 1) := by decide +kernel
theorem dX7_hole_188 : decode cX7_hole 188 = .ok (.iconst 5, 1) := by decide +kernel
theorem dX7_hole_189 : decode cX7_hole 189 = .ok (.iload 6, 2) := by decide +kernel
theorem dX7_hole_191 : decode cX7_hole 191 = .ok (.iastore, 1) := by decide +kernel
theorem dX7_hole_192 : decode cX7_hole 192 = .ok (.dup, 1) := by decide +kernel
theorem dX7_hole_193 : decode cX7_hole 193 = .ok (.bipush 6, 2) := by decide +kernel
theorem dX7_hole_195 : decode cX7_hole 195 = .ok (.iconst 0, 1) := by decide +kernel
theorem dX7_hole_196 : decode cX7_hole 196 = .ok (.iastore, 1) := by decide +kernel
theorem dX7_hole_197 : decode cX7_hole 197 = .ok (.astore 9, 2) := by decide +kernel
theorem dX7_hole_199 : decode cX7_hole 199 = .ok (.aload 9, 2) := by decide +kernel
theorem dX7_hole_201 : decode cX7_hole 201 = .ok (.iconst 0, 1) := by decide +kernel
theorem dX7_hole_202 : decode cX7_hole 202 = .ok (.aload_n 0, 1) := by decide +kernel
theorem dX7_hole_203 : decode cX7_hole 203 = .ok (.getfield 11, 3) := by decide +kernel
theorem dX7_hole_206 : decode cX7_hole 206 = .ok (.aload_n 0, 1) := by decide +kernel
theorem dX7_hole_207 : decode cX7_hole 207 = .ok (.getfield 86, 3) := by decide +kernel
theorem dX7_hole_210 : decode cX7_hole 210 = .ok (.aaload, 1) := by decide +kernel
theorem dX7_hole_211 : decode cX7_hole 211 = .ok (.iconst 0, 1) := by decide +kernel
theorem dX7_hole_212 : decode cX7_hole 212 = .ok (.aload 9, 2) := by decide +kernel
theorem dX7_hole_214 : decode cX7_hole 214 = .ok (.arraylength, 1) := by decide +kernel
theorem dX7_hole_215 : decode cX7_hole 215 = .ok (.invokestatic 118, 3) := by decide +kernel
theorem dX7_hole_218 : decode cX7_hole 218 = .ok (.iconst 0, 1) := by decide +kernel
theorem dX7_hole_219 : decode cX7_hole 219 = .ok (.istore 10, 2) := by decide +kernel
theorem dX7_hole_221 : decode cX7_hole 221 = .ok (.iload 10, 2) := by decide +kernel
theorem dX7_hole_223 : decode cX7_hole 223 = .ok (.sipush 600, 3) := by decide +kernel
theorem dX7_hole_226 : decode cX7_hole 226 = .ok (.if_icmp .ge 23, 3) := by decide +kernel
theorem dX7_hole_229 : decode cX7_hole 229 = .ok (.aload_n 0, 1) := by decide +kernel
theorem dX7_hole_230 : decode cX7_hole 230 = .ok (.getfield 16, 3) := by decide +kernel
theorem dX7_hole_233 : decode cX7_hole 233 = .ok (.aload_n 0, 1) := by decide +kernel
theorem dX7_hole_234 : decode cX7_hole 234 = .ok (.getfield 86, 3) := by decide +kernel
theorem dX7_hole_237 : decode cX7_hole 237 = .ok (.aaload, 1) := by decide +kernel
theorem dX7_hole_238 : decode cX7_hole 238 = .ok (.iload 10, 2) := by decide +kernel
theorem dX7_hole_240 : decode cX7_hole 240 = .ok (.bipush 46, 2) := by decide +kernel
theorem dX7_hole_242 : decode cX7_hole 242 = .ok (.castore, 1) := by decide +kernel
theorem dX7_hole_243 : decode cX7_hole 243 = .ok (.iinc 10 1, 3) := by decide +kernel
theorem dX7_hole_246 : decode cX7_hole 246 = .ok (.goto (-25), 3) := by decide +kernel
theorem dX7_hole_249 : decode cX7_hole 249 = .ok (.aload_n 0, 1) := by decide +kernel
theorem dX7_hole_250 : decode cX7_hole 250 = .ok (.dup, 1) := by decide +kernel
theorem dX7_hole_251 : decode cX7_hole 251 = .ok (.getfield 86, 3) := by decide +kernel
theorem dX7_hole_254 : decode cX7_hole 254 = .ok (.iconst 1, 1) := by decide +kernel
theorem dX7_hole_255 : decode cX7_hole 255 = .ok (.iadd, 1) := by decide +kernel
theorem dX7_hole_256 : decode cX7_hole 256 = .ok (.putfield 86, 3) := by decide +kernel
theorem dX7_hole_259 : decode cX7_hole 259 = .ok (.aload_n 0, 1) := by decide +kernel
theorem dX7_hole_260 : decode cX7_hole 260 = .ok (.getfield 86, 3) := by decide +kernel
theorem dX7_hole_263 : decode cX7_hole 263 = .ok (.iconst 1, 1) := by decide +kernel
theorem dX7_hole_264 : decode cX7_hole 264 = .ok (.isub, 1) := by decide +kernel
theorem dX7_hole_265 : decode cX7_hole 265 = .ok (.ireturn, 1) := by decide +kernel
set_option maxHeartbeats 4000000 in
set_option maxRecDepth 100000 in
theorem mhole_loop {p : Program} {l : Launch} {e : Env} {R : Room} {s : State} {m : MethodId} {args : Array Value} {below : List Frame} {meth : Method} {c : Code} {cells slots : Nat} {Q : State → Prop} {D : va_G} {A : Nat → Prop} {H0 : Heap} {cK cX : ClassId} {h0 k0 : Nat} {r : Nat → Nat} {gK : Nat → Option Nat} (hg : gK 0 = some k0) (hx : p.tables.exec = Jvm.exec) (hb : c.code = cX7_hole) (hts : ∀ w ∈ wsX7_hole, w.before args s = true) (hown : s.vm.findClass RX7 = some m.cls) (hK : va_K D vwCl [(cK, .array .char), (cX, .char)] s)
    (kk : ∀ (fk : Nat → Int32) (H : Heap) (locs : List Loc) (ls : Array Slot), va_P D vwCl [(h0, .inr (13, [.ref (r 0), .ref (r 1), .ref (r 2), .ref (r 3), .ref (r 4), .ref (r 5), .ref (r 6), .ref (r 7), .ref (r 8), .ref (r 9), .ref (r 10), .ref (r 11), .ref (r 12), .ref (r 13), .ref (r 14), .ref (r 15), .int 0, .int 0, .int 1, .int 110, .int 0, .int 0, .int 0, .int 0, .int 0, .int 0, .int 0, .int 0, .int 0, .int 0, .int 0])), (r 1, .inl (cK, 9, .inr (.inr (.inr (.inr gK))))), (k0, .inl (cX, 600, .inl fk))] H → va_D A [(h0, .inr (13, [.ref (r 0), .ref (r 1), .ref (r 2), .ref (r 3), .ref (r 4), .ref (r 5), .ref (r 6), .ref (r 7), .ref (r 8), .ref (r 9), .ref (r 10), .ref (r 11), .ref (r 12), .ref (r 13), .ref (r 14), .ref (r 15), .int 0, .int 0, .int 1, .int 110, .int 0, .int 0, .int 0, .int 0, .int 0, .int 0, .int 0, .int 0, .int 0, .int 0, .int 0])), (r 1, .inl (cK, 9, .inr (.inr (.inr (.inr gK))))), (k0, .inl (cX, 600, .inl fk))] → va_S A H0 H locs → lv_has ls 11 [(0, .ref h0)] → W p l e R s m args below meth c H locs cells slots Q (F0 m 249 ls [])) :
    ∀ (n j : Nat), j + n = 600 → ∀ (fk : Nat → Int32) (H : Heap) (locs : List Loc) (ls : Array Slot), va_P D vwCl [(h0, .inr (13, [.ref (r 0), .ref (r 1), .ref (r 2), .ref (r 3), .ref (r 4), .ref (r 5), .ref (r 6), .ref (r 7), .ref (r 8), .ref (r 9), .ref (r 10), .ref (r 11), .ref (r 12), .ref (r 13), .ref (r 14), .ref (r 15), .int 0, .int 0, .int 1, .int 110, .int 0, .int 0, .int 0, .int 0, .int 0, .int 0, .int 0, .int 0, .int 0, .int 0, .int 0])), (r 1, .inl (cK, 9, .inr (.inr (.inr (.inr gK))))), (k0, .inl (cX, 600, .inl fk))] H → va_D A [(h0, .inr (13, [.ref (r 0), .ref (r 1), .ref (r 2), .ref (r 3), .ref (r 4), .ref (r 5), .ref (r 6), .ref (r 7), .ref (r 8), .ref (r 9), .ref (r 10), .ref (r 11), .ref (r 12), .ref (r 13), .ref (r 14), .ref (r 15), .int 0, .int 0, .int 1, .int 110, .int 0, .int 0, .int 0, .int 0, .int 0, .int 0, .int 0, .int 0, .int 0, .int 0, .int 0])), (r 1, .inl (cK, 9, .inr (.inr (.inr (.inr gK))))), (k0, .inl (cX, 600, .inl fk))] → va_S A H0 H locs → lv_has ls 11 [(0, .ref h0), (10, .int (nI j))] → W p l e R s m args below meth c H locs cells slots Q (F0 m 221 ls []) := by
  intro n
  induction n with
  | zero =>
    intro j hj fk H locs ls hP hD hS hl
    obtain rfl : j = 600 := by omega
    refine lv_iload hx hb dX7_hole_221 (lv_at hl 1 rfl) ?_
    refine lv_sipush (v := 600) hx hb dX7_hole_223 (by decide) ?_
    refine lv_icmp_ge (tgt := 249) hx hb dX7_hole_226 (by decide) (fun _ => ?_) (fun c => absurd (by decide) c)
    exact kk fk H locs ls hP hD hS (lv_sub hl [0] rfl)
  | succ n ih =>
    intro j hj fk H locs ls hP hD hS hl
    have hj9 : j < 600 := by omega
    refine lv_iload hx hb dX7_hole_221 (lv_at hl 1 rfl) ?_
    refine lv_sipush (v := 600) hx hb dX7_hole_223 (by decide) ?_
    refine lv_icmp_ge (tgt := 249) hx hb dX7_hole_226 (by decide) (fun c => absurd c (nI_ge hj9 (by decide))) (fun _ => ?_)
    refine lv_aload_n hx hb dX7_hole_229 rfl (lv_at hl 0 rfl) ?_
    refine va_get (D := D) (ci := 13) (v := .ref (r 1)) (C := RX7) (T := TX7) (N := 31) hx hb hts (by decide +kernel) hown hK hP 0 rfl rfl 1 (by decide) (hts (.fieldLink RX7 16 "FairwayChanceryModel" "kinds" "[[C") (by decide +kernel)) (fun _ h9 => h9) rfl dX7_hole_230 ?_
    refine lv_aload_n hx hb dX7_hole_233 rfl (lv_at hl 0 rfl) ?_
    refine va_get (D := D) (ci := 13) (v := .int 0) (C := RX7) (T := TX7) (N := 31) hx hb hts (by decide +kernel) hown hK hP 0 rfl rfl 16 (by decide) (hts (.fieldLink RX7 86 "FairwayChanceryModel" "holes" "I") (by decide +kernel)) (fun _ h9 => h9) rfl dX7_hole_234 ?_
    refine va_aldqA hx hb hK hP 1 0 rfl rfl (vp_in_nI (n := 0) (by decide) (by decide)) dX7_hole_237 ?_
    have e0 : va_rf (gK (0 : Int32).toNatClampNeg) = .ref k0 := by rw [show (0 : Int32).toNatClampNeg = 0 from by decide, hg]; rfl
    rw [e0]
    refine lv_iload hx hb dX7_hole_238 (lv_at hl 1 rfl) ?_
    refine lv_bipush (v := 46) hx hb dX7_hole_240 (by decide) ?_
    refine va_cast hx hb hK hP hD hS 2 1 rfl rfl (vp_in_nI hj9 (by decide)) dX7_hole_242 (fun H locs hP hD hS => ?_)
    refine lv_iinc (v := nI (j + 1)) (lv' := [(10, .int (nI (j + 1))), (0, .ref h0)]) hx hb dX7_hole_243 hl (k := 1) rfl (nI_1 j) (by decide) rfl (fun ls hl => ?_)
    refine lv_goto (tgt := 221) hx hb dX7_hole_246 (by decide) ?_
    exact ih (j + 1) (by omega) _ H locs ls hP hD hS (lv_sub hl [1, 0] rfl)
/-- a fresh reference at h0, with the rows of its first hole -/
abbrev WH7 (h0 : Nat) (r : Nat → Nat) (c0 k0 : Nat) (cC cI cK cX : ClassId) (gC gK : Nat → Option Nat) (fI fk : Nat → Int32) : va_W := [(h0, .inr (13, [.ref (r 0), .ref (r 1), .ref (r 2), .ref (r 3), .ref (r 4), .ref (r 5), .ref (r 6), .ref (r 7), .ref (r 8), .ref (r 9), .ref (r 10), .ref (r 11), .ref (r 12), .ref (r 13), .ref (r 14), .ref (r 15), .int 0, .int 0, .int 1, .int 110, .int 0, .int 0, .int 0, .int 0, .int 0, .int 0, .int 0, .int 0, .int 0, .int 0, .int 0])), (r 0, .inl (cC, 9, .inr (.inr (.inr (.inr gC))))), (c0, .inl (cI, 7, .inl fI)), (r 1, .inl (cK, 9, .inr (.inr (.inr (.inr gK))))), (k0, .inl (cX, 600, .inl fk))]
abbrev KH7 (cC cI cK cX : ClassId) : List (ClassId × FieldType) := [(cC, .array .int), (cI, .int), (cK, .array .char), (cX, .char)]
def PH7 (D : va_G) (h0 : Nat) (r : Nat → Nat) (c0 k0 : Nat) (cC cI cK cX : ClassId) (gC gK : Nat → Option Nat) (fI fk : Nat → Int32) (sz : Nat) : State → Prop := fun U => U.heap.size = sz ∧ va_P D vwCl (WH7 h0 r c0 k0 cC cI cK cX gC gK fI fk) U.heap ∧ va_K D vwCl (KH7 cC cI cK cX) U ∧ va_D (fun _ => True) (WH7 h0 r c0 k0 cC cI cK cX gC gK fI fk)
theorem PH7.blind {D : va_G} {h0 : Nat} {r : Nat → Nat} {c0 k0 : Nat} {cC cI cK cX : ClassId} {gC gK : Nat → Option Nat} {fI fk : Nat → Int32} {sz : Nat} {U : State} {g : JFrame} {mk : MethodId} {a : Array Value} (h : PH7 D h0 r c0 k0 cC cI cK cX gC gK fI fk sz U) : PH7 D h0 r c0 k0 cC cI cK cX gC gK fI fk sz (U.calling g mk a) := ⟨h.1, h.2.1, va_K.moved (u := U) (U := U.calling g mk a) (Vm.Alike.refl U.vm) h.2.2.1, h.2.2.2⟩
set_option maxHeartbeats 4000000 in
set_option maxRecDepth 100000 in
theorem c_X7_hole (l : Launch) (D : va_G) (h0 : Nat) (r : Nat → Nat) (c0 k0 : Nat) (cC cI cK cX : ClassId) (gC gK : Nat → Option Nat) (fI fk : Nat → Int32) (hg1 : gC 0 = some c0) (hg2 : gK 0 = some k0) (sz : Nat) (a1 a2 a3 a4 a5 a6 : Int32) : Met l yX7_hole wsX7_hole ({ frames := 60, cells := 1, slots := 7, locals := 600 }) (va_Pc [.ref h0, .int a1, .int a2, .int a3, .int a4, .int a5, .int a6] (PH7 D h0 r c0 k0 cC cI cK cX gC gK fI fk sz)) (va_Qi (fun (r9 : Int32) (u : List Value) => (okHole a1 a2 a3 a4 a5 a6 ∧ r9 = 0 ∧ u[30]? = some (.int 0)) ∨ (¬ okHole a1 a2 a3 a4 a5 a6 ∧ u[30]? = some (.int 1))) (fun u t => va_P D vwCl [(h0, .inr (13, u))] t.heap) (va_A (WH7 h0 r c0 k0 cC cI cK cX gC gK fI fk) sz)) 1 7 (va_A (WH7 h0 r c0 k0 cC cI cK cX gC gK fI fk) sz) := by
  refine Met.ofW (cc := cX7_hole) (maxL := 11) (ret := (some .int)) (by decide +kernel) rfl ?_
  intro p e s m args below meth c s₁ B hml hv
  obtain ⟨rfl, hsz, hP, hK, hD0⟩ := hv
  have hx := B.exec
  have hb := B.bytes
  have hr := B.returns
  have hts := atoms_spec (ws := wsX7_hole) B.pre
  have hown : s.vm.findClass RX7 = some m.cls := findClass_of_methodNamed B.named
  have hlocks := B.notSynchronized
  subst hsz
  have hD := hD0.self (sz := s.heap.size)
  generalize hAe : va_A (WH7 h0 r c0 k0 cC cI cK cX gC gK fI fk) s.heap.size = A at hD ⊢
  have hA : ∀ q : Nat, s.heap.size ≤ q → A q := fun q h => by rw [← hAe]; exact Or.inr h
  have hS : va_S A s.heap s.heap [] := va_S.rf
  have hP : va_P D vwCl [(h0, .inr (13, [.ref (r 0), .ref (r 1), .ref (r 2), .ref (r 3), .ref (r 4), .ref (r 5), .ref (r 6), .ref (r 7), .ref (r 8), .ref (r 9), .ref (r 10), .ref (r 11), .ref (r 12), .ref (r 13), .ref (r 14), .ref (r 15), .int 0, .int 0, .int 1, .int 110, .int 0, .int 0, .int 0, .int 0, .int 0, .int 0, .int 0, .int 0, .int 0, .int 0, .int 0])), (r 0, .inl (cC, 9, .inr (.inr (.inr (.inr gC))))), (c0, .inl (cI, 7, .inl fI)), (r 1, .inl (cK, 9, .inr (.inr (.inr (.inr gK))))), (k0, .inl (cX, 600, .inl fk))] s.heap := hP
  have hD : va_D A [(h0, .inr (13, [.ref (r 0), .ref (r 1), .ref (r 2), .ref (r 3), .ref (r 4), .ref (r 5), .ref (r 6), .ref (r 7), .ref (r 8), .ref (r 9), .ref (r 10), .ref (r 11), .ref (r 12), .ref (r 13), .ref (r 14), .ref (r 15), .int 0, .int 0, .int 1, .int 110, .int 0, .int 0, .int 0, .int 0, .int 0, .int 0, .int 0, .int 0, .int 0, .int 0, .int 0])), (r 0, .inl (cC, 9, .inr (.inr (.inr (.inr gC))))), (c0, .inl (cI, 7, .inl fI)), (r 1, .inl (cK, 9, .inr (.inr (.inr (.inr gK))))), (k0, .inl (cX, 600, .inl fk))] := hD
  have hK : va_K D vwCl [(cC, .array .int), (cI, .int), (cK, .array .char), (cX, .char)] s := hK
  have hl := lv_entry ([.ref h0, .int a1, .int a2, .int a3, .int a4, .int a5, .int a6]) (n := 11) (Nat.le_of_ble_eq_true rfl)
  rw [lg_entry_eq]
  generalize (lg_sl ([.ref h0, .int a1, .int a2, .int a3, .int a4, .int a5, .int a6]) ++ List.replicate (11 - (lg_sl ([.ref h0, .int a1, .int a2, .int a3, .int a4, .int a5, .int a6])).length) Slot.unset).toArray = ls at hl ⊢
  have hl : lv_has ls 11 [(0, .ref h0), (1, .int a1), (2, .int a2), (3, .int a3), (4, .int a4), (5, .int a5), (6, .int a6)] := hl
  refine lv_iload_n hx hb dX7_hole_0 rfl (lv_at hl 1 rfl) ?_
  refine lv_iconst (v := 3) hx hb dX7_hole_1 (by decide) ?_
  refine lv_iconst (v := 5) hx hb dX7_hole_2 (by decide) ?_
  refine va_calli (va_runS (As := [.int a1, .int 3, .int 5]) (rest := []) ⟨hx, hb, hml, hown, hts⟩ (c_X7_isIn l s.heap.size a1 3 5) (va_cwS 3 hts gX7_hole_X7_isIn rfl rfl rfl (by decide +kernel) ⟨Nat.le_of_ble_eq_true rfl, Nat.le_of_ble_eq_true rfl⟩) ⟨fun a U g mk q => q, fun U hU hW => ⟨rfl, congrArg Array.size hU⟩⟩ rfl rfl hl.1 rfl (lv_room (Nat.le_of_ble_eq_true rfl)) dX7_hole_3 ⟨Nat.le_of_ble_eq_true rfl, Nat.le_of_ble_eq_true rfl⟩) hS (fun q h1 h2 => absurd h1 (Nat.not_lt.mpr h2)) (fun q h => hA q (Nat.le_trans hS.1 h)) (fun r1 u t H1 locs ht hvm hw hB hz1 hk1 hS => ?_)
  have hP := va_kept0 hP hk1
  generalize H1 = H at hP hS ⊢
  have hP : va_P D vwCl [(h0, .inr (13, [.ref (r 0), .ref (r 1), .ref (r 2), .ref (r 3), .ref (r 4), .ref (r 5), .ref (r 6), .ref (r 7), .ref (r 8), .ref (r 9), .ref (r 10), .ref (r 11), .ref (r 12), .ref (r 13), .ref (r 14), .ref (r 15), .int 0, .int 0, .int 1, .int 110, .int 0, .int 0, .int 0, .int 0, .int 0, .int 0, .int 0, .int 0, .int 0, .int 0, .int 0])), (r 0, .inl (cC, 9, .inr (.inr (.inr (.inr gC))))), (c0, .inl (cI, 7, .inl fI)), (r 1, .inl (cK, 9, .inr (.inr (.inr (.inr gK))))), (k0, .inl (cX, 600, .inl fk))] H := hP
  obtain rfl : r1 = bIn a1 3 5 := hw
  refine lv_if_eq (tgt := 42) hx hb dX7_hole_6 (by decide) (fun c_2 => ?_) (fun c_2 => ?_)
  · skip
    refine lv_iconst (v := 0) hx hb dX7_hole_42 (by decide) ?_
    refine lv_istore (lv' := [(7, .int 0), (0, .ref h0), (1, .int a1), (2, .int a2), (3, .int a3), (4, .int a4), (5, .int a5), (6, .int a6)]) hx hb dX7_hole_43 hl (by decide) rfl (fun ls hl => ?_)
    refine lv_iconst (v := 0) hx hb dX7_hole_45 (by decide) ?_
    refine lv_istore (lv' := [(8, .int 0), (7, .int 0), (0, .ref h0), (1, .int a1), (2, .int a2), (3, .int a3), (4, .int a4), (5, .int a5), (6, .int a6)]) hx hb dX7_hole_46 hl (by decide) rfl (fun ls hl => ?_)
    refine lv_iconst (v := 0) hx hb dX7_hole_48 (by decide) ?_
    refine lv_istore (lv' := [(9, .int 0), (8, .int 0), (7, .int 0), (0, .ref h0), (1, .int a1), (2, .int a2), (3, .int a3), (4, .int a4), (5, .int a5), (6, .int a6)]) hx hb dX7_hole_49 hl (by decide) rfl (fun ls hl => ?_)
    refine lv_iload hx hb dX7_hole_51 (lv_at hl 0 rfl) ?_
    refine lv_aload_n hx hb dX7_hole_53 rfl (lv_at hl 3 rfl) ?_
    refine va_get (D := D) (ci := 13) (v := .int 0) (C := RX7) (T := TX7) (N := 31) hx hb hts (by decide +kernel) hown hK hP 0 rfl rfl 16 (by decide) (hts (.fieldLink RX7 86 "FairwayChanceryModel" "holes" "I") (by decide +kernel)) (fun _ h9 => h9) rfl dX7_hole_54 ?_
    refine lv_icmp_ge (tgt := 89) hx hb dX7_hole_57 (by decide) (fun _ => ?_) (fun c => by first | exact absurd (by decide) c | exact absurd c (by decide))
    refine lv_aload_n hx hb dX7_hole_89 rfl (lv_at hl 3 rfl) ?_
    refine lv_iload hx hb dX7_hole_90 (lv_at hl 2 rfl) ?_
    refine lv_if_eq (tgt := 108) hx hb dX7_hole_92 (by decide) (fun _ => ?_) (fun c => by first | exact absurd (by decide) c | exact absurd c (by decide))
    refine lv_iconst (v := 1) hx hb dX7_hole_108 (by decide) ?_
    refine lv_goto (tgt := 113) hx hb dX7_hole_109 (by decide) ?_
    refine lv_iconst (v := 1) hx hb dX7_hole_113 (by decide) ?_
    have hPc := hP.sub (ws' := [(h0, .inr (13, [.ref (r 0), .ref (r 1), .ref (r 2), .ref (r 3), .ref (r 4), .ref (r 5), .ref (r 6), .ref (r 7), .ref (r 8), .ref (r 9), .ref (r 10), .ref (r 11), .ref (r 12), .ref (r 13), .ref (r 14), .ref (r 15), .int 0, .int 0, .int 1, .int 110, .int 0, .int 0, .int 0, .int 0, .int 0, .int 0, .int 0, .int 0, .int 0, .int 0, .int 0]))]) [0] rfl
    have hKc := hK.sub (tys' := []) [] rfl
    have hFc : ∀ q : Nat, rg1 h0 H.size q → A q := fun q h => h.elim (fun e => by rw [e]; exact hD.2 0 _ rfl) (fun h => hA q (Nat.le_trans hS.1 h))
    refine va_calli (va_runV (As := [.int 1, .int 1]) (rest := []) ⟨hx, hb, hml, hown, hts⟩ (c_X7_isThrown l D h0 r 0 H.size 1 1 (Or.inr rfl)) (cwV 2 hts gX7_hole_X7_isThrown rfl rfl rfl (by decide +kernel) ⟨Nat.le_of_ble_eq_true rfl, Nat.le_of_ble_eq_true rfl⟩) ⟨fun a U g mk q => ⟨q.1, PX7.blind q.2⟩, va_recv hK hP (ci := 13) (q0 := 0) rfl rfl, fun U hU hW => ⟨rfl, PX7.go hPc hKc hU hW⟩⟩ rfl rfl hl.1 rfl (lv_room (Nat.le_of_ble_eq_true rfl)) dX7_hole_114 ⟨Nat.le_of_ble_eq_true rfl, Nat.le_of_ble_eq_true rfl⟩) hS (fun q _ h => hFc q h) hFc (fun r5 u t H1 locs ht hvm hw hB hz1 hk1 hS => ?_)
    rw [ht, if_neg (by decide)] at hB
    have hP := va_keep1 hP hD hB hk1
    have hD := va_keep1D (e' := .inr (13, [.ref (r 0), .ref (r 1), .ref (r 2), .ref (r 3), .ref (r 4), .ref (r 5), .ref (r 6), .ref (r 7), .ref (r 8), .ref (r 9), .ref (r 10), .ref (r 11), .ref (r 12), .ref (r 13), .ref (r 14), .ref (r 15), .int 0, .int 0, .int 1, .int 110, .int 0, .int 0, .int 0, .int 0, .int 0, .int 0, .int 0, .int 0, .int 0, .int 0, .int 1])) hD
    generalize H1 = H at hP hS ⊢
    have hP : va_P D vwCl [(h0, .inr (13, [.ref (r 0), .ref (r 1), .ref (r 2), .ref (r 3), .ref (r 4), .ref (r 5), .ref (r 6), .ref (r 7), .ref (r 8), .ref (r 9), .ref (r 10), .ref (r 11), .ref (r 12), .ref (r 13), .ref (r 14), .ref (r 15), .int 0, .int 0, .int 1, .int 110, .int 0, .int 0, .int 0, .int 0, .int 0, .int 0, .int 0, .int 0, .int 0, .int 0, .int 1])), (r 0, .inl (cC, 9, .inr (.inr (.inr (.inr gC))))), (c0, .inl (cI, 7, .inl fI)), (r 1, .inl (cK, 9, .inr (.inr (.inr (.inr gK))))), (k0, .inl (cX, 600, .inl fk))] H := hP
    have hD : va_D A [(h0, .inr (13, [.ref (r 0), .ref (r 1), .ref (r 2), .ref (r 3), .ref (r 4), .ref (r 5), .ref (r 6), .ref (r 7), .ref (r 8), .ref (r 9), .ref (r 10), .ref (r 11), .ref (r 12), .ref (r 13), .ref (r 14), .ref (r 15), .int 0, .int 0, .int 1, .int 110, .int 0, .int 0, .int 0, .int 0, .int 0, .int 0, .int 0, .int 0, .int 0, .int 0, .int 1])), (r 0, .inl (cC, 9, .inr (.inr (.inr (.inr gC))))), (c0, .inl (cI, 7, .inl fI)), (r 1, .inl (cK, 9, .inr (.inr (.inr (.inr gK))))), (k0, .inl (cX, 600, .inl fk))] := hD
    obtain rfl : r5 = 1 := hw
    refine lv_if_ne (tgt := 159) hx hb dX7_hole_117 (by decide) (fun _ => ?_) (fun c => by first | exact absurd (by decide) c | exact absurd c (by decide))
    refine lv_iconst (v := 0) hx hb dX7_hole_159 (by decide) ?_
    have hP9 := hP.sub (ws' := [(h0, .inr (13, [.ref (r 0), .ref (r 1), .ref (r 2), .ref (r 3), .ref (r 4), .ref (r 5), .ref (r 6), .ref (r 7), .ref (r 8), .ref (r 9), .ref (r 10), .ref (r 11), .ref (r 12), .ref (r 13), .ref (r 14), .ref (r 15), .int 0, .int 0, .int 1, .int 110, .int 0, .int 0, .int 0, .int 0, .int 0, .int 0, .int 0, .int 0, .int 0, .int 0, .int 1]))]) [0] rfl
    refine W.widen (k := 1) (n := 7) (by decide) (by decide) ?_
    exact W.iret (v := 0) hx hb hr (fun t ht hW => ⟨⟨0, [.ref (r 0), .ref (r 1), .ref (r 2), .ref (r 3), .ref (r 4), .ref (r 5), .ref (r 6), .ref (r 7), .ref (r 8), .ref (r 9), .ref (r 10), .ref (r 11), .ref (r 12), .ref (r 13), .ref (r 14), .ref (r 15), .int 0, .int 0, .int 1, .int 110, .int 0, .int 0, .int 0, .int 0, .int 0, .int 0, .int 0, .int 0, .int 0, .int 0, .int 1], rfl, Or.inr ⟨fun q => by have h := c_2; obtain ⟨q1, q2, q3, q4, -⟩ := q; simp only [Int32.lt_iff_toInt_lt, Int32.le_iff_toInt_le, bIn_0, bCell_0, tI_0, tI_1, tI_3, tI_5, tI_6, tI_9, tI_19, tI_20, tI_29, tI_30, tI_36, tI_m1] at h; omega, rfl⟩, by rw [← ht] at hP9; exact hP9⟩, hS.F ht⟩) hS.2.2 dX7_hole_160
  · skip
    refine lv_iload_n hx hb dX7_hole_9 rfl (lv_at hl 2 rfl) ?_
    refine lv_iconst (v := 1) hx hb dX7_hole_10 (by decide) ?_
    refine lv_bipush (v := 9) hx hb dX7_hole_11 (by decide) ?_
    refine va_calli (va_runS (As := [.int a2, .int 1, .int 9]) (rest := []) ⟨hx, hb, hml, hown, hts⟩ (c_X7_isIn l H.size a2 1 9) (va_cwS 3 hts gX7_hole_X7_isIn rfl rfl rfl (by decide +kernel) ⟨Nat.le_of_ble_eq_true rfl, Nat.le_of_ble_eq_true rfl⟩) ⟨fun a U g mk q => q, fun U hU hW => ⟨rfl, congrArg Array.size hU⟩⟩ rfl rfl hl.1 rfl (lv_room (Nat.le_of_ble_eq_true rfl)) dX7_hole_13 ⟨Nat.le_of_ble_eq_true rfl, Nat.le_of_ble_eq_true rfl⟩) hS (fun q h1 h2 => absurd h1 (Nat.not_lt.mpr h2)) (fun q h => hA q (Nat.le_trans hS.1 h)) (fun r7 u t H1 locs ht hvm hw hB hz1 hk1 hS => ?_)
    have hP := va_kept0 hP hk1
    generalize H1 = H at hP hS ⊢
    have hP : va_P D vwCl [(h0, .inr (13, [.ref (r 0), .ref (r 1), .ref (r 2), .ref (r 3), .ref (r 4), .ref (r 5), .ref (r 6), .ref (r 7), .ref (r 8), .ref (r 9), .ref (r 10), .ref (r 11), .ref (r 12), .ref (r 13), .ref (r 14), .ref (r 15), .int 0, .int 0, .int 1, .int 110, .int 0, .int 0, .int 0, .int 0, .int 0, .int 0, .int 0, .int 0, .int 0, .int 0, .int 0])), (r 0, .inl (cC, 9, .inr (.inr (.inr (.inr gC))))), (c0, .inl (cI, 7, .inl fI)), (r 1, .inl (cK, 9, .inr (.inr (.inr (.inr gK))))), (k0, .inl (cX, 600, .inl fk))] H := hP
    obtain rfl : r7 = bIn a2 1 9 := hw
    refine lv_if_eq (tgt := 42) hx hb dX7_hole_16 (by decide) (fun c_8 => ?_) (fun c_8 => ?_)
    · skip
      refine lv_iconst (v := 0) hx hb dX7_hole_42 (by decide) ?_
      refine lv_istore (lv' := [(7, .int 0), (0, .ref h0), (1, .int a1), (2, .int a2), (3, .int a3), (4, .int a4), (5, .int a5), (6, .int a6)]) hx hb dX7_hole_43 hl (by decide) rfl (fun ls hl => ?_)
      refine lv_iconst (v := 0) hx hb dX7_hole_45 (by decide) ?_
      refine lv_istore (lv' := [(8, .int 0), (7, .int 0), (0, .ref h0), (1, .int a1), (2, .int a2), (3, .int a3), (4, .int a4), (5, .int a5), (6, .int a6)]) hx hb dX7_hole_46 hl (by decide) rfl (fun ls hl => ?_)
      refine lv_iconst (v := 0) hx hb dX7_hole_48 (by decide) ?_
      refine lv_istore (lv' := [(9, .int 0), (8, .int 0), (7, .int 0), (0, .ref h0), (1, .int a1), (2, .int a2), (3, .int a3), (4, .int a4), (5, .int a5), (6, .int a6)]) hx hb dX7_hole_49 hl (by decide) rfl (fun ls hl => ?_)
      refine lv_iload hx hb dX7_hole_51 (lv_at hl 0 rfl) ?_
      refine lv_aload_n hx hb dX7_hole_53 rfl (lv_at hl 3 rfl) ?_
      refine va_get (D := D) (ci := 13) (v := .int 0) (C := RX7) (T := TX7) (N := 31) hx hb hts (by decide +kernel) hown hK hP 0 rfl rfl 16 (by decide) (hts (.fieldLink RX7 86 "FairwayChanceryModel" "holes" "I") (by decide +kernel)) (fun _ h9 => h9) rfl dX7_hole_54 ?_
      refine lv_icmp_ge (tgt := 89) hx hb dX7_hole_57 (by decide) (fun _ => ?_) (fun c => by first | exact absurd (by decide) c | exact absurd c (by decide))
      refine lv_aload_n hx hb dX7_hole_89 rfl (lv_at hl 3 rfl) ?_
      refine lv_iload hx hb dX7_hole_90 (lv_at hl 2 rfl) ?_
      refine lv_if_eq (tgt := 108) hx hb dX7_hole_92 (by decide) (fun _ => ?_) (fun c => by first | exact absurd (by decide) c | exact absurd c (by decide))
      refine lv_iconst (v := 1) hx hb dX7_hole_108 (by decide) ?_
      refine lv_goto (tgt := 113) hx hb dX7_hole_109 (by decide) ?_
      refine lv_iconst (v := 1) hx hb dX7_hole_113 (by decide) ?_
      have hPc := hP.sub (ws' := [(h0, .inr (13, [.ref (r 0), .ref (r 1), .ref (r 2), .ref (r 3), .ref (r 4), .ref (r 5), .ref (r 6), .ref (r 7), .ref (r 8), .ref (r 9), .ref (r 10), .ref (r 11), .ref (r 12), .ref (r 13), .ref (r 14), .ref (r 15), .int 0, .int 0, .int 1, .int 110, .int 0, .int 0, .int 0, .int 0, .int 0, .int 0, .int 0, .int 0, .int 0, .int 0, .int 0]))]) [0] rfl
      have hKc := hK.sub (tys' := []) [] rfl
      have hFc : ∀ q : Nat, rg1 h0 H.size q → A q := fun q h => h.elim (fun e => by rw [e]; exact hD.2 0 _ rfl) (fun h => hA q (Nat.le_trans hS.1 h))
      refine va_calli (va_runV (As := [.int 1, .int 1]) (rest := []) ⟨hx, hb, hml, hown, hts⟩ (c_X7_isThrown l D h0 r 0 H.size 1 1 (Or.inr rfl)) (cwV 2 hts gX7_hole_X7_isThrown rfl rfl rfl (by decide +kernel) ⟨Nat.le_of_ble_eq_true rfl, Nat.le_of_ble_eq_true rfl⟩) ⟨fun a U g mk q => ⟨q.1, PX7.blind q.2⟩, va_recv hK hP (ci := 13) (q0 := 0) rfl rfl, fun U hU hW => ⟨rfl, PX7.go hPc hKc hU hW⟩⟩ rfl rfl hl.1 rfl (lv_room (Nat.le_of_ble_eq_true rfl)) dX7_hole_114 ⟨Nat.le_of_ble_eq_true rfl, Nat.le_of_ble_eq_true rfl⟩) hS (fun q _ h => hFc q h) hFc (fun r11 u t H1 locs ht hvm hw hB hz1 hk1 hS => ?_)
      rw [ht, if_neg (by decide)] at hB
      have hP := va_keep1 hP hD hB hk1
      have hD := va_keep1D (e' := .inr (13, [.ref (r 0), .ref (r 1), .ref (r 2), .ref (r 3), .ref (r 4), .ref (r 5), .ref (r 6), .ref (r 7), .ref (r 8), .ref (r 9), .ref (r 10), .ref (r 11), .ref (r 12), .ref (r 13), .ref (r 14), .ref (r 15), .int 0, .int 0, .int 1, .int 110, .int 0, .int 0, .int 0, .int 0, .int 0, .int 0, .int 0, .int 0, .int 0, .int 0, .int 1])) hD
      generalize H1 = H at hP hS ⊢
      have hP : va_P D vwCl [(h0, .inr (13, [.ref (r 0), .ref (r 1), .ref (r 2), .ref (r 3), .ref (r 4), .ref (r 5), .ref (r 6), .ref (r 7), .ref (r 8), .ref (r 9), .ref (r 10), .ref (r 11), .ref (r 12), .ref (r 13), .ref (r 14), .ref (r 15), .int 0, .int 0, .int 1, .int 110, .int 0, .int 0, .int 0, .int 0, .int 0, .int 0, .int 0, .int 0, .int 0, .int 0, .int 1])), (r 0, .inl (cC, 9, .inr (.inr (.inr (.inr gC))))), (c0, .inl (cI, 7, .inl fI)), (r 1, .inl (cK, 9, .inr (.inr (.inr (.inr gK))))), (k0, .inl (cX, 600, .inl fk))] H := hP
      have hD : va_D A [(h0, .inr (13, [.ref (r 0), .ref (r 1), .ref (r 2), .ref (r 3), .ref (r 4), .ref (r 5), .ref (r 6), .ref (r 7), .ref (r 8), .ref (r 9), .ref (r 10), .ref (r 11), .ref (r 12), .ref (r 13), .ref (r 14), .ref (r 15), .int 0, .int 0, .int 1, .int 110, .int 0, .int 0, .int 0, .int 0, .int 0, .int 0, .int 0, .int 0, .int 0, .int 0, .int 1])), (r 0, .inl (cC, 9, .inr (.inr (.inr (.inr gC))))), (c0, .inl (cI, 7, .inl fI)), (r 1, .inl (cK, 9, .inr (.inr (.inr (.inr gK))))), (k0, .inl (cX, 600, .inl fk))] := hD
      obtain rfl : r11 = 1 := hw
      refine lv_if_ne (tgt := 159) hx hb dX7_hole_117 (by decide) (fun _ => ?_) (fun c => by first | exact absurd (by decide) c | exact absurd c (by decide))
      refine lv_iconst (v := 0) hx hb dX7_hole_159 (by decide) ?_
      have hP9 := hP.sub (ws' := [(h0, .inr (13, [.ref (r 0), .ref (r 1), .ref (r 2), .ref (r 3), .ref (r 4), .ref (r 5), .ref (r 6), .ref (r 7), .ref (r 8), .ref (r 9), .ref (r 10), .ref (r 11), .ref (r 12), .ref (r 13), .ref (r 14), .ref (r 15), .int 0, .int 0, .int 1, .int 110, .int 0, .int 0, .int 0, .int 0, .int 0, .int 0, .int 0, .int 0, .int 0, .int 0, .int 1]))]) [0] rfl
      refine W.widen (k := 1) (n := 7) (by decide) (by decide) ?_
      exact W.iret (v := 0) hx hb hr (fun t ht hW => ⟨⟨0, [.ref (r 0), .ref (r 1), .ref (r 2), .ref (r 3), .ref (r 4), .ref (r 5), .ref (r 6), .ref (r 7), .ref (r 8), .ref (r 9), .ref (r 10), .ref (r 11), .ref (r 12), .ref (r 13), .ref (r 14), .ref (r 15), .int 0, .int 0, .int 1, .int 110, .int 0, .int 0, .int 0, .int 0, .int 0, .int 0, .int 0, .int 0, .int 0, .int 0, .int 1], rfl, Or.inr ⟨fun q => by have h := And.intro c_2 (c_8); obtain ⟨q1, q2, q3, q4, -⟩ := q; simp only [Int32.lt_iff_toInt_lt, Int32.le_iff_toInt_le, bIn_0, bCell_0, tI_0, tI_1, tI_3, tI_5, tI_6, tI_9, tI_19, tI_20, tI_29, tI_30, tI_36, tI_m1] at h; omega, rfl⟩, by rw [← ht] at hP9; exact hP9⟩, hS.F ht⟩) hS.2.2 dX7_hole_160
    · skip
      refine lv_iload_n hx hb dX7_hole_19 rfl (lv_at hl 3 rfl) ?_
      refine lv_iload hx hb dX7_hole_20 (lv_at hl 4 rfl) ?_
      refine va_calli (va_runS (As := [.int a3, .int a4]) (rest := []) ⟨hx, hb, hml, hown, hts⟩ (c_X7_isCell l H.size a3 a4) (va_cwS 2 hts gX7_hole_X7_isCell rfl rfl rfl (by decide +kernel) ⟨Nat.le_of_ble_eq_true rfl, Nat.le_of_ble_eq_true rfl⟩) ⟨fun a U g mk q => q, fun U hU hW => ⟨rfl, congrArg Array.size hU⟩⟩ rfl rfl hl.1 rfl (lv_room (Nat.le_of_ble_eq_true rfl)) dX7_hole_22 ⟨Nat.le_of_ble_eq_true rfl, Nat.le_of_ble_eq_true rfl⟩) hS (fun q h1 h2 => absurd h1 (Nat.not_lt.mpr h2)) (fun q h => hA q (Nat.le_trans hS.1 h)) (fun r13 u t H1 locs ht hvm hw hB hz1 hk1 hS => ?_)
      have hP := va_kept0 hP hk1
      generalize H1 = H at hP hS ⊢
      have hP : va_P D vwCl [(h0, .inr (13, [.ref (r 0), .ref (r 1), .ref (r 2), .ref (r 3), .ref (r 4), .ref (r 5), .ref (r 6), .ref (r 7), .ref (r 8), .ref (r 9), .ref (r 10), .ref (r 11), .ref (r 12), .ref (r 13), .ref (r 14), .ref (r 15), .int 0, .int 0, .int 1, .int 110, .int 0, .int 0, .int 0, .int 0, .int 0, .int 0, .int 0, .int 0, .int 0, .int 0, .int 0])), (r 0, .inl (cC, 9, .inr (.inr (.inr (.inr gC))))), (c0, .inl (cI, 7, .inl fI)), (r 1, .inl (cK, 9, .inr (.inr (.inr (.inr gK))))), (k0, .inl (cX, 600, .inl fk))] H := hP
      obtain rfl : r13 = bCell a3 a4 := hw
      refine lv_if_eq (tgt := 42) hx hb dX7_hole_25 (by decide) (fun c_14 => ?_) (fun c_14 => ?_)
      · skip
        refine lv_iconst (v := 0) hx hb dX7_hole_42 (by decide) ?_
        refine lv_istore (lv' := [(7, .int 0), (0, .ref h0), (1, .int a1), (2, .int a2), (3, .int a3), (4, .int a4), (5, .int a5), (6, .int a6)]) hx hb dX7_hole_43 hl (by decide) rfl (fun ls hl => ?_)
        refine lv_iconst (v := 0) hx hb dX7_hole_45 (by decide) ?_
        refine lv_istore (lv' := [(8, .int 0), (7, .int 0), (0, .ref h0), (1, .int a1), (2, .int a2), (3, .int a3), (4, .int a4), (5, .int a5), (6, .int a6)]) hx hb dX7_hole_46 hl (by decide) rfl (fun ls hl => ?_)
        refine lv_iconst (v := 0) hx hb dX7_hole_48 (by decide) ?_
        refine lv_istore (lv' := [(9, .int 0), (8, .int 0), (7, .int 0), (0, .ref h0), (1, .int a1), (2, .int a2), (3, .int a3), (4, .int a4), (5, .int a5), (6, .int a6)]) hx hb dX7_hole_49 hl (by decide) rfl (fun ls hl => ?_)
        refine lv_iload hx hb dX7_hole_51 (lv_at hl 0 rfl) ?_
        refine lv_aload_n hx hb dX7_hole_53 rfl (lv_at hl 3 rfl) ?_
        refine va_get (D := D) (ci := 13) (v := .int 0) (C := RX7) (T := TX7) (N := 31) hx hb hts (by decide +kernel) hown hK hP 0 rfl rfl 16 (by decide) (hts (.fieldLink RX7 86 "FairwayChanceryModel" "holes" "I") (by decide +kernel)) (fun _ h9 => h9) rfl dX7_hole_54 ?_
        refine lv_icmp_ge (tgt := 89) hx hb dX7_hole_57 (by decide) (fun _ => ?_) (fun c => by first | exact absurd (by decide) c | exact absurd c (by decide))
        refine lv_aload_n hx hb dX7_hole_89 rfl (lv_at hl 3 rfl) ?_
        refine lv_iload hx hb dX7_hole_90 (lv_at hl 2 rfl) ?_
        refine lv_if_eq (tgt := 108) hx hb dX7_hole_92 (by decide) (fun _ => ?_) (fun c => by first | exact absurd (by decide) c | exact absurd c (by decide))
        refine lv_iconst (v := 1) hx hb dX7_hole_108 (by decide) ?_
        refine lv_goto (tgt := 113) hx hb dX7_hole_109 (by decide) ?_
        refine lv_iconst (v := 1) hx hb dX7_hole_113 (by decide) ?_
        have hPc := hP.sub (ws' := [(h0, .inr (13, [.ref (r 0), .ref (r 1), .ref (r 2), .ref (r 3), .ref (r 4), .ref (r 5), .ref (r 6), .ref (r 7), .ref (r 8), .ref (r 9), .ref (r 10), .ref (r 11), .ref (r 12), .ref (r 13), .ref (r 14), .ref (r 15), .int 0, .int 0, .int 1, .int 110, .int 0, .int 0, .int 0, .int 0, .int 0, .int 0, .int 0, .int 0, .int 0, .int 0, .int 0]))]) [0] rfl
        have hKc := hK.sub (tys' := []) [] rfl
        have hFc : ∀ q : Nat, rg1 h0 H.size q → A q := fun q h => h.elim (fun e => by rw [e]; exact hD.2 0 _ rfl) (fun h => hA q (Nat.le_trans hS.1 h))
        refine va_calli (va_runV (As := [.int 1, .int 1]) (rest := []) ⟨hx, hb, hml, hown, hts⟩ (c_X7_isThrown l D h0 r 0 H.size 1 1 (Or.inr rfl)) (cwV 2 hts gX7_hole_X7_isThrown rfl rfl rfl (by decide +kernel) ⟨Nat.le_of_ble_eq_true rfl, Nat.le_of_ble_eq_true rfl⟩) ⟨fun a U g mk q => ⟨q.1, PX7.blind q.2⟩, va_recv hK hP (ci := 13) (q0 := 0) rfl rfl, fun U hU hW => ⟨rfl, PX7.go hPc hKc hU hW⟩⟩ rfl rfl hl.1 rfl (lv_room (Nat.le_of_ble_eq_true rfl)) dX7_hole_114 ⟨Nat.le_of_ble_eq_true rfl, Nat.le_of_ble_eq_true rfl⟩) hS (fun q _ h => hFc q h) hFc (fun r17 u t H1 locs ht hvm hw hB hz1 hk1 hS => ?_)
        rw [ht, if_neg (by decide)] at hB
        have hP := va_keep1 hP hD hB hk1
        have hD := va_keep1D (e' := .inr (13, [.ref (r 0), .ref (r 1), .ref (r 2), .ref (r 3), .ref (r 4), .ref (r 5), .ref (r 6), .ref (r 7), .ref (r 8), .ref (r 9), .ref (r 10), .ref (r 11), .ref (r 12), .ref (r 13), .ref (r 14), .ref (r 15), .int 0, .int 0, .int 1, .int 110, .int 0, .int 0, .int 0, .int 0, .int 0, .int 0, .int 0, .int 0, .int 0, .int 0, .int 1])) hD
        generalize H1 = H at hP hS ⊢
        have hP : va_P D vwCl [(h0, .inr (13, [.ref (r 0), .ref (r 1), .ref (r 2), .ref (r 3), .ref (r 4), .ref (r 5), .ref (r 6), .ref (r 7), .ref (r 8), .ref (r 9), .ref (r 10), .ref (r 11), .ref (r 12), .ref (r 13), .ref (r 14), .ref (r 15), .int 0, .int 0, .int 1, .int 110, .int 0, .int 0, .int 0, .int 0, .int 0, .int 0, .int 0, .int 0, .int 0, .int 0, .int 1])), (r 0, .inl (cC, 9, .inr (.inr (.inr (.inr gC))))), (c0, .inl (cI, 7, .inl fI)), (r 1, .inl (cK, 9, .inr (.inr (.inr (.inr gK))))), (k0, .inl (cX, 600, .inl fk))] H := hP
        have hD : va_D A [(h0, .inr (13, [.ref (r 0), .ref (r 1), .ref (r 2), .ref (r 3), .ref (r 4), .ref (r 5), .ref (r 6), .ref (r 7), .ref (r 8), .ref (r 9), .ref (r 10), .ref (r 11), .ref (r 12), .ref (r 13), .ref (r 14), .ref (r 15), .int 0, .int 0, .int 1, .int 110, .int 0, .int 0, .int 0, .int 0, .int 0, .int 0, .int 0, .int 0, .int 0, .int 0, .int 1])), (r 0, .inl (cC, 9, .inr (.inr (.inr (.inr gC))))), (c0, .inl (cI, 7, .inl fI)), (r 1, .inl (cK, 9, .inr (.inr (.inr (.inr gK))))), (k0, .inl (cX, 600, .inl fk))] := hD
        obtain rfl : r17 = 1 := hw
        refine lv_if_ne (tgt := 159) hx hb dX7_hole_117 (by decide) (fun _ => ?_) (fun c => by first | exact absurd (by decide) c | exact absurd c (by decide))
        refine lv_iconst (v := 0) hx hb dX7_hole_159 (by decide) ?_
        have hP9 := hP.sub (ws' := [(h0, .inr (13, [.ref (r 0), .ref (r 1), .ref (r 2), .ref (r 3), .ref (r 4), .ref (r 5), .ref (r 6), .ref (r 7), .ref (r 8), .ref (r 9), .ref (r 10), .ref (r 11), .ref (r 12), .ref (r 13), .ref (r 14), .ref (r 15), .int 0, .int 0, .int 1, .int 110, .int 0, .int 0, .int 0, .int 0, .int 0, .int 0, .int 0, .int 0, .int 0, .int 0, .int 1]))]) [0] rfl
        refine W.widen (k := 1) (n := 7) (by decide) (by decide) ?_
        exact W.iret (v := 0) hx hb hr (fun t ht hW => ⟨⟨0, [.ref (r 0), .ref (r 1), .ref (r 2), .ref (r 3), .ref (r 4), .ref (r 5), .ref (r 6), .ref (r 7), .ref (r 8), .ref (r 9), .ref (r 10), .ref (r 11), .ref (r 12), .ref (r 13), .ref (r 14), .ref (r 15), .int 0, .int 0, .int 1, .int 110, .int 0, .int 0, .int 0, .int 0, .int 0, .int 0, .int 0, .int 0, .int 0, .int 0, .int 1], rfl, Or.inr ⟨fun q => by have h := And.intro c_2 (And.intro c_8 (c_14)); obtain ⟨q1, q2, q3, q4, -⟩ := q; simp only [Int32.lt_iff_toInt_lt, Int32.le_iff_toInt_le, bIn_0, bCell_0, tI_0, tI_1, tI_3, tI_5, tI_6, tI_9, tI_19, tI_20, tI_29, tI_30, tI_36, tI_m1] at h; omega, rfl⟩, by rw [← ht] at hP9; exact hP9⟩, hS.F ht⟩) hS.2.2 dX7_hole_160
      · skip
        refine lv_iload hx hb dX7_hole_28 (lv_at hl 5 rfl) ?_
        refine lv_iload hx hb dX7_hole_30 (lv_at hl 6 rfl) ?_
        refine va_calli (va_runS (As := [.int a5, .int a6]) (rest := []) ⟨hx, hb, hml, hown, hts⟩ (c_X7_isCell l H.size a5 a6) (va_cwS 2 hts gX7_hole_X7_isCell rfl rfl rfl (by decide +kernel) ⟨Nat.le_of_ble_eq_true rfl, Nat.le_of_ble_eq_true rfl⟩) ⟨fun a U g mk q => q, fun U hU hW => ⟨rfl, congrArg Array.size hU⟩⟩ rfl rfl hl.1 rfl (lv_room (Nat.le_of_ble_eq_true rfl)) dX7_hole_32 ⟨Nat.le_of_ble_eq_true rfl, Nat.le_of_ble_eq_true rfl⟩) hS (fun q h1 h2 => absurd h1 (Nat.not_lt.mpr h2)) (fun q h => hA q (Nat.le_trans hS.1 h)) (fun r19 u t H1 locs ht hvm hw hB hz1 hk1 hS => ?_)
        have hP := va_kept0 hP hk1
        generalize H1 = H at hP hS ⊢
        have hP : va_P D vwCl [(h0, .inr (13, [.ref (r 0), .ref (r 1), .ref (r 2), .ref (r 3), .ref (r 4), .ref (r 5), .ref (r 6), .ref (r 7), .ref (r 8), .ref (r 9), .ref (r 10), .ref (r 11), .ref (r 12), .ref (r 13), .ref (r 14), .ref (r 15), .int 0, .int 0, .int 1, .int 110, .int 0, .int 0, .int 0, .int 0, .int 0, .int 0, .int 0, .int 0, .int 0, .int 0, .int 0])), (r 0, .inl (cC, 9, .inr (.inr (.inr (.inr gC))))), (c0, .inl (cI, 7, .inl fI)), (r 1, .inl (cK, 9, .inr (.inr (.inr (.inr gK))))), (k0, .inl (cX, 600, .inl fk))] H := hP
        obtain rfl : r19 = bCell a5 a6 := hw
        refine lv_if_eq (tgt := 42) hx hb dX7_hole_35 (by decide) (fun c_20 => ?_) (fun c_20 => ?_)
        · skip
          refine lv_iconst (v := 0) hx hb dX7_hole_42 (by decide) ?_
          refine lv_istore (lv' := [(7, .int 0), (0, .ref h0), (1, .int a1), (2, .int a2), (3, .int a3), (4, .int a4), (5, .int a5), (6, .int a6)]) hx hb dX7_hole_43 hl (by decide) rfl (fun ls hl => ?_)
          refine lv_iconst (v := 0) hx hb dX7_hole_45 (by decide) ?_
          refine lv_istore (lv' := [(8, .int 0), (7, .int 0), (0, .ref h0), (1, .int a1), (2, .int a2), (3, .int a3), (4, .int a4), (5, .int a5), (6, .int a6)]) hx hb dX7_hole_46 hl (by decide) rfl (fun ls hl => ?_)
          refine lv_iconst (v := 0) hx hb dX7_hole_48 (by decide) ?_
          refine lv_istore (lv' := [(9, .int 0), (8, .int 0), (7, .int 0), (0, .ref h0), (1, .int a1), (2, .int a2), (3, .int a3), (4, .int a4), (5, .int a5), (6, .int a6)]) hx hb dX7_hole_49 hl (by decide) rfl (fun ls hl => ?_)
          refine lv_iload hx hb dX7_hole_51 (lv_at hl 0 rfl) ?_
          refine lv_aload_n hx hb dX7_hole_53 rfl (lv_at hl 3 rfl) ?_
          refine va_get (D := D) (ci := 13) (v := .int 0) (C := RX7) (T := TX7) (N := 31) hx hb hts (by decide +kernel) hown hK hP 0 rfl rfl 16 (by decide) (hts (.fieldLink RX7 86 "FairwayChanceryModel" "holes" "I") (by decide +kernel)) (fun _ h9 => h9) rfl dX7_hole_54 ?_
          refine lv_icmp_ge (tgt := 89) hx hb dX7_hole_57 (by decide) (fun _ => ?_) (fun c => by first | exact absurd (by decide) c | exact absurd c (by decide))
          refine lv_aload_n hx hb dX7_hole_89 rfl (lv_at hl 3 rfl) ?_
          refine lv_iload hx hb dX7_hole_90 (lv_at hl 2 rfl) ?_
          refine lv_if_eq (tgt := 108) hx hb dX7_hole_92 (by decide) (fun _ => ?_) (fun c => by first | exact absurd (by decide) c | exact absurd c (by decide))
          refine lv_iconst (v := 1) hx hb dX7_hole_108 (by decide) ?_
          refine lv_goto (tgt := 113) hx hb dX7_hole_109 (by decide) ?_
          refine lv_iconst (v := 1) hx hb dX7_hole_113 (by decide) ?_
          have hPc := hP.sub (ws' := [(h0, .inr (13, [.ref (r 0), .ref (r 1), .ref (r 2), .ref (r 3), .ref (r 4), .ref (r 5), .ref (r 6), .ref (r 7), .ref (r 8), .ref (r 9), .ref (r 10), .ref (r 11), .ref (r 12), .ref (r 13), .ref (r 14), .ref (r 15), .int 0, .int 0, .int 1, .int 110, .int 0, .int 0, .int 0, .int 0, .int 0, .int 0, .int 0, .int 0, .int 0, .int 0, .int 0]))]) [0] rfl
          have hKc := hK.sub (tys' := []) [] rfl
          have hFc : ∀ q : Nat, rg1 h0 H.size q → A q := fun q h => h.elim (fun e => by rw [e]; exact hD.2 0 _ rfl) (fun h => hA q (Nat.le_trans hS.1 h))
          refine va_calli (va_runV (As := [.int 1, .int 1]) (rest := []) ⟨hx, hb, hml, hown, hts⟩ (c_X7_isThrown l D h0 r 0 H.size 1 1 (Or.inr rfl)) (cwV 2 hts gX7_hole_X7_isThrown rfl rfl rfl (by decide +kernel) ⟨Nat.le_of_ble_eq_true rfl, Nat.le_of_ble_eq_true rfl⟩) ⟨fun a U g mk q => ⟨q.1, PX7.blind q.2⟩, va_recv hK hP (ci := 13) (q0 := 0) rfl rfl, fun U hU hW => ⟨rfl, PX7.go hPc hKc hU hW⟩⟩ rfl rfl hl.1 rfl (lv_room (Nat.le_of_ble_eq_true rfl)) dX7_hole_114 ⟨Nat.le_of_ble_eq_true rfl, Nat.le_of_ble_eq_true rfl⟩) hS (fun q _ h => hFc q h) hFc (fun r23 u t H1 locs ht hvm hw hB hz1 hk1 hS => ?_)
          rw [ht, if_neg (by decide)] at hB
          have hP := va_keep1 hP hD hB hk1
          have hD := va_keep1D (e' := .inr (13, [.ref (r 0), .ref (r 1), .ref (r 2), .ref (r 3), .ref (r 4), .ref (r 5), .ref (r 6), .ref (r 7), .ref (r 8), .ref (r 9), .ref (r 10), .ref (r 11), .ref (r 12), .ref (r 13), .ref (r 14), .ref (r 15), .int 0, .int 0, .int 1, .int 110, .int 0, .int 0, .int 0, .int 0, .int 0, .int 0, .int 0, .int 0, .int 0, .int 0, .int 1])) hD
          generalize H1 = H at hP hS ⊢
          have hP : va_P D vwCl [(h0, .inr (13, [.ref (r 0), .ref (r 1), .ref (r 2), .ref (r 3), .ref (r 4), .ref (r 5), .ref (r 6), .ref (r 7), .ref (r 8), .ref (r 9), .ref (r 10), .ref (r 11), .ref (r 12), .ref (r 13), .ref (r 14), .ref (r 15), .int 0, .int 0, .int 1, .int 110, .int 0, .int 0, .int 0, .int 0, .int 0, .int 0, .int 0, .int 0, .int 0, .int 0, .int 1])), (r 0, .inl (cC, 9, .inr (.inr (.inr (.inr gC))))), (c0, .inl (cI, 7, .inl fI)), (r 1, .inl (cK, 9, .inr (.inr (.inr (.inr gK))))), (k0, .inl (cX, 600, .inl fk))] H := hP
          have hD : va_D A [(h0, .inr (13, [.ref (r 0), .ref (r 1), .ref (r 2), .ref (r 3), .ref (r 4), .ref (r 5), .ref (r 6), .ref (r 7), .ref (r 8), .ref (r 9), .ref (r 10), .ref (r 11), .ref (r 12), .ref (r 13), .ref (r 14), .ref (r 15), .int 0, .int 0, .int 1, .int 110, .int 0, .int 0, .int 0, .int 0, .int 0, .int 0, .int 0, .int 0, .int 0, .int 0, .int 1])), (r 0, .inl (cC, 9, .inr (.inr (.inr (.inr gC))))), (c0, .inl (cI, 7, .inl fI)), (r 1, .inl (cK, 9, .inr (.inr (.inr (.inr gK))))), (k0, .inl (cX, 600, .inl fk))] := hD
          obtain rfl : r23 = 1 := hw
          refine lv_if_ne (tgt := 159) hx hb dX7_hole_117 (by decide) (fun _ => ?_) (fun c => by first | exact absurd (by decide) c | exact absurd c (by decide))
          refine lv_iconst (v := 0) hx hb dX7_hole_159 (by decide) ?_
          have hP9 := hP.sub (ws' := [(h0, .inr (13, [.ref (r 0), .ref (r 1), .ref (r 2), .ref (r 3), .ref (r 4), .ref (r 5), .ref (r 6), .ref (r 7), .ref (r 8), .ref (r 9), .ref (r 10), .ref (r 11), .ref (r 12), .ref (r 13), .ref (r 14), .ref (r 15), .int 0, .int 0, .int 1, .int 110, .int 0, .int 0, .int 0, .int 0, .int 0, .int 0, .int 0, .int 0, .int 0, .int 0, .int 1]))]) [0] rfl
          refine W.widen (k := 1) (n := 7) (by decide) (by decide) ?_
          exact W.iret (v := 0) hx hb hr (fun t ht hW => ⟨⟨0, [.ref (r 0), .ref (r 1), .ref (r 2), .ref (r 3), .ref (r 4), .ref (r 5), .ref (r 6), .ref (r 7), .ref (r 8), .ref (r 9), .ref (r 10), .ref (r 11), .ref (r 12), .ref (r 13), .ref (r 14), .ref (r 15), .int 0, .int 0, .int 1, .int 110, .int 0, .int 0, .int 0, .int 0, .int 0, .int 0, .int 0, .int 0, .int 0, .int 0, .int 1], rfl, Or.inr ⟨fun q => by have h := And.intro c_2 (And.intro c_8 (And.intro c_14 (c_20))); obtain ⟨q1, q2, q3, q4, -⟩ := q; simp only [Int32.lt_iff_toInt_lt, Int32.le_iff_toInt_le, bIn_0, bCell_0, tI_0, tI_1, tI_3, tI_5, tI_6, tI_9, tI_19, tI_20, tI_29, tI_30, tI_36, tI_m1] at h; omega, rfl⟩, by rw [← ht] at hP9; exact hP9⟩, hS.F ht⟩) hS.2.2 dX7_hole_160
        · skip
          refine lv_iconst (v := 1) hx hb dX7_hole_38 (by decide) ?_
          refine lv_goto (tgt := 43) hx hb dX7_hole_39 (by decide) ?_
          refine lv_istore (lv' := [(7, .int 1), (0, .ref h0), (1, .int a1), (2, .int a2), (3, .int a3), (4, .int a4), (5, .int a5), (6, .int a6)]) hx hb dX7_hole_43 hl (by decide) rfl (fun ls hl => ?_)
          refine lv_iconst (v := 0) hx hb dX7_hole_45 (by decide) ?_
          refine lv_istore (lv' := [(8, .int 0), (7, .int 1), (0, .ref h0), (1, .int a1), (2, .int a2), (3, .int a3), (4, .int a4), (5, .int a5), (6, .int a6)]) hx hb dX7_hole_46 hl (by decide) rfl (fun ls hl => ?_)
          refine lv_iconst (v := 0) hx hb dX7_hole_48 (by decide) ?_
          refine lv_istore (lv' := [(9, .int 0), (8, .int 0), (7, .int 1), (0, .ref h0), (1, .int a1), (2, .int a2), (3, .int a3), (4, .int a4), (5, .int a5), (6, .int a6)]) hx hb dX7_hole_49 hl (by decide) rfl (fun ls hl => ?_)
          refine lv_iload hx hb dX7_hole_51 (lv_at hl 0 rfl) ?_
          refine lv_aload_n hx hb dX7_hole_53 rfl (lv_at hl 3 rfl) ?_
          refine va_get (D := D) (ci := 13) (v := .int 0) (C := RX7) (T := TX7) (N := 31) hx hb hts (by decide +kernel) hown hK hP 0 rfl rfl 16 (by decide) (hts (.fieldLink RX7 86 "FairwayChanceryModel" "holes" "I") (by decide +kernel)) (fun _ h9 => h9) rfl dX7_hole_54 ?_
          refine lv_icmp_ge (tgt := 89) hx hb dX7_hole_57 (by decide) (fun _ => ?_) (fun c => by first | exact absurd (by decide) c | exact absurd c (by decide))
          refine lv_aload_n hx hb dX7_hole_89 rfl (lv_at hl 3 rfl) ?_
          refine lv_iload hx hb dX7_hole_90 (lv_at hl 2 rfl) ?_
          refine lv_if_eq (tgt := 108) hx hb dX7_hole_92 (by decide) (fun c => by first | exact absurd c (by decide) | exact absurd (by decide) c) (fun _ => ?_)
          refine lv_iload_n hx hb dX7_hole_95 rfl (lv_at hl 6 rfl) ?_
          refine lv_iload hx hb dX7_hole_96 (lv_at hl 8 rfl) ?_
          refine lv_icmp_ne (tgt := 112) hx hb dX7_hole_98 (by decide) (fun c_27 => ?_) (fun c_27 => ?_)
          · skip
            refine lv_iconst (v := 0) hx hb dX7_hole_112 (by decide) ?_
            refine lv_iconst (v := 1) hx hb dX7_hole_113 (by decide) ?_
            have hPc := hP.sub (ws' := [(h0, .inr (13, [.ref (r 0), .ref (r 1), .ref (r 2), .ref (r 3), .ref (r 4), .ref (r 5), .ref (r 6), .ref (r 7), .ref (r 8), .ref (r 9), .ref (r 10), .ref (r 11), .ref (r 12), .ref (r 13), .ref (r 14), .ref (r 15), .int 0, .int 0, .int 1, .int 110, .int 0, .int 0, .int 0, .int 0, .int 0, .int 0, .int 0, .int 0, .int 0, .int 0, .int 0]))]) [0] rfl
            have hKc := hK.sub (tys' := []) [] rfl
            have hFc : ∀ q : Nat, rg1 h0 H.size q → A q := fun q h => h.elim (fun e => by rw [e]; exact hD.2 0 _ rfl) (fun h => hA q (Nat.le_trans hS.1 h))
            refine va_calli (va_runV (As := [.int 0, .int 1]) (rest := []) ⟨hx, hb, hml, hown, hts⟩ (c_X7_isThrown l D h0 r 0 H.size 0 1 (Or.inl rfl)) (cwV 2 hts gX7_hole_X7_isThrown rfl rfl rfl (by decide +kernel) ⟨Nat.le_of_ble_eq_true rfl, Nat.le_of_ble_eq_true rfl⟩) ⟨fun a U g mk q => ⟨q.1, PX7.blind q.2⟩, va_recv hK hP (ci := 13) (q0 := 0) rfl rfl, fun U hU hW => ⟨rfl, PX7.go hPc hKc hU hW⟩⟩ rfl rfl hl.1 rfl (lv_room (Nat.le_of_ble_eq_true rfl)) dX7_hole_114 ⟨Nat.le_of_ble_eq_true rfl, Nat.le_of_ble_eq_true rfl⟩) hS (fun q _ h => hFc q h) hFc (fun r28 u t H1 locs ht hvm hw hB hz1 hk1 hS => ?_)
            rw [ht, if_pos (by decide)] at hB
            have hP := va_keep1 hP hD hB hk1
            have hD := va_keep1D (e' := .inr (13, [.ref (r 0), .ref (r 1), .ref (r 2), .ref (r 3), .ref (r 4), .ref (r 5), .ref (r 6), .ref (r 7), .ref (r 8), .ref (r 9), .ref (r 10), .ref (r 11), .ref (r 12), .ref (r 13), .ref (r 14), .ref (r 15), .int 0, .int 0, .int 1, .int 110, .int 0, .int 0, .int 0, .int 0, .int 0, .int 0, .int 0, .int 0, .int 0, .int 0, .int 0])) hD
            generalize H1 = H at hP hS ⊢
            have hP : va_P D vwCl [(h0, .inr (13, [.ref (r 0), .ref (r 1), .ref (r 2), .ref (r 3), .ref (r 4), .ref (r 5), .ref (r 6), .ref (r 7), .ref (r 8), .ref (r 9), .ref (r 10), .ref (r 11), .ref (r 12), .ref (r 13), .ref (r 14), .ref (r 15), .int 0, .int 0, .int 1, .int 110, .int 0, .int 0, .int 0, .int 0, .int 0, .int 0, .int 0, .int 0, .int 0, .int 0, .int 0])), (r 0, .inl (cC, 9, .inr (.inr (.inr (.inr gC))))), (c0, .inl (cI, 7, .inl fI)), (r 1, .inl (cK, 9, .inr (.inr (.inr (.inr gK))))), (k0, .inl (cX, 600, .inl fk))] H := hP
            have hD : va_D A [(h0, .inr (13, [.ref (r 0), .ref (r 1), .ref (r 2), .ref (r 3), .ref (r 4), .ref (r 5), .ref (r 6), .ref (r 7), .ref (r 8), .ref (r 9), .ref (r 10), .ref (r 11), .ref (r 12), .ref (r 13), .ref (r 14), .ref (r 15), .int 0, .int 0, .int 1, .int 110, .int 0, .int 0, .int 0, .int 0, .int 0, .int 0, .int 0, .int 0, .int 0, .int 0, .int 0])), (r 0, .inl (cC, 9, .inr (.inr (.inr (.inr gC))))), (c0, .inl (cI, 7, .inl fI)), (r 1, .inl (cK, 9, .inr (.inr (.inr (.inr gK))))), (k0, .inl (cX, 600, .inl fk))] := hD
            obtain rfl : r28 = 0 := hw
            refine lv_if_ne (tgt := 159) hx hb dX7_hole_117 (by decide) (fun c => by first | exact absurd c (by decide) | exact absurd (by decide) c) (fun _ => ?_)
            refine lv_aload_n hx hb dX7_hole_120 rfl (lv_at hl 3 rfl) ?_
            refine lv_aload_n hx hb dX7_hole_121 rfl (lv_at hl 3 rfl) ?_
            refine va_get (D := D) (ci := 13) (v := .int 0) (C := RX7) (T := TX7) (N := 31) hx hb hts (by decide +kernel) hown hK hP 0 rfl rfl 16 (by decide) (hts (.fieldLink RX7 86 "FairwayChanceryModel" "holes" "I") (by decide +kernel)) (fun _ h9 => h9) rfl dX7_hole_122 ?_
            refine lv_bipush (v := 9) hx hb dX7_hole_125 (by decide) ?_
            refine lv_icmp_eq (tgt := 137) hx hb dX7_hole_127 (by decide) (fun c => by first | exact absurd c (by decide) | exact absurd (by decide) c) (fun _ => ?_)
            refine lv_aload_n hx hb dX7_hole_130 rfl (lv_at hl 3 rfl) ?_
            refine va_get (D := D) (ci := 13) (v := .int 0) (C := RX7) (T := TX7) (N := 31) hx hb hts (by decide +kernel) hown hK hP 0 rfl rfl 21 (by decide) (hts (.fieldLink RX7 114 "FairwayChanceryModel" "wasBegun" "Z") (by decide +kernel)) (fun _ h9 => h9) rfl dX7_hole_131 ?_
            refine lv_if_eq (tgt := 141) hx hb dX7_hole_134 (by decide) (fun _ => ?_) (fun c => by first | exact absurd (by decide) c | exact absurd c (by decide))
            refine lv_iconst (v := 0) hx hb dX7_hole_141 (by decide) ?_
            refine lv_iconst (v := 2) hx hb dX7_hole_142 (by decide) ?_
            have hPc := hP.sub (ws' := [(h0, .inr (13, [.ref (r 0), .ref (r 1), .ref (r 2), .ref (r 3), .ref (r 4), .ref (r 5), .ref (r 6), .ref (r 7), .ref (r 8), .ref (r 9), .ref (r 10), .ref (r 11), .ref (r 12), .ref (r 13), .ref (r 14), .ref (r 15), .int 0, .int 0, .int 1, .int 110, .int 0, .int 0, .int 0, .int 0, .int 0, .int 0, .int 0, .int 0, .int 0, .int 0, .int 0]))]) [0] rfl
            have hKc := hK.sub (tys' := []) [] rfl
            have hFc : ∀ q : Nat, rg1 h0 H.size q → A q := fun q h => h.elim (fun e => by rw [e]; exact hD.2 0 _ rfl) (fun h => hA q (Nat.le_trans hS.1 h))
            refine va_calli (va_runV (As := [.int 0, .int 2]) (rest := []) ⟨hx, hb, hml, hown, hts⟩ (c_X7_isThrown l D h0 r 0 H.size 0 2 (Or.inl rfl)) (cwV 2 hts gX7_hole_X7_isThrown rfl rfl rfl (by decide +kernel) ⟨Nat.le_of_ble_eq_true rfl, Nat.le_of_ble_eq_true rfl⟩) ⟨fun a U g mk q => ⟨q.1, PX7.blind q.2⟩, va_recv hK hP (ci := 13) (q0 := 0) rfl rfl, fun U hU hW => ⟨rfl, PX7.go hPc hKc hU hW⟩⟩ rfl rfl hl.1 rfl (lv_room (Nat.le_of_ble_eq_true rfl)) dX7_hole_143 ⟨Nat.le_of_ble_eq_true rfl, Nat.le_of_ble_eq_true rfl⟩) hS (fun q _ h => hFc q h) hFc (fun r32 u t H1 locs ht hvm hw hB hz1 hk1 hS => ?_)
            rw [ht, if_pos (by decide)] at hB
            have hP := va_keep1 hP hD hB hk1
            have hD := va_keep1D (e' := .inr (13, [.ref (r 0), .ref (r 1), .ref (r 2), .ref (r 3), .ref (r 4), .ref (r 5), .ref (r 6), .ref (r 7), .ref (r 8), .ref (r 9), .ref (r 10), .ref (r 11), .ref (r 12), .ref (r 13), .ref (r 14), .ref (r 15), .int 0, .int 0, .int 1, .int 110, .int 0, .int 0, .int 0, .int 0, .int 0, .int 0, .int 0, .int 0, .int 0, .int 0, .int 0])) hD
            generalize H1 = H at hP hS ⊢
            have hP : va_P D vwCl [(h0, .inr (13, [.ref (r 0), .ref (r 1), .ref (r 2), .ref (r 3), .ref (r 4), .ref (r 5), .ref (r 6), .ref (r 7), .ref (r 8), .ref (r 9), .ref (r 10), .ref (r 11), .ref (r 12), .ref (r 13), .ref (r 14), .ref (r 15), .int 0, .int 0, .int 1, .int 110, .int 0, .int 0, .int 0, .int 0, .int 0, .int 0, .int 0, .int 0, .int 0, .int 0, .int 0])), (r 0, .inl (cC, 9, .inr (.inr (.inr (.inr gC))))), (c0, .inl (cI, 7, .inl fI)), (r 1, .inl (cK, 9, .inr (.inr (.inr (.inr gK))))), (k0, .inl (cX, 600, .inl fk))] H := hP
            have hD : va_D A [(h0, .inr (13, [.ref (r 0), .ref (r 1), .ref (r 2), .ref (r 3), .ref (r 4), .ref (r 5), .ref (r 6), .ref (r 7), .ref (r 8), .ref (r 9), .ref (r 10), .ref (r 11), .ref (r 12), .ref (r 13), .ref (r 14), .ref (r 15), .int 0, .int 0, .int 1, .int 110, .int 0, .int 0, .int 0, .int 0, .int 0, .int 0, .int 0, .int 0, .int 0, .int 0, .int 0])), (r 0, .inl (cC, 9, .inr (.inr (.inr (.inr gC))))), (c0, .inl (cI, 7, .inl fI)), (r 1, .inl (cK, 9, .inr (.inr (.inr (.inr gK))))), (k0, .inl (cX, 600, .inl fk))] := hD
            obtain rfl : r32 = 0 := hw
            refine lv_if_ne (tgt := 159) hx hb dX7_hole_146 (by decide) (fun c => by first | exact absurd c (by decide) | exact absurd (by decide) c) (fun _ => ?_)
            refine lv_aload_n hx hb dX7_hole_149 rfl (lv_at hl 3 rfl) ?_
            refine lv_iload hx hb dX7_hole_150 (lv_at hl 1 rfl) ?_
            refine lv_iconst (v := 3) hx hb dX7_hole_152 (by decide) ?_
            have hPc := hP.sub (ws' := [(h0, .inr (13, [.ref (r 0), .ref (r 1), .ref (r 2), .ref (r 3), .ref (r 4), .ref (r 5), .ref (r 6), .ref (r 7), .ref (r 8), .ref (r 9), .ref (r 10), .ref (r 11), .ref (r 12), .ref (r 13), .ref (r 14), .ref (r 15), .int 0, .int 0, .int 1, .int 110, .int 0, .int 0, .int 0, .int 0, .int 0, .int 0, .int 0, .int 0, .int 0, .int 0, .int 0]))]) [0] rfl
            have hKc := hK.sub (tys' := []) [] rfl
            have hFc : ∀ q : Nat, rg1 h0 H.size q → A q := fun q h => h.elim (fun e => by rw [e]; exact hD.2 0 _ rfl) (fun h => hA q (Nat.le_trans hS.1 h))
            refine va_calli (va_runV (As := [.int 0, .int 3]) (rest := []) ⟨hx, hb, hml, hown, hts⟩ (c_X7_isThrown l D h0 r 0 H.size 0 3 (Or.inl rfl)) (cwV 2 hts gX7_hole_X7_isThrown rfl rfl rfl (by decide +kernel) ⟨Nat.le_of_ble_eq_true rfl, Nat.le_of_ble_eq_true rfl⟩) ⟨fun a U g mk q => ⟨q.1, PX7.blind q.2⟩, va_recv hK hP (ci := 13) (q0 := 0) rfl rfl, fun U hU hW => ⟨rfl, PX7.go hPc hKc hU hW⟩⟩ rfl rfl hl.1 rfl (lv_room (Nat.le_of_ble_eq_true rfl)) dX7_hole_153 ⟨Nat.le_of_ble_eq_true rfl, Nat.le_of_ble_eq_true rfl⟩) hS (fun q _ h => hFc q h) hFc (fun r34 u t H1 locs ht hvm hw hB hz1 hk1 hS => ?_)
            rw [ht, if_pos (by decide)] at hB
            have hP := va_keep1 hP hD hB hk1
            have hD := va_keep1D (e' := .inr (13, [.ref (r 0), .ref (r 1), .ref (r 2), .ref (r 3), .ref (r 4), .ref (r 5), .ref (r 6), .ref (r 7), .ref (r 8), .ref (r 9), .ref (r 10), .ref (r 11), .ref (r 12), .ref (r 13), .ref (r 14), .ref (r 15), .int 0, .int 0, .int 1, .int 110, .int 0, .int 0, .int 0, .int 0, .int 0, .int 0, .int 0, .int 0, .int 0, .int 0, .int 0])) hD
            generalize H1 = H at hP hS ⊢
            have hP : va_P D vwCl [(h0, .inr (13, [.ref (r 0), .ref (r 1), .ref (r 2), .ref (r 3), .ref (r 4), .ref (r 5), .ref (r 6), .ref (r 7), .ref (r 8), .ref (r 9), .ref (r 10), .ref (r 11), .ref (r 12), .ref (r 13), .ref (r 14), .ref (r 15), .int 0, .int 0, .int 1, .int 110, .int 0, .int 0, .int 0, .int 0, .int 0, .int 0, .int 0, .int 0, .int 0, .int 0, .int 0])), (r 0, .inl (cC, 9, .inr (.inr (.inr (.inr gC))))), (c0, .inl (cI, 7, .inl fI)), (r 1, .inl (cK, 9, .inr (.inr (.inr (.inr gK))))), (k0, .inl (cX, 600, .inl fk))] H := hP
            have hD : va_D A [(h0, .inr (13, [.ref (r 0), .ref (r 1), .ref (r 2), .ref (r 3), .ref (r 4), .ref (r 5), .ref (r 6), .ref (r 7), .ref (r 8), .ref (r 9), .ref (r 10), .ref (r 11), .ref (r 12), .ref (r 13), .ref (r 14), .ref (r 15), .int 0, .int 0, .int 1, .int 110, .int 0, .int 0, .int 0, .int 0, .int 0, .int 0, .int 0, .int 0, .int 0, .int 0, .int 0])), (r 0, .inl (cC, 9, .inr (.inr (.inr (.inr gC))))), (c0, .inl (cI, 7, .inl fI)), (r 1, .inl (cK, 9, .inr (.inr (.inr (.inr gK))))), (k0, .inl (cX, 600, .inl fk))] := hD
            obtain rfl : r34 = 0 := hw
            refine lv_if_eq (tgt := 161) hx hb dX7_hole_156 (by decide) (fun _ => ?_) (fun c => by first | exact absurd (by decide) c | exact absurd c (by decide))
            refine lv_bipush (v := 7) hx hb dX7_hole_161 (by decide) ?_
            refine va_newa (atype := .int) (ty := .int) (a0 := (7, .inl (fun _ => 0))) hx hb (hts (.arrayClass .int) (by decide +kernel)) rfl hK hP hD hS hA (fun cA => rfl) (by decide) (N' := 7) (by decide) (by decide) (Nat.le_of_ble_eq_true rfl) (Nat.le_of_ble_eq_true rfl) dX7_hole_163 (fun q9 c9 H hK hP hD hS => ?_)
            have hK : va_K D vwCl [(cC, .array .int), (cI, .int), (cK, .array .char), (cX, .char), (c9, .int)] s := hK
            have hP : va_P D vwCl [(h0, .inr (13, [.ref (r 0), .ref (r 1), .ref (r 2), .ref (r 3), .ref (r 4), .ref (r 5), .ref (r 6), .ref (r 7), .ref (r 8), .ref (r 9), .ref (r 10), .ref (r 11), .ref (r 12), .ref (r 13), .ref (r 14), .ref (r 15), .int 0, .int 0, .int 1, .int 110, .int 0, .int 0, .int 0, .int 0, .int 0, .int 0, .int 0, .int 0, .int 0, .int 0, .int 0])), (r 0, .inl (cC, 9, .inr (.inr (.inr (.inr gC))))), (c0, .inl (cI, 7, .inl fI)), (r 1, .inl (cK, 9, .inr (.inr (.inr (.inr gK))))), (k0, .inl (cX, 600, .inl fk)), (q9, .inl (c9, 7, .inl (fun _ => 0)))] H := hP
            have hD : va_D A [(h0, .inr (13, [.ref (r 0), .ref (r 1), .ref (r 2), .ref (r 3), .ref (r 4), .ref (r 5), .ref (r 6), .ref (r 7), .ref (r 8), .ref (r 9), .ref (r 10), .ref (r 11), .ref (r 12), .ref (r 13), .ref (r 14), .ref (r 15), .int 0, .int 0, .int 1, .int 110, .int 0, .int 0, .int 0, .int 0, .int 0, .int 0, .int 0, .int 0, .int 0, .int 0, .int 0])), (r 0, .inl (cC, 9, .inr (.inr (.inr (.inr gC))))), (c0, .inl (cI, 7, .inl fI)), (r 1, .inl (cK, 9, .inr (.inr (.inr (.inr gK))))), (k0, .inl (cX, 600, .inl fk)), (q9, .inl (c9, 7, .inl (fun _ => 0)))] := hD
            refine W.widen (k := 1) (n := 7) (by decide) (by decide) ?_
            refine lv_dup hx hb dX7_hole_165 rfl ?_
            refine lv_iconst (v := 0) hx hb dX7_hole_166 (by decide) ?_
            refine lv_iload_n hx hb dX7_hole_167 rfl (lv_at hl 4 rfl) ?_
            refine va_iast hx hb hK hP hD hS 5 4 rfl rfl (vp_in_nI (n := 0) (by decide) (by decide)) dX7_hole_168 (fun H locs hP hD hS => ?_)
            have hP : va_P D vwCl [(h0, .inr (13, [.ref (r 0), .ref (r 1), .ref (r 2), .ref (r 3), .ref (r 4), .ref (r 5), .ref (r 6), .ref (r 7), .ref (r 8), .ref (r 9), .ref (r 10), .ref (r 11), .ref (r 12), .ref (r 13), .ref (r 14), .ref (r 15), .int 0, .int 0, .int 1, .int 110, .int 0, .int 0, .int 0, .int 0, .int 0, .int 0, .int 0, .int 0, .int 0, .int 0, .int 0])), (r 0, .inl (cC, 9, .inr (.inr (.inr (.inr gC))))), (c0, .inl (cI, 7, .inl fI)), (r 1, .inl (cK, 9, .inr (.inr (.inr (.inr gK))))), (k0, .inl (cX, 600, .inl fk)), (q9, .inl (c9, 7, .inl (upd (fun _ => 0) (0 : Int32).toNatClampNeg a1)))] H := hP
            have hD : va_D A [(h0, .inr (13, [.ref (r 0), .ref (r 1), .ref (r 2), .ref (r 3), .ref (r 4), .ref (r 5), .ref (r 6), .ref (r 7), .ref (r 8), .ref (r 9), .ref (r 10), .ref (r 11), .ref (r 12), .ref (r 13), .ref (r 14), .ref (r 15), .int 0, .int 0, .int 1, .int 110, .int 0, .int 0, .int 0, .int 0, .int 0, .int 0, .int 0, .int 0, .int 0, .int 0, .int 0])), (r 0, .inl (cC, 9, .inr (.inr (.inr (.inr gC))))), (c0, .inl (cI, 7, .inl fI)), (r 1, .inl (cK, 9, .inr (.inr (.inr (.inr gK))))), (k0, .inl (cX, 600, .inl fk)), (q9, .inl (c9, 7, .inl (upd (fun _ => 0) (0 : Int32).toNatClampNeg a1)))] := hD
            generalize upd (fun _ => 0) (0 : Int32).toNatClampNeg a1 = f36 at hP hD
            have hP : va_P D vwCl [(h0, .inr (13, [.ref (r 0), .ref (r 1), .ref (r 2), .ref (r 3), .ref (r 4), .ref (r 5), .ref (r 6), .ref (r 7), .ref (r 8), .ref (r 9), .ref (r 10), .ref (r 11), .ref (r 12), .ref (r 13), .ref (r 14), .ref (r 15), .int 0, .int 0, .int 1, .int 110, .int 0, .int 0, .int 0, .int 0, .int 0, .int 0, .int 0, .int 0, .int 0, .int 0, .int 0])), (r 0, .inl (cC, 9, .inr (.inr (.inr (.inr gC))))), (c0, .inl (cI, 7, .inl fI)), (r 1, .inl (cK, 9, .inr (.inr (.inr (.inr gK))))), (k0, .inl (cX, 600, .inl fk)), (q9, .inl (c9, 7, .inl f36))] H := hP
            have hD : va_D A [(h0, .inr (13, [.ref (r 0), .ref (r 1), .ref (r 2), .ref (r 3), .ref (r 4), .ref (r 5), .ref (r 6), .ref (r 7), .ref (r 8), .ref (r 9), .ref (r 10), .ref (r 11), .ref (r 12), .ref (r 13), .ref (r 14), .ref (r 15), .int 0, .int 0, .int 1, .int 110, .int 0, .int 0, .int 0, .int 0, .int 0, .int 0, .int 0, .int 0, .int 0, .int 0, .int 0])), (r 0, .inl (cC, 9, .inr (.inr (.inr (.inr gC))))), (c0, .inl (cI, 7, .inl fI)), (r 1, .inl (cK, 9, .inr (.inr (.inr (.inr gK))))), (k0, .inl (cX, 600, .inl fk)), (q9, .inl (c9, 7, .inl f36))] := hD
            refine lv_dup hx hb dX7_hole_169 rfl ?_
            refine lv_iconst (v := 1) hx hb dX7_hole_170 (by decide) ?_
            refine lv_iload_n hx hb dX7_hole_171 rfl (lv_at hl 5 rfl) ?_
            refine va_iast hx hb hK hP hD hS 5 4 rfl rfl (vp_in_nI (n := 1) (by decide) (by decide)) dX7_hole_172 (fun H locs hP hD hS => ?_)
            have hP : va_P D vwCl [(h0, .inr (13, [.ref (r 0), .ref (r 1), .ref (r 2), .ref (r 3), .ref (r 4), .ref (r 5), .ref (r 6), .ref (r 7), .ref (r 8), .ref (r 9), .ref (r 10), .ref (r 11), .ref (r 12), .ref (r 13), .ref (r 14), .ref (r 15), .int 0, .int 0, .int 1, .int 110, .int 0, .int 0, .int 0, .int 0, .int 0, .int 0, .int 0, .int 0, .int 0, .int 0, .int 0])), (r 0, .inl (cC, 9, .inr (.inr (.inr (.inr gC))))), (c0, .inl (cI, 7, .inl fI)), (r 1, .inl (cK, 9, .inr (.inr (.inr (.inr gK))))), (k0, .inl (cX, 600, .inl fk)), (q9, .inl (c9, 7, .inl (upd f36 (1 : Int32).toNatClampNeg a2)))] H := hP
            have hD : va_D A [(h0, .inr (13, [.ref (r 0), .ref (r 1), .ref (r 2), .ref (r 3), .ref (r 4), .ref (r 5), .ref (r 6), .ref (r 7), .ref (r 8), .ref (r 9), .ref (r 10), .ref (r 11), .ref (r 12), .ref (r 13), .ref (r 14), .ref (r 15), .int 0, .int 0, .int 1, .int 110, .int 0, .int 0, .int 0, .int 0, .int 0, .int 0, .int 0, .int 0, .int 0, .int 0, .int 0])), (r 0, .inl (cC, 9, .inr (.inr (.inr (.inr gC))))), (c0, .inl (cI, 7, .inl fI)), (r 1, .inl (cK, 9, .inr (.inr (.inr (.inr gK))))), (k0, .inl (cX, 600, .inl fk)), (q9, .inl (c9, 7, .inl (upd f36 (1 : Int32).toNatClampNeg a2)))] := hD
            generalize upd f36 (1 : Int32).toNatClampNeg a2 = f37 at hP hD
            have hP : va_P D vwCl [(h0, .inr (13, [.ref (r 0), .ref (r 1), .ref (r 2), .ref (r 3), .ref (r 4), .ref (r 5), .ref (r 6), .ref (r 7), .ref (r 8), .ref (r 9), .ref (r 10), .ref (r 11), .ref (r 12), .ref (r 13), .ref (r 14), .ref (r 15), .int 0, .int 0, .int 1, .int 110, .int 0, .int 0, .int 0, .int 0, .int 0, .int 0, .int 0, .int 0, .int 0, .int 0, .int 0])), (r 0, .inl (cC, 9, .inr (.inr (.inr (.inr gC))))), (c0, .inl (cI, 7, .inl fI)), (r 1, .inl (cK, 9, .inr (.inr (.inr (.inr gK))))), (k0, .inl (cX, 600, .inl fk)), (q9, .inl (c9, 7, .inl f37))] H := hP
            have hD : va_D A [(h0, .inr (13, [.ref (r 0), .ref (r 1), .ref (r 2), .ref (r 3), .ref (r 4), .ref (r 5), .ref (r 6), .ref (r 7), .ref (r 8), .ref (r 9), .ref (r 10), .ref (r 11), .ref (r 12), .ref (r 13), .ref (r 14), .ref (r 15), .int 0, .int 0, .int 1, .int 110, .int 0, .int 0, .int 0, .int 0, .int 0, .int 0, .int 0, .int 0, .int 0, .int 0, .int 0])), (r 0, .inl (cC, 9, .inr (.inr (.inr (.inr gC))))), (c0, .inl (cI, 7, .inl fI)), (r 1, .inl (cK, 9, .inr (.inr (.inr (.inr gK))))), (k0, .inl (cX, 600, .inl fk)), (q9, .inl (c9, 7, .inl f37))] := hD
            refine lv_dup hx hb dX7_hole_173 rfl ?_
            refine lv_iconst (v := 2) hx hb dX7_hole_174 (by decide) ?_
            refine lv_iload_n hx hb dX7_hole_175 rfl (lv_at hl 6 rfl) ?_
            refine va_iast hx hb hK hP hD hS 5 4 rfl rfl (vp_in_nI (n := 2) (by decide) (by decide)) dX7_hole_176 (fun H locs hP hD hS => ?_)
            have hP : va_P D vwCl [(h0, .inr (13, [.ref (r 0), .ref (r 1), .ref (r 2), .ref (r 3), .ref (r 4), .ref (r 5), .ref (r 6), .ref (r 7), .ref (r 8), .ref (r 9), .ref (r 10), .ref (r 11), .ref (r 12), .ref (r 13), .ref (r 14), .ref (r 15), .int 0, .int 0, .int 1, .int 110, .int 0, .int 0, .int 0, .int 0, .int 0, .int 0, .int 0, .int 0, .int 0, .int 0, .int 0])), (r 0, .inl (cC, 9, .inr (.inr (.inr (.inr gC))))), (c0, .inl (cI, 7, .inl fI)), (r 1, .inl (cK, 9, .inr (.inr (.inr (.inr gK))))), (k0, .inl (cX, 600, .inl fk)), (q9, .inl (c9, 7, .inl (upd f37 (2 : Int32).toNatClampNeg a3)))] H := hP
            have hD : va_D A [(h0, .inr (13, [.ref (r 0), .ref (r 1), .ref (r 2), .ref (r 3), .ref (r 4), .ref (r 5), .ref (r 6), .ref (r 7), .ref (r 8), .ref (r 9), .ref (r 10), .ref (r 11), .ref (r 12), .ref (r 13), .ref (r 14), .ref (r 15), .int 0, .int 0, .int 1, .int 110, .int 0, .int 0, .int 0, .int 0, .int 0, .int 0, .int 0, .int 0, .int 0, .int 0, .int 0])), (r 0, .inl (cC, 9, .inr (.inr (.inr (.inr gC))))), (c0, .inl (cI, 7, .inl fI)), (r 1, .inl (cK, 9, .inr (.inr (.inr (.inr gK))))), (k0, .inl (cX, 600, .inl fk)), (q9, .inl (c9, 7, .inl (upd f37 (2 : Int32).toNatClampNeg a3)))] := hD
            generalize upd f37 (2 : Int32).toNatClampNeg a3 = f38 at hP hD
            have hP : va_P D vwCl [(h0, .inr (13, [.ref (r 0), .ref (r 1), .ref (r 2), .ref (r 3), .ref (r 4), .ref (r 5), .ref (r 6), .ref (r 7), .ref (r 8), .ref (r 9), .ref (r 10), .ref (r 11), .ref (r 12), .ref (r 13), .ref (r 14), .ref (r 15), .int 0, .int 0, .int 1, .int 110, .int 0, .int 0, .int 0, .int 0, .int 0, .int 0, .int 0, .int 0, .int 0, .int 0, .int 0])), (r 0, .inl (cC, 9, .inr (.inr (.inr (.inr gC))))), (c0, .inl (cI, 7, .inl fI)), (r 1, .inl (cK, 9, .inr (.inr (.inr (.inr gK))))), (k0, .inl (cX, 600, .inl fk)), (q9, .inl (c9, 7, .inl f38))] H := hP
            have hD : va_D A [(h0, .inr (13, [.ref (r 0), .ref (r 1), .ref (r 2), .ref (r 3), .ref (r 4), .ref (r 5), .ref (r 6), .ref (r 7), .ref (r 8), .ref (r 9), .ref (r 10), .ref (r 11), .ref (r 12), .ref (r 13), .ref (r 14), .ref (r 15), .int 0, .int 0, .int 1, .int 110, .int 0, .int 0, .int 0, .int 0, .int 0, .int 0, .int 0, .int 0, .int 0, .int 0, .int 0])), (r 0, .inl (cC, 9, .inr (.inr (.inr (.inr gC))))), (c0, .inl (cI, 7, .inl fI)), (r 1, .inl (cK, 9, .inr (.inr (.inr (.inr gK))))), (k0, .inl (cX, 600, .inl fk)), (q9, .inl (c9, 7, .inl f38))] := hD
            refine lv_dup hx hb dX7_hole_177 rfl ?_
            refine lv_iconst (v := 3) hx hb dX7_hole_178 (by decide) ?_
            refine lv_iload hx hb dX7_hole_179 (lv_at hl 7 rfl) ?_
            refine va_iast hx hb hK hP hD hS 5 4 rfl rfl (vp_in_nI (n := 3) (by decide) (by decide)) dX7_hole_181 (fun H locs hP hD hS => ?_)
            have hP : va_P D vwCl [(h0, .inr (13, [.ref (r 0), .ref (r 1), .ref (r 2), .ref (r 3), .ref (r 4), .ref (r 5), .ref (r 6), .ref (r 7), .ref (r 8), .ref (r 9), .ref (r 10), .ref (r 11), .ref (r 12), .ref (r 13), .ref (r 14), .ref (r 15), .int 0, .int 0, .int 1, .int 110, .int 0, .int 0, .int 0, .int 0, .int 0, .int 0, .int 0, .int 0, .int 0, .int 0, .int 0])), (r 0, .inl (cC, 9, .inr (.inr (.inr (.inr gC))))), (c0, .inl (cI, 7, .inl fI)), (r 1, .inl (cK, 9, .inr (.inr (.inr (.inr gK))))), (k0, .inl (cX, 600, .inl fk)), (q9, .inl (c9, 7, .inl (upd f38 (3 : Int32).toNatClampNeg a4)))] H := hP
            have hD : va_D A [(h0, .inr (13, [.ref (r 0), .ref (r 1), .ref (r 2), .ref (r 3), .ref (r 4), .ref (r 5), .ref (r 6), .ref (r 7), .ref (r 8), .ref (r 9), .ref (r 10), .ref (r 11), .ref (r 12), .ref (r 13), .ref (r 14), .ref (r 15), .int 0, .int 0, .int 1, .int 110, .int 0, .int 0, .int 0, .int 0, .int 0, .int 0, .int 0, .int 0, .int 0, .int 0, .int 0])), (r 0, .inl (cC, 9, .inr (.inr (.inr (.inr gC))))), (c0, .inl (cI, 7, .inl fI)), (r 1, .inl (cK, 9, .inr (.inr (.inr (.inr gK))))), (k0, .inl (cX, 600, .inl fk)), (q9, .inl (c9, 7, .inl (upd f38 (3 : Int32).toNatClampNeg a4)))] := hD
            generalize upd f38 (3 : Int32).toNatClampNeg a4 = f39 at hP hD
            have hP : va_P D vwCl [(h0, .inr (13, [.ref (r 0), .ref (r 1), .ref (r 2), .ref (r 3), .ref (r 4), .ref (r 5), .ref (r 6), .ref (r 7), .ref (r 8), .ref (r 9), .ref (r 10), .ref (r 11), .ref (r 12), .ref (r 13), .ref (r 14), .ref (r 15), .int 0, .int 0, .int 1, .int 110, .int 0, .int 0, .int 0, .int 0, .int 0, .int 0, .int 0, .int 0, .int 0, .int 0, .int 0])), (r 0, .inl (cC, 9, .inr (.inr (.inr (.inr gC))))), (c0, .inl (cI, 7, .inl fI)), (r 1, .inl (cK, 9, .inr (.inr (.inr (.inr gK))))), (k0, .inl (cX, 600, .inl fk)), (q9, .inl (c9, 7, .inl f39))] H := hP
            have hD : va_D A [(h0, .inr (13, [.ref (r 0), .ref (r 1), .ref (r 2), .ref (r 3), .ref (r 4), .ref (r 5), .ref (r 6), .ref (r 7), .ref (r 8), .ref (r 9), .ref (r 10), .ref (r 11), .ref (r 12), .ref (r 13), .ref (r 14), .ref (r 15), .int 0, .int 0, .int 1, .int 110, .int 0, .int 0, .int 0, .int 0, .int 0, .int 0, .int 0, .int 0, .int 0, .int 0, .int 0])), (r 0, .inl (cC, 9, .inr (.inr (.inr (.inr gC))))), (c0, .inl (cI, 7, .inl fI)), (r 1, .inl (cK, 9, .inr (.inr (.inr (.inr gK))))), (k0, .inl (cX, 600, .inl fk)), (q9, .inl (c9, 7, .inl f39))] := hD
            refine lv_dup hx hb dX7_hole_182 rfl ?_
            refine lv_iconst (v := 4) hx hb dX7_hole_183 (by decide) ?_
            refine lv_iload hx hb dX7_hole_184 (lv_at hl 8 rfl) ?_
            refine va_iast hx hb hK hP hD hS 5 4 rfl rfl (vp_in_nI (n := 4) (by decide) (by decide)) dX7_hole_186 (fun H locs hP hD hS => ?_)
            have hP : va_P D vwCl [(h0, .inr (13, [.ref (r 0), .ref (r 1), .ref (r 2), .ref (r 3), .ref (r 4), .ref (r 5), .ref (r 6), .ref (r 7), .ref (r 8), .ref (r 9), .ref (r 10), .ref (r 11), .ref (r 12), .ref (r 13), .ref (r 14), .ref (r 15), .int 0, .int 0, .int 1, .int 110, .int 0, .int 0, .int 0, .int 0, .int 0, .int 0, .int 0, .int 0, .int 0, .int 0, .int 0])), (r 0, .inl (cC, 9, .inr (.inr (.inr (.inr gC))))), (c0, .inl (cI, 7, .inl fI)), (r 1, .inl (cK, 9, .inr (.inr (.inr (.inr gK))))), (k0, .inl (cX, 600, .inl fk)), (q9, .inl (c9, 7, .inl (upd f39 (4 : Int32).toNatClampNeg a5)))] H := hP
            have hD : va_D A [(h0, .inr (13, [.ref (r 0), .ref (r 1), .ref (r 2), .ref (r 3), .ref (r 4), .ref (r 5), .ref (r 6), .ref (r 7), .ref (r 8), .ref (r 9), .ref (r 10), .ref (r 11), .ref (r 12), .ref (r 13), .ref (r 14), .ref (r 15), .int 0, .int 0, .int 1, .int 110, .int 0, .int 0, .int 0, .int 0, .int 0, .int 0, .int 0, .int 0, .int 0, .int 0, .int 0])), (r 0, .inl (cC, 9, .inr (.inr (.inr (.inr gC))))), (c0, .inl (cI, 7, .inl fI)), (r 1, .inl (cK, 9, .inr (.inr (.inr (.inr gK))))), (k0, .inl (cX, 600, .inl fk)), (q9, .inl (c9, 7, .inl (upd f39 (4 : Int32).toNatClampNeg a5)))] := hD
            generalize upd f39 (4 : Int32).toNatClampNeg a5 = f40 at hP hD
            have hP : va_P D vwCl [(h0, .inr (13, [.ref (r 0), .ref (r 1), .ref (r 2), .ref (r 3), .ref (r 4), .ref (r 5), .ref (r 6), .ref (r 7), .ref (r 8), .ref (r 9), .ref (r 10), .ref (r 11), .ref (r 12), .ref (r 13), .ref (r 14), .ref (r 15), .int 0, .int 0, .int 1, .int 110, .int 0, .int 0, .int 0, .int 0, .int 0, .int 0, .int 0, .int 0, .int 0, .int 0, .int 0])), (r 0, .inl (cC, 9, .inr (.inr (.inr (.inr gC))))), (c0, .inl (cI, 7, .inl fI)), (r 1, .inl (cK, 9, .inr (.inr (.inr (.inr gK))))), (k0, .inl (cX, 600, .inl fk)), (q9, .inl (c9, 7, .inl f40))] H := hP
            have hD : va_D A [(h0, .inr (13, [.ref (r 0), .ref (r 1), .ref (r 2), .ref (r 3), .ref (r 4), .ref (r 5), .ref (r 6), .ref (r 7), .ref (r 8), .ref (r 9), .ref (r 10), .ref (r 11), .ref (r 12), .ref (r 13), .ref (r 14), .ref (r 15), .int 0, .int 0, .int 1, .int 110, .int 0, .int 0, .int 0, .int 0, .int 0, .int 0, .int 0, .int 0, .int 0, .int 0, .int 0])), (r 0, .inl (cC, 9, .inr (.inr (.inr (.inr gC))))), (c0, .inl (cI, 7, .inl fI)), (r 1, .inl (cK, 9, .inr (.inr (.inr (.inr gK))))), (k0, .inl (cX, 600, .inl fk)), (q9, .inl (c9, 7, .inl f40))] := hD
            refine lv_dup hx hb dX7_hole_187 rfl ?_
            refine lv_iconst (v := 5) hx hb dX7_hole_188 (by decide) ?_
            refine lv_iload hx hb dX7_hole_189 (lv_at hl 9 rfl) ?_
            refine va_iast hx hb hK hP hD hS 5 4 rfl rfl (vp_in_nI (n := 5) (by decide) (by decide)) dX7_hole_191 (fun H locs hP hD hS => ?_)
            have hP : va_P D vwCl [(h0, .inr (13, [.ref (r 0), .ref (r 1), .ref (r 2), .ref (r 3), .ref (r 4), .ref (r 5), .ref (r 6), .ref (r 7), .ref (r 8), .ref (r 9), .ref (r 10), .ref (r 11), .ref (r 12), .ref (r 13), .ref (r 14), .ref (r 15), .int 0, .int 0, .int 1, .int 110, .int 0, .int 0, .int 0, .int 0, .int 0, .int 0, .int 0, .int 0, .int 0, .int 0, .int 0])), (r 0, .inl (cC, 9, .inr (.inr (.inr (.inr gC))))), (c0, .inl (cI, 7, .inl fI)), (r 1, .inl (cK, 9, .inr (.inr (.inr (.inr gK))))), (k0, .inl (cX, 600, .inl fk)), (q9, .inl (c9, 7, .inl (upd f40 (5 : Int32).toNatClampNeg a6)))] H := hP
            have hD : va_D A [(h0, .inr (13, [.ref (r 0), .ref (r 1), .ref (r 2), .ref (r 3), .ref (r 4), .ref (r 5), .ref (r 6), .ref (r 7), .ref (r 8), .ref (r 9), .ref (r 10), .ref (r 11), .ref (r 12), .ref (r 13), .ref (r 14), .ref (r 15), .int 0, .int 0, .int 1, .int 110, .int 0, .int 0, .int 0, .int 0, .int 0, .int 0, .int 0, .int 0, .int 0, .int 0, .int 0])), (r 0, .inl (cC, 9, .inr (.inr (.inr (.inr gC))))), (c0, .inl (cI, 7, .inl fI)), (r 1, .inl (cK, 9, .inr (.inr (.inr (.inr gK))))), (k0, .inl (cX, 600, .inl fk)), (q9, .inl (c9, 7, .inl (upd f40 (5 : Int32).toNatClampNeg a6)))] := hD
            generalize upd f40 (5 : Int32).toNatClampNeg a6 = f41 at hP hD
            have hP : va_P D vwCl [(h0, .inr (13, [.ref (r 0), .ref (r 1), .ref (r 2), .ref (r 3), .ref (r 4), .ref (r 5), .ref (r 6), .ref (r 7), .ref (r 8), .ref (r 9), .ref (r 10), .ref (r 11), .ref (r 12), .ref (r 13), .ref (r 14), .ref (r 15), .int 0, .int 0, .int 1, .int 110, .int 0, .int 0, .int 0, .int 0, .int 0, .int 0, .int 0, .int 0, .int 0, .int 0, .int 0])), (r 0, .inl (cC, 9, .inr (.inr (.inr (.inr gC))))), (c0, .inl (cI, 7, .inl fI)), (r 1, .inl (cK, 9, .inr (.inr (.inr (.inr gK))))), (k0, .inl (cX, 600, .inl fk)), (q9, .inl (c9, 7, .inl f41))] H := hP
            have hD : va_D A [(h0, .inr (13, [.ref (r 0), .ref (r 1), .ref (r 2), .ref (r 3), .ref (r 4), .ref (r 5), .ref (r 6), .ref (r 7), .ref (r 8), .ref (r 9), .ref (r 10), .ref (r 11), .ref (r 12), .ref (r 13), .ref (r 14), .ref (r 15), .int 0, .int 0, .int 1, .int 110, .int 0, .int 0, .int 0, .int 0, .int 0, .int 0, .int 0, .int 0, .int 0, .int 0, .int 0])), (r 0, .inl (cC, 9, .inr (.inr (.inr (.inr gC))))), (c0, .inl (cI, 7, .inl fI)), (r 1, .inl (cK, 9, .inr (.inr (.inr (.inr gK))))), (k0, .inl (cX, 600, .inl fk)), (q9, .inl (c9, 7, .inl f41))] := hD
            refine lv_dup hx hb dX7_hole_192 rfl ?_
            refine lv_bipush (v := 6) hx hb dX7_hole_193 (by decide) ?_
            refine lv_iconst (v := 0) hx hb dX7_hole_195 (by decide) ?_
            refine va_iast hx hb hK hP hD hS 5 4 rfl rfl (vp_in_nI (n := 6) (by decide) (by decide)) dX7_hole_196 (fun H locs hP hD hS => ?_)
            have hP : va_P D vwCl [(h0, .inr (13, [.ref (r 0), .ref (r 1), .ref (r 2), .ref (r 3), .ref (r 4), .ref (r 5), .ref (r 6), .ref (r 7), .ref (r 8), .ref (r 9), .ref (r 10), .ref (r 11), .ref (r 12), .ref (r 13), .ref (r 14), .ref (r 15), .int 0, .int 0, .int 1, .int 110, .int 0, .int 0, .int 0, .int 0, .int 0, .int 0, .int 0, .int 0, .int 0, .int 0, .int 0])), (r 0, .inl (cC, 9, .inr (.inr (.inr (.inr gC))))), (c0, .inl (cI, 7, .inl fI)), (r 1, .inl (cK, 9, .inr (.inr (.inr (.inr gK))))), (k0, .inl (cX, 600, .inl fk)), (q9, .inl (c9, 7, .inl (upd f41 (6 : Int32).toNatClampNeg 0)))] H := hP
            have hD : va_D A [(h0, .inr (13, [.ref (r 0), .ref (r 1), .ref (r 2), .ref (r 3), .ref (r 4), .ref (r 5), .ref (r 6), .ref (r 7), .ref (r 8), .ref (r 9), .ref (r 10), .ref (r 11), .ref (r 12), .ref (r 13), .ref (r 14), .ref (r 15), .int 0, .int 0, .int 1, .int 110, .int 0, .int 0, .int 0, .int 0, .int 0, .int 0, .int 0, .int 0, .int 0, .int 0, .int 0])), (r 0, .inl (cC, 9, .inr (.inr (.inr (.inr gC))))), (c0, .inl (cI, 7, .inl fI)), (r 1, .inl (cK, 9, .inr (.inr (.inr (.inr gK))))), (k0, .inl (cX, 600, .inl fk)), (q9, .inl (c9, 7, .inl (upd f41 (6 : Int32).toNatClampNeg 0)))] := hD
            generalize upd f41 (6 : Int32).toNatClampNeg 0 = f42 at hP hD
            have hP : va_P D vwCl [(h0, .inr (13, [.ref (r 0), .ref (r 1), .ref (r 2), .ref (r 3), .ref (r 4), .ref (r 5), .ref (r 6), .ref (r 7), .ref (r 8), .ref (r 9), .ref (r 10), .ref (r 11), .ref (r 12), .ref (r 13), .ref (r 14), .ref (r 15), .int 0, .int 0, .int 1, .int 110, .int 0, .int 0, .int 0, .int 0, .int 0, .int 0, .int 0, .int 0, .int 0, .int 0, .int 0])), (r 0, .inl (cC, 9, .inr (.inr (.inr (.inr gC))))), (c0, .inl (cI, 7, .inl fI)), (r 1, .inl (cK, 9, .inr (.inr (.inr (.inr gK))))), (k0, .inl (cX, 600, .inl fk)), (q9, .inl (c9, 7, .inl f42))] H := hP
            have hD : va_D A [(h0, .inr (13, [.ref (r 0), .ref (r 1), .ref (r 2), .ref (r 3), .ref (r 4), .ref (r 5), .ref (r 6), .ref (r 7), .ref (r 8), .ref (r 9), .ref (r 10), .ref (r 11), .ref (r 12), .ref (r 13), .ref (r 14), .ref (r 15), .int 0, .int 0, .int 1, .int 110, .int 0, .int 0, .int 0, .int 0, .int 0, .int 0, .int 0, .int 0, .int 0, .int 0, .int 0])), (r 0, .inl (cC, 9, .inr (.inr (.inr (.inr gC))))), (c0, .inl (cI, 7, .inl fI)), (r 1, .inl (cK, 9, .inr (.inr (.inr (.inr gK))))), (k0, .inl (cX, 600, .inl fk)), (q9, .inl (c9, 7, .inl f42))] := hD
            refine lv_astore (lv' := [(9, .ref q9), (8, .int 0), (7, .int 1), (0, .ref h0), (1, .int a1), (2, .int a2), (3, .int a3), (4, .int a4), (5, .int a5), (6, .int a6)]) hx hb dX7_hole_197 hl (by decide) rfl (fun ls hl => ?_)
            refine lv_aload hx hb dX7_hole_199 (lv_at hl 0 rfl) ?_
            refine lv_iconst (v := 0) hx hb dX7_hole_201 (by decide) ?_
            refine lv_aload_n hx hb dX7_hole_202 rfl (lv_at hl 3 rfl) ?_
            refine va_get (D := D) (ci := 13) (v := .ref (r 0)) (C := RX7) (T := TX7) (N := 31) hx hb hts (by decide +kernel) hown hK hP 0 rfl rfl 0 (by decide) (hts (.fieldLink RX7 11 "FairwayChanceryModel" "course" "[[I") (by decide +kernel)) (fun _ h9 => h9) rfl dX7_hole_203 ?_
            refine lv_aload_n hx hb dX7_hole_206 rfl (lv_at hl 3 rfl) ?_
            refine va_get (D := D) (ci := 13) (v := .int 0) (C := RX7) (T := TX7) (N := 31) hx hb hts (by decide +kernel) hown hK hP 0 rfl rfl 16 (by decide) (hts (.fieldLink RX7 86 "FairwayChanceryModel" "holes" "I") (by decide +kernel)) (fun _ h9 => h9) rfl dX7_hole_207 ?_
            refine va_aldqA hx hb hK hP 1 0 rfl rfl (vp_in_nI (n := 0) (by decide) (by decide)) dX7_hole_210 ?_
            have e0 : va_rf (gC (0 : Int32).toNatClampNeg) = .ref c0 := by rw [show (0 : Int32).toNatClampNeg = 0 from by decide, hg1]; rfl
            rw [e0]
            refine lv_iconst (v := 0) hx hb dX7_hole_211 (by decide) ?_
            refine lv_aload hx hb dX7_hole_212 (lv_at hl 0 rfl) ?_
            refine va_alen hx hb hK hP 5 4 rfl rfl (v := 7) (by show Int32.ofNat 7 = 7; decide) dX7_hole_214 ?_
            refine va_copyi hx hb (by rw [hml]; exact hl.1.symm) hown (hts (.methodLink RX7 118 arraycopyName) (by decide +kernel)) (hts (.native arraycopyName) (by decide +kernel)) (hts (.static arraycopyName) (by decide +kernel)) (hts (.initialized "java/lang/System") (by decide +kernel)) hK hP hD hS 5 2 4 1 rfl rfl rfl rfl rfl (by decide) (by decide) (by decide) (by decide) (by decide) (fun i _ => rfl) (Nat.le_of_ble_eq_true rfl) (Nat.le_of_ble_eq_true rfl) dX7_hole_215 (fun H locs hP hD hS => ?_)
            have hP : va_P D vwCl [(h0, .inr (13, [.ref (r 0), .ref (r 1), .ref (r 2), .ref (r 3), .ref (r 4), .ref (r 5), .ref (r 6), .ref (r 7), .ref (r 8), .ref (r 9), .ref (r 10), .ref (r 11), .ref (r 12), .ref (r 13), .ref (r 14), .ref (r 15), .int 0, .int 0, .int 1, .int 110, .int 0, .int 0, .int 0, .int 0, .int 0, .int 0, .int 0, .int 0, .int 0, .int 0, .int 0])), (r 0, .inl (cC, 9, .inr (.inr (.inr (.inr gC))))), (c0, .inl (cI, 7, .inl (va_cpy f42 fI (0 : Int32).toNatClampNeg (0 : Int32).toNatClampNeg (7 : Int32).toNatClampNeg))), (r 1, .inl (cK, 9, .inr (.inr (.inr (.inr gK))))), (k0, .inl (cX, 600, .inl fk)), (q9, .inl (c9, 7, .inl f42))] H := hP
            have hD : va_D A [(h0, .inr (13, [.ref (r 0), .ref (r 1), .ref (r 2), .ref (r 3), .ref (r 4), .ref (r 5), .ref (r 6), .ref (r 7), .ref (r 8), .ref (r 9), .ref (r 10), .ref (r 11), .ref (r 12), .ref (r 13), .ref (r 14), .ref (r 15), .int 0, .int 0, .int 1, .int 110, .int 0, .int 0, .int 0, .int 0, .int 0, .int 0, .int 0, .int 0, .int 0, .int 0, .int 0])), (r 0, .inl (cC, 9, .inr (.inr (.inr (.inr gC))))), (c0, .inl (cI, 7, .inl (va_cpy f42 fI (0 : Int32).toNatClampNeg (0 : Int32).toNatClampNeg (7 : Int32).toNatClampNeg))), (r 1, .inl (cK, 9, .inr (.inr (.inr (.inr gK))))), (k0, .inl (cX, 600, .inl fk)), (q9, .inl (c9, 7, .inl f42))] := hD
            generalize va_cpy f42 fI (0 : Int32).toNatClampNeg (0 : Int32).toNatClampNeg (7 : Int32).toNatClampNeg = f43 at hP hD
            have hP : va_P D vwCl [(h0, .inr (13, [.ref (r 0), .ref (r 1), .ref (r 2), .ref (r 3), .ref (r 4), .ref (r 5), .ref (r 6), .ref (r 7), .ref (r 8), .ref (r 9), .ref (r 10), .ref (r 11), .ref (r 12), .ref (r 13), .ref (r 14), .ref (r 15), .int 0, .int 0, .int 1, .int 110, .int 0, .int 0, .int 0, .int 0, .int 0, .int 0, .int 0, .int 0, .int 0, .int 0, .int 0])), (r 0, .inl (cC, 9, .inr (.inr (.inr (.inr gC))))), (c0, .inl (cI, 7, .inl f43)), (r 1, .inl (cK, 9, .inr (.inr (.inr (.inr gK))))), (k0, .inl (cX, 600, .inl fk)), (q9, .inl (c9, 7, .inl f42))] H := hP
            have hD : va_D A [(h0, .inr (13, [.ref (r 0), .ref (r 1), .ref (r 2), .ref (r 3), .ref (r 4), .ref (r 5), .ref (r 6), .ref (r 7), .ref (r 8), .ref (r 9), .ref (r 10), .ref (r 11), .ref (r 12), .ref (r 13), .ref (r 14), .ref (r 15), .int 0, .int 0, .int 1, .int 110, .int 0, .int 0, .int 0, .int 0, .int 0, .int 0, .int 0, .int 0, .int 0, .int 0, .int 0])), (r 0, .inl (cC, 9, .inr (.inr (.inr (.inr gC))))), (c0, .inl (cI, 7, .inl f43)), (r 1, .inl (cK, 9, .inr (.inr (.inr (.inr gK))))), (k0, .inl (cX, 600, .inl fk)), (q9, .inl (c9, 7, .inl f42))] := hD
            refine lv_iconst (v := 0) hx hb dX7_hole_218 (by decide) ?_
            refine lv_istore (lv' := [(10, .int 0), (9, .ref q9), (8, .int 0), (7, .int 1), (0, .ref h0), (1, .int a1), (2, .int a2), (3, .int a3), (4, .int a4), (5, .int a5), (6, .int a6)]) hx hb dX7_hole_219 hl (by decide) rfl (fun ls hl => ?_)
            have hP3 := hP.sub (ws' := [(h0, .inr (13, [.ref (r 0), .ref (r 1), .ref (r 2), .ref (r 3), .ref (r 4), .ref (r 5), .ref (r 6), .ref (r 7), .ref (r 8), .ref (r 9), .ref (r 10), .ref (r 11), .ref (r 12), .ref (r 13), .ref (r 14), .ref (r 15), .int 0, .int 0, .int 1, .int 110, .int 0, .int 0, .int 0, .int 0, .int 0, .int 0, .int 0, .int 0, .int 0, .int 0, .int 0])), (r 1, .inl (cK, 9, .inr (.inr (.inr (.inr gK))))), (k0, .inl (cX, 600, .inl fk))]) [0, 3, 4] rfl
            have hD3 := hD.sub (ws' := [(h0, .inr (13, [.ref (r 0), .ref (r 1), .ref (r 2), .ref (r 3), .ref (r 4), .ref (r 5), .ref (r 6), .ref (r 7), .ref (r 8), .ref (r 9), .ref (r 10), .ref (r 11), .ref (r 12), .ref (r 13), .ref (r 14), .ref (r 15), .int 0, .int 0, .int 1, .int 110, .int 0, .int 0, .int 0, .int 0, .int 0, .int 0, .int 0, .int 0, .int 0, .int 0, .int 0])), (r 1, .inl (cK, 9, .inr (.inr (.inr (.inr gK))))), (k0, .inl (cX, 600, .inl fk))]) [0, 3, 4] (by decide) rfl
            have hK3 := hK.sub (tys' := [(cK, .array .char), (cX, .char)]) [2, 3] rfl
            refine mhole_loop hg2 hx hb hts hown hK3 (fun fk H locs ls hP hD hS hl => ?_) 600 0 (by decide) _ H locs ls hP3 hD3 hS (lv_sub hl [4, 0] rfl)
            have hK := hK3
            refine lv_aload_n hx hb dX7_hole_249 rfl (lv_at hl 0 rfl) ?_
            refine lv_dup hx hb dX7_hole_250 rfl ?_
            refine va_get (D := D) (ci := 13) (v := .int 0) (C := RX7) (T := TX7) (N := 31) hx hb hts (by decide +kernel) hown hK hP 0 rfl rfl 16 (by decide) (hts (.fieldLink RX7 86 "FairwayChanceryModel" "holes" "I") (by decide +kernel)) (fun _ h9 => h9) rfl dX7_hole_251 ?_
            refine lv_iconst (v := 1) hx hb dX7_hole_254 (by decide) ?_
            refine lv_iadd hx hb dX7_hole_255 ?_
            refine lv_topi (fun y44 ey44 => ?_)
            obtain rfl : y44 = 1 := ey44.trans (by decide)
            refine va_put (D := D) (ci := 13) (v := .int 1) (ty := .int) (C := RX7) (T := TX7) (N := 31) hx hb hts (by decide +kernel) tyX7 tyX7_ok nmX7 hown hK hP hD hS 0 rfl rfl 16 (by decide) (hts (.fieldLink RX7 86 "FairwayChanceryModel" "holes" "I") (by decide +kernel)) (fun _ h9 => h9) rfl (by decide +kernel) rfl rfl (Nat.le_of_ble_eq_true rfl) dX7_hole_256 (fun H locs hP hD hS => ?_)
            have hP : va_P D vwCl [(h0, .inr (13, [.ref (r 0), .ref (r 1), .ref (r 2), .ref (r 3), .ref (r 4), .ref (r 5), .ref (r 6), .ref (r 7), .ref (r 8), .ref (r 9), .ref (r 10), .ref (r 11), .ref (r 12), .ref (r 13), .ref (r 14), .ref (r 15), .int 1, .int 0, .int 1, .int 110, .int 0, .int 0, .int 0, .int 0, .int 0, .int 0, .int 0, .int 0, .int 0, .int 0, .int 0])), (r 1, .inl (cK, 9, .inr (.inr (.inr (.inr gK))))), (k0, .inl (cX, 600, .inl fk))] H := hP
            have hD : va_D A [(h0, .inr (13, [.ref (r 0), .ref (r 1), .ref (r 2), .ref (r 3), .ref (r 4), .ref (r 5), .ref (r 6), .ref (r 7), .ref (r 8), .ref (r 9), .ref (r 10), .ref (r 11), .ref (r 12), .ref (r 13), .ref (r 14), .ref (r 15), .int 1, .int 0, .int 1, .int 110, .int 0, .int 0, .int 0, .int 0, .int 0, .int 0, .int 0, .int 0, .int 0, .int 0, .int 0])), (r 1, .inl (cK, 9, .inr (.inr (.inr (.inr gK))))), (k0, .inl (cX, 600, .inl fk))] := hD
            refine lv_aload_n hx hb dX7_hole_259 rfl (lv_at hl 0 rfl) ?_
            refine va_get (D := D) (ci := 13) (v := .int 1) (C := RX7) (T := TX7) (N := 31) hx hb hts (by decide +kernel) hown hK hP 0 rfl rfl 16 (by decide) (hts (.fieldLink RX7 86 "FairwayChanceryModel" "holes" "I") (by decide +kernel)) (fun _ h9 => h9) rfl dX7_hole_260 ?_
            refine lv_iconst (v := 1) hx hb dX7_hole_263 (by decide) ?_
            refine lv_isub hx hb dX7_hole_264 ?_
            refine lv_topi (fun y45 ey45 => ?_)
            obtain rfl : y45 = 0 := ey45.trans (by decide)
            have hP9 := hP.sub (ws' := [(h0, .inr (13, [.ref (r 0), .ref (r 1), .ref (r 2), .ref (r 3), .ref (r 4), .ref (r 5), .ref (r 6), .ref (r 7), .ref (r 8), .ref (r 9), .ref (r 10), .ref (r 11), .ref (r 12), .ref (r 13), .ref (r 14), .ref (r 15), .int 1, .int 0, .int 1, .int 110, .int 0, .int 0, .int 0, .int 0, .int 0, .int 0, .int 0, .int 0, .int 0, .int 0, .int 0]))]) [0] rfl
            exact W.iret (v := 0) hx hb hr (fun t ht hW => ⟨⟨0, [.ref (r 0), .ref (r 1), .ref (r 2), .ref (r 3), .ref (r 4), .ref (r 5), .ref (r 6), .ref (r 7), .ref (r 8), .ref (r 9), .ref (r 10), .ref (r 11), .ref (r 12), .ref (r 13), .ref (r 14), .ref (r 15), .int 1, .int 0, .int 1, .int 110, .int 0, .int 0, .int 0, .int 0, .int 0, .int 0, .int 0, .int 0, .int 0, .int 0, .int 0], rfl, Or.inl ⟨by have h := And.intro c_2 (And.intro c_8 (And.intro c_14 (c_20))); simp only [Int32.lt_iff_toInt_lt, Int32.le_iff_toInt_le, bIn_0, bCell_0, tI_0, tI_1, tI_3, tI_5, tI_6, tI_9, tI_19, tI_20, tI_29, tI_30, tI_36, tI_m1] at h; exact ⟨by omega, by omega, by omega, by omega, fun q => c_27 q.1⟩, rfl, rfl⟩, by rw [← ht] at hP9; exact hP9⟩, hS.F ht⟩) hS.2.2 dX7_hole_265
          · skip
            refine lv_iload hx hb dX7_hole_101 (lv_at hl 7 rfl) ?_
            refine lv_iload hx hb dX7_hole_103 (lv_at hl 9 rfl) ?_
            refine lv_icmp_ne (tgt := 112) hx hb dX7_hole_105 (by decide) (fun c_46 => ?_) (fun c_46 => ?_)
            · skip
              refine lv_iconst (v := 0) hx hb dX7_hole_112 (by decide) ?_
              refine lv_iconst (v := 1) hx hb dX7_hole_113 (by decide) ?_
              have hPc := hP.sub (ws' := [(h0, .inr (13, [.ref (r 0), .ref (r 1), .ref (r 2), .ref (r 3), .ref (r 4), .ref (r 5), .ref (r 6), .ref (r 7), .ref (r 8), .ref (r 9), .ref (r 10), .ref (r 11), .ref (r 12), .ref (r 13), .ref (r 14), .ref (r 15), .int 0, .int 0, .int 1, .int 110, .int 0, .int 0, .int 0, .int 0, .int 0, .int 0, .int 0, .int 0, .int 0, .int 0, .int 0]))]) [0] rfl
              have hKc := hK.sub (tys' := []) [] rfl
              have hFc : ∀ q : Nat, rg1 h0 H.size q → A q := fun q h => h.elim (fun e => by rw [e]; exact hD.2 0 _ rfl) (fun h => hA q (Nat.le_trans hS.1 h))
              refine va_calli (va_runV (As := [.int 0, .int 1]) (rest := []) ⟨hx, hb, hml, hown, hts⟩ (c_X7_isThrown l D h0 r 0 H.size 0 1 (Or.inl rfl)) (cwV 2 hts gX7_hole_X7_isThrown rfl rfl rfl (by decide +kernel) ⟨Nat.le_of_ble_eq_true rfl, Nat.le_of_ble_eq_true rfl⟩) ⟨fun a U g mk q => ⟨q.1, PX7.blind q.2⟩, va_recv hK hP (ci := 13) (q0 := 0) rfl rfl, fun U hU hW => ⟨rfl, PX7.go hPc hKc hU hW⟩⟩ rfl rfl hl.1 rfl (lv_room (Nat.le_of_ble_eq_true rfl)) dX7_hole_114 ⟨Nat.le_of_ble_eq_true rfl, Nat.le_of_ble_eq_true rfl⟩) hS (fun q _ h => hFc q h) hFc (fun r47 u t H1 locs ht hvm hw hB hz1 hk1 hS => ?_)
              rw [ht, if_pos (by decide)] at hB
              have hP := va_keep1 hP hD hB hk1
              have hD := va_keep1D (e' := .inr (13, [.ref (r 0), .ref (r 1), .ref (r 2), .ref (r 3), .ref (r 4), .ref (r 5), .ref (r 6), .ref (r 7), .ref (r 8), .ref (r 9), .ref (r 10), .ref (r 11), .ref (r 12), .ref (r 13), .ref (r 14), .ref (r 15), .int 0, .int 0, .int 1, .int 110, .int 0, .int 0, .int 0, .int 0, .int 0, .int 0, .int 0, .int 0, .int 0, .int 0, .int 0])) hD
              generalize H1 = H at hP hS ⊢
              have hP : va_P D vwCl [(h0, .inr (13, [.ref (r 0), .ref (r 1), .ref (r 2), .ref (r 3), .ref (r 4), .ref (r 5), .ref (r 6), .ref (r 7), .ref (r 8), .ref (r 9), .ref (r 10), .ref (r 11), .ref (r 12), .ref (r 13), .ref (r 14), .ref (r 15), .int 0, .int 0, .int 1, .int 110, .int 0, .int 0, .int 0, .int 0, .int 0, .int 0, .int 0, .int 0, .int 0, .int 0, .int 0])), (r 0, .inl (cC, 9, .inr (.inr (.inr (.inr gC))))), (c0, .inl (cI, 7, .inl fI)), (r 1, .inl (cK, 9, .inr (.inr (.inr (.inr gK))))), (k0, .inl (cX, 600, .inl fk))] H := hP
              have hD : va_D A [(h0, .inr (13, [.ref (r 0), .ref (r 1), .ref (r 2), .ref (r 3), .ref (r 4), .ref (r 5), .ref (r 6), .ref (r 7), .ref (r 8), .ref (r 9), .ref (r 10), .ref (r 11), .ref (r 12), .ref (r 13), .ref (r 14), .ref (r 15), .int 0, .int 0, .int 1, .int 110, .int 0, .int 0, .int 0, .int 0, .int 0, .int 0, .int 0, .int 0, .int 0, .int 0, .int 0])), (r 0, .inl (cC, 9, .inr (.inr (.inr (.inr gC))))), (c0, .inl (cI, 7, .inl fI)), (r 1, .inl (cK, 9, .inr (.inr (.inr (.inr gK))))), (k0, .inl (cX, 600, .inl fk))] := hD
              obtain rfl : r47 = 0 := hw
              refine lv_if_ne (tgt := 159) hx hb dX7_hole_117 (by decide) (fun c => by first | exact absurd c (by decide) | exact absurd (by decide) c) (fun _ => ?_)
              refine lv_aload_n hx hb dX7_hole_120 rfl (lv_at hl 3 rfl) ?_
              refine lv_aload_n hx hb dX7_hole_121 rfl (lv_at hl 3 rfl) ?_
              refine va_get (D := D) (ci := 13) (v := .int 0) (C := RX7) (T := TX7) (N := 31) hx hb hts (by decide +kernel) hown hK hP 0 rfl rfl 16 (by decide) (hts (.fieldLink RX7 86 "FairwayChanceryModel" "holes" "I") (by decide +kernel)) (fun _ h9 => h9) rfl dX7_hole_122 ?_
              refine lv_bipush (v := 9) hx hb dX7_hole_125 (by decide) ?_
              refine lv_icmp_eq (tgt := 137) hx hb dX7_hole_127 (by decide) (fun c => by first | exact absurd c (by decide) | exact absurd (by decide) c) (fun _ => ?_)
              refine lv_aload_n hx hb dX7_hole_130 rfl (lv_at hl 3 rfl) ?_
              refine va_get (D := D) (ci := 13) (v := .int 0) (C := RX7) (T := TX7) (N := 31) hx hb hts (by decide +kernel) hown hK hP 0 rfl rfl 21 (by decide) (hts (.fieldLink RX7 114 "FairwayChanceryModel" "wasBegun" "Z") (by decide +kernel)) (fun _ h9 => h9) rfl dX7_hole_131 ?_
              refine lv_if_eq (tgt := 141) hx hb dX7_hole_134 (by decide) (fun _ => ?_) (fun c => by first | exact absurd (by decide) c | exact absurd c (by decide))
              refine lv_iconst (v := 0) hx hb dX7_hole_141 (by decide) ?_
              refine lv_iconst (v := 2) hx hb dX7_hole_142 (by decide) ?_
              have hPc := hP.sub (ws' := [(h0, .inr (13, [.ref (r 0), .ref (r 1), .ref (r 2), .ref (r 3), .ref (r 4), .ref (r 5), .ref (r 6), .ref (r 7), .ref (r 8), .ref (r 9), .ref (r 10), .ref (r 11), .ref (r 12), .ref (r 13), .ref (r 14), .ref (r 15), .int 0, .int 0, .int 1, .int 110, .int 0, .int 0, .int 0, .int 0, .int 0, .int 0, .int 0, .int 0, .int 0, .int 0, .int 0]))]) [0] rfl
              have hKc := hK.sub (tys' := []) [] rfl
              have hFc : ∀ q : Nat, rg1 h0 H.size q → A q := fun q h => h.elim (fun e => by rw [e]; exact hD.2 0 _ rfl) (fun h => hA q (Nat.le_trans hS.1 h))
              refine va_calli (va_runV (As := [.int 0, .int 2]) (rest := []) ⟨hx, hb, hml, hown, hts⟩ (c_X7_isThrown l D h0 r 0 H.size 0 2 (Or.inl rfl)) (cwV 2 hts gX7_hole_X7_isThrown rfl rfl rfl (by decide +kernel) ⟨Nat.le_of_ble_eq_true rfl, Nat.le_of_ble_eq_true rfl⟩) ⟨fun a U g mk q => ⟨q.1, PX7.blind q.2⟩, va_recv hK hP (ci := 13) (q0 := 0) rfl rfl, fun U hU hW => ⟨rfl, PX7.go hPc hKc hU hW⟩⟩ rfl rfl hl.1 rfl (lv_room (Nat.le_of_ble_eq_true rfl)) dX7_hole_143 ⟨Nat.le_of_ble_eq_true rfl, Nat.le_of_ble_eq_true rfl⟩) hS (fun q _ h => hFc q h) hFc (fun r51 u t H1 locs ht hvm hw hB hz1 hk1 hS => ?_)
              rw [ht, if_pos (by decide)] at hB
              have hP := va_keep1 hP hD hB hk1
              have hD := va_keep1D (e' := .inr (13, [.ref (r 0), .ref (r 1), .ref (r 2), .ref (r 3), .ref (r 4), .ref (r 5), .ref (r 6), .ref (r 7), .ref (r 8), .ref (r 9), .ref (r 10), .ref (r 11), .ref (r 12), .ref (r 13), .ref (r 14), .ref (r 15), .int 0, .int 0, .int 1, .int 110, .int 0, .int 0, .int 0, .int 0, .int 0, .int 0, .int 0, .int 0, .int 0, .int 0, .int 0])) hD
              generalize H1 = H at hP hS ⊢
              have hP : va_P D vwCl [(h0, .inr (13, [.ref (r 0), .ref (r 1), .ref (r 2), .ref (r 3), .ref (r 4), .ref (r 5), .ref (r 6), .ref (r 7), .ref (r 8), .ref (r 9), .ref (r 10), .ref (r 11), .ref (r 12), .ref (r 13), .ref (r 14), .ref (r 15), .int 0, .int 0, .int 1, .int 110, .int 0, .int 0, .int 0, .int 0, .int 0, .int 0, .int 0, .int 0, .int 0, .int 0, .int 0])), (r 0, .inl (cC, 9, .inr (.inr (.inr (.inr gC))))), (c0, .inl (cI, 7, .inl fI)), (r 1, .inl (cK, 9, .inr (.inr (.inr (.inr gK))))), (k0, .inl (cX, 600, .inl fk))] H := hP
              have hD : va_D A [(h0, .inr (13, [.ref (r 0), .ref (r 1), .ref (r 2), .ref (r 3), .ref (r 4), .ref (r 5), .ref (r 6), .ref (r 7), .ref (r 8), .ref (r 9), .ref (r 10), .ref (r 11), .ref (r 12), .ref (r 13), .ref (r 14), .ref (r 15), .int 0, .int 0, .int 1, .int 110, .int 0, .int 0, .int 0, .int 0, .int 0, .int 0, .int 0, .int 0, .int 0, .int 0, .int 0])), (r 0, .inl (cC, 9, .inr (.inr (.inr (.inr gC))))), (c0, .inl (cI, 7, .inl fI)), (r 1, .inl (cK, 9, .inr (.inr (.inr (.inr gK))))), (k0, .inl (cX, 600, .inl fk))] := hD
              obtain rfl : r51 = 0 := hw
              refine lv_if_ne (tgt := 159) hx hb dX7_hole_146 (by decide) (fun c => by first | exact absurd c (by decide) | exact absurd (by decide) c) (fun _ => ?_)
              refine lv_aload_n hx hb dX7_hole_149 rfl (lv_at hl 3 rfl) ?_
              refine lv_iload hx hb dX7_hole_150 (lv_at hl 1 rfl) ?_
              refine lv_iconst (v := 3) hx hb dX7_hole_152 (by decide) ?_
              have hPc := hP.sub (ws' := [(h0, .inr (13, [.ref (r 0), .ref (r 1), .ref (r 2), .ref (r 3), .ref (r 4), .ref (r 5), .ref (r 6), .ref (r 7), .ref (r 8), .ref (r 9), .ref (r 10), .ref (r 11), .ref (r 12), .ref (r 13), .ref (r 14), .ref (r 15), .int 0, .int 0, .int 1, .int 110, .int 0, .int 0, .int 0, .int 0, .int 0, .int 0, .int 0, .int 0, .int 0, .int 0, .int 0]))]) [0] rfl
              have hKc := hK.sub (tys' := []) [] rfl
              have hFc : ∀ q : Nat, rg1 h0 H.size q → A q := fun q h => h.elim (fun e => by rw [e]; exact hD.2 0 _ rfl) (fun h => hA q (Nat.le_trans hS.1 h))
              refine va_calli (va_runV (As := [.int 0, .int 3]) (rest := []) ⟨hx, hb, hml, hown, hts⟩ (c_X7_isThrown l D h0 r 0 H.size 0 3 (Or.inl rfl)) (cwV 2 hts gX7_hole_X7_isThrown rfl rfl rfl (by decide +kernel) ⟨Nat.le_of_ble_eq_true rfl, Nat.le_of_ble_eq_true rfl⟩) ⟨fun a U g mk q => ⟨q.1, PX7.blind q.2⟩, va_recv hK hP (ci := 13) (q0 := 0) rfl rfl, fun U hU hW => ⟨rfl, PX7.go hPc hKc hU hW⟩⟩ rfl rfl hl.1 rfl (lv_room (Nat.le_of_ble_eq_true rfl)) dX7_hole_153 ⟨Nat.le_of_ble_eq_true rfl, Nat.le_of_ble_eq_true rfl⟩) hS (fun q _ h => hFc q h) hFc (fun r53 u t H1 locs ht hvm hw hB hz1 hk1 hS => ?_)
              rw [ht, if_pos (by decide)] at hB
              have hP := va_keep1 hP hD hB hk1
              have hD := va_keep1D (e' := .inr (13, [.ref (r 0), .ref (r 1), .ref (r 2), .ref (r 3), .ref (r 4), .ref (r 5), .ref (r 6), .ref (r 7), .ref (r 8), .ref (r 9), .ref (r 10), .ref (r 11), .ref (r 12), .ref (r 13), .ref (r 14), .ref (r 15), .int 0, .int 0, .int 1, .int 110, .int 0, .int 0, .int 0, .int 0, .int 0, .int 0, .int 0, .int 0, .int 0, .int 0, .int 0])) hD
              generalize H1 = H at hP hS ⊢
              have hP : va_P D vwCl [(h0, .inr (13, [.ref (r 0), .ref (r 1), .ref (r 2), .ref (r 3), .ref (r 4), .ref (r 5), .ref (r 6), .ref (r 7), .ref (r 8), .ref (r 9), .ref (r 10), .ref (r 11), .ref (r 12), .ref (r 13), .ref (r 14), .ref (r 15), .int 0, .int 0, .int 1, .int 110, .int 0, .int 0, .int 0, .int 0, .int 0, .int 0, .int 0, .int 0, .int 0, .int 0, .int 0])), (r 0, .inl (cC, 9, .inr (.inr (.inr (.inr gC))))), (c0, .inl (cI, 7, .inl fI)), (r 1, .inl (cK, 9, .inr (.inr (.inr (.inr gK))))), (k0, .inl (cX, 600, .inl fk))] H := hP
              have hD : va_D A [(h0, .inr (13, [.ref (r 0), .ref (r 1), .ref (r 2), .ref (r 3), .ref (r 4), .ref (r 5), .ref (r 6), .ref (r 7), .ref (r 8), .ref (r 9), .ref (r 10), .ref (r 11), .ref (r 12), .ref (r 13), .ref (r 14), .ref (r 15), .int 0, .int 0, .int 1, .int 110, .int 0, .int 0, .int 0, .int 0, .int 0, .int 0, .int 0, .int 0, .int 0, .int 0, .int 0])), (r 0, .inl (cC, 9, .inr (.inr (.inr (.inr gC))))), (c0, .inl (cI, 7, .inl fI)), (r 1, .inl (cK, 9, .inr (.inr (.inr (.inr gK))))), (k0, .inl (cX, 600, .inl fk))] := hD
              obtain rfl : r53 = 0 := hw
              refine lv_if_eq (tgt := 161) hx hb dX7_hole_156 (by decide) (fun _ => ?_) (fun c => by first | exact absurd (by decide) c | exact absurd c (by decide))
              refine lv_bipush (v := 7) hx hb dX7_hole_161 (by decide) ?_
              refine va_newa (atype := .int) (ty := .int) (a0 := (7, .inl (fun _ => 0))) hx hb (hts (.arrayClass .int) (by decide +kernel)) rfl hK hP hD hS hA (fun cA => rfl) (by decide) (N' := 7) (by decide) (by decide) (Nat.le_of_ble_eq_true rfl) (Nat.le_of_ble_eq_true rfl) dX7_hole_163 (fun q9 c9 H hK hP hD hS => ?_)
              have hK : va_K D vwCl [(cC, .array .int), (cI, .int), (cK, .array .char), (cX, .char), (c9, .int)] s := hK
              have hP : va_P D vwCl [(h0, .inr (13, [.ref (r 0), .ref (r 1), .ref (r 2), .ref (r 3), .ref (r 4), .ref (r 5), .ref (r 6), .ref (r 7), .ref (r 8), .ref (r 9), .ref (r 10), .ref (r 11), .ref (r 12), .ref (r 13), .ref (r 14), .ref (r 15), .int 0, .int 0, .int 1, .int 110, .int 0, .int 0, .int 0, .int 0, .int 0, .int 0, .int 0, .int 0, .int 0, .int 0, .int 0])), (r 0, .inl (cC, 9, .inr (.inr (.inr (.inr gC))))), (c0, .inl (cI, 7, .inl fI)), (r 1, .inl (cK, 9, .inr (.inr (.inr (.inr gK))))), (k0, .inl (cX, 600, .inl fk)), (q9, .inl (c9, 7, .inl (fun _ => 0)))] H := hP
              have hD : va_D A [(h0, .inr (13, [.ref (r 0), .ref (r 1), .ref (r 2), .ref (r 3), .ref (r 4), .ref (r 5), .ref (r 6), .ref (r 7), .ref (r 8), .ref (r 9), .ref (r 10), .ref (r 11), .ref (r 12), .ref (r 13), .ref (r 14), .ref (r 15), .int 0, .int 0, .int 1, .int 110, .int 0, .int 0, .int 0, .int 0, .int 0, .int 0, .int 0, .int 0, .int 0, .int 0, .int 0])), (r 0, .inl (cC, 9, .inr (.inr (.inr (.inr gC))))), (c0, .inl (cI, 7, .inl fI)), (r 1, .inl (cK, 9, .inr (.inr (.inr (.inr gK))))), (k0, .inl (cX, 600, .inl fk)), (q9, .inl (c9, 7, .inl (fun _ => 0)))] := hD
              refine W.widen (k := 1) (n := 7) (by decide) (by decide) ?_
              refine lv_dup hx hb dX7_hole_165 rfl ?_
              refine lv_iconst (v := 0) hx hb dX7_hole_166 (by decide) ?_
              refine lv_iload_n hx hb dX7_hole_167 rfl (lv_at hl 4 rfl) ?_
              refine va_iast hx hb hK hP hD hS 5 4 rfl rfl (vp_in_nI (n := 0) (by decide) (by decide)) dX7_hole_168 (fun H locs hP hD hS => ?_)
              have hP : va_P D vwCl [(h0, .inr (13, [.ref (r 0), .ref (r 1), .ref (r 2), .ref (r 3), .ref (r 4), .ref (r 5), .ref (r 6), .ref (r 7), .ref (r 8), .ref (r 9), .ref (r 10), .ref (r 11), .ref (r 12), .ref (r 13), .ref (r 14), .ref (r 15), .int 0, .int 0, .int 1, .int 110, .int 0, .int 0, .int 0, .int 0, .int 0, .int 0, .int 0, .int 0, .int 0, .int 0, .int 0])), (r 0, .inl (cC, 9, .inr (.inr (.inr (.inr gC))))), (c0, .inl (cI, 7, .inl fI)), (r 1, .inl (cK, 9, .inr (.inr (.inr (.inr gK))))), (k0, .inl (cX, 600, .inl fk)), (q9, .inl (c9, 7, .inl (upd (fun _ => 0) (0 : Int32).toNatClampNeg a1)))] H := hP
              have hD : va_D A [(h0, .inr (13, [.ref (r 0), .ref (r 1), .ref (r 2), .ref (r 3), .ref (r 4), .ref (r 5), .ref (r 6), .ref (r 7), .ref (r 8), .ref (r 9), .ref (r 10), .ref (r 11), .ref (r 12), .ref (r 13), .ref (r 14), .ref (r 15), .int 0, .int 0, .int 1, .int 110, .int 0, .int 0, .int 0, .int 0, .int 0, .int 0, .int 0, .int 0, .int 0, .int 0, .int 0])), (r 0, .inl (cC, 9, .inr (.inr (.inr (.inr gC))))), (c0, .inl (cI, 7, .inl fI)), (r 1, .inl (cK, 9, .inr (.inr (.inr (.inr gK))))), (k0, .inl (cX, 600, .inl fk)), (q9, .inl (c9, 7, .inl (upd (fun _ => 0) (0 : Int32).toNatClampNeg a1)))] := hD
              generalize upd (fun _ => 0) (0 : Int32).toNatClampNeg a1 = f55 at hP hD
              have hP : va_P D vwCl [(h0, .inr (13, [.ref (r 0), .ref (r 1), .ref (r 2), .ref (r 3), .ref (r 4), .ref (r 5), .ref (r 6), .ref (r 7), .ref (r 8), .ref (r 9), .ref (r 10), .ref (r 11), .ref (r 12), .ref (r 13), .ref (r 14), .ref (r 15), .int 0, .int 0, .int 1, .int 110, .int 0, .int 0, .int 0, .int 0, .int 0, .int 0, .int 0, .int 0, .int 0, .int 0, .int 0])), (r 0, .inl (cC, 9, .inr (.inr (.inr (.inr gC))))), (c0, .inl (cI, 7, .inl fI)), (r 1, .inl (cK, 9, .inr (.inr (.inr (.inr gK))))), (k0, .inl (cX, 600, .inl fk)), (q9, .inl (c9, 7, .inl f55))] H := hP
              have hD : va_D A [(h0, .inr (13, [.ref (r 0), .ref (r 1), .ref (r 2), .ref (r 3), .ref (r 4), .ref (r 5), .ref (r 6), .ref (r 7), .ref (r 8), .ref (r 9), .ref (r 10), .ref (r 11), .ref (r 12), .ref (r 13), .ref (r 14), .ref (r 15), .int 0, .int 0, .int 1, .int 110, .int 0, .int 0, .int 0, .int 0, .int 0, .int 0, .int 0, .int 0, .int 0, .int 0, .int 0])), (r 0, .inl (cC, 9, .inr (.inr (.inr (.inr gC))))), (c0, .inl (cI, 7, .inl fI)), (r 1, .inl (cK, 9, .inr (.inr (.inr (.inr gK))))), (k0, .inl (cX, 600, .inl fk)), (q9, .inl (c9, 7, .inl f55))] := hD
              refine lv_dup hx hb dX7_hole_169 rfl ?_
              refine lv_iconst (v := 1) hx hb dX7_hole_170 (by decide) ?_
              refine lv_iload_n hx hb dX7_hole_171 rfl (lv_at hl 5 rfl) ?_
              refine va_iast hx hb hK hP hD hS 5 4 rfl rfl (vp_in_nI (n := 1) (by decide) (by decide)) dX7_hole_172 (fun H locs hP hD hS => ?_)
              have hP : va_P D vwCl [(h0, .inr (13, [.ref (r 0), .ref (r 1), .ref (r 2), .ref (r 3), .ref (r 4), .ref (r 5), .ref (r 6), .ref (r 7), .ref (r 8), .ref (r 9), .ref (r 10), .ref (r 11), .ref (r 12), .ref (r 13), .ref (r 14), .ref (r 15), .int 0, .int 0, .int 1, .int 110, .int 0, .int 0, .int 0, .int 0, .int 0, .int 0, .int 0, .int 0, .int 0, .int 0, .int 0])), (r 0, .inl (cC, 9, .inr (.inr (.inr (.inr gC))))), (c0, .inl (cI, 7, .inl fI)), (r 1, .inl (cK, 9, .inr (.inr (.inr (.inr gK))))), (k0, .inl (cX, 600, .inl fk)), (q9, .inl (c9, 7, .inl (upd f55 (1 : Int32).toNatClampNeg a2)))] H := hP
              have hD : va_D A [(h0, .inr (13, [.ref (r 0), .ref (r 1), .ref (r 2), .ref (r 3), .ref (r 4), .ref (r 5), .ref (r 6), .ref (r 7), .ref (r 8), .ref (r 9), .ref (r 10), .ref (r 11), .ref (r 12), .ref (r 13), .ref (r 14), .ref (r 15), .int 0, .int 0, .int 1, .int 110, .int 0, .int 0, .int 0, .int 0, .int 0, .int 0, .int 0, .int 0, .int 0, .int 0, .int 0])), (r 0, .inl (cC, 9, .inr (.inr (.inr (.inr gC))))), (c0, .inl (cI, 7, .inl fI)), (r 1, .inl (cK, 9, .inr (.inr (.inr (.inr gK))))), (k0, .inl (cX, 600, .inl fk)), (q9, .inl (c9, 7, .inl (upd f55 (1 : Int32).toNatClampNeg a2)))] := hD
              generalize upd f55 (1 : Int32).toNatClampNeg a2 = f56 at hP hD
              have hP : va_P D vwCl [(h0, .inr (13, [.ref (r 0), .ref (r 1), .ref (r 2), .ref (r 3), .ref (r 4), .ref (r 5), .ref (r 6), .ref (r 7), .ref (r 8), .ref (r 9), .ref (r 10), .ref (r 11), .ref (r 12), .ref (r 13), .ref (r 14), .ref (r 15), .int 0, .int 0, .int 1, .int 110, .int 0, .int 0, .int 0, .int 0, .int 0, .int 0, .int 0, .int 0, .int 0, .int 0, .int 0])), (r 0, .inl (cC, 9, .inr (.inr (.inr (.inr gC))))), (c0, .inl (cI, 7, .inl fI)), (r 1, .inl (cK, 9, .inr (.inr (.inr (.inr gK))))), (k0, .inl (cX, 600, .inl fk)), (q9, .inl (c9, 7, .inl f56))] H := hP
              have hD : va_D A [(h0, .inr (13, [.ref (r 0), .ref (r 1), .ref (r 2), .ref (r 3), .ref (r 4), .ref (r 5), .ref (r 6), .ref (r 7), .ref (r 8), .ref (r 9), .ref (r 10), .ref (r 11), .ref (r 12), .ref (r 13), .ref (r 14), .ref (r 15), .int 0, .int 0, .int 1, .int 110, .int 0, .int 0, .int 0, .int 0, .int 0, .int 0, .int 0, .int 0, .int 0, .int 0, .int 0])), (r 0, .inl (cC, 9, .inr (.inr (.inr (.inr gC))))), (c0, .inl (cI, 7, .inl fI)), (r 1, .inl (cK, 9, .inr (.inr (.inr (.inr gK))))), (k0, .inl (cX, 600, .inl fk)), (q9, .inl (c9, 7, .inl f56))] := hD
              refine lv_dup hx hb dX7_hole_173 rfl ?_
              refine lv_iconst (v := 2) hx hb dX7_hole_174 (by decide) ?_
              refine lv_iload_n hx hb dX7_hole_175 rfl (lv_at hl 6 rfl) ?_
              refine va_iast hx hb hK hP hD hS 5 4 rfl rfl (vp_in_nI (n := 2) (by decide) (by decide)) dX7_hole_176 (fun H locs hP hD hS => ?_)
              have hP : va_P D vwCl [(h0, .inr (13, [.ref (r 0), .ref (r 1), .ref (r 2), .ref (r 3), .ref (r 4), .ref (r 5), .ref (r 6), .ref (r 7), .ref (r 8), .ref (r 9), .ref (r 10), .ref (r 11), .ref (r 12), .ref (r 13), .ref (r 14), .ref (r 15), .int 0, .int 0, .int 1, .int 110, .int 0, .int 0, .int 0, .int 0, .int 0, .int 0, .int 0, .int 0, .int 0, .int 0, .int 0])), (r 0, .inl (cC, 9, .inr (.inr (.inr (.inr gC))))), (c0, .inl (cI, 7, .inl fI)), (r 1, .inl (cK, 9, .inr (.inr (.inr (.inr gK))))), (k0, .inl (cX, 600, .inl fk)), (q9, .inl (c9, 7, .inl (upd f56 (2 : Int32).toNatClampNeg a3)))] H := hP
              have hD : va_D A [(h0, .inr (13, [.ref (r 0), .ref (r 1), .ref (r 2), .ref (r 3), .ref (r 4), .ref (r 5), .ref (r 6), .ref (r 7), .ref (r 8), .ref (r 9), .ref (r 10), .ref (r 11), .ref (r 12), .ref (r 13), .ref (r 14), .ref (r 15), .int 0, .int 0, .int 1, .int 110, .int 0, .int 0, .int 0, .int 0, .int 0, .int 0, .int 0, .int 0, .int 0, .int 0, .int 0])), (r 0, .inl (cC, 9, .inr (.inr (.inr (.inr gC))))), (c0, .inl (cI, 7, .inl fI)), (r 1, .inl (cK, 9, .inr (.inr (.inr (.inr gK))))), (k0, .inl (cX, 600, .inl fk)), (q9, .inl (c9, 7, .inl (upd f56 (2 : Int32).toNatClampNeg a3)))] := hD
              generalize upd f56 (2 : Int32).toNatClampNeg a3 = f57 at hP hD
              have hP : va_P D vwCl [(h0, .inr (13, [.ref (r 0), .ref (r 1), .ref (r 2), .ref (r 3), .ref (r 4), .ref (r 5), .ref (r 6), .ref (r 7), .ref (r 8), .ref (r 9), .ref (r 10), .ref (r 11), .ref (r 12), .ref (r 13), .ref (r 14), .ref (r 15), .int 0, .int 0, .int 1, .int 110, .int 0, .int 0, .int 0, .int 0, .int 0, .int 0, .int 0, .int 0, .int 0, .int 0, .int 0])), (r 0, .inl (cC, 9, .inr (.inr (.inr (.inr gC))))), (c0, .inl (cI, 7, .inl fI)), (r 1, .inl (cK, 9, .inr (.inr (.inr (.inr gK))))), (k0, .inl (cX, 600, .inl fk)), (q9, .inl (c9, 7, .inl f57))] H := hP
              have hD : va_D A [(h0, .inr (13, [.ref (r 0), .ref (r 1), .ref (r 2), .ref (r 3), .ref (r 4), .ref (r 5), .ref (r 6), .ref (r 7), .ref (r 8), .ref (r 9), .ref (r 10), .ref (r 11), .ref (r 12), .ref (r 13), .ref (r 14), .ref (r 15), .int 0, .int 0, .int 1, .int 110, .int 0, .int 0, .int 0, .int 0, .int 0, .int 0, .int 0, .int 0, .int 0, .int 0, .int 0])), (r 0, .inl (cC, 9, .inr (.inr (.inr (.inr gC))))), (c0, .inl (cI, 7, .inl fI)), (r 1, .inl (cK, 9, .inr (.inr (.inr (.inr gK))))), (k0, .inl (cX, 600, .inl fk)), (q9, .inl (c9, 7, .inl f57))] := hD
              refine lv_dup hx hb dX7_hole_177 rfl ?_
              refine lv_iconst (v := 3) hx hb dX7_hole_178 (by decide) ?_
              refine lv_iload hx hb dX7_hole_179 (lv_at hl 7 rfl) ?_
              refine va_iast hx hb hK hP hD hS 5 4 rfl rfl (vp_in_nI (n := 3) (by decide) (by decide)) dX7_hole_181 (fun H locs hP hD hS => ?_)
              have hP : va_P D vwCl [(h0, .inr (13, [.ref (r 0), .ref (r 1), .ref (r 2), .ref (r 3), .ref (r 4), .ref (r 5), .ref (r 6), .ref (r 7), .ref (r 8), .ref (r 9), .ref (r 10), .ref (r 11), .ref (r 12), .ref (r 13), .ref (r 14), .ref (r 15), .int 0, .int 0, .int 1, .int 110, .int 0, .int 0, .int 0, .int 0, .int 0, .int 0, .int 0, .int 0, .int 0, .int 0, .int 0])), (r 0, .inl (cC, 9, .inr (.inr (.inr (.inr gC))))), (c0, .inl (cI, 7, .inl fI)), (r 1, .inl (cK, 9, .inr (.inr (.inr (.inr gK))))), (k0, .inl (cX, 600, .inl fk)), (q9, .inl (c9, 7, .inl (upd f57 (3 : Int32).toNatClampNeg a4)))] H := hP
              have hD : va_D A [(h0, .inr (13, [.ref (r 0), .ref (r 1), .ref (r 2), .ref (r 3), .ref (r 4), .ref (r 5), .ref (r 6), .ref (r 7), .ref (r 8), .ref (r 9), .ref (r 10), .ref (r 11), .ref (r 12), .ref (r 13), .ref (r 14), .ref (r 15), .int 0, .int 0, .int 1, .int 110, .int 0, .int 0, .int 0, .int 0, .int 0, .int 0, .int 0, .int 0, .int 0, .int 0, .int 0])), (r 0, .inl (cC, 9, .inr (.inr (.inr (.inr gC))))), (c0, .inl (cI, 7, .inl fI)), (r 1, .inl (cK, 9, .inr (.inr (.inr (.inr gK))))), (k0, .inl (cX, 600, .inl fk)), (q9, .inl (c9, 7, .inl (upd f57 (3 : Int32).toNatClampNeg a4)))] := hD
              generalize upd f57 (3 : Int32).toNatClampNeg a4 = f58 at hP hD
              have hP : va_P D vwCl [(h0, .inr (13, [.ref (r 0), .ref (r 1), .ref (r 2), .ref (r 3), .ref (r 4), .ref (r 5), .ref (r 6), .ref (r 7), .ref (r 8), .ref (r 9), .ref (r 10), .ref (r 11), .ref (r 12), .ref (r 13), .ref (r 14), .ref (r 15), .int 0, .int 0, .int 1, .int 110, .int 0, .int 0, .int 0, .int 0, .int 0, .int 0, .int 0, .int 0, .int 0, .int 0, .int 0])), (r 0, .inl (cC, 9, .inr (.inr (.inr (.inr gC))))), (c0, .inl (cI, 7, .inl fI)), (r 1, .inl (cK, 9, .inr (.inr (.inr (.inr gK))))), (k0, .inl (cX, 600, .inl fk)), (q9, .inl (c9, 7, .inl f58))] H := hP
              have hD : va_D A [(h0, .inr (13, [.ref (r 0), .ref (r 1), .ref (r 2), .ref (r 3), .ref (r 4), .ref (r 5), .ref (r 6), .ref (r 7), .ref (r 8), .ref (r 9), .ref (r 10), .ref (r 11), .ref (r 12), .ref (r 13), .ref (r 14), .ref (r 15), .int 0, .int 0, .int 1, .int 110, .int 0, .int 0, .int 0, .int 0, .int 0, .int 0, .int 0, .int 0, .int 0, .int 0, .int 0])), (r 0, .inl (cC, 9, .inr (.inr (.inr (.inr gC))))), (c0, .inl (cI, 7, .inl fI)), (r 1, .inl (cK, 9, .inr (.inr (.inr (.inr gK))))), (k0, .inl (cX, 600, .inl fk)), (q9, .inl (c9, 7, .inl f58))] := hD
              refine lv_dup hx hb dX7_hole_182 rfl ?_
              refine lv_iconst (v := 4) hx hb dX7_hole_183 (by decide) ?_
              refine lv_iload hx hb dX7_hole_184 (lv_at hl 8 rfl) ?_
              refine va_iast hx hb hK hP hD hS 5 4 rfl rfl (vp_in_nI (n := 4) (by decide) (by decide)) dX7_hole_186 (fun H locs hP hD hS => ?_)
              have hP : va_P D vwCl [(h0, .inr (13, [.ref (r 0), .ref (r 1), .ref (r 2), .ref (r 3), .ref (r 4), .ref (r 5), .ref (r 6), .ref (r 7), .ref (r 8), .ref (r 9), .ref (r 10), .ref (r 11), .ref (r 12), .ref (r 13), .ref (r 14), .ref (r 15), .int 0, .int 0, .int 1, .int 110, .int 0, .int 0, .int 0, .int 0, .int 0, .int 0, .int 0, .int 0, .int 0, .int 0, .int 0])), (r 0, .inl (cC, 9, .inr (.inr (.inr (.inr gC))))), (c0, .inl (cI, 7, .inl fI)), (r 1, .inl (cK, 9, .inr (.inr (.inr (.inr gK))))), (k0, .inl (cX, 600, .inl fk)), (q9, .inl (c9, 7, .inl (upd f58 (4 : Int32).toNatClampNeg a5)))] H := hP
              have hD : va_D A [(h0, .inr (13, [.ref (r 0), .ref (r 1), .ref (r 2), .ref (r 3), .ref (r 4), .ref (r 5), .ref (r 6), .ref (r 7), .ref (r 8), .ref (r 9), .ref (r 10), .ref (r 11), .ref (r 12), .ref (r 13), .ref (r 14), .ref (r 15), .int 0, .int 0, .int 1, .int 110, .int 0, .int 0, .int 0, .int 0, .int 0, .int 0, .int 0, .int 0, .int 0, .int 0, .int 0])), (r 0, .inl (cC, 9, .inr (.inr (.inr (.inr gC))))), (c0, .inl (cI, 7, .inl fI)), (r 1, .inl (cK, 9, .inr (.inr (.inr (.inr gK))))), (k0, .inl (cX, 600, .inl fk)), (q9, .inl (c9, 7, .inl (upd f58 (4 : Int32).toNatClampNeg a5)))] := hD
              generalize upd f58 (4 : Int32).toNatClampNeg a5 = f59 at hP hD
              have hP : va_P D vwCl [(h0, .inr (13, [.ref (r 0), .ref (r 1), .ref (r 2), .ref (r 3), .ref (r 4), .ref (r 5), .ref (r 6), .ref (r 7), .ref (r 8), .ref (r 9), .ref (r 10), .ref (r 11), .ref (r 12), .ref (r 13), .ref (r 14), .ref (r 15), .int 0, .int 0, .int 1, .int 110, .int 0, .int 0, .int 0, .int 0, .int 0, .int 0, .int 0, .int 0, .int 0, .int 0, .int 0])), (r 0, .inl (cC, 9, .inr (.inr (.inr (.inr gC))))), (c0, .inl (cI, 7, .inl fI)), (r 1, .inl (cK, 9, .inr (.inr (.inr (.inr gK))))), (k0, .inl (cX, 600, .inl fk)), (q9, .inl (c9, 7, .inl f59))] H := hP
              have hD : va_D A [(h0, .inr (13, [.ref (r 0), .ref (r 1), .ref (r 2), .ref (r 3), .ref (r 4), .ref (r 5), .ref (r 6), .ref (r 7), .ref (r 8), .ref (r 9), .ref (r 10), .ref (r 11), .ref (r 12), .ref (r 13), .ref (r 14), .ref (r 15), .int 0, .int 0, .int 1, .int 110, .int 0, .int 0, .int 0, .int 0, .int 0, .int 0, .int 0, .int 0, .int 0, .int 0, .int 0])), (r 0, .inl (cC, 9, .inr (.inr (.inr (.inr gC))))), (c0, .inl (cI, 7, .inl fI)), (r 1, .inl (cK, 9, .inr (.inr (.inr (.inr gK))))), (k0, .inl (cX, 600, .inl fk)), (q9, .inl (c9, 7, .inl f59))] := hD
              refine lv_dup hx hb dX7_hole_187 rfl ?_
              refine lv_iconst (v := 5) hx hb dX7_hole_188 (by decide) ?_
              refine lv_iload hx hb dX7_hole_189 (lv_at hl 9 rfl) ?_
              refine va_iast hx hb hK hP hD hS 5 4 rfl rfl (vp_in_nI (n := 5) (by decide) (by decide)) dX7_hole_191 (fun H locs hP hD hS => ?_)
              have hP : va_P D vwCl [(h0, .inr (13, [.ref (r 0), .ref (r 1), .ref (r 2), .ref (r 3), .ref (r 4), .ref (r 5), .ref (r 6), .ref (r 7), .ref (r 8), .ref (r 9), .ref (r 10), .ref (r 11), .ref (r 12), .ref (r 13), .ref (r 14), .ref (r 15), .int 0, .int 0, .int 1, .int 110, .int 0, .int 0, .int 0, .int 0, .int 0, .int 0, .int 0, .int 0, .int 0, .int 0, .int 0])), (r 0, .inl (cC, 9, .inr (.inr (.inr (.inr gC))))), (c0, .inl (cI, 7, .inl fI)), (r 1, .inl (cK, 9, .inr (.inr (.inr (.inr gK))))), (k0, .inl (cX, 600, .inl fk)), (q9, .inl (c9, 7, .inl (upd f59 (5 : Int32).toNatClampNeg a6)))] H := hP
              have hD : va_D A [(h0, .inr (13, [.ref (r 0), .ref (r 1), .ref (r 2), .ref (r 3), .ref (r 4), .ref (r 5), .ref (r 6), .ref (r 7), .ref (r 8), .ref (r 9), .ref (r 10), .ref (r 11), .ref (r 12), .ref (r 13), .ref (r 14), .ref (r 15), .int 0, .int 0, .int 1, .int 110, .int 0, .int 0, .int 0, .int 0, .int 0, .int 0, .int 0, .int 0, .int 0, .int 0, .int 0])), (r 0, .inl (cC, 9, .inr (.inr (.inr (.inr gC))))), (c0, .inl (cI, 7, .inl fI)), (r 1, .inl (cK, 9, .inr (.inr (.inr (.inr gK))))), (k0, .inl (cX, 600, .inl fk)), (q9, .inl (c9, 7, .inl (upd f59 (5 : Int32).toNatClampNeg a6)))] := hD
              generalize upd f59 (5 : Int32).toNatClampNeg a6 = f60 at hP hD
              have hP : va_P D vwCl [(h0, .inr (13, [.ref (r 0), .ref (r 1), .ref (r 2), .ref (r 3), .ref (r 4), .ref (r 5), .ref (r 6), .ref (r 7), .ref (r 8), .ref (r 9), .ref (r 10), .ref (r 11), .ref (r 12), .ref (r 13), .ref (r 14), .ref (r 15), .int 0, .int 0, .int 1, .int 110, .int 0, .int 0, .int 0, .int 0, .int 0, .int 0, .int 0, .int 0, .int 0, .int 0, .int 0])), (r 0, .inl (cC, 9, .inr (.inr (.inr (.inr gC))))), (c0, .inl (cI, 7, .inl fI)), (r 1, .inl (cK, 9, .inr (.inr (.inr (.inr gK))))), (k0, .inl (cX, 600, .inl fk)), (q9, .inl (c9, 7, .inl f60))] H := hP
              have hD : va_D A [(h0, .inr (13, [.ref (r 0), .ref (r 1), .ref (r 2), .ref (r 3), .ref (r 4), .ref (r 5), .ref (r 6), .ref (r 7), .ref (r 8), .ref (r 9), .ref (r 10), .ref (r 11), .ref (r 12), .ref (r 13), .ref (r 14), .ref (r 15), .int 0, .int 0, .int 1, .int 110, .int 0, .int 0, .int 0, .int 0, .int 0, .int 0, .int 0, .int 0, .int 0, .int 0, .int 0])), (r 0, .inl (cC, 9, .inr (.inr (.inr (.inr gC))))), (c0, .inl (cI, 7, .inl fI)), (r 1, .inl (cK, 9, .inr (.inr (.inr (.inr gK))))), (k0, .inl (cX, 600, .inl fk)), (q9, .inl (c9, 7, .inl f60))] := hD
              refine lv_dup hx hb dX7_hole_192 rfl ?_
              refine lv_bipush (v := 6) hx hb dX7_hole_193 (by decide) ?_
              refine lv_iconst (v := 0) hx hb dX7_hole_195 (by decide) ?_
              refine va_iast hx hb hK hP hD hS 5 4 rfl rfl (vp_in_nI (n := 6) (by decide) (by decide)) dX7_hole_196 (fun H locs hP hD hS => ?_)
              have hP : va_P D vwCl [(h0, .inr (13, [.ref (r 0), .ref (r 1), .ref (r 2), .ref (r 3), .ref (r 4), .ref (r 5), .ref (r 6), .ref (r 7), .ref (r 8), .ref (r 9), .ref (r 10), .ref (r 11), .ref (r 12), .ref (r 13), .ref (r 14), .ref (r 15), .int 0, .int 0, .int 1, .int 110, .int 0, .int 0, .int 0, .int 0, .int 0, .int 0, .int 0, .int 0, .int 0, .int 0, .int 0])), (r 0, .inl (cC, 9, .inr (.inr (.inr (.inr gC))))), (c0, .inl (cI, 7, .inl fI)), (r 1, .inl (cK, 9, .inr (.inr (.inr (.inr gK))))), (k0, .inl (cX, 600, .inl fk)), (q9, .inl (c9, 7, .inl (upd f60 (6 : Int32).toNatClampNeg 0)))] H := hP
              have hD : va_D A [(h0, .inr (13, [.ref (r 0), .ref (r 1), .ref (r 2), .ref (r 3), .ref (r 4), .ref (r 5), .ref (r 6), .ref (r 7), .ref (r 8), .ref (r 9), .ref (r 10), .ref (r 11), .ref (r 12), .ref (r 13), .ref (r 14), .ref (r 15), .int 0, .int 0, .int 1, .int 110, .int 0, .int 0, .int 0, .int 0, .int 0, .int 0, .int 0, .int 0, .int 0, .int 0, .int 0])), (r 0, .inl (cC, 9, .inr (.inr (.inr (.inr gC))))), (c0, .inl (cI, 7, .inl fI)), (r 1, .inl (cK, 9, .inr (.inr (.inr (.inr gK))))), (k0, .inl (cX, 600, .inl fk)), (q9, .inl (c9, 7, .inl (upd f60 (6 : Int32).toNatClampNeg 0)))] := hD
              generalize upd f60 (6 : Int32).toNatClampNeg 0 = f61 at hP hD
              have hP : va_P D vwCl [(h0, .inr (13, [.ref (r 0), .ref (r 1), .ref (r 2), .ref (r 3), .ref (r 4), .ref (r 5), .ref (r 6), .ref (r 7), .ref (r 8), .ref (r 9), .ref (r 10), .ref (r 11), .ref (r 12), .ref (r 13), .ref (r 14), .ref (r 15), .int 0, .int 0, .int 1, .int 110, .int 0, .int 0, .int 0, .int 0, .int 0, .int 0, .int 0, .int 0, .int 0, .int 0, .int 0])), (r 0, .inl (cC, 9, .inr (.inr (.inr (.inr gC))))), (c0, .inl (cI, 7, .inl fI)), (r 1, .inl (cK, 9, .inr (.inr (.inr (.inr gK))))), (k0, .inl (cX, 600, .inl fk)), (q9, .inl (c9, 7, .inl f61))] H := hP
              have hD : va_D A [(h0, .inr (13, [.ref (r 0), .ref (r 1), .ref (r 2), .ref (r 3), .ref (r 4), .ref (r 5), .ref (r 6), .ref (r 7), .ref (r 8), .ref (r 9), .ref (r 10), .ref (r 11), .ref (r 12), .ref (r 13), .ref (r 14), .ref (r 15), .int 0, .int 0, .int 1, .int 110, .int 0, .int 0, .int 0, .int 0, .int 0, .int 0, .int 0, .int 0, .int 0, .int 0, .int 0])), (r 0, .inl (cC, 9, .inr (.inr (.inr (.inr gC))))), (c0, .inl (cI, 7, .inl fI)), (r 1, .inl (cK, 9, .inr (.inr (.inr (.inr gK))))), (k0, .inl (cX, 600, .inl fk)), (q9, .inl (c9, 7, .inl f61))] := hD
              refine lv_astore (lv' := [(9, .ref q9), (8, .int 0), (7, .int 1), (0, .ref h0), (1, .int a1), (2, .int a2), (3, .int a3), (4, .int a4), (5, .int a5), (6, .int a6)]) hx hb dX7_hole_197 hl (by decide) rfl (fun ls hl => ?_)
              refine lv_aload hx hb dX7_hole_199 (lv_at hl 0 rfl) ?_
              refine lv_iconst (v := 0) hx hb dX7_hole_201 (by decide) ?_
              refine lv_aload_n hx hb dX7_hole_202 rfl (lv_at hl 3 rfl) ?_
              refine va_get (D := D) (ci := 13) (v := .ref (r 0)) (C := RX7) (T := TX7) (N := 31) hx hb hts (by decide +kernel) hown hK hP 0 rfl rfl 0 (by decide) (hts (.fieldLink RX7 11 "FairwayChanceryModel" "course" "[[I") (by decide +kernel)) (fun _ h9 => h9) rfl dX7_hole_203 ?_
              refine lv_aload_n hx hb dX7_hole_206 rfl (lv_at hl 3 rfl) ?_
              refine va_get (D := D) (ci := 13) (v := .int 0) (C := RX7) (T := TX7) (N := 31) hx hb hts (by decide +kernel) hown hK hP 0 rfl rfl 16 (by decide) (hts (.fieldLink RX7 86 "FairwayChanceryModel" "holes" "I") (by decide +kernel)) (fun _ h9 => h9) rfl dX7_hole_207 ?_
              refine va_aldqA hx hb hK hP 1 0 rfl rfl (vp_in_nI (n := 0) (by decide) (by decide)) dX7_hole_210 ?_
              have e0 : va_rf (gC (0 : Int32).toNatClampNeg) = .ref c0 := by rw [show (0 : Int32).toNatClampNeg = 0 from by decide, hg1]; rfl
              rw [e0]
              refine lv_iconst (v := 0) hx hb dX7_hole_211 (by decide) ?_
              refine lv_aload hx hb dX7_hole_212 (lv_at hl 0 rfl) ?_
              refine va_alen hx hb hK hP 5 4 rfl rfl (v := 7) (by show Int32.ofNat 7 = 7; decide) dX7_hole_214 ?_
              refine va_copyi hx hb (by rw [hml]; exact hl.1.symm) hown (hts (.methodLink RX7 118 arraycopyName) (by decide +kernel)) (hts (.native arraycopyName) (by decide +kernel)) (hts (.static arraycopyName) (by decide +kernel)) (hts (.initialized "java/lang/System") (by decide +kernel)) hK hP hD hS 5 2 4 1 rfl rfl rfl rfl rfl (by decide) (by decide) (by decide) (by decide) (by decide) (fun i _ => rfl) (Nat.le_of_ble_eq_true rfl) (Nat.le_of_ble_eq_true rfl) dX7_hole_215 (fun H locs hP hD hS => ?_)
              have hP : va_P D vwCl [(h0, .inr (13, [.ref (r 0), .ref (r 1), .ref (r 2), .ref (r 3), .ref (r 4), .ref (r 5), .ref (r 6), .ref (r 7), .ref (r 8), .ref (r 9), .ref (r 10), .ref (r 11), .ref (r 12), .ref (r 13), .ref (r 14), .ref (r 15), .int 0, .int 0, .int 1, .int 110, .int 0, .int 0, .int 0, .int 0, .int 0, .int 0, .int 0, .int 0, .int 0, .int 0, .int 0])), (r 0, .inl (cC, 9, .inr (.inr (.inr (.inr gC))))), (c0, .inl (cI, 7, .inl (va_cpy f61 fI (0 : Int32).toNatClampNeg (0 : Int32).toNatClampNeg (7 : Int32).toNatClampNeg))), (r 1, .inl (cK, 9, .inr (.inr (.inr (.inr gK))))), (k0, .inl (cX, 600, .inl fk)), (q9, .inl (c9, 7, .inl f61))] H := hP
              have hD : va_D A [(h0, .inr (13, [.ref (r 0), .ref (r 1), .ref (r 2), .ref (r 3), .ref (r 4), .ref (r 5), .ref (r 6), .ref (r 7), .ref (r 8), .ref (r 9), .ref (r 10), .ref (r 11), .ref (r 12), .ref (r 13), .ref (r 14), .ref (r 15), .int 0, .int 0, .int 1, .int 110, .int 0, .int 0, .int 0, .int 0, .int 0, .int 0, .int 0, .int 0, .int 0, .int 0, .int 0])), (r 0, .inl (cC, 9, .inr (.inr (.inr (.inr gC))))), (c0, .inl (cI, 7, .inl (va_cpy f61 fI (0 : Int32).toNatClampNeg (0 : Int32).toNatClampNeg (7 : Int32).toNatClampNeg))), (r 1, .inl (cK, 9, .inr (.inr (.inr (.inr gK))))), (k0, .inl (cX, 600, .inl fk)), (q9, .inl (c9, 7, .inl f61))] := hD
              generalize va_cpy f61 fI (0 : Int32).toNatClampNeg (0 : Int32).toNatClampNeg (7 : Int32).toNatClampNeg = f62 at hP hD
              have hP : va_P D vwCl [(h0, .inr (13, [.ref (r 0), .ref (r 1), .ref (r 2), .ref (r 3), .ref (r 4), .ref (r 5), .ref (r 6), .ref (r 7), .ref (r 8), .ref (r 9), .ref (r 10), .ref (r 11), .ref (r 12), .ref (r 13), .ref (r 14), .ref (r 15), .int 0, .int 0, .int 1, .int 110, .int 0, .int 0, .int 0, .int 0, .int 0, .int 0, .int 0, .int 0, .int 0, .int 0, .int 0])), (r 0, .inl (cC, 9, .inr (.inr (.inr (.inr gC))))), (c0, .inl (cI, 7, .inl f62)), (r 1, .inl (cK, 9, .inr (.inr (.inr (.inr gK))))), (k0, .inl (cX, 600, .inl fk)), (q9, .inl (c9, 7, .inl f61))] H := hP
              have hD : va_D A [(h0, .inr (13, [.ref (r 0), .ref (r 1), .ref (r 2), .ref (r 3), .ref (r 4), .ref (r 5), .ref (r 6), .ref (r 7), .ref (r 8), .ref (r 9), .ref (r 10), .ref (r 11), .ref (r 12), .ref (r 13), .ref (r 14), .ref (r 15), .int 0, .int 0, .int 1, .int 110, .int 0, .int 0, .int 0, .int 0, .int 0, .int 0, .int 0, .int 0, .int 0, .int 0, .int 0])), (r 0, .inl (cC, 9, .inr (.inr (.inr (.inr gC))))), (c0, .inl (cI, 7, .inl f62)), (r 1, .inl (cK, 9, .inr (.inr (.inr (.inr gK))))), (k0, .inl (cX, 600, .inl fk)), (q9, .inl (c9, 7, .inl f61))] := hD
              refine lv_iconst (v := 0) hx hb dX7_hole_218 (by decide) ?_
              refine lv_istore (lv' := [(10, .int 0), (9, .ref q9), (8, .int 0), (7, .int 1), (0, .ref h0), (1, .int a1), (2, .int a2), (3, .int a3), (4, .int a4), (5, .int a5), (6, .int a6)]) hx hb dX7_hole_219 hl (by decide) rfl (fun ls hl => ?_)
              have hP3 := hP.sub (ws' := [(h0, .inr (13, [.ref (r 0), .ref (r 1), .ref (r 2), .ref (r 3), .ref (r 4), .ref (r 5), .ref (r 6), .ref (r 7), .ref (r 8), .ref (r 9), .ref (r 10), .ref (r 11), .ref (r 12), .ref (r 13), .ref (r 14), .ref (r 15), .int 0, .int 0, .int 1, .int 110, .int 0, .int 0, .int 0, .int 0, .int 0, .int 0, .int 0, .int 0, .int 0, .int 0, .int 0])), (r 1, .inl (cK, 9, .inr (.inr (.inr (.inr gK))))), (k0, .inl (cX, 600, .inl fk))]) [0, 3, 4] rfl
              have hD3 := hD.sub (ws' := [(h0, .inr (13, [.ref (r 0), .ref (r 1), .ref (r 2), .ref (r 3), .ref (r 4), .ref (r 5), .ref (r 6), .ref (r 7), .ref (r 8), .ref (r 9), .ref (r 10), .ref (r 11), .ref (r 12), .ref (r 13), .ref (r 14), .ref (r 15), .int 0, .int 0, .int 1, .int 110, .int 0, .int 0, .int 0, .int 0, .int 0, .int 0, .int 0, .int 0, .int 0, .int 0, .int 0])), (r 1, .inl (cK, 9, .inr (.inr (.inr (.inr gK))))), (k0, .inl (cX, 600, .inl fk))]) [0, 3, 4] (by decide) rfl
              have hK3 := hK.sub (tys' := [(cK, .array .char), (cX, .char)]) [2, 3] rfl
              refine mhole_loop hg2 hx hb hts hown hK3 (fun fk H locs ls hP hD hS hl => ?_) 600 0 (by decide) _ H locs ls hP3 hD3 hS (lv_sub hl [4, 0] rfl)
              have hK := hK3
              refine lv_aload_n hx hb dX7_hole_249 rfl (lv_at hl 0 rfl) ?_
              refine lv_dup hx hb dX7_hole_250 rfl ?_
              refine va_get (D := D) (ci := 13) (v := .int 0) (C := RX7) (T := TX7) (N := 31) hx hb hts (by decide +kernel) hown hK hP 0 rfl rfl 16 (by decide) (hts (.fieldLink RX7 86 "FairwayChanceryModel" "holes" "I") (by decide +kernel)) (fun _ h9 => h9) rfl dX7_hole_251 ?_
              refine lv_iconst (v := 1) hx hb dX7_hole_254 (by decide) ?_
              refine lv_iadd hx hb dX7_hole_255 ?_
              refine lv_topi (fun y63 ey63 => ?_)
              obtain rfl : y63 = 1 := ey63.trans (by decide)
              refine va_put (D := D) (ci := 13) (v := .int 1) (ty := .int) (C := RX7) (T := TX7) (N := 31) hx hb hts (by decide +kernel) tyX7 tyX7_ok nmX7 hown hK hP hD hS 0 rfl rfl 16 (by decide) (hts (.fieldLink RX7 86 "FairwayChanceryModel" "holes" "I") (by decide +kernel)) (fun _ h9 => h9) rfl (by decide +kernel) rfl rfl (Nat.le_of_ble_eq_true rfl) dX7_hole_256 (fun H locs hP hD hS => ?_)
              have hP : va_P D vwCl [(h0, .inr (13, [.ref (r 0), .ref (r 1), .ref (r 2), .ref (r 3), .ref (r 4), .ref (r 5), .ref (r 6), .ref (r 7), .ref (r 8), .ref (r 9), .ref (r 10), .ref (r 11), .ref (r 12), .ref (r 13), .ref (r 14), .ref (r 15), .int 1, .int 0, .int 1, .int 110, .int 0, .int 0, .int 0, .int 0, .int 0, .int 0, .int 0, .int 0, .int 0, .int 0, .int 0])), (r 1, .inl (cK, 9, .inr (.inr (.inr (.inr gK))))), (k0, .inl (cX, 600, .inl fk))] H := hP
              have hD : va_D A [(h0, .inr (13, [.ref (r 0), .ref (r 1), .ref (r 2), .ref (r 3), .ref (r 4), .ref (r 5), .ref (r 6), .ref (r 7), .ref (r 8), .ref (r 9), .ref (r 10), .ref (r 11), .ref (r 12), .ref (r 13), .ref (r 14), .ref (r 15), .int 1, .int 0, .int 1, .int 110, .int 0, .int 0, .int 0, .int 0, .int 0, .int 0, .int 0, .int 0, .int 0, .int 0, .int 0])), (r 1, .inl (cK, 9, .inr (.inr (.inr (.inr gK))))), (k0, .inl (cX, 600, .inl fk))] := hD
              refine lv_aload_n hx hb dX7_hole_259 rfl (lv_at hl 0 rfl) ?_
              refine va_get (D := D) (ci := 13) (v := .int 1) (C := RX7) (T := TX7) (N := 31) hx hb hts (by decide +kernel) hown hK hP 0 rfl rfl 16 (by decide) (hts (.fieldLink RX7 86 "FairwayChanceryModel" "holes" "I") (by decide +kernel)) (fun _ h9 => h9) rfl dX7_hole_260 ?_
              refine lv_iconst (v := 1) hx hb dX7_hole_263 (by decide) ?_
              refine lv_isub hx hb dX7_hole_264 ?_
              refine lv_topi (fun y64 ey64 => ?_)
              obtain rfl : y64 = 0 := ey64.trans (by decide)
              have hP9 := hP.sub (ws' := [(h0, .inr (13, [.ref (r 0), .ref (r 1), .ref (r 2), .ref (r 3), .ref (r 4), .ref (r 5), .ref (r 6), .ref (r 7), .ref (r 8), .ref (r 9), .ref (r 10), .ref (r 11), .ref (r 12), .ref (r 13), .ref (r 14), .ref (r 15), .int 1, .int 0, .int 1, .int 110, .int 0, .int 0, .int 0, .int 0, .int 0, .int 0, .int 0, .int 0, .int 0, .int 0, .int 0]))]) [0] rfl
              exact W.iret (v := 0) hx hb hr (fun t ht hW => ⟨⟨0, [.ref (r 0), .ref (r 1), .ref (r 2), .ref (r 3), .ref (r 4), .ref (r 5), .ref (r 6), .ref (r 7), .ref (r 8), .ref (r 9), .ref (r 10), .ref (r 11), .ref (r 12), .ref (r 13), .ref (r 14), .ref (r 15), .int 1, .int 0, .int 1, .int 110, .int 0, .int 0, .int 0, .int 0, .int 0, .int 0, .int 0, .int 0, .int 0, .int 0, .int 0], rfl, Or.inl ⟨by have h := And.intro c_2 (And.intro c_8 (And.intro c_14 (c_20))); simp only [Int32.lt_iff_toInt_lt, Int32.le_iff_toInt_le, bIn_0, bCell_0, tI_0, tI_1, tI_3, tI_5, tI_6, tI_9, tI_19, tI_20, tI_29, tI_30, tI_36, tI_m1] at h; exact ⟨by omega, by omega, by omega, by omega, fun q => c_46 q.2⟩, rfl, rfl⟩, by rw [← ht] at hP9; exact hP9⟩, hS.F ht⟩) hS.2.2 dX7_hole_265
            · skip
              refine lv_iconst (v := 1) hx hb dX7_hole_108 (by decide) ?_
              refine lv_goto (tgt := 113) hx hb dX7_hole_109 (by decide) ?_
              refine lv_iconst (v := 1) hx hb dX7_hole_113 (by decide) ?_
              have hPc := hP.sub (ws' := [(h0, .inr (13, [.ref (r 0), .ref (r 1), .ref (r 2), .ref (r 3), .ref (r 4), .ref (r 5), .ref (r 6), .ref (r 7), .ref (r 8), .ref (r 9), .ref (r 10), .ref (r 11), .ref (r 12), .ref (r 13), .ref (r 14), .ref (r 15), .int 0, .int 0, .int 1, .int 110, .int 0, .int 0, .int 0, .int 0, .int 0, .int 0, .int 0, .int 0, .int 0, .int 0, .int 0]))]) [0] rfl
              have hKc := hK.sub (tys' := []) [] rfl
              have hFc : ∀ q : Nat, rg1 h0 H.size q → A q := fun q h => h.elim (fun e => by rw [e]; exact hD.2 0 _ rfl) (fun h => hA q (Nat.le_trans hS.1 h))
              refine va_calli (va_runV (As := [.int 1, .int 1]) (rest := []) ⟨hx, hb, hml, hown, hts⟩ (c_X7_isThrown l D h0 r 0 H.size 1 1 (Or.inr rfl)) (cwV 2 hts gX7_hole_X7_isThrown rfl rfl rfl (by decide +kernel) ⟨Nat.le_of_ble_eq_true rfl, Nat.le_of_ble_eq_true rfl⟩) ⟨fun a U g mk q => ⟨q.1, PX7.blind q.2⟩, va_recv hK hP (ci := 13) (q0 := 0) rfl rfl, fun U hU hW => ⟨rfl, PX7.go hPc hKc hU hW⟩⟩ rfl rfl hl.1 rfl (lv_room (Nat.le_of_ble_eq_true rfl)) dX7_hole_114 ⟨Nat.le_of_ble_eq_true rfl, Nat.le_of_ble_eq_true rfl⟩) hS (fun q _ h => hFc q h) hFc (fun r65 u t H1 locs ht hvm hw hB hz1 hk1 hS => ?_)
              rw [ht, if_neg (by decide)] at hB
              have hP := va_keep1 hP hD hB hk1
              have hD := va_keep1D (e' := .inr (13, [.ref (r 0), .ref (r 1), .ref (r 2), .ref (r 3), .ref (r 4), .ref (r 5), .ref (r 6), .ref (r 7), .ref (r 8), .ref (r 9), .ref (r 10), .ref (r 11), .ref (r 12), .ref (r 13), .ref (r 14), .ref (r 15), .int 0, .int 0, .int 1, .int 110, .int 0, .int 0, .int 0, .int 0, .int 0, .int 0, .int 0, .int 0, .int 0, .int 0, .int 1])) hD
              generalize H1 = H at hP hS ⊢
              have hP : va_P D vwCl [(h0, .inr (13, [.ref (r 0), .ref (r 1), .ref (r 2), .ref (r 3), .ref (r 4), .ref (r 5), .ref (r 6), .ref (r 7), .ref (r 8), .ref (r 9), .ref (r 10), .ref (r 11), .ref (r 12), .ref (r 13), .ref (r 14), .ref (r 15), .int 0, .int 0, .int 1, .int 110, .int 0, .int 0, .int 0, .int 0, .int 0, .int 0, .int 0, .int 0, .int 0, .int 0, .int 1])), (r 0, .inl (cC, 9, .inr (.inr (.inr (.inr gC))))), (c0, .inl (cI, 7, .inl fI)), (r 1, .inl (cK, 9, .inr (.inr (.inr (.inr gK))))), (k0, .inl (cX, 600, .inl fk))] H := hP
              have hD : va_D A [(h0, .inr (13, [.ref (r 0), .ref (r 1), .ref (r 2), .ref (r 3), .ref (r 4), .ref (r 5), .ref (r 6), .ref (r 7), .ref (r 8), .ref (r 9), .ref (r 10), .ref (r 11), .ref (r 12), .ref (r 13), .ref (r 14), .ref (r 15), .int 0, .int 0, .int 1, .int 110, .int 0, .int 0, .int 0, .int 0, .int 0, .int 0, .int 0, .int 0, .int 0, .int 0, .int 1])), (r 0, .inl (cC, 9, .inr (.inr (.inr (.inr gC))))), (c0, .inl (cI, 7, .inl fI)), (r 1, .inl (cK, 9, .inr (.inr (.inr (.inr gK))))), (k0, .inl (cX, 600, .inl fk))] := hD
              obtain rfl : r65 = 1 := hw
              refine lv_if_ne (tgt := 159) hx hb dX7_hole_117 (by decide) (fun _ => ?_) (fun c => by first | exact absurd (by decide) c | exact absurd c (by decide))
              refine lv_iconst (v := 0) hx hb dX7_hole_159 (by decide) ?_
              have hP9 := hP.sub (ws' := [(h0, .inr (13, [.ref (r 0), .ref (r 1), .ref (r 2), .ref (r 3), .ref (r 4), .ref (r 5), .ref (r 6), .ref (r 7), .ref (r 8), .ref (r 9), .ref (r 10), .ref (r 11), .ref (r 12), .ref (r 13), .ref (r 14), .ref (r 15), .int 0, .int 0, .int 1, .int 110, .int 0, .int 0, .int 0, .int 0, .int 0, .int 0, .int 0, .int 0, .int 0, .int 0, .int 1]))]) [0] rfl
              refine W.widen (k := 1) (n := 7) (by decide) (by decide) ?_
              exact W.iret (v := 0) hx hb hr (fun t ht hW => ⟨⟨0, [.ref (r 0), .ref (r 1), .ref (r 2), .ref (r 3), .ref (r 4), .ref (r 5), .ref (r 6), .ref (r 7), .ref (r 8), .ref (r 9), .ref (r 10), .ref (r 11), .ref (r 12), .ref (r 13), .ref (r 14), .ref (r 15), .int 0, .int 0, .int 1, .int 110, .int 0, .int 0, .int 0, .int 0, .int 0, .int 0, .int 0, .int 0, .int 0, .int 0, .int 1], rfl, Or.inr ⟨fun q => q.2.2.2.2 ⟨c_27, c_46⟩, rfl⟩, by rw [← ht] at hP9; exact hP9⟩, hS.F ht⟩) hS.2.2 dX7_hole_160
