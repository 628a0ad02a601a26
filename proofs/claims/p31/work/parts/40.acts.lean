/-! acts -/
set_option maxRecDepth 100000 in
set_option maxHeartbeats 4000000 in
theorem lL_acts159b {G : zG} {l : Launch} {h : Nat → Nat} {m : zM} {K n s : Nat} (sy : Sy K h m n s) (hK : K ≤ 1000)  {a b : Nat} (ha : a < 9) (hb : b < 9) {d : Int32} (hag : ¬ agr (nI a) (nI b) d) : ∀ mm : zM, Fsv m mm → Z G mL_acts (fun _ => True) (zN G (actP K h m n s) 0 0) l 0 0 (zw h mm) 159 [(8, .int d), (7, .int (nI b)), (6, .int (nI a)), (5, .int (nI n)), (4, .int (m 1 12)), (0, .ref (G.1 + 0))] [.int (nI 1)] := by
  intro mm hF
  have hI := sy.inv
  have hn := hI.n14
  have hk := sy.ok
  have g := hI.g
  refine Z_istore 161 [(9, _), (8, _), (7, _), (6, _), (5, _), (4, _), (0, _)] dL_acts_159 rfl (Nat.le_of_ble_eq_true rfl) rfl ?_
  refine Z_iload 163 0 dL_acts_161 rfl rfl ?_
  refine Z_if_eq 166 170 dL_acts_163 rfl rfl (fun c163 => absurd c163 (by decide)) (fun c163 => ?_)
  refine Z_iconst 167 (nI 0) dL_acts_166 rfl rfl ?_
  refine Z_goto 180 dL_acts_167 rfl ?_
  refine Z_istore 182 [(10, _), (9, _), (8, _), (7, _), (6, _), (5, _), (4, _), (0, _)] dL_acts_180 rfl (Nat.le_of_ble_eq_true rfl) rfl ?_
  refine Z_aload_n 183 7 dL_acts_182 rfl rfl ?_
  refine Z_iload 185 4 dL_acts_183 rfl rfl ?_
  refine Z_iload 187 3 dL_acts_185 rfl rfl ?_
  refine Z_iload 189 2 dL_acts_187 rfl rfl ?_
  refine Z_callV 192 [_, _, _] 3 (e_sign sy hF hag) dL_acts_189 rfl qL_99 kX3_sign rfl rfl (Nat.le_of_ble_eq_true rfl) rfl rfl ⟨(Nat.le_of_ble_eq_true rfl), (Nat.le_of_ble_eq_true rfl)⟩ (Nat.le_of_ble_eq_true rfl) ⟨rfl, rfl⟩ ⟨(Nat.le_of_ble_eq_true rfl), (Nat.le_of_ble_eq_true rfl)⟩ (fun r9 w9 hp9 => ?_)
  obtain ⟨rfl, mm, rfl, hF⟩ := hp9
  refine Z_istore 194 [(11, _), (10, _), (9, _), (8, _), (7, _), (6, _), (5, _), (4, _), (0, _)] dL_acts_192 rfl (Nat.le_of_ble_eq_true rfl) rfl ?_
  refine Z_iload 196 2 dL_acts_194 rfl rfl ?_
  refine Z_if_ne 199 215 dL_acts_196 rfl rfl (fun c196 => ?_) (fun c196 => absurd (by decide) c196)
  refine Z_iconst 216 (nI 0) dL_acts_215 rfl rfl ?_
  refine Z_istore 218 [(12, _), (11, _), (10, _), (9, _), (8, _), (7, _), (6, _), (5, _), (4, _), (0, _)] dL_acts_216 rfl (Nat.le_of_ble_eq_true rfl) rfl ?_
  refine Z_iload 220 1 dL_acts_218 rfl rfl ?_
  refine Z_iload 222 3 dL_acts_220 rfl rfl ?_
  refine Z_if_eq 225 229 dL_acts_222 rfl rfl (fun c222 => absurd c222 (by decide)) (fun c222 => ?_)
  refine Z_iconst 226 (-1) dL_acts_225 rfl rfl ?_
  refine Z_goto 256 dL_acts_226 rfl ?_
  refine Z_icmp_ne 259 342 dL_acts_256 rfl rfl (fun c256 => absurd c256 (by decide)) (fun c256 => ?_)
  refine Z_aload_n 260 9 dL_acts_259 rfl rfl ?_
  refine Z_bipush 262 (nI 8) dL_acts_260 rfl rfl ?_
  refine Z_callV 265 [_] 3 (v_count8 hF hk) dL_acts_262 rfl qL_13 kX3_count rfl rfl (Nat.le_of_ble_eq_true rfl) rfl rfl ⟨(Nat.le_of_ble_eq_true rfl), (Nat.le_of_ble_eq_true rfl)⟩ (Nat.le_of_ble_eq_true rfl) ⟨rfl, rfl⟩ ⟨(Nat.le_of_ble_eq_true rfl), (Nat.le_of_ble_eq_true rfl)⟩ (fun r9 w9 hp9 => ?_)
  obtain ⟨rfl, mm, rfl, hF⟩ := hp9
  refine Z_iload 267 8 dL_acts_265 rfl rfl ?_
  refine Z_iload 269 0 dL_acts_267 rfl rfl ?_
  refine Z_if_eq 272 276 dL_acts_269 rfl rfl (fun c269 => ?_) (fun c269 => absurd (by decide) c269)
  refine Z_iconst 277 (nI 0) dL_acts_276 rfl rfl ?_
  refine Z_iadd 278 dL_acts_277 rfl ?_
  refine Z_icmp_ne 281 342 dL_acts_278 rfl rfl (fun c278 => absurd c278 (fun z => z (ad0 _))) (fun c278 => ?_)
  refine Z_iload 283 1 dL_acts_281 rfl rfl ?_
  refine Z_bipush 285 (nI 10) dL_acts_283 rfl rfl ?_
  refine Z_icmp_lt 288 338 dL_acts_285 rfl rfl (fun c285 => ?_) (fun c285 => absurd (by decide) c285)
  refine Z_iconst 339 (nI 1) dL_acts_338 rfl rfl ?_
  refine Z_goto 343 dL_acts_339 rfl ?_
  exact Z_zret dL_acts_343 rfl (by first | exact Or.inl rfl | exact Or.inr rfl | exact bI_01) (by first | exact actOk hAct | exact actOk (hA.v hF) | exact actOk (Act.noV sy hF))

set_option maxRecDepth 100000 in
set_option maxHeartbeats 4000000 in
theorem lL_acts159l {G : zG} {l : Launch} {h : Nat → Nat} {m : zM} {K n s : Nat} (sy : Sy K h m n s) (hK : K ≤ 1000)  {a b : Nat} (ha : a < 9) (hb : b < 9) {d : Int32} (hag : agr (nI a) (nI b) d) (h14 : n = 14) : ∀ mm : zM, Fsv m mm → Z G mL_acts (fun _ => True) (zN G (actP K h m n s) 0 0) l 0 0 (zw h mm) 159 [(8, .int d), (7, .int (nI b)), (6, .int (nI a)), (5, .int (nI n)), (4, .int (m 1 12)), (0, .ref (G.1 + 0))] [.int (nI 0)] := by
  intro mm hF
  have hI := sy.inv
  have hn := hI.n14
  have hk := sy.ok
  have g := hI.g
  refine Z_istore 161 [(9, _), (8, _), (7, _), (6, _), (5, _), (4, _), (0, _)] dL_acts_159 rfl (Nat.le_of_ble_eq_true rfl) rfl ?_
  refine Z_iload 163 0 dL_acts_161 rfl rfl ?_
  refine Z_if_eq 166 170 dL_acts_163 rfl rfl (fun c163 => ?_) (fun c163 => absurd (by decide) c163)
  refine Z_aload_n 171 6 dL_acts_170 rfl rfl ?_
  refine Z_iload 173 3 dL_acts_171 rfl rfl ?_
  refine Z_iload 175 2 dL_acts_173 rfl rfl ?_
  refine Z_iload 177 1 dL_acts_175 rfl rfl ?_
  refine Z_callV 180 [_, _, _] 3 (v_whyNot hF g ha hb d) dL_acts_177 rfl qL_42 kX3_whyNot rfl rfl (Nat.le_of_ble_eq_true rfl) rfl rfl ⟨(Nat.le_of_ble_eq_true rfl), (Nat.le_of_ble_eq_true rfl)⟩ (Nat.le_of_ble_eq_true rfl) ⟨rfl, rfl⟩ ⟨(Nat.le_of_ble_eq_true rfl), (Nat.le_of_ble_eq_true rfl)⟩ (fun r9 w9 hp9 => ?_)
  obtain ⟨wy, rfl, hwy, mm, rfl, hF⟩ := hp9
  refine Z_istore 182 [(10, _), (9, _), (8, _), (7, _), (6, _), (5, _), (4, _), (0, _)] dL_acts_180 rfl (Nat.le_of_ble_eq_true rfl) rfl ?_
  refine Z_aload_n 183 7 dL_acts_182 rfl rfl ?_
  refine Z_iload 185 4 dL_acts_183 rfl rfl ?_
  refine Z_iload 187 3 dL_acts_185 rfl rfl ?_
  refine Z_iload 189 2 dL_acts_187 rfl rfl ?_
  refine Z_callV 192 [_, _, _] 3 (l_sign sy hF hag h14) dL_acts_189 rfl qL_99 kX3_sign rfl rfl (Nat.le_of_ble_eq_true rfl) rfl rfl ⟨(Nat.le_of_ble_eq_true rfl), (Nat.le_of_ble_eq_true rfl)⟩ (Nat.le_of_ble_eq_true rfl) ⟨rfl, rfl⟩ ⟨(Nat.le_of_ble_eq_true rfl), (Nat.le_of_ble_eq_true rfl)⟩ (fun r9 w9 hp9 => ?_)
  obtain ⟨rfl, mm, rfl, hF⟩ := hp9
  refine Z_istore 194 [(11, _), (10, _), (9, _), (8, _), (7, _), (6, _), (5, _), (4, _), (0, _)] dL_acts_192 rfl (Nat.le_of_ble_eq_true rfl) rfl ?_
  refine Z_iload 196 2 dL_acts_194 rfl rfl ?_
  refine Z_if_ne 199 215 dL_acts_196 rfl rfl (fun c196 => absurd c196 (by decide)) (fun c196 => ?_)
  refine Z_iload 201 6 dL_acts_199 rfl rfl ?_
  refine Z_bipush 203 (nI 14) dL_acts_201 rfl rfl ?_
  refine Z_icmp_ge 206 215 dL_acts_203 rfl rfl (fun c203 => ?_) (fun c203 => absurd ((by rw [h14]; decide)) c203)
  refine Z_iconst 216 (nI 0) dL_acts_215 rfl rfl ?_
  refine Z_istore 218 [(12, _), (11, _), (10, _), (9, _), (8, _), (7, _), (6, _), (5, _), (4, _), (0, _)] dL_acts_216 rfl (Nat.le_of_ble_eq_true rfl) rfl ?_
  refine Z_iload 220 1 dL_acts_218 rfl rfl ?_
  refine Z_iload 222 3 dL_acts_220 rfl rfl ?_
  refine Z_if_eq 225 229 dL_acts_222 rfl rfl (fun c222 => ?_) (fun c222 => absurd (by decide) c222)
  refine Z_iload 231 7 dL_acts_229 rfl rfl ?_
  refine Z_bipush 233 (nI 14) dL_acts_231 rfl rfl ?_
  refine Z_icmp_ne 236 241 dL_acts_233 rfl rfl (fun c233 => absurd c233 ((by rw [h14]; exact fun z => z rfl))) (fun c233 => ?_)
  refine Z_bipush 238 (-3) dL_acts_236 rfl rfl ?_
  refine Z_goto 256 dL_acts_238 rfl ?_
  refine Z_icmp_ne 259 342 dL_acts_256 rfl rfl (fun c256 => absurd c256 (by decide)) (fun c256 => ?_)
  refine Z_aload_n 260 9 dL_acts_259 rfl rfl ?_
  refine Z_bipush 262 (nI 8) dL_acts_260 rfl rfl ?_
  refine Z_callV 265 [_] 3 (v_count8 hF hk) dL_acts_262 rfl qL_13 kX3_count rfl rfl (Nat.le_of_ble_eq_true rfl) rfl rfl ⟨(Nat.le_of_ble_eq_true rfl), (Nat.le_of_ble_eq_true rfl)⟩ (Nat.le_of_ble_eq_true rfl) ⟨rfl, rfl⟩ ⟨(Nat.le_of_ble_eq_true rfl), (Nat.le_of_ble_eq_true rfl)⟩ (fun r9 w9 hp9 => ?_)
  obtain ⟨rfl, mm, rfl, hF⟩ := hp9
  refine Z_iload 267 8 dL_acts_265 rfl rfl ?_
  refine Z_iload 269 0 dL_acts_267 rfl rfl ?_
  refine Z_if_eq 272 276 dL_acts_269 rfl rfl (fun c269 => ?_) (fun c269 => absurd (by decide) c269)
  refine Z_iconst 277 (nI 0) dL_acts_276 rfl rfl ?_
  refine Z_iadd 278 dL_acts_277 rfl ?_
  refine Z_icmp_ne 281 342 dL_acts_278 rfl rfl (fun c278 => absurd c278 (fun z => z (ad0 _))) (fun c278 => ?_)
  refine Z_iload 283 1 dL_acts_281 rfl rfl ?_
  refine Z_bipush 285 (nI 10) dL_acts_283 rfl rfl ?_
  refine Z_icmp_lt 288 338 dL_acts_285 rfl rfl (fun c285 => ?_) (fun c285 => absurd (by decide) c285)
  refine Z_iconst 339 (nI 1) dL_acts_338 rfl rfl ?_
  refine Z_goto 343 dL_acts_339 rfl ?_
  exact Z_zret dL_acts_343 rfl (by first | exact Or.inl rfl | exact Or.inr rfl | exact bI_01) (by first | exact actOk hAct | exact actOk (hA.v hF) | exact actOk (Act.noV sy hF))

set_option maxRecDepth 100000 in
set_option maxHeartbeats 4000000 in
theorem lL_acts159g {G : zG} {l : Launch} {h : Nat → Nat} {m : zM} {K n s : Nat} (sy : Sy K h m n s) (hK : K ≤ 1000)  {a b : Nat} (ha : a < 9) (hb : b < 9) {d : Int32} (hag : agr (nI a) (nI b) d) (h14 : n < 14) : ∀ mm : zM, Fsv m mm → Z G mL_acts (fun _ => True) (zN G (actP K h m n s) 0 0) l 0 0 (zw h mm) 159 [(8, .int d), (7, .int (nI b)), (6, .int (nI a)), (5, .int (nI n)), (4, .int (m 1 12)), (0, .ref (G.1 + 0))] [.int (nI 0)] := by
  intro mm hF
  have hI := sy.inv
  have hn := hI.n14
  have hk := sy.ok
  have g := hI.g
  refine Z_istore 161 [(9, _), (8, _), (7, _), (6, _), (5, _), (4, _), (0, _)] dL_acts_159 rfl (Nat.le_of_ble_eq_true rfl) rfl ?_
  refine Z_iload 163 0 dL_acts_161 rfl rfl ?_
  refine Z_if_eq 166 170 dL_acts_163 rfl rfl (fun c163 => ?_) (fun c163 => absurd (by decide) c163)
  refine Z_aload_n 171 6 dL_acts_170 rfl rfl ?_
  refine Z_iload 173 3 dL_acts_171 rfl rfl ?_
  refine Z_iload 175 2 dL_acts_173 rfl rfl ?_
  refine Z_iload 177 1 dL_acts_175 rfl rfl ?_
  refine Z_callV 180 [_, _, _] 3 (v_whyNot hF g ha hb d) dL_acts_177 rfl qL_42 kX3_whyNot rfl rfl (Nat.le_of_ble_eq_true rfl) rfl rfl ⟨(Nat.le_of_ble_eq_true rfl), (Nat.le_of_ble_eq_true rfl)⟩ (Nat.le_of_ble_eq_true rfl) ⟨rfl, rfl⟩ ⟨(Nat.le_of_ble_eq_true rfl), (Nat.le_of_ble_eq_true rfl)⟩ (fun r9 w9 hp9 => ?_)
  obtain ⟨wy, rfl, hwy, mm, rfl, hF⟩ := hp9
  refine Z_istore 182 [(10, _), (9, _), (8, _), (7, _), (6, _), (5, _), (4, _), (0, _)] dL_acts_180 rfl (Nat.le_of_ble_eq_true rfl) rfl ?_
  refine Z_aload_n 183 7 dL_acts_182 rfl rfl ?_
  refine Z_iload 185 4 dL_acts_183 rfl rfl ?_
  refine Z_iload 187 3 dL_acts_185 rfl rfl ?_
  refine Z_iload 189 2 dL_acts_187 rfl rfl ?_
  refine Z_callV 192 [_, _, _] 3 (v_sign sy hF ha hb hag h14) dL_acts_189 rfl qL_99 kX3_sign rfl rfl (Nat.le_of_ble_eq_true rfl) rfl rfl ⟨(Nat.le_of_ble_eq_true rfl), (Nat.le_of_ble_eq_true rfl)⟩ (Nat.le_of_ble_eq_true rfl) ⟨rfl, rfl⟩ ⟨(Nat.le_of_ble_eq_true rfl), (Nat.le_of_ble_eq_true rfl)⟩ (fun r9 w9 hp9 => ?_)
  rcases hp9 with ⟨hw0, rfl, M, rfl, hA, hM⟩ | ⟨v, hv, hwv, rfl, M, rfl, hA, hM⟩
  · have ew := WyP.one hwy hw0
    subst ew
    have hk := hA.1.ok
    have g := hA.1.inv.g
    have hF : Fsv M M := Fsv.rf
    refine Z_istore 194 [(11, _), (10, _), (9, _), (8, _), (7, _), (6, _), (5, _), (4, _), (0, _)] dL_acts_192 rfl (Nat.le_of_ble_eq_true rfl) rfl ?_
    refine Z_iload 196 2 dL_acts_194 rfl rfl ?_
    refine Z_if_ne 199 215 dL_acts_196 rfl rfl (fun c196 => absurd c196 (by decide)) (fun c196 => ?_)
    refine Z_iload 201 6 dL_acts_199 rfl rfl ?_
    refine Z_bipush 203 (nI 14) dL_acts_201 rfl rfl ?_
    refine Z_icmp_ge 206 215 dL_acts_203 rfl rfl (fun c203 => absurd c203 (nI_ge h14 (by decide))) (fun c203 => ?_)
    refine Z_iload 208 1 dL_acts_206 rfl rfl ?_
    refine Z_if_le 211 215 dL_acts_208 rfl rfl (fun c208 => ?_) (fun c208 => absurd (by decide) c208)
    refine Z_iconst 216 (nI 0) dL_acts_215 rfl rfl ?_
    refine Z_istore 218 [(12, _), (11, _), (10, _), (9, _), (8, _), (7, _), (6, _), (5, _), (4, _), (0, _)] dL_acts_216 rfl (Nat.le_of_ble_eq_true rfl) rfl ?_
    refine Z_iload 220 1 dL_acts_218 rfl rfl ?_
    refine Z_iload 222 3 dL_acts_220 rfl rfl ?_
    refine Z_if_eq 225 229 dL_acts_222 rfl rfl (fun c222 => ?_) (fun c222 => absurd (by decide) c222)
    refine Z_iload 231 7 dL_acts_229 rfl rfl ?_
    refine Z_bipush 233 (nI 14) dL_acts_231 rfl rfl ?_
    refine Z_icmp_ne 236 241 dL_acts_233 rfl rfl (fun c233 => ?_) (fun c233 => absurd (fun z => absurd (eqN z (by omega) (by omega)) (by omega)) c233)
    refine Z_iload 243 2 dL_acts_241 rfl rfl ?_
    refine Z_if_le 246 251 dL_acts_243 rfl rfl (fun c243 => ?_) (fun c243 => absurd (by decide) c243)
    refine Z_bipush 253 (nI 10) dL_acts_251 rfl rfl ?_
    refine Z_iload 255 7 dL_acts_253 rfl rfl ?_
    refine Z_iadd 256 dL_acts_255 rfl ?_
    refine Z_icmp_ne 259 342 dL_acts_256 rfl rfl (fun c256 => absurd c256 (fun z => z (nI_add 10 n).symm)) (fun c256 => ?_)
    refine Z_aload_n 260 9 dL_acts_259 rfl rfl ?_
    refine Z_bipush 262 (nI 8) dL_acts_260 rfl rfl ?_
    refine Z_callV 265 [_] 3 (v_count8 hF hk) dL_acts_262 rfl qL_13 kX3_count rfl rfl (Nat.le_of_ble_eq_true rfl) rfl rfl ⟨(Nat.le_of_ble_eq_true rfl), (Nat.le_of_ble_eq_true rfl)⟩ (Nat.le_of_ble_eq_true rfl) ⟨rfl, rfl⟩ ⟨(Nat.le_of_ble_eq_true rfl), (Nat.le_of_ble_eq_true rfl)⟩ (fun r9 w9 hp9 => ?_)
    obtain ⟨rfl, mm, rfl, hF⟩ := hp9
    refine Z_iload 267 8 dL_acts_265 rfl rfl ?_
    refine Z_iload 269 0 dL_acts_267 rfl rfl ?_
    refine Z_if_eq 272 276 dL_acts_269 rfl rfl (fun c269 => ?_) (fun c269 => absurd (by decide) c269)
    refine Z_iconst 277 (nI 0) dL_acts_276 rfl rfl ?_
    refine Z_iadd 278 dL_acts_277 rfl ?_
    refine Z_icmp_ne 281 342 dL_acts_278 rfl rfl (fun c278 => absurd c278 (fun z => z (by rw [hM.1]; exact ad0 _))) (fun c278 => ?_)
    refine Z_iload 283 1 dL_acts_281 rfl rfl ?_
    refine Z_bipush 285 (nI 10) dL_acts_283 rfl rfl ?_
    refine Z_icmp_lt 288 338 dL_acts_285 rfl rfl (fun c285 => absurd c285 (nI_nlt (by omega) (by omega))) (fun c285 => ?_)
    refine Z_aload_n 289 9 dL_acts_288 rfl rfl ?_
    refine Z_iload 291 7 dL_acts_289 rfl rfl ?_
    refine Z_iconst 292 (nI 0) dL_acts_291 rfl rfl ?_
    refine Z_callV 295 [_, _] 3 (v_treaty0 hF hk (Nat.lt_succ_self n)) dL_acts_292 rfl qL_23 kX3_treaty rfl rfl (Nat.le_of_ble_eq_true rfl) rfl rfl ⟨(Nat.le_of_ble_eq_true rfl), (Nat.le_of_ble_eq_true rfl)⟩ (Nat.le_of_ble_eq_true rfl) ⟨rfl, rfl⟩ ⟨(Nat.le_of_ble_eq_true rfl), (Nat.le_of_ble_eq_true rfl)⟩ (fun r9 w9 hp9 => ?_)
    obtain ⟨rfl, mm, rfl, hF⟩ := hp9
    refine Z_iload 297 6 dL_acts_295 rfl rfl ?_
    refine Z_icmp_ne 300 342 dL_acts_297 rfl rfl (fun c297 => absurd c297 (fun z => z (congrArg nI hM.2.2.2.1))) (fun c297 => ?_)
    refine Z_aload_n 301 9 dL_acts_300 rfl rfl ?_
    refine Z_iload 303 7 dL_acts_301 rfl rfl ?_
    refine Z_iconst 304 (nI 1) dL_acts_303 rfl rfl ?_
    refine Z_callV 307 [_, _] 3 (v_treaty1 hF hk (Nat.lt_succ_self n)) dL_acts_304 rfl qL_23 kX3_treaty rfl rfl (Nat.le_of_ble_eq_true rfl) rfl rfl ⟨(Nat.le_of_ble_eq_true rfl), (Nat.le_of_ble_eq_true rfl)⟩ (Nat.le_of_ble_eq_true rfl) ⟨rfl, rfl⟩ ⟨(Nat.le_of_ble_eq_true rfl), (Nat.le_of_ble_eq_true rfl)⟩ (fun r9 w9 hp9 => ?_)
    obtain ⟨rfl, mm, rfl, hF⟩ := hp9
    refine Z_iload 309 5 dL_acts_307 rfl rfl ?_
    refine Z_icmp_ne 312 342 dL_acts_309 rfl rfl (fun c309 => absurd c309 (fun z => z (congrArg nI hM.2.2.2.2))) (fun c309 => ?_)
    refine Z_aload_n 313 9 dL_acts_312 rfl rfl ?_
    refine Z_iload 315 7 dL_acts_313 rfl rfl ?_
    refine Z_iconst 316 (nI 2) dL_acts_315 rfl rfl ?_
    refine Z_callV 319 [_, _] 3 (v_treaty2 hF hk (Nat.lt_succ_self n)) dL_acts_316 rfl qL_23 kX3_treaty rfl rfl (Nat.le_of_ble_eq_true rfl) rfl rfl ⟨(Nat.le_of_ble_eq_true rfl), (Nat.le_of_ble_eq_true rfl)⟩ (Nat.le_of_ble_eq_true rfl) ⟨rfl, rfl⟩ ⟨(Nat.le_of_ble_eq_true rfl), (Nat.le_of_ble_eq_true rfl)⟩ (fun r9 w9 hp9 => ?_)
    obtain ⟨rfl, mm, rfl, hF⟩ := hp9
    refine Z_iload 321 4 dL_acts_319 rfl rfl ?_
    refine Z_bipush 323 (nI 100) dL_acts_321 rfl rfl ?_
    refine Z_iadd 324 dL_acts_323 rfl ?_
    refine Z_icmp_ne 327 342 dL_acts_324 rfl rfl (fun c324 => absurd c324 (fun z => z (by rw [hM.2.1]))) (fun c324 => ?_)
    refine Z_aload_n 328 9 dL_acts_327 rfl rfl ?_
    refine Z_iload 330 7 dL_acts_328 rfl rfl ?_
    refine Z_bipush 332 (nI 6) dL_acts_330 rfl rfl ?_
    refine Z_callV 335 [_, _] 3 (v_treaty6 hF hk (Nat.lt_succ_self n)) dL_acts_332 rfl qL_23 kX3_treaty rfl rfl (Nat.le_of_ble_eq_true rfl) rfl rfl ⟨(Nat.le_of_ble_eq_true rfl), (Nat.le_of_ble_eq_true rfl)⟩ (Nat.le_of_ble_eq_true rfl) ⟨rfl, rfl⟩ ⟨(Nat.le_of_ble_eq_true rfl), (Nat.le_of_ble_eq_true rfl)⟩ (fun r9 w9 hp9 => ?_)
    obtain ⟨rfl, mm, rfl, hF⟩ := hp9
    refine Z_if_ne 338 342 dL_acts_335 rfl rfl (fun c335 => absurd c335 (fun z => z (by rw [hM.2.2.1]; rfl))) (fun c335 => ?_)
    refine Z_iconst 339 (nI 1) dL_acts_338 rfl rfl ?_
    refine Z_goto 343 dL_acts_339 rfl ?_
    exact Z_zret dL_acts_343 rfl (by first | exact Or.inl rfl | exact Or.inr rfl | exact bI_01) (by first | exact actOk hAct | exact actOk (hA.v hF) | exact actOk (Act.noV sy hF))
  · have ew := WyP.one hwy hwv
    subst ew
    rcases hv with hv | hv
    · subst hv
      have hk := hA.1.ok
      have g := hA.1.inv.g
      have hF : Fsv M M := Fsv.rf
      refine Z_istore 194 [(11, _), (10, _), (9, _), (8, _), (7, _), (6, _), (5, _), (4, _), (0, _)] dL_acts_192 rfl (Nat.le_of_ble_eq_true rfl) rfl ?_
      refine Z_iload 196 2 dL_acts_194 rfl rfl ?_
      refine Z_if_ne 199 215 dL_acts_196 rfl rfl (fun c196 => absurd c196 (by decide)) (fun c196 => ?_)
      refine Z_iload 201 6 dL_acts_199 rfl rfl ?_
      refine Z_bipush 203 (nI 14) dL_acts_201 rfl rfl ?_
      refine Z_icmp_ge 206 215 dL_acts_203 rfl rfl (fun c203 => absurd c203 (nI_ge h14 (by decide))) (fun c203 => ?_)
      refine Z_iload 208 1 dL_acts_206 rfl rfl ?_
      refine Z_if_le 211 215 dL_acts_208 rfl rfl (fun c208 => absurd c208 (by decide)) (fun c208 => ?_)
      refine Z_iconst 212 (nI 1) dL_acts_211 rfl rfl ?_
      refine Z_goto 216 dL_acts_212 rfl ?_
      refine Z_istore 218 [(12, _), (11, _), (10, _), (9, _), (8, _), (7, _), (6, _), (5, _), (4, _), (0, _)] dL_acts_216 rfl (Nat.le_of_ble_eq_true rfl) rfl ?_
      refine Z_iload 220 1 dL_acts_218 rfl rfl ?_
      refine Z_iload 222 3 dL_acts_220 rfl rfl ?_
      refine Z_if_eq 225 229 dL_acts_222 rfl rfl (fun c222 => ?_) (fun c222 => absurd (by decide) c222)
      refine Z_iload 231 7 dL_acts_229 rfl rfl ?_
      refine Z_bipush 233 (nI 14) dL_acts_231 rfl rfl ?_
      refine Z_icmp_ne 236 241 dL_acts_233 rfl rfl (fun c233 => ?_) (fun c233 => absurd (fun z => absurd (eqN z (by omega) (by omega)) (by omega)) c233)
      refine Z_iload 243 2 dL_acts_241 rfl rfl ?_
      refine Z_if_le 246 251 dL_acts_243 rfl rfl (fun c243 => absurd c243 (by decide)) (fun c243 => ?_)
      refine Z_iload 248 2 dL_acts_246 rfl rfl ?_
      refine Z_goto 256 dL_acts_248 rfl ?_
      refine Z_icmp_ne 259 342 dL_acts_256 rfl rfl (fun c256 => absurd c256 (by decide)) (fun c256 => ?_)
      refine Z_aload_n 260 9 dL_acts_259 rfl rfl ?_
      refine Z_bipush 262 (nI 8) dL_acts_260 rfl rfl ?_
      refine Z_callV 265 [_] 3 (v_count8 hF hk) dL_acts_262 rfl qL_13 kX3_count rfl rfl (Nat.le_of_ble_eq_true rfl) rfl rfl ⟨(Nat.le_of_ble_eq_true rfl), (Nat.le_of_ble_eq_true rfl)⟩ (Nat.le_of_ble_eq_true rfl) ⟨rfl, rfl⟩ ⟨(Nat.le_of_ble_eq_true rfl), (Nat.le_of_ble_eq_true rfl)⟩ (fun r9 w9 hp9 => ?_)
      obtain ⟨rfl, mm, rfl, hF⟩ := hp9
      refine Z_iload 267 8 dL_acts_265 rfl rfl ?_
      refine Z_iload 269 0 dL_acts_267 rfl rfl ?_
      refine Z_if_eq 272 276 dL_acts_269 rfl rfl (fun c269 => absurd c269 (by decide)) (fun c269 => ?_)
      refine Z_iconst 273 (nI 1) dL_acts_272 rfl rfl ?_
      refine Z_goto 277 dL_acts_273 rfl ?_
      refine Z_iadd 278 dL_acts_277 rfl ?_
      refine Z_icmp_ne 281 342 dL_acts_278 rfl rfl (fun c278 => absurd c278 (fun z => z hM.1)) (fun c278 => ?_)
      refine Z_iload 283 1 dL_acts_281 rfl rfl ?_
      refine Z_bipush 285 (nI 10) dL_acts_283 rfl rfl ?_
      refine Z_icmp_lt 288 338 dL_acts_285 rfl rfl (fun c285 => ?_) (fun c285 => absurd (by decide) c285)
      refine Z_iconst 339 (nI 1) dL_acts_338 rfl rfl ?_
      refine Z_goto 343 dL_acts_339 rfl ?_
      exact Z_zret dL_acts_343 rfl (by first | exact Or.inl rfl | exact Or.inr rfl | exact bI_01) (by first | exact actOk hAct | exact actOk (hA.v hF) | exact actOk (Act.noV sy hF))
    · subst hv
      have hk := hA.1.ok
      have g := hA.1.inv.g
      have hF : Fsv M M := Fsv.rf
      refine Z_istore 194 [(11, _), (10, _), (9, _), (8, _), (7, _), (6, _), (5, _), (4, _), (0, _)] dL_acts_192 rfl (Nat.le_of_ble_eq_true rfl) rfl ?_
      refine Z_iload 196 2 dL_acts_194 rfl rfl ?_
      refine Z_if_ne 199 215 dL_acts_196 rfl rfl (fun c196 => absurd c196 (by decide)) (fun c196 => ?_)
      refine Z_iload 201 6 dL_acts_199 rfl rfl ?_
      refine Z_bipush 203 (nI 14) dL_acts_201 rfl rfl ?_
      refine Z_icmp_ge 206 215 dL_acts_203 rfl rfl (fun c203 => absurd c203 (nI_ge h14 (by decide))) (fun c203 => ?_)
      refine Z_iload 208 1 dL_acts_206 rfl rfl ?_
      refine Z_if_le 211 215 dL_acts_208 rfl rfl (fun c208 => absurd c208 (by decide)) (fun c208 => ?_)
      refine Z_iconst 212 (nI 1) dL_acts_211 rfl rfl ?_
      refine Z_goto 216 dL_acts_212 rfl ?_
      refine Z_istore 218 [(12, _), (11, _), (10, _), (9, _), (8, _), (7, _), (6, _), (5, _), (4, _), (0, _)] dL_acts_216 rfl (Nat.le_of_ble_eq_true rfl) rfl ?_
      refine Z_iload 220 1 dL_acts_218 rfl rfl ?_
      refine Z_iload 222 3 dL_acts_220 rfl rfl ?_
      refine Z_if_eq 225 229 dL_acts_222 rfl rfl (fun c222 => ?_) (fun c222 => absurd (by decide) c222)
      refine Z_iload 231 7 dL_acts_229 rfl rfl ?_
      refine Z_bipush 233 (nI 14) dL_acts_231 rfl rfl ?_
      refine Z_icmp_ne 236 241 dL_acts_233 rfl rfl (fun c233 => ?_) (fun c233 => absurd (fun z => absurd (eqN z (by omega) (by omega)) (by omega)) c233)
      refine Z_iload 243 2 dL_acts_241 rfl rfl ?_
      refine Z_if_le 246 251 dL_acts_243 rfl rfl (fun c243 => absurd c243 (by decide)) (fun c243 => ?_)
      refine Z_iload 248 2 dL_acts_246 rfl rfl ?_
      refine Z_goto 256 dL_acts_248 rfl ?_
      refine Z_icmp_ne 259 342 dL_acts_256 rfl rfl (fun c256 => absurd c256 (by decide)) (fun c256 => ?_)
      refine Z_aload_n 260 9 dL_acts_259 rfl rfl ?_
      refine Z_bipush 262 (nI 8) dL_acts_260 rfl rfl ?_
      refine Z_callV 265 [_] 3 (v_count8 hF hk) dL_acts_262 rfl qL_13 kX3_count rfl rfl (Nat.le_of_ble_eq_true rfl) rfl rfl ⟨(Nat.le_of_ble_eq_true rfl), (Nat.le_of_ble_eq_true rfl)⟩ (Nat.le_of_ble_eq_true rfl) ⟨rfl, rfl⟩ ⟨(Nat.le_of_ble_eq_true rfl), (Nat.le_of_ble_eq_true rfl)⟩ (fun r9 w9 hp9 => ?_)
      obtain ⟨rfl, mm, rfl, hF⟩ := hp9
      refine Z_iload 267 8 dL_acts_265 rfl rfl ?_
      refine Z_iload 269 0 dL_acts_267 rfl rfl ?_
      refine Z_if_eq 272 276 dL_acts_269 rfl rfl (fun c269 => absurd c269 (by decide)) (fun c269 => ?_)
      refine Z_iconst 273 (nI 1) dL_acts_272 rfl rfl ?_
      refine Z_goto 277 dL_acts_273 rfl ?_
      refine Z_iadd 278 dL_acts_277 rfl ?_
      refine Z_icmp_ne 281 342 dL_acts_278 rfl rfl (fun c278 => absurd c278 (fun z => z hM.1)) (fun c278 => ?_)
      refine Z_iload 283 1 dL_acts_281 rfl rfl ?_
      refine Z_bipush 285 (nI 10) dL_acts_283 rfl rfl ?_
      refine Z_icmp_lt 288 338 dL_acts_285 rfl rfl (fun c285 => ?_) (fun c285 => absurd (by decide) c285)
      refine Z_iconst 339 (nI 1) dL_acts_338 rfl rfl ?_
      refine Z_goto 343 dL_acts_339 rfl ?_
      exact Z_zret dL_acts_343 rfl (by first | exact Or.inl rfl | exact Or.inr rfl | exact bI_01) (by first | exact actOk hAct | exact actOk (hA.v hF) | exact actOk (Act.noV sy hF))

set_option maxRecDepth 100000 in
set_option maxHeartbeats 4000000 in
theorem lL_acts117 {G : zG} {l : Launch} {h : Nat → Nat} {m : zM} {K n s : Nat} (sy : Sy K h m n s) (hK : K ≤ 1000)  {a b : Nat} (ha : a < 9) (hb : b < 9) {d : Int32} : ∀ mm : zM, Fsv m mm → Z G mL_acts (fun _ => True) (zN G (actP K h m n s) 0 0) l 0 0 (zw h mm) 117 [(7, .int (nI b)), (6, .int (nI a)), (5, .int (nI n)), (4, .int (m 1 12)), (0, .ref (G.1 + 0))] [.int d] := by
  intro mm hF
  have hI := sy.inv
  have hn := hI.n14
  have hk := sy.ok
  have g := hI.g
  refine Z_istore 119 [(8, _), (7, _), (6, _), (5, _), (4, _), (0, _)] dL_acts_117 rfl (Nat.le_of_ble_eq_true rfl) rfl ?_
  refine Z_iload 121 2 dL_acts_119 rfl rfl ?_
  refine Z_bipush 123 (nI 8) dL_acts_121 rfl rfl ?_
  refine Z_icmp_eq 126 154 dL_acts_123 rfl rfl (fun c123 => ?_) (fun c123 => ?_)
  · skip
    refine Z_iconst 155 (nI 1) dL_acts_154 rfl rfl ?_
    refine Z_goto 159 dL_acts_155 rfl ?_
    refine lL_acts159b sy hK ha hb (fun z => ?_) mm hF
    first | exact absurd ((hdgI (by omega)).mp z.1) (by have := eqN c123 (by omega) (by decide); omega) | exact absurd ((hdgI (by omega)).mp z.2.1) (by have := eqN c130 (by omega) (by decide); omega) | exact z.2.2.1 c137 | exact z.2.2.2.1 c144 | exact z.2.2.2.2 (Int32.not_le.mp c151)
  · skip
    refine Z_iload 128 1 dL_acts_126 rfl rfl ?_
    refine Z_bipush 130 (nI 8) dL_acts_128 rfl rfl ?_
    refine Z_icmp_eq 133 154 dL_acts_130 rfl rfl (fun c130 => ?_) (fun c130 => ?_)
    · skip
      refine Z_iconst 155 (nI 1) dL_acts_154 rfl rfl ?_
      refine Z_goto 159 dL_acts_155 rfl ?_
      refine lL_acts159b sy hK ha hb (fun z => ?_) mm hF
      first | exact absurd ((hdgI (by omega)).mp z.1) (by have := eqN c123 (by omega) (by decide); omega) | exact absurd ((hdgI (by omega)).mp z.2.1) (by have := eqN c130 (by omega) (by decide); omega) | exact z.2.2.1 c137 | exact z.2.2.2.1 c144 | exact z.2.2.2.2 (Int32.not_le.mp c151)
    · skip
      refine Z_iload 135 2 dL_acts_133 rfl rfl ?_
      refine Z_iload 137 1 dL_acts_135 rfl rfl ?_
      refine Z_icmp_eq 140 154 dL_acts_137 rfl rfl (fun c137 => ?_) (fun c137 => ?_)
      · skip
        refine Z_iconst 155 (nI 1) dL_acts_154 rfl rfl ?_
        refine Z_goto 159 dL_acts_155 rfl ?_
        refine lL_acts159b sy hK ha hb (fun z => ?_) mm hF
        first | exact absurd ((hdgI (by omega)).mp z.1) (by have := eqN c123 (by omega) (by decide); omega) | exact absurd ((hdgI (by omega)).mp z.2.1) (by have := eqN c130 (by omega) (by decide); omega) | exact z.2.2.1 c137 | exact z.2.2.2.1 c144 | exact z.2.2.2.2 (Int32.not_le.mp c151)
      · skip
        refine Z_iload 142 0 dL_acts_140 rfl rfl ?_
        refine Z_bipush 144 (-30) dL_acts_142 rfl rfl ?_
        refine Z_icmp_lt 147 154 dL_acts_144 rfl rfl (fun c144 => ?_) (fun c144 => ?_)
        · skip
          refine Z_iconst 155 (nI 1) dL_acts_154 rfl rfl ?_
          refine Z_goto 159 dL_acts_155 rfl ?_
          refine lL_acts159b sy hK ha hb (fun z => ?_) mm hF
          first | exact absurd ((hdgI (by omega)).mp z.1) (by have := eqN c123 (by omega) (by decide); omega) | exact absurd ((hdgI (by omega)).mp z.2.1) (by have := eqN c130 (by omega) (by decide); omega) | exact z.2.2.1 c137 | exact z.2.2.2.1 c144 | exact z.2.2.2.2 (Int32.not_le.mp c151)
        · skip
          refine Z_iload 149 0 dL_acts_147 rfl rfl ?_
          refine Z_bipush 151 (nI 60) dL_acts_149 rfl rfl ?_
          refine Z_icmp_le 154 158 dL_acts_151 rfl rfl (fun c151 => ?_) (fun c151 => ?_)
          · skip
            refine Z_iconst 159 (nI 0) dL_acts_158 rfl rfl ?_
            have hag : agr (nI a) (nI b) d := ⟨(hdgI (by omega)).mpr (by have : ¬ a = 8 := fun z => c123 (by rw [z]); omega), (hdgI (by omega)).mpr (by have : ¬ b = 8 := fun z => c130 (by rw [z]); omega), c137, c144, Int32.not_lt.mpr c151⟩
            rcases (show n = 14 ∨ n < 14 by omega) with h14 | h14
            · exact lL_acts159l sy hK ha hb hag h14 mm hF
            · exact lL_acts159g sy hK ha hb hag h14 mm hF
          · skip
            refine Z_iconst 155 (nI 1) dL_acts_154 rfl rfl ?_
            refine Z_goto 159 dL_acts_155 rfl ?_
            refine lL_acts159b sy hK ha hb (fun z => ?_) mm hF
            first | exact absurd ((hdgI (by omega)).mp z.1) (by have := eqN c123 (by omega) (by decide); omega) | exact absurd ((hdgI (by omega)).mp z.2.1) (by have := eqN c130 (by omega) (by decide); omega) | exact z.2.2.1 c137 | exact z.2.2.2.1 c144 | exact z.2.2.2.2 (Int32.not_le.mp c151)

set_option maxRecDepth 100000 in
set_option maxHeartbeats 4000000 in
theorem lL_acts75 {G : zG} {l : Launch} {h : Nat → Nat} {m : zM} {K n s : Nat} (sy : Sy K h m n s) (hK : K ≤ 1000)  {a : Nat} (ha : a < 9) (y : Int32) : ∀ (mm : zM) (e : Nat) (v : Int32), Fsv m mm → e = 8 ∨ e = 9 → Z G mL_acts (fun _ => True) (zN G (actP K h m n s) 0 0) l 0 0 (zw h mm) 75 [(6, .int (nI a)), (5, .int (nI n)), (4, .int (m 1 12)), (2, .int y), (0, .ref (G.1 + 0))] [.int (nI e), .int v] := by
  intro mm e v hF he
  have hI := sy.inv
  have hn := hI.n14
  have hk := sy.ok
  have g := hI.g
  refine Z_callS 78 [_, _] (zL_low _ e ⟨by omega, by omega⟩) dL_acts_75 rfl qL_39 kL_low rfl rfl ⟨(Nat.le_of_ble_eq_true rfl), (Nat.le_of_ble_eq_true rfl)⟩ (Nat.le_of_ble_eq_true rfl) ⟨rfl, rfl⟩ ⟨(Nat.le_of_ble_eq_true rfl), (Nat.le_of_ble_eq_true rfl)⟩ (fun r9 w9 hp9 => ?_)
  obtain ⟨⟨q75, hq75, rfl⟩, rfl⟩ := hp9
  refine Z_istore 80 [(7, _), (6, _), (5, _), (4, _), (2, _), (0, _)] dL_acts_78 rfl (Nat.le_of_ble_eq_true rfl) rfl ?_
  refine Z_iload_n 81 4 dL_acts_80 rfl rfl ?_
  refine Z_bipush 83 (nI 9) dL_acts_81 rfl rfl ?_
  refine Z_ishr 84 dL_acts_83 rfl ?_
  refine Z_iconst 85 (nI 3) dL_acts_84 rfl rfl ?_
  refine Z_callS 88 [_, _] (zL_low _ 3 (by decide)) dL_acts_85 rfl qL_39 kL_low rfl rfl ⟨(Nat.le_of_ble_eq_true rfl), (Nat.le_of_ble_eq_true rfl)⟩ (Nat.le_of_ble_eq_true rfl) ⟨rfl, rfl⟩ ⟨(Nat.le_of_ble_eq_true rfl), (Nat.le_of_ble_eq_true rfl)⟩ (fun r9 w9 hp9 => ?_)
  obtain ⟨⟨q85, hq85, rfl⟩, rfl⟩ := hp9
  refine Z_if_ne 91 106 dL_acts_88 rfl rfl (fun c88 => ?_) (fun c88 => ?_)
  · skip
    refine Z_iload_n 107 4 dL_acts_106 rfl rfl ?_
    refine Z_bipush 109 (nI 6) dL_acts_107 rfl rfl ?_
    refine Z_ishr 110 dL_acts_109 rfl ?_
    refine Z_bipush 112 (nI 16) dL_acts_110 rfl rfl ?_
    refine Z_callS 115 [_, _] (zL_low _ 16 (by decide)) dL_acts_112 rfl qL_39 kL_low rfl rfl ⟨(Nat.le_of_ble_eq_true rfl), (Nat.le_of_ble_eq_true rfl)⟩ (Nat.le_of_ble_eq_true rfl) ⟨rfl, rfl⟩ ⟨(Nat.le_of_ble_eq_true rfl), (Nat.le_of_ble_eq_true rfl)⟩ (fun r9 w9 hp9 => ?_)
    obtain ⟨⟨q112, hq112, rfl⟩, rfl⟩ := hp9
    refine Z_iconst 116 (nI 3) dL_acts_115 rfl rfl ?_
    refine Z_isub 117 dL_acts_116 rfl ?_
    refine Z_lv [0, 1, 2, 3, 5] rfl ?_
    exact lL_acts117 sy hK ha (by omega) mm hF
  · skip
    refine Z_iload_n 92 4 dL_acts_91 rfl rfl ?_
    refine Z_bipush 94 (nI 6) dL_acts_92 rfl rfl ?_
    refine Z_ishr 95 dL_acts_94 rfl ?_
    refine Z_bipush 97 (nI 93) dL_acts_95 rfl rfl ?_
    refine Z_callS 100 [_, _] (zL_low _ 93 (by decide)) dL_acts_97 rfl qL_39 kL_low rfl rfl ⟨(Nat.le_of_ble_eq_true rfl), (Nat.le_of_ble_eq_true rfl)⟩ (Nat.le_of_ble_eq_true rfl) ⟨rfl, rfl⟩ ⟨(Nat.le_of_ble_eq_true rfl), (Nat.le_of_ble_eq_true rfl)⟩ (fun r9 w9 hp9 => ?_)
    obtain ⟨⟨q97, hq97, rfl⟩, rfl⟩ := hp9
    refine Z_bipush 102 (nI 31) dL_acts_100 rfl rfl ?_
    refine Z_isub 103 dL_acts_102 rfl ?_
    refine Z_goto 117 dL_acts_103 rfl ?_
    refine Z_lv [0, 1, 2, 3, 5] rfl ?_
    exact lL_acts117 sy hK ha (by omega) mm hF

set_option maxRecDepth 100000 in
set_option maxHeartbeats 4000000 in
theorem lL_acts48 {G : zG} {l : Launch} {h : Nat → Nat} {m : zM} {K n s : Nat} (sy : Sy K h m n s) (hK : K ≤ 1000)  (y : Int32) : ∀ (mm : zM) (e : Nat) (v : Int32), Fsv m mm → e = 8 ∨ e = 9 → Z G mL_acts (fun _ => True) (zN G (actP K h m n s) 0 0) l 0 0 (zw h mm) 48 [(5, .int (nI n)), (4, .int (m 1 12)), (2, .int y), (0, .ref (G.1 + 0))] [.int (nI e), .int v] := by
  intro mm e v hF he
  have hI := sy.inv
  have hn := hI.n14
  have hk := sy.ok
  have g := hI.g
  refine Z_callS 51 [_, _] (zL_low _ e ⟨by omega, by omega⟩) dL_acts_48 rfl qL_39 kL_low rfl rfl ⟨(Nat.le_of_ble_eq_true rfl), (Nat.le_of_ble_eq_true rfl)⟩ (Nat.le_of_ble_eq_true rfl) ⟨rfl, rfl⟩ ⟨(Nat.le_of_ble_eq_true rfl), (Nat.le_of_ble_eq_true rfl)⟩ (fun r9 w9 hp9 => ?_)
  obtain ⟨⟨q48, hq48, rfl⟩, rfl⟩ := hp9
  refine Z_istore 53 [(6, _), (5, _), (4, _), (2, _), (0, _)] dL_acts_51 rfl (Nat.le_of_ble_eq_true rfl) rfl ?_
  refine Z_iload_n 54 3 dL_acts_53 rfl rfl ?_
  refine Z_iconst 55 (nI 3) dL_acts_54 rfl rfl ?_
  refine Z_ishr 56 dL_acts_55 rfl ?_
  refine Z_iload_n 57 3 dL_acts_56 rfl rfl ?_
  refine Z_bipush 59 (nI 15) dL_acts_57 rfl rfl ?_
  refine Z_ishr 60 dL_acts_59 rfl ?_
  refine Z_bipush 62 (nI 9) dL_acts_60 rfl rfl ?_
  refine Z_callS 65 [_, _] (zL_low _ 9 (by decide)) dL_acts_62 rfl qL_39 kL_low rfl rfl ⟨(Nat.le_of_ble_eq_true rfl), (Nat.le_of_ble_eq_true rfl)⟩ (Nat.le_of_ble_eq_true rfl) ⟨rfl, rfl⟩ ⟨(Nat.le_of_ble_eq_true rfl), (Nat.le_of_ble_eq_true rfl)⟩ (fun r9 w9 hp9 => ?_)
  obtain ⟨⟨q62, hq62, rfl⟩, rfl⟩ := hp9
  refine Z_if_ne 68 73 dL_acts_65 rfl rfl (fun c65 => ?_) (fun c65 => ?_)
  · skip
    refine Z_bipush 75 (nI 8) dL_acts_73 rfl rfl ?_
    exact lL_acts75 sy hK (by omega) y mm 8 _ hF (by decide)
  · skip
    refine Z_bipush 70 (nI 9) dL_acts_68 rfl rfl ?_
    refine Z_goto 75 dL_acts_70 rfl ?_
    exact lL_acts75 sy hK (by omega) y mm 9 _ hF (by decide)

set_option maxRecDepth 100000 in
set_option maxHeartbeats 4000000 in
theorem lL_acts21 {G : zG} {l : Launch} {h : Nat → Nat} {m : zM} {K n s : Nat} (sy : Sy K h m n s) (hK : K ≤ 1000)  (y : Int32) : ∀ mm : zM, Fsv m mm → Z G mL_acts (fun _ => True) (zN G (actP K h m n s) 0 0) l 0 0 (zw h mm) 21 [(4, .int (m 1 12)), (2, .int y), (0, .ref (G.1 + 0))] [] := by
  intro mm hF
  have hI := sy.inv
  have hn := hI.n14
  have hk := sy.ok
  have g := hI.g
  refine Z_aload_n 22 2 dL_acts_21 rfl rfl ?_
  refine Z_iconst 23 (nI 1) dL_acts_22 rfl rfl ?_
  refine Z_callV 26 [_] 3 (v_count1 hF hk) dL_acts_23 rfl qL_13 kX3_count rfl rfl (Nat.le_of_ble_eq_true rfl) rfl rfl ⟨(Nat.le_of_ble_eq_true rfl), (Nat.le_of_ble_eq_true rfl)⟩ (Nat.le_of_ble_eq_true rfl) ⟨rfl, rfl⟩ ⟨(Nat.le_of_ble_eq_true rfl), (Nat.le_of_ble_eq_true rfl)⟩ (fun r9 w9 hp9 => ?_)
  obtain ⟨rfl, mm, rfl, hF⟩ := hp9
  refine Z_istore 28 [(5, _), (4, _), (2, _), (0, _)] dL_acts_26 rfl (Nat.le_of_ble_eq_true rfl) rfl ?_
  refine Z_iload_n 29 2 dL_acts_28 rfl rfl ?_
  refine Z_iload_n 30 2 dL_acts_29 rfl rfl ?_
  refine Z_bipush 32 (nI 14) dL_acts_30 rfl rfl ?_
  refine Z_ishr 33 dL_acts_32 rfl ?_
  refine Z_bipush 35 (nI 9) dL_acts_33 rfl rfl ?_
  refine Z_callS 38 [_, _] (zL_low _ 9 (by decide)) dL_acts_35 rfl qL_39 kL_low rfl rfl ⟨(Nat.le_of_ble_eq_true rfl), (Nat.le_of_ble_eq_true rfl)⟩ (Nat.le_of_ble_eq_true rfl) ⟨rfl, rfl⟩ ⟨(Nat.le_of_ble_eq_true rfl), (Nat.le_of_ble_eq_true rfl)⟩ (fun r9 w9 hp9 => ?_)
  obtain ⟨⟨q35, hq35, rfl⟩, rfl⟩ := hp9
  refine Z_if_ne 41 46 dL_acts_38 rfl rfl (fun c38 => ?_) (fun c38 => ?_)
  · skip
    refine Z_bipush 48 (nI 8) dL_acts_46 rfl rfl ?_
    exact lL_acts48 sy hK y mm 8 _ hF (by decide)
  · skip
    refine Z_bipush 43 (nI 9) dL_acts_41 rfl rfl ?_
    refine Z_goto 48 dL_acts_43 rfl ?_
    exact lL_acts48 sy hK y mm 9 _ hF (by decide)

set_option maxRecDepth 100000 in
set_option maxHeartbeats 4000000 in
theorem lL_acts426 {G : zG} {l : Launch} {h : Nat → Nat} {m : zM} {K n s : Nat} (sy : Sy K h m n s) (hK : K ≤ 1000) : ∀ mm : zM, Fsv m mm → Z G mL_acts (fun _ => True) (zN G (actP K h m n s) 0 0) l 0 0 (zw h mm) 426 [(4, .int (m 1 12)), (0, .ref (G.1 + 0))] [] := by
  intro mm hF
  have hI := sy.inv
  have hn := hI.n14
  have hk := sy.ok
  have g := hI.g
  refine Z_aload_n 427 1 dL_acts_426 rfl rfl ?_
  refine Z_iconst 428 (nI 0) dL_acts_427 rfl rfl ?_
  refine Z_callV 431 [_] 3 (v_clipping0 hF g) dL_acts_428 rfl qL_26 kX3_clipping rfl rfl (Nat.le_of_ble_eq_true rfl) rfl rfl ⟨(Nat.le_of_ble_eq_true rfl), (Nat.le_of_ble_eq_true rfl)⟩ (Nat.le_of_ble_eq_true rfl) ⟨rfl, rfl⟩ ⟨(Nat.le_of_ble_eq_true rfl), (Nat.le_of_ble_eq_true rfl)⟩ (fun r9 w9 hp9 => ?_)
  obtain ⟨rfl, mm, rfl, hF⟩ := hp9
  refine Z_istore 433 [(5, _), (4, _), (0, _)] dL_acts_431 rfl (Nat.le_of_ble_eq_true rfl) rfl ?_
  refine Z_aload_n 434 2 dL_acts_433 rfl rfl ?_
  refine Z_bipush 436 (nI 10) dL_acts_434 rfl rfl ?_
  refine Z_callV 439 [_] 3 (v_count10 hF hk) dL_acts_436 rfl qL_13 kX3_count rfl rfl (Nat.le_of_ble_eq_true rfl) rfl rfl ⟨(Nat.le_of_ble_eq_true rfl), (Nat.le_of_ble_eq_true rfl)⟩ (Nat.le_of_ble_eq_true rfl) ⟨rfl, rfl⟩ ⟨(Nat.le_of_ble_eq_true rfl), (Nat.le_of_ble_eq_true rfl)⟩ (fun r9 w9 hp9 => ?_)
  obtain ⟨rfl, mm, rfl, hF⟩ := hp9
  refine Z_istore 441 [(6, _), (5, _), (4, _), (0, _)] dL_acts_439 rfl (Nat.le_of_ble_eq_true rfl) rfl ?_
  refine Z_aload_n 442 3 dL_acts_441 rfl rfl ?_
  refine Z_callV 445 [] 3 (v_plan sy hK hF) dL_acts_442 rfl qL_109 kX3_plan rfl rfl (Nat.le_of_ble_eq_true rfl) rfl rfl ⟨(Nat.le_of_ble_eq_true rfl), (Nat.le_of_ble_eq_true rfl)⟩ (Nat.le_of_ble_eq_true rfl) ⟨rfl, rfl⟩ ⟨(Nat.le_of_ble_eq_true rfl), (Nat.le_of_ble_eq_true rfl)⟩ (fun r9 w9 hp9 => ?_)
  rcases hp9 with ⟨hf, rfl, M, rfl, hA, hM⟩ | ⟨hf, rfl, M, rfl, hA, hM⟩ | ⟨hf, rfl, M, rfl, hA, hM⟩
  · skip
    have hk := hA.1.ok
    have g := hA.1.inv.g
    have hF : Fsv M M := Fsv.rf
    refine Z_istore 447 [(7, _), (6, _), (5, _), (4, _), (0, _)] dL_acts_445 rfl (Nat.le_of_ble_eq_true rfl) rfl ?_
    refine Z_iload 449 0 dL_acts_447 rfl rfl ?_
    refine Z_bipush 451 (nI 10) dL_acts_449 rfl rfl ?_
    refine Z_icmp_lt 454 458 dL_acts_451 rfl rfl (fun c451 => ?_) (fun c451 => absurd (by decide) c451)
    refine Z_iconst 459 (nI 0) dL_acts_458 rfl rfl ?_
    refine Z_istore 461 [(8, _), (7, _), (6, _), (5, _), (4, _), (0, _)] dL_acts_459 rfl (Nat.le_of_ble_eq_true rfl) rfl ?_
    refine Z_iload 463 3 dL_acts_461 rfl rfl ?_
    refine Z_bipush 465 (-4) dL_acts_463 rfl rfl ?_
    refine Z_icmp_ne 468 477 dL_acts_465 rfl rfl (fun c465 => absurd c465 (fun z => z (clp_n hf))) (fun c465 => ?_)
    refine Z_iload 470 1 dL_acts_468 rfl rfl ?_
    refine Z_iconst 471 (nI 4) dL_acts_470 rfl rfl ?_
    refine Z_icmp_ne 474 563 dL_acts_471 rfl rfl (fun c471 => absurd c471 (by decide)) (fun c471 => ?_)
    refine Z_goto 493 dL_acts_474 rfl ?_
    refine Z_aload_n 494 5 dL_acts_493 rfl rfl ?_
    refine Z_bipush 496 (nI 8) dL_acts_494 rfl rfl ?_
    refine Z_callV 499 [_] 3 (v_count8 hF hk) dL_acts_496 rfl qL_13 kX3_count rfl rfl (Nat.le_of_ble_eq_true rfl) rfl rfl ⟨(Nat.le_of_ble_eq_true rfl), (Nat.le_of_ble_eq_true rfl)⟩ (Nat.le_of_ble_eq_true rfl) ⟨rfl, rfl⟩ ⟨(Nat.le_of_ble_eq_true rfl), (Nat.le_of_ble_eq_true rfl)⟩ (fun r9 w9 hp9 => ?_)
    obtain ⟨rfl, mm, rfl, hF⟩ := hp9
    refine Z_iload 501 4 dL_acts_499 rfl rfl ?_
    refine Z_iload 503 0 dL_acts_501 rfl rfl ?_
    refine Z_if_eq 506 510 dL_acts_503 rfl rfl (fun c503 => ?_) (fun c503 => absurd (by decide) c503)
    refine Z_iconst 511 (nI 1) dL_acts_510 rfl rfl ?_
    refine Z_iadd 512 dL_acts_511 rfl ?_
    refine Z_icmp_ne 515 563 dL_acts_512 rfl rfl (fun c512 => absurd c512 (fun z => z hM.1)) (fun c512 => ?_)
    refine Z_aload_n 516 5 dL_acts_515 rfl rfl ?_
    refine Z_bipush 518 (nI 10) dL_acts_516 rfl rfl ?_
    refine Z_callV 521 [_] 3 (v_count10 hF hk) dL_acts_518 rfl qL_13 kX3_count rfl rfl (Nat.le_of_ble_eq_true rfl) rfl rfl ⟨(Nat.le_of_ble_eq_true rfl), (Nat.le_of_ble_eq_true rfl)⟩ (Nat.le_of_ble_eq_true rfl) ⟨rfl, rfl⟩ ⟨(Nat.le_of_ble_eq_true rfl), (Nat.le_of_ble_eq_true rfl)⟩ (fun r9 w9 hp9 => ?_)
    obtain ⟨rfl, mm, rfl, hF⟩ := hp9
    refine Z_iload 523 2 dL_acts_521 rfl rfl ?_
    refine Z_iload 525 0 dL_acts_523 rfl rfl ?_
    refine Z_if_eq 528 533 dL_acts_525 rfl rfl (fun c525 => ?_) (fun c525 => absurd (by decide) c525)
    refine Z_iconst 534 (nI 0) dL_acts_533 rfl rfl ?_
    refine Z_iadd 535 dL_acts_534 rfl ?_
    refine Z_icmp_ne 538 563 dL_acts_535 rfl rfl (fun c535 => absurd c535 (fun z => z (by rw [hM.2.2.1]; exact ad0 _))) (fun c535 => ?_)
    refine Z_iload 540 0 dL_acts_538 rfl rfl ?_
    refine Z_if_eq 543 559 dL_acts_540 rfl rfl (fun c540 => ?_) (fun c540 => absurd (by decide) c540)
    refine Z_iconst 560 (nI 1) dL_acts_559 rfl rfl ?_
    refine Z_goto 564 dL_acts_560 rfl ?_
    exact Z_zret dL_acts_564 rfl (by first | exact Or.inl rfl | exact Or.inr rfl | exact bI_01) (by first | exact actOk hAct | exact actOk (hA.v hF) | exact actOk (Act.noV sy hF))
  · skip
    have hk := hA.1.ok
    have g := hA.1.inv.g
    have hF : Fsv M M := Fsv.rf
    refine Z_istore 447 [(7, _), (6, _), (5, _), (4, _), (0, _)] dL_acts_445 rfl (Nat.le_of_ble_eq_true rfl) rfl ?_
    refine Z_iload 449 0 dL_acts_447 rfl rfl ?_
    refine Z_bipush 451 (nI 10) dL_acts_449 rfl rfl ?_
    refine Z_icmp_lt 454 458 dL_acts_451 rfl rfl (fun c451 => ?_) (fun c451 => absurd (by decide) c451)
    refine Z_iconst 459 (nI 0) dL_acts_458 rfl rfl ?_
    refine Z_istore 461 [(8, _), (7, _), (6, _), (5, _), (4, _), (0, _)] dL_acts_459 rfl (Nat.le_of_ble_eq_true rfl) rfl ?_
    refine Z_iload 463 3 dL_acts_461 rfl rfl ?_
    refine Z_bipush 465 (-4) dL_acts_463 rfl rfl ?_
    refine Z_icmp_ne 468 477 dL_acts_465 rfl rfl (fun c465 => ?_) (fun c465 => absurd (fun z => hI.clp_N z hf) c465)
    refine Z_iload 479 1 dL_acts_477 rfl rfl ?_
    refine Z_iconst 480 (nI 3) dL_acts_479 rfl rfl ?_
    refine Z_icmp_eq 483 493 dL_acts_480 rfl rfl (fun c480 => ?_) (fun c480 => absurd (by decide) c480)
    refine Z_aload_n 494 5 dL_acts_493 rfl rfl ?_
    refine Z_bipush 496 (nI 8) dL_acts_494 rfl rfl ?_
    refine Z_callV 499 [_] 3 (v_count8 hF hk) dL_acts_496 rfl qL_13 kX3_count rfl rfl (Nat.le_of_ble_eq_true rfl) rfl rfl ⟨(Nat.le_of_ble_eq_true rfl), (Nat.le_of_ble_eq_true rfl)⟩ (Nat.le_of_ble_eq_true rfl) ⟨rfl, rfl⟩ ⟨(Nat.le_of_ble_eq_true rfl), (Nat.le_of_ble_eq_true rfl)⟩ (fun r9 w9 hp9 => ?_)
    obtain ⟨rfl, mm, rfl, hF⟩ := hp9
    refine Z_iload 501 4 dL_acts_499 rfl rfl ?_
    refine Z_iload 503 0 dL_acts_501 rfl rfl ?_
    refine Z_if_eq 506 510 dL_acts_503 rfl rfl (fun c503 => ?_) (fun c503 => absurd (by decide) c503)
    refine Z_iconst 511 (nI 1) dL_acts_510 rfl rfl ?_
    refine Z_iadd 512 dL_acts_511 rfl ?_
    refine Z_icmp_ne 515 563 dL_acts_512 rfl rfl (fun c512 => absurd c512 (fun z => z hM.1)) (fun c512 => ?_)
    refine Z_aload_n 516 5 dL_acts_515 rfl rfl ?_
    refine Z_bipush 518 (nI 10) dL_acts_516 rfl rfl ?_
    refine Z_callV 521 [_] 3 (v_count10 hF hk) dL_acts_518 rfl qL_13 kX3_count rfl rfl (Nat.le_of_ble_eq_true rfl) rfl rfl ⟨(Nat.le_of_ble_eq_true rfl), (Nat.le_of_ble_eq_true rfl)⟩ (Nat.le_of_ble_eq_true rfl) ⟨rfl, rfl⟩ ⟨(Nat.le_of_ble_eq_true rfl), (Nat.le_of_ble_eq_true rfl)⟩ (fun r9 w9 hp9 => ?_)
    obtain ⟨rfl, mm, rfl, hF⟩ := hp9
    refine Z_iload 523 2 dL_acts_521 rfl rfl ?_
    refine Z_iload 525 0 dL_acts_523 rfl rfl ?_
    refine Z_if_eq 528 533 dL_acts_525 rfl rfl (fun c525 => ?_) (fun c525 => absurd (by decide) c525)
    refine Z_iconst 534 (nI 0) dL_acts_533 rfl rfl ?_
    refine Z_iadd 535 dL_acts_534 rfl ?_
    refine Z_icmp_ne 538 563 dL_acts_535 rfl rfl (fun c535 => absurd c535 (fun z => z (by rw [hM.2.2.1]; exact ad0 _))) (fun c535 => ?_)
    refine Z_iload 540 0 dL_acts_538 rfl rfl ?_
    refine Z_if_eq 543 559 dL_acts_540 rfl rfl (fun c540 => ?_) (fun c540 => absurd (by decide) c540)
    refine Z_iconst 560 (nI 1) dL_acts_559 rfl rfl ?_
    refine Z_goto 564 dL_acts_560 rfl ?_
    exact Z_zret dL_acts_564 rfl (by first | exact Or.inl rfl | exact Or.inr rfl | exact bI_01) (by first | exact actOk hAct | exact actOk (hA.v hF) | exact actOk (Act.noV sy hF))
  · skip
    have hk := hA.1.ok
    have g := hA.1.inv.g
    have hF : Fsv M M := Fsv.rf
    refine Z_istore 447 [(7, _), (6, _), (5, _), (4, _), (0, _)] dL_acts_445 rfl (Nat.le_of_ble_eq_true rfl) rfl ?_
    refine Z_iload 449 0 dL_acts_447 rfl rfl ?_
    refine Z_bipush 451 (nI 10) dL_acts_449 rfl rfl ?_
    refine Z_icmp_lt 454 458 dL_acts_451 rfl rfl (fun c451 => absurd c451 ((by have c9 := hI.clp_f hf; rw [i32_lt, i32_add (by show _ ≤ (10 : Int) + _; omega) (by show (10 : Int) + _ ≤ _; omega)]; show ¬ (10 : Int) + _ < 10; omega))) (fun c451 => ?_)
    refine Z_iconst 455 (nI 1) dL_acts_454 rfl rfl ?_
    refine Z_goto 459 dL_acts_455 rfl ?_
    refine Z_istore 461 [(8, _), (7, _), (6, _), (5, _), (4, _), (0, _)] dL_acts_459 rfl (Nat.le_of_ble_eq_true rfl) rfl ?_
    refine Z_iload 463 3 dL_acts_461 rfl rfl ?_
    refine Z_bipush 465 (-4) dL_acts_463 rfl rfl ?_
    refine Z_icmp_ne 468 477 dL_acts_465 rfl rfl (fun c465 => ?_) (fun c465 => absurd (fun z => hI.clp_N z hf) c465)
    refine Z_iload 479 1 dL_acts_477 rfl rfl ?_
    refine Z_iconst 480 (nI 3) dL_acts_479 rfl rfl ?_
    refine Z_icmp_eq 483 493 dL_acts_480 rfl rfl (fun c480 => absurd c480 ((by have c9 := hI.clp_f hf; intro z; rw [i32_eq, i32_add (by show _ ≤ (10 : Int) + _; omega) (by show (10 : Int) + _ ≤ _; omega)] at z; have z2 : (10 : Int) + (clp m n).toInt = 3 := z; omega))) (fun c480 => ?_)
    refine Z_iload 485 1 dL_acts_483 rfl rfl ?_
    refine Z_bipush 487 (nI 10) dL_acts_485 rfl rfl ?_
    refine Z_iload 489 3 dL_acts_487 rfl rfl ?_
    refine Z_iadd 490 dL_acts_489 rfl ?_
    refine Z_icmp_ne 493 563 dL_acts_490 rfl rfl (fun c490 => absurd c490 (fun z => z rfl)) (fun c490 => ?_)
    refine Z_aload_n 494 5 dL_acts_493 rfl rfl ?_
    refine Z_bipush 496 (nI 8) dL_acts_494 rfl rfl ?_
    refine Z_callV 499 [_] 3 (v_count8 hF hk) dL_acts_496 rfl qL_13 kX3_count rfl rfl (Nat.le_of_ble_eq_true rfl) rfl rfl ⟨(Nat.le_of_ble_eq_true rfl), (Nat.le_of_ble_eq_true rfl)⟩ (Nat.le_of_ble_eq_true rfl) ⟨rfl, rfl⟩ ⟨(Nat.le_of_ble_eq_true rfl), (Nat.le_of_ble_eq_true rfl)⟩ (fun r9 w9 hp9 => ?_)
    obtain ⟨rfl, mm, rfl, hF⟩ := hp9
    refine Z_iload 501 4 dL_acts_499 rfl rfl ?_
    refine Z_iload 503 0 dL_acts_501 rfl rfl ?_
    refine Z_if_eq 506 510 dL_acts_503 rfl rfl (fun c503 => absurd c503 (by decide)) (fun c503 => ?_)
    refine Z_iconst 507 (nI 0) dL_acts_506 rfl rfl ?_
    refine Z_goto 511 dL_acts_507 rfl ?_
    refine Z_iadd 512 dL_acts_511 rfl ?_
    refine Z_icmp_ne 515 563 dL_acts_512 rfl rfl (fun c512 => absurd c512 (fun z => z (by rw [hM.1]; exact ad0 _))) (fun c512 => ?_)
    refine Z_aload_n 516 5 dL_acts_515 rfl rfl ?_
    refine Z_bipush 518 (nI 10) dL_acts_516 rfl rfl ?_
    refine Z_callV 521 [_] 3 (v_count10 hF hk) dL_acts_518 rfl qL_13 kX3_count rfl rfl (Nat.le_of_ble_eq_true rfl) rfl rfl ⟨(Nat.le_of_ble_eq_true rfl), (Nat.le_of_ble_eq_true rfl)⟩ (Nat.le_of_ble_eq_true rfl) ⟨rfl, rfl⟩ ⟨(Nat.le_of_ble_eq_true rfl), (Nat.le_of_ble_eq_true rfl)⟩ (fun r9 w9 hp9 => ?_)
    obtain ⟨rfl, mm, rfl, hF⟩ := hp9
    refine Z_iload 523 2 dL_acts_521 rfl rfl ?_
    refine Z_iload 525 0 dL_acts_523 rfl rfl ?_
    refine Z_if_eq 528 533 dL_acts_525 rfl rfl (fun c525 => absurd c525 (by decide)) (fun c525 => ?_)
    refine Z_iload 530 3 dL_acts_528 rfl rfl ?_
    refine Z_goto 534 dL_acts_530 rfl ?_
    refine Z_iadd 535 dL_acts_534 rfl ?_
    refine Z_icmp_ne 538 563 dL_acts_535 rfl rfl (fun c535 => absurd c535 (fun z => z hM.2.1)) (fun c535 => ?_)
    refine Z_iload 540 0 dL_acts_538 rfl rfl ?_
    refine Z_if_eq 543 559 dL_acts_540 rfl rfl (fun c540 => absurd c540 (by decide)) (fun c540 => ?_)
    refine Z_aload_n 544 5 dL_acts_543 rfl rfl ?_
    refine Z_iconst 545 (nI 3) dL_acts_544 rfl rfl ?_
    refine Z_callV 548 [_] 3 (v_count3 hF hk) dL_acts_545 rfl qL_13 kX3_count rfl rfl (Nat.le_of_ble_eq_true rfl) rfl rfl ⟨(Nat.le_of_ble_eq_true rfl), (Nat.le_of_ble_eq_true rfl)⟩ (Nat.le_of_ble_eq_true rfl) ⟨rfl, rfl⟩ ⟨(Nat.le_of_ble_eq_true rfl), (Nat.le_of_ble_eq_true rfl)⟩ (fun r9 w9 hp9 => ?_)
    obtain ⟨rfl, mm, rfl, hF⟩ := hp9
    refine Z_if_ne 551 563 dL_acts_548 rfl rfl (fun c548 => absurd c548 (fun z => z (by rw [hM.2.2]; rfl))) (fun c548 => ?_)
    refine Z_aload_n 552 5 dL_acts_551 rfl rfl ?_
    refine Z_iconst 553 (nI 1) dL_acts_552 rfl rfl ?_
    refine Z_callV 556 [_] 3 (v_clipping1 hF g) dL_acts_553 rfl qL_26 kX3_clipping rfl rfl (Nat.le_of_ble_eq_true rfl) rfl rfl ⟨(Nat.le_of_ble_eq_true rfl), (Nat.le_of_ble_eq_true rfl)⟩ (Nat.le_of_ble_eq_true rfl) ⟨rfl, rfl⟩ ⟨(Nat.le_of_ble_eq_true rfl), (Nat.le_of_ble_eq_true rfl)⟩ (fun r9 w9 hp9 => ?_)
    obtain ⟨rfl, mm, rfl, hF⟩ := hp9
    refine Z_if_ne 559 563 dL_acts_556 rfl rfl (fun c556 => absurd c556 (fun z => z (hA.1.inv.clp_0 hM.2.2))) (fun c556 => ?_)
    refine Z_iconst 560 (nI 1) dL_acts_559 rfl rfl ?_
    refine Z_goto 564 dL_acts_560 rfl ?_
    exact Z_zret dL_acts_564 rfl (by first | exact Or.inl rfl | exact Or.inr rfl | exact bI_01) (by first | exact actOk hAct | exact actOk (hA.v hF) | exact actOk (Act.noV sy hF))

set_option maxRecDepth 100000 in
set_option maxHeartbeats 4000000 in
theorem lL_acts571 {G : zG} {l : Launch} {h : Nat → Nat} {m : zM} {K n s : Nat} (sy : Sy K h m n s) (hK : K ≤ 1000) : ∀ mm : zM, Fsv m mm → Z G mL_acts (fun _ => True) (zN G (actP K h m n s) 0 0) l 0 0 (zw h mm) 571 [(0, .ref (G.1 + 0))] [] := by
  intro mm hF
  have hI := sy.inv
  have hn := hI.n14
  have hk := sy.ok
  have g := hI.g
  refine Z_aload_n 572 0 dL_acts_571 rfl rfl ?_
  refine Z_iconst 573 (nI 1) dL_acts_572 rfl rfl ?_
  refine Z_iconst 574 (nI 0) dL_acts_573 rfl rfl ?_
  refine Z_callV 577 [_, _] 3 (v_ifDays0 hF hk (by decide) (by decide)) dL_acts_574 rfl qL_48 kX3_ifDays rfl rfl (Nat.le_of_ble_eq_true rfl) rfl rfl ⟨(Nat.le_of_ble_eq_true rfl), (Nat.le_of_ble_eq_true rfl)⟩ (Nat.le_of_ble_eq_true rfl) ⟨rfl, rfl⟩ ⟨(Nat.le_of_ble_eq_true rfl), (Nat.le_of_ble_eq_true rfl)⟩ (fun r9 w9 hp9 => ?_)
  obtain ⟨rfl, mm, rfl, hF⟩ := hp9
  refine Z_istore 579 [(5, _), (0, _)] dL_acts_577 rfl (Nat.le_of_ble_eq_true rfl) rfl ?_
  refine Z_aload_n 580 1 dL_acts_579 rfl rfl ?_
  refine Z_iconst 581 (nI 1) dL_acts_580 rfl rfl ?_
  refine Z_iconst 582 (nI 1) dL_acts_581 rfl rfl ?_
  refine Z_callV 585 [_, _] 3 (v_ifDays1 hF hk (by decide) (by decide)) dL_acts_582 rfl qL_48 kX3_ifDays rfl rfl (Nat.le_of_ble_eq_true rfl) rfl rfl ⟨(Nat.le_of_ble_eq_true rfl), (Nat.le_of_ble_eq_true rfl)⟩ (Nat.le_of_ble_eq_true rfl) ⟨rfl, rfl⟩ ⟨(Nat.le_of_ble_eq_true rfl), (Nat.le_of_ble_eq_true rfl)⟩ (fun r9 w9 hp9 => ?_)
  obtain ⟨rfl, mm, rfl, hF⟩ := hp9
  refine Z_istore 587 [(6, _), (5, _), (0, _)] dL_acts_585 rfl (Nat.le_of_ble_eq_true rfl) rfl ?_
  refine Z_aload_n 588 2 dL_acts_587 rfl rfl ?_
  refine Z_iconst 589 (nI 0) dL_acts_588 rfl rfl ?_
  refine Z_callV 592 [_] 3 (v_count0 hF hk) dL_acts_589 rfl qL_13 kX3_count rfl rfl (Nat.le_of_ble_eq_true rfl) rfl rfl ⟨(Nat.le_of_ble_eq_true rfl), (Nat.le_of_ble_eq_true rfl)⟩ (Nat.le_of_ble_eq_true rfl) ⟨rfl, rfl⟩ ⟨(Nat.le_of_ble_eq_true rfl), (Nat.le_of_ble_eq_true rfl)⟩ (fun r9 w9 hp9 => ?_)
  obtain ⟨rfl, mm, rfl, hF⟩ := hp9
  refine Z_istore 594 [(7, _), (6, _), (5, _), (0, _)] dL_acts_592 rfl (Nat.le_of_ble_eq_true rfl) rfl ?_
  refine Z_aload_n 595 3 dL_acts_594 rfl rfl ?_
  refine Z_callV 598 [] 3 (v_day sy hK hF) dL_acts_595 rfl qL_112 kX3_day rfl rfl (Nat.le_of_ble_eq_true rfl) rfl rfl ⟨(Nat.le_of_ble_eq_true rfl), (Nat.le_of_ble_eq_true rfl)⟩ (Nat.le_of_ble_eq_true rfl) ⟨rfl, rfl⟩ ⟨(Nat.le_of_ble_eq_true rfl), (Nat.le_of_ble_eq_true rfl)⟩ (fun r9 w9 hp9 => ?_)
  obtain ⟨rfl, M, rfl, hA, hM⟩ := hp9
  have hk := hA.1.ok
  have g := hA.1.inv.g
  have hF : Fsv M M := Fsv.rf
  refine Z_iload 600 2 dL_acts_598 rfl rfl ?_
  refine Z_icmp_ne 603 639 dL_acts_600 rfl rfl (fun c600 => absurd c600 (fun z => z rfl)) (fun c600 => ?_)
  refine Z_aload_n 604 3 dL_acts_603 rfl rfl ?_
  refine Z_iconst 605 (nI 3) dL_acts_604 rfl rfl ?_
  refine Z_callV 608 [_] 3 (v_count3 hF hk) dL_acts_605 rfl qL_13 kX3_count rfl rfl (Nat.le_of_ble_eq_true rfl) rfl rfl ⟨(Nat.le_of_ble_eq_true rfl), (Nat.le_of_ble_eq_true rfl)⟩ (Nat.le_of_ble_eq_true rfl) ⟨rfl, rfl⟩ ⟨(Nat.le_of_ble_eq_true rfl), (Nat.le_of_ble_eq_true rfl)⟩ (fun r9 w9 hp9 => ?_)
  obtain ⟨rfl, mm, rfl, hF⟩ := hp9
  refine Z_iload 610 2 dL_acts_608 rfl rfl ?_
  refine Z_icmp_ne 613 639 dL_acts_610 rfl rfl (fun c610 => absurd c610 (fun z => z (by rw [hM.1]))) (fun c610 => ?_)
  refine Z_aload_n 614 3 dL_acts_613 rfl rfl ?_
  refine Z_iconst 615 (nI 4) dL_acts_614 rfl rfl ?_
  refine Z_callV 618 [_] 3 (v_count4 hF hk) dL_acts_615 rfl qL_13 kX3_count rfl rfl (Nat.le_of_ble_eq_true rfl) rfl rfl ⟨(Nat.le_of_ble_eq_true rfl), (Nat.le_of_ble_eq_true rfl)⟩ (Nat.le_of_ble_eq_true rfl) ⟨rfl, rfl⟩ ⟨(Nat.le_of_ble_eq_true rfl), (Nat.le_of_ble_eq_true rfl)⟩ (fun r9 w9 hp9 => ?_)
  obtain ⟨rfl, mm, rfl, hF⟩ := hp9
  refine Z_iload 620 1 dL_acts_618 rfl rfl ?_
  refine Z_icmp_ne 623 639 dL_acts_620 rfl rfl (fun c620 => absurd c620 (fun z => z hM.2.1)) (fun c620 => ?_)
  refine Z_aload_n 624 3 dL_acts_623 rfl rfl ?_
  refine Z_iconst 625 (nI 0) dL_acts_624 rfl rfl ?_
  refine Z_callV 628 [_] 3 (v_count0 hF hk) dL_acts_625 rfl qL_13 kX3_count rfl rfl (Nat.le_of_ble_eq_true rfl) rfl rfl ⟨(Nat.le_of_ble_eq_true rfl), (Nat.le_of_ble_eq_true rfl)⟩ (Nat.le_of_ble_eq_true rfl) ⟨rfl, rfl⟩ ⟨(Nat.le_of_ble_eq_true rfl), (Nat.le_of_ble_eq_true rfl)⟩ (fun r9 w9 hp9 => ?_)
  obtain ⟨rfl, mm, rfl, hF⟩ := hp9
  refine Z_iload 630 0 dL_acts_628 rfl rfl ?_
  refine Z_iconst 631 (nI 1) dL_acts_630 rfl rfl ?_
  refine Z_iadd 632 dL_acts_631 rfl ?_
  refine Z_icmp_ne 635 639 dL_acts_632 rfl rfl (fun c632 => absurd c632 (fun z => z hM.2.2)) (fun c632 => ?_)
  refine Z_iconst 636 (nI 1) dL_acts_635 rfl rfl ?_
  refine Z_goto 640 dL_acts_636 rfl ?_
  exact Z_zret dL_acts_640 rfl (by first | exact Or.inl rfl | exact Or.inr rfl | exact bI_01) (by first | exact actOk hAct | exact actOk (hA.v hF) | exact actOk (Act.noV sy hF))

set_option maxRecDepth 100000 in
set_option maxHeartbeats 4000000 in
theorem zL_acts {G : zG} {l : Launch} {h : Nat → Nat} {m : zM} {K n s : Nat} {mm : zM} (sy : Sy K h m n s) (hK : K ≤ 1000) (hF : Fsv m mm) (x y : Int32) : zMet G l yL_acts mL_acts [.ref (G.1 + 0), .int x, .int y] (zw h mm) (actP K h m n s) 0 0 := by
  refine zMet_of [(0, .ref (G.1 + 0)), (1, .int x), (2, .int y)] (by decide +kernel) rfl (Or.inl rfl) (Nat.le_of_ble_eq_true rfl) rfl ?_
  have hI := sy.inv
  have hn := hI.n14
  have hk := sy.ok
  have g := hI.g
  refine Z_iload_n 1 1 dL_acts_0 rfl rfl ?_
  refine Z_bipush 3 (nI 32) dL_acts_1 rfl rfl ?_
  refine Z_callS 6 [_, _] (zL_low _ 32 (by decide)) dL_acts_3 rfl qL_39 kL_low rfl rfl ⟨(Nat.le_of_ble_eq_true rfl), (Nat.le_of_ble_eq_true rfl)⟩ (Nat.le_of_ble_eq_true rfl) ⟨rfl, rfl⟩ ⟨(Nat.le_of_ble_eq_true rfl), (Nat.le_of_ble_eq_true rfl)⟩ (fun r9 w9 hp9 => ?_)
  obtain ⟨⟨q3, hq3, rfl⟩, rfl⟩ := hp9
  refine Z_istore_n 7 [(3, _), (0, _), (1, _), (2, _)] dL_acts_6 rfl (Nat.le_of_ble_eq_true rfl) rfl ?_
  refine Z_aload_n 8 1 dL_acts_7 rfl rfl ?_
  refine Z_bipush 10 (nI 8) dL_acts_8 rfl rfl ?_
  refine Z_callV 13 [_] 3 (v_count8 hF hk) dL_acts_10 rfl qL_13 kX3_count rfl rfl (Nat.le_of_ble_eq_true rfl) rfl rfl ⟨(Nat.le_of_ble_eq_true rfl), (Nat.le_of_ble_eq_true rfl)⟩ (Nat.le_of_ble_eq_true rfl) ⟨rfl, rfl⟩ ⟨(Nat.le_of_ble_eq_true rfl), (Nat.le_of_ble_eq_true rfl)⟩ (fun r9 w9 hp9 => ?_)
  obtain ⟨rfl, mm, rfl, hF⟩ := hp9
  refine Z_istore 15 [(4, _), (3, _), (0, _), (1, _), (2, _)] dL_acts_13 rfl (Nat.le_of_ble_eq_true rfl) rfl ?_
  refine Z_iload_n 16 1 dL_acts_15 rfl rfl ?_
  refine Z_bipush 18 (nI 8) dL_acts_16 rfl rfl ?_
  refine Z_icmp_ge 21 344 dL_acts_18 rfl rfl (fun c18 => ?_) (fun c18 => ?_)
  · skip
    refine Z_iload_n 345 1 dL_acts_344 rfl rfl ?_
    refine Z_bipush 347 (nI 16) dL_acts_345 rfl rfl ?_
    refine Z_icmp_ge 350 387 dL_acts_347 rfl rfl (fun c347 => ?_) (fun c347 => ?_)
    · skip
      refine Z_iload_n 388 1 dL_acts_387 rfl rfl ?_
      refine Z_bipush 390 (nI 23) dL_acts_388 rfl rfl ?_
      refine Z_icmp_ge 393 420 dL_acts_390 rfl rfl (fun c390 => ?_) (fun c390 => ?_)
      · skip
        refine Z_iload_n 421 1 dL_acts_420 rfl rfl ?_
        refine Z_bipush 423 (nI 25) dL_acts_421 rfl rfl ?_
        refine Z_icmp_ge 426 565 dL_acts_423 rfl rfl (fun c423 => ?_) (fun c423 => ?_)
        · skip
          refine Z_iload_n 566 1 dL_acts_565 rfl rfl ?_
          refine Z_bipush 568 (nI 29) dL_acts_566 rfl rfl ?_
          refine Z_icmp_ge 571 641 dL_acts_568 rfl rfl (fun c568 => ?_) (fun c568 => ?_)
          · skip
            refine Z_aload_n 642 2 dL_acts_641 rfl rfl ?_
            refine Z_iload_n 643 4 dL_acts_642 rfl rfl ?_
            refine Z_callS 646 [_, _] (zL_signs sy hF _) dL_acts_643 rfl qL_115 kL_signs rfl rfl ⟨(Nat.le_of_ble_eq_true rfl), (Nat.le_of_ble_eq_true rfl)⟩ (Nat.le_of_ble_eq_true rfl) ⟨rfl, rfl⟩ ⟨(Nat.le_of_ble_eq_true rfl), (Nat.le_of_ble_eq_true rfl)⟩ (fun r9 w9 hp9 => ?_)
            obtain ⟨rfl, h1, m1, n1, s1, rfl, hAct⟩ := hp9
            exact Z_zret dL_acts_646 rfl (by first | exact Or.inl rfl | exact Or.inr rfl | exact bI_01) (by first | exact actOk hAct | exact actOk (hA.v hF) | exact actOk (Act.noV sy hF))
          · skip
            refine Z_lv [2] rfl ?_
            exact lL_acts571 sy hK mm hF
        · skip
          refine Z_lv [0, 2] rfl ?_
          exact lL_acts426 sy hK mm hF
      · skip
        refine Z_aload_n 394 2 dL_acts_393 rfl rfl ?_
        refine Z_iload_n 395 1 dL_acts_394 rfl rfl ?_
        refine Z_bipush 397 (nI 19) dL_acts_395 rfl rfl ?_
        refine Z_icmp_ge 400 404 dL_acts_397 rfl rfl (fun c397 => ?_) (fun c397 => ?_)
        · skip
          refine Z_iload_n 405 1 dL_acts_404 rfl rfl ?_
          refine Z_bipush 407 (nI 22) dL_acts_405 rfl rfl ?_
          refine Z_icmp_ge 410 414 dL_acts_407 rfl rfl (fun c407 => ?_) (fun c407 => ?_)
          · skip
            refine Z_iconst 415 (nI 2) dL_acts_414 rfl rfl ?_
            refine Z_iload_n 416 4 dL_acts_415 rfl rfl ?_
            refine Z_callS 419 [_, _, _] (zL_talks2 sy hK hF _) dL_acts_416 rfl qL_106 kL_talks rfl rfl ⟨(Nat.le_of_ble_eq_true rfl), (Nat.le_of_ble_eq_true rfl)⟩ (Nat.le_of_ble_eq_true rfl) ⟨rfl, rfl⟩ ⟨(Nat.le_of_ble_eq_true rfl), (Nat.le_of_ble_eq_true rfl)⟩ (fun r9 w9 hp9 => ?_)
            obtain ⟨rfl, h1, m1, n1, s1, rfl, hAct⟩ := hp9
            exact Z_zret dL_acts_419 rfl (by first | exact Or.inl rfl | exact Or.inr rfl | exact bI_01) (by first | exact actOk hAct | exact actOk (hA.v hF) | exact actOk (Act.noV sy hF))
          · skip
            refine Z_iconst 411 (nI 1) dL_acts_410 rfl rfl ?_
            refine Z_goto 415 dL_acts_411 rfl ?_
            refine Z_iload_n 416 4 dL_acts_415 rfl rfl ?_
            refine Z_callS 419 [_, _, _] (zL_talks1 sy hK hF _) dL_acts_416 rfl qL_106 kL_talks rfl rfl ⟨(Nat.le_of_ble_eq_true rfl), (Nat.le_of_ble_eq_true rfl)⟩ (Nat.le_of_ble_eq_true rfl) ⟨rfl, rfl⟩ ⟨(Nat.le_of_ble_eq_true rfl), (Nat.le_of_ble_eq_true rfl)⟩ (fun r9 w9 hp9 => ?_)
            obtain ⟨rfl, h1, m1, n1, s1, rfl, hAct⟩ := hp9
            exact Z_zret dL_acts_419 rfl (by first | exact Or.inl rfl | exact Or.inr rfl | exact bI_01) (by first | exact actOk hAct | exact actOk (hA.v hF) | exact actOk (Act.noV sy hF))
        · skip
          refine Z_iconst 401 (nI 0) dL_acts_400 rfl rfl ?_
          refine Z_goto 415 dL_acts_401 rfl ?_
          refine Z_iload_n 416 4 dL_acts_415 rfl rfl ?_
          refine Z_callS 419 [_, _, _] (zL_talks0 sy hK hF _) dL_acts_416 rfl qL_106 kL_talks rfl rfl ⟨(Nat.le_of_ble_eq_true rfl), (Nat.le_of_ble_eq_true rfl)⟩ (Nat.le_of_ble_eq_true rfl) ⟨rfl, rfl⟩ ⟨(Nat.le_of_ble_eq_true rfl), (Nat.le_of_ble_eq_true rfl)⟩ (fun r9 w9 hp9 => ?_)
          obtain ⟨rfl, h1, m1, n1, s1, rfl, hAct⟩ := hp9
          exact Z_zret dL_acts_419 rfl (by first | exact Or.inl rfl | exact Or.inr rfl | exact bI_01) (by first | exact actOk hAct | exact actOk (hA.v hF) | exact actOk (Act.noV sy hF))
    · skip
      refine Z_aload_n 351 2 dL_acts_350 rfl rfl ?_
      refine Z_iload_n 352 1 dL_acts_351 rfl rfl ?_
      refine Z_bipush 354 (nI 10) dL_acts_352 rfl rfl ?_
      refine Z_icmp_ge 357 361 dL_acts_354 rfl rfl (fun c354 => ?_) (fun c354 => ?_)
      · skip
        refine Z_iload_n 362 1 dL_acts_361 rfl rfl ?_
        refine Z_bipush 364 (nI 12) dL_acts_362 rfl rfl ?_
        refine Z_icmp_ge 367 371 dL_acts_364 rfl rfl (fun c364 => ?_) (fun c364 => ?_)
        · skip
          refine Z_iload_n 372 1 dL_acts_371 rfl rfl ?_
          refine Z_bipush 374 (nI 13) dL_acts_372 rfl rfl ?_
          refine Z_icmp_ge 377 381 dL_acts_374 rfl rfl (fun c374 => ?_) (fun c374 => ?_)
          · skip
            refine Z_iconst 382 (nI 3) dL_acts_381 rfl rfl ?_
            refine Z_iload_n 383 4 dL_acts_382 rfl rfl ?_
            refine Z_callS 386 [_, _, _] (zL_garden3 sy hK hF _) dL_acts_383 rfl qL_102 kL_garden rfl rfl ⟨(Nat.le_of_ble_eq_true rfl), (Nat.le_of_ble_eq_true rfl)⟩ (Nat.le_of_ble_eq_true rfl) ⟨rfl, rfl⟩ ⟨(Nat.le_of_ble_eq_true rfl), (Nat.le_of_ble_eq_true rfl)⟩ (fun r9 w9 hp9 => ?_)
            obtain ⟨rfl, h1, m1, n1, s1, rfl, hAct⟩ := hp9
            exact Z_zret dL_acts_386 rfl (by first | exact Or.inl rfl | exact Or.inr rfl | exact bI_01) (by first | exact actOk hAct | exact actOk (hA.v hF) | exact actOk (Act.noV sy hF))
          · skip
            refine Z_iconst 378 (nI 2) dL_acts_377 rfl rfl ?_
            refine Z_goto 382 dL_acts_378 rfl ?_
            refine Z_iload_n 383 4 dL_acts_382 rfl rfl ?_
            refine Z_callS 386 [_, _, _] (zL_garden2 sy hK hF _) dL_acts_383 rfl qL_102 kL_garden rfl rfl ⟨(Nat.le_of_ble_eq_true rfl), (Nat.le_of_ble_eq_true rfl)⟩ (Nat.le_of_ble_eq_true rfl) ⟨rfl, rfl⟩ ⟨(Nat.le_of_ble_eq_true rfl), (Nat.le_of_ble_eq_true rfl)⟩ (fun r9 w9 hp9 => ?_)
            obtain ⟨rfl, h1, m1, n1, s1, rfl, hAct⟩ := hp9
            exact Z_zret dL_acts_386 rfl (by first | exact Or.inl rfl | exact Or.inr rfl | exact bI_01) (by first | exact actOk hAct | exact actOk (hA.v hF) | exact actOk (Act.noV sy hF))
        · skip
          refine Z_iconst 368 (nI 1) dL_acts_367 rfl rfl ?_
          refine Z_goto 382 dL_acts_368 rfl ?_
          refine Z_iload_n 383 4 dL_acts_382 rfl rfl ?_
          refine Z_callS 386 [_, _, _] (zL_garden1 sy hK hF _) dL_acts_383 rfl qL_102 kL_garden rfl rfl ⟨(Nat.le_of_ble_eq_true rfl), (Nat.le_of_ble_eq_true rfl)⟩ (Nat.le_of_ble_eq_true rfl) ⟨rfl, rfl⟩ ⟨(Nat.le_of_ble_eq_true rfl), (Nat.le_of_ble_eq_true rfl)⟩ (fun r9 w9 hp9 => ?_)
          obtain ⟨rfl, h1, m1, n1, s1, rfl, hAct⟩ := hp9
          exact Z_zret dL_acts_386 rfl (by first | exact Or.inl rfl | exact Or.inr rfl | exact bI_01) (by first | exact actOk hAct | exact actOk (hA.v hF) | exact actOk (Act.noV sy hF))
      · skip
        refine Z_iconst 358 (nI 0) dL_acts_357 rfl rfl ?_
        refine Z_goto 382 dL_acts_358 rfl ?_
        refine Z_iload_n 383 4 dL_acts_382 rfl rfl ?_
        refine Z_callS 386 [_, _, _] (zL_garden0 sy hK hF _) dL_acts_383 rfl qL_102 kL_garden rfl rfl ⟨(Nat.le_of_ble_eq_true rfl), (Nat.le_of_ble_eq_true rfl)⟩ (Nat.le_of_ble_eq_true rfl) ⟨rfl, rfl⟩ ⟨(Nat.le_of_ble_eq_true rfl), (Nat.le_of_ble_eq_true rfl)⟩ (fun r9 w9 hp9 => ?_)
        obtain ⟨rfl, h1, m1, n1, s1, rfl, hAct⟩ := hp9
        exact Z_zret dL_acts_386 rfl (by first | exact Or.inl rfl | exact Or.inr rfl | exact bI_01) (by first | exact actOk hAct | exact actOk (hA.v hF) | exact actOk (Act.noV sy hF))
  · skip
    refine Z_lv [0, 4, 2] rfl ?_
    exact lL_acts21 sy hK y mm hF

