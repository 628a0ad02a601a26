/-! types -/
def lowV (v : Int32) (d : Nat) : Nat := v.toBitVec.toNat % 2 ^ 31 % d
theorem lowV_lt (v : Int32) {d : Nat} (hd : 0 < d) : lowV v d < d := Nat.mod_lt _ hd
set_option maxRecDepth 100000 in
set_option maxHeartbeats 4000000 in
theorem zL_lowF {G : zG} {l : Launch} {w : zW} (v : Int32) (d : Nat) (hd : 0 < d ∧ d < 1000) : zMet G l yL_low mL_low [.int v, .int (nI d)] w (fun r w' => r = some (.int (nI (lowV v d))) ∧ w' = w) 0 0 := by
  refine zMet_of [(0, .int v), (1, .int (nI d))] (by decide +kernel) rfl (Or.inl rfl) (Nat.le_of_ble_eq_true rfl) rfl ?_
  refine Z_iload_n 1 0 dL_low_0 rfl rfl ?_
  refine Z_ldc 3 2147483647 dL_low_1 rfl kL_8 ?_
  refine Z_iand 4 dL_low_3 rfl ?_
  rw [pk_and v (m := 2147483647) 31 rfl]
  refine Z_iload_n 5 1 dL_low_4 rfl rfl ?_
  refine Z_remN 6 dL_low_5 rfl (Nat.mod_lt _ (by decide)) hd.1 (by omega) ?_
  exact Z_iret dL_low_6 rfl ⟨rfl, rfl⟩
/-- the marks ";" among the first L -/
def sc (f : Nat → Int32) (L : Nat) : Nat := cnt (fun k => decide (f k = nI 59)) L
/-- m is m0 but for the pad, with L signs, S of them ";" -/
def PT (m0 m : zM) (L S : Nat) : Prop := (∀ q, q ≠ 68 → q ≠ 69 → m q = m0 q) ∧ m 68 1 = nI L ∧ sc (m 69) L = S
/-- what types leaves for n parts -/
def TX (m0 m : zM) (n : Nat) : Prop := ∃ L S, L ≤ 60 ∧ PT m0 m L S ∧ ((S = n - 1 ∧ L ≤ 7 * n) ∨ (1 ≤ L ∧ m 69 (L - 1) = nI 59))
section
variable {G : zG} {l : Launch} {h : Nat → Nat} {m mm : zM} {L S : Nat}
theorem v_app (hp : PT m mm L S) (hL : L < 60) {c : Nat} (hc : 33 ≤ c ∧ c ≤ 126) : zMet G l yX3_append mX3_append [.ref (G.1 + 0), .int (nI c)] (zw h mm) (fun r w => r = some (.int (nI (L + 1))) ∧ ∃ M, w = zw h M ∧ PT m M (L + 1) (S + if c = 59 then 1 else 0) ∧ M 69 L = nI c) 0 0 :=
  zMet_post (zX3_append L (by omega) hp.2.1 (nI c)) (fun r w hq => by
    have c1 : ¬ nI c < nI 33 ∧ ¬ nI 126 < nI c := ⟨nI_nlt hc.1 (by omega), nI_nlt hc.2 (by decide)⟩
    have c2 : nI L < nI 60 := nI_lt hL (by decide)
    unfold apR apM at hq
    rw [if_pos c1, if_pos c2, if_pos c1, if_pos c2] at hq
    have e69 : ∀ k, up2 (up2 mm 69 L (nI c)) 68 1 (nI (L + 1)) 69 k = if k = L then nI c else mm 69 k := fun k => by
      rw [up2_na _ _ _ (by decide), up2_ak]
    refine ⟨hq.1, _, hq.2, ⟨fun q a b => by rw [up2_na _ _ _ a, up2_na _ _ _ b]; exact hp.1 q a b, up2_eq _ _ _ _, ?_⟩, by rw [e69, if_pos rfl]⟩
    unfold sc
    show cnt (fun k => decide (up2 (up2 mm 69 L (nI c)) 68 1 (nI (L + 1)) 69 k = nI 59)) L + (if decide (up2 (up2 mm 69 L (nI c)) 68 1 (nI (L + 1)) 69 L = nI 59) = true then 1 else 0) = _
    rw [cnt_congr (q := fun k => decide (mm 69 k = nI 59)) L (fun j hj => by rw [e69, if_neg (by omega)]), e69, if_pos rfl]
    have e := hp.2.2
    unfold sc at e
    rw [e]
    by_cases c9 : c = 59
    · rw [if_pos c9, if_pos (decide_eq_true (congrArg nI c9))]
    · rw [if_neg c9, if_neg (fun z => c9 ((nI_eq (by omega) (by decide)).mp (of_decide_eq_true z)))])
theorem v_clr : zMet G l yX3_clear mX3_clear [.ref (G.1 + 0)] (zw h mm) (fun r w => r = some (.int (mm 68 1)) ∧ ∃ M, w = zw h M ∧ PT mm M 0 0) 0 0 :=
  zMet_post zX3_clear (fun r w hq => ⟨hq.1, _, hq.2, fun q a b => up2_na _ _ _ a, up2_eq _ _ _ _, rfl⟩)
end
theorem PT.trans {a b c : zM} {L L' S S' : Nat} (h : PT a b L S) (g : PT b c L' S') : PT a c L' S' := ⟨fun q x y => (g.1 q x y).trans (h.1 q x y), g.2⟩
theorem quo {N : Nat} (h : N ≤ 68) : nI N / nI 10 = nI (N / 10) := pk_div (by omega) (by decide) (by decide)
theorem u_of {v : Int32} (h1 : -30 ≤ v.toInt) (h2 : v.toInt ≤ 68) : (v < 0 → ∃ N, N ≤ 68 ∧ -v = nI N) ∧ (¬ v < 0 → ∃ N, N ≤ 68 ∧ v = nI N) := by
  have z0 : (0 : Int32).toInt = 0 := rfl
  constructor
  · intro c
    rw [i32_lt, z0] at c
    have e : (-v).toInt = -v.toInt := by
      rw [← Int32.zero_sub, i32_sub (by rw [z0]; omega) (by rw [z0]; omega), z0]
      omega
    obtain ⟨j, hj, ej⟩ := nI_of (x := -v) (by rw [i32_lt, e, z0]; omega)
    refine ⟨j, ?_, ej⟩
    rw [ej, nI_toInt hj] at e
    omega
  · intro c
    obtain ⟨j, hj, ej⟩ := nI_of c
    refine ⟨j, ?_, ej⟩
    rw [ej, nI_toInt hj] at h2
    omega
theorem nn_r {a b c : Nat} (ha : a ≤ c) (hb : b ≤ 30) (hc : c ≤ 98) : -30 ≤ (nI a - nI b).toInt ∧ (nI a - nI b).toInt ≤ c := by
  rw [pk_sub_toInt (by omega) (by omega)]
  omega
set_option maxRecDepth 100000 in
set_option maxHeartbeats 4000000 in
theorem lL_types282 {G : zG} {l : Launch} {h : Nat → Nat} {m : zM} (x : Int32) : ∀ (mm : zM) (L : Nat), L ≤ 7 * lowV x 9 → PT m mm L (lowV x 9 - 1) → Z G mL_types (fun _ => True) (zN G (fun r w => r = some (.int (nI 1)) ∧ ∃ M, w = zw h M ∧ TX m M (lowV x 9)) 0 0) l 0 0 (zw h mm) 282 [(3, .int (nI 1)), (2, .int (nI (lowV x 9))), (1, .int x), (0, .ref (G.1 + 0))] [] := by
  intro mm L hL hP
  have hn9 : lowV x 9 < 9 := lowV_lt x (by decide)
  refine Z_iload_n 283 0 dL_types_282 rfl rfl ?_
  refine Z_if_eq 286 311 dL_types_283 rfl rfl (fun c283 => absurd c283 (by decide)) (fun c283 => ?_)
  refine Z_iload_n 287 2 dL_types_286 rfl rfl ?_
  refine Z_bipush 289 (nI 26) dL_types_287 rfl rfl ?_
  refine Z_ishr 290 dL_types_289 rfl ?_
  refine Z_bipush 292 (nI 6) dL_types_290 rfl rfl ?_
  refine Z_callS 295 [_, _] (zL_low _ 6 (by decide)) dL_types_292 rfl qL_39 kL_low rfl rfl ⟨(Nat.le_of_ble_eq_true rfl), (Nat.le_of_ble_eq_true rfl)⟩ (Nat.le_of_ble_eq_true rfl) ⟨rfl, rfl⟩ ⟨(Nat.le_of_ble_eq_true rfl), (Nat.le_of_ble_eq_true rfl)⟩ (fun r9 w9 hp9 => ?_)
  obtain ⟨⟨q292, hq292, rfl⟩, rfl⟩ := hp9
  refine Z_if_gt 298 307 dL_types_295 rfl rfl (fun c295 => ?_) (fun c295 => ?_)
  · skip
    have hTX : TX m mm (lowV x 9) := ⟨L, _, by omega, hP, Or.inl ⟨rfl, hL⟩⟩
    refine Z_iconst 308 (nI 1) dL_types_307 rfl rfl ?_
    refine Z_goto 312 dL_types_308 rfl ?_
    exact Z_zret dL_types_312 rfl (by first | exact Or.inl rfl | exact Or.inr rfl | exact bI_01) ⟨rfl, mm, rfl, hTX⟩
  · skip
    refine Z_aload_n 299 3 dL_types_298 rfl rfl ?_
    refine Z_bipush 301 (nI 59) dL_types_299 rfl rfl ?_
    refine Z_callV 304 [_] 3 (v_app hP (by omega) (by omega)) dL_types_301 rfl qL_58 kX3_append rfl rfl (Nat.le_of_ble_eq_true rfl) rfl rfl ⟨(Nat.le_of_ble_eq_true rfl), (Nat.le_of_ble_eq_true rfl)⟩ (Nat.le_of_ble_eq_true rfl) ⟨rfl, rfl⟩ ⟨(Nat.le_of_ble_eq_true rfl), (Nat.le_of_ble_eq_true rfl)⟩ (fun r9 w9 hp9 => ?_)
    obtain ⟨rfl, mm, rfl, hP, hlast⟩ := hp9
    refine Z_if_le 307 311 dL_types_304 rfl rfl (fun c304 => absurd c304 (nI_nle (Nat.succ_pos _) (by omega))) (fun c304 => ?_)
    have hTX : TX m mm (lowV x 9) := ⟨L + 1, _, by omega, hP, Or.inr ⟨Nat.succ_pos L, hlast⟩⟩
    refine Z_iconst 308 (nI 1) dL_types_307 rfl rfl ?_
    refine Z_goto 312 dL_types_308 rfl ?_
    exact Z_zret dL_types_312 rfl (by first | exact Or.inl rfl | exact Or.inr rfl | exact bI_01) ⟨rfl, mm, rfl, hTX⟩

set_option maxRecDepth 100000 in
set_option maxHeartbeats 4000000 in
theorem lL_types255 {G : zG} {l : Launch} {h : Nat → Nat} {m : zM} (x : Int32) (i : Nat) (hi : i < lowV x 9) (kk : ∀ (mm : zM) (L : Nat), L ≤ 7 * (i + 1) → PT m mm L i → Z G mL_types (fun _ => True) (zN G (fun r w => r = some (.int (nI 1)) ∧ ∃ M, w = zw h M ∧ TX m M (lowV x 9)) 0 0) l 0 0 (zw h mm) 270 [(4, .int (nI i)), (3, .int (nI 1)), (2, .int (nI (lowV x 9))), (1, .int x), (0, .ref (G.1 + 0))] []) : ∀ (mm : zM) (L N : Nat) (v5 v6 : Int32), N ≤ 68 → L ≤ 7 * (i + 1) - 1 → PT m mm L i → Z G mL_types (fun _ => True) (zN G (fun r w => r = some (.int (nI 1)) ∧ ∃ M, w = zw h M ∧ TX m M (lowV x 9)) 0 0) l 0 0 (zw h mm) 255 [(7, .int (nI N)), (6, .int v6), (5, .int v5), (4, .int (nI i)), (3, .int (nI 1)), (2, .int (nI (lowV x 9))), (1, .int x), (0, .ref (G.1 + 0))] [] := by
  intro mm L N v5 v6 hN hL hP
  have hn9 : lowV x 9 < 9 := lowV_lt x (by decide)
  refine Z_aload_n 256 7 dL_types_255 rfl rfl ?_
  refine Z_bipush 258 (nI 48) dL_types_256 rfl rfl ?_
  refine Z_iload 260 0 dL_types_258 rfl rfl ?_
  refine Z_bipush 262 (nI 10) dL_types_260 rfl rfl ?_
  refine Z_remN 263 dL_types_262 rfl (by omega) (by decide) (by decide) ?_
  refine Z_iadd 264 dL_types_263 rfl ?_
  refine Z_top (v' := .int (nI (48 + N % 10))) (congrArg Value.int (nI_add 48 (N % 10))) ?_
  refine Z_callV 267 [_] 3 (v_app hP (by omega) (by omega)) dL_types_264 rfl qL_58 kX3_append rfl rfl (Nat.le_of_ble_eq_true rfl) rfl rfl ⟨(Nat.le_of_ble_eq_true rfl), (Nat.le_of_ble_eq_true rfl)⟩ (Nat.le_of_ble_eq_true rfl) ⟨rfl, rfl⟩ ⟨(Nat.le_of_ble_eq_true rfl), (Nat.le_of_ble_eq_true rfl)⟩ (fun r9 w9 hp9 => ?_)
  obtain ⟨rfl, mm, rfl, hP, hlast⟩ := hp9
  refine Z_if_le 270 274 dL_types_267 rfl rfl (fun c267 => absurd c267 (nI_nle (Nat.succ_pos _) (by omega))) (fun c267 => ?_)
  rw [if_neg (show ¬ 48 + N % 10 = 59 by omega)] at hP
  refine Z_lv [3, 4, 5, 6, 7] rfl ?_
  exact kk mm _ (by omega) hP

set_option maxRecDepth 100000 in
set_option maxHeartbeats 4000000 in
theorem lL_types227 {G : zG} {l : Launch} {h : Nat → Nat} {m : zM} (x : Int32) (i : Nat) (hi : i < lowV x 9) (kk : ∀ (mm : zM) (L : Nat), L ≤ 7 * (i + 1) → PT m mm L i → Z G mL_types (fun _ => True) (zN G (fun r w => r = some (.int (nI 1)) ∧ ∃ M, w = zw h M ∧ TX m M (lowV x 9)) 0 0) l 0 0 (zw h mm) 270 [(4, .int (nI i)), (3, .int (nI 1)), (2, .int (nI (lowV x 9))), (1, .int x), (0, .ref (G.1 + 0))] []) : ∀ (mm : zM) (L N c : Nat) (v5 v6 : Int32), N ≤ 68 → c = 43 ∨ c = 45 → L ≤ 7 * i + 4 → PT m mm L i → Z G mL_types (fun _ => True) (zN G (fun r w => r = some (.int (nI 1)) ∧ ∃ M, w = zw h M ∧ TX m M (lowV x 9)) 0 0) l 0 0 (zw h mm) 227 [(7, .int (nI N)), (6, .int v6), (5, .int v5), (4, .int (nI i)), (3, .int (nI 1)), (2, .int (nI (lowV x 9))), (1, .int x), (0, .ref (G.1 + 0))] [.int (nI c), .ref (G.1 + 0)] := by
  intro mm L N c v5 v6 hN hc hL hP
  have hn9 : lowV x 9 < 9 := lowV_lt x (by decide)
  refine Z_callV 230 [_] 3 (v_app hP (by omega) (by omega)) dL_types_227 rfl qL_58 kX3_append rfl rfl (Nat.le_of_ble_eq_true rfl) rfl rfl ⟨(Nat.le_of_ble_eq_true rfl), (Nat.le_of_ble_eq_true rfl)⟩ (Nat.le_of_ble_eq_true rfl) ⟨rfl, rfl⟩ ⟨(Nat.le_of_ble_eq_true rfl), (Nat.le_of_ble_eq_true rfl)⟩ (fun r9 w9 hp9 => ?_)
  obtain ⟨rfl, mm, rfl, hP, hlast⟩ := hp9
  refine Z_if_le 233 274 dL_types_230 rfl rfl (fun c230 => absurd c230 (nI_nle (Nat.succ_pos _) (by omega))) (fun c230 => ?_)
  rw [if_neg (show ¬ c = 59 by omega)] at hP
  refine Z_iload 235 0 dL_types_233 rfl rfl ?_
  refine Z_bipush 237 (nI 10) dL_types_235 rfl rfl ?_
  refine Z_icmp_lt 240 255 dL_types_237 rfl rfl (fun c237 => ?_) (fun c237 => ?_)
  · skip
    exact lL_types255 x i hi kk mm _ N v5 v6 hN (by omega) hP
  · skip
    refine Z_aload_n 241 7 dL_types_240 rfl rfl ?_
    refine Z_bipush 243 (nI 48) dL_types_241 rfl rfl ?_
    refine Z_iload 245 0 dL_types_243 rfl rfl ?_
    refine Z_bipush 247 (nI 10) dL_types_245 rfl rfl ?_
    refine Z_idiv 248 dL_types_247 rfl (by decide) ?_
    refine Z_top (v' := .int (nI (N / 10))) (congrArg Value.int (quo hN)) ?_
    refine Z_iadd 249 dL_types_248 rfl ?_
    refine Z_top (v' := .int (nI (48 + N / 10))) (congrArg Value.int (nI_add 48 (N / 10))) ?_
    refine Z_callV 252 [_] 3 (v_app hP (by omega) (by omega)) dL_types_249 rfl qL_58 kX3_append rfl rfl (Nat.le_of_ble_eq_true rfl) rfl rfl ⟨(Nat.le_of_ble_eq_true rfl), (Nat.le_of_ble_eq_true rfl)⟩ (Nat.le_of_ble_eq_true rfl) ⟨rfl, rfl⟩ ⟨(Nat.le_of_ble_eq_true rfl), (Nat.le_of_ble_eq_true rfl)⟩ (fun r9 w9 hp9 => ?_)
    obtain ⟨rfl, mm, rfl, hP, hlast⟩ := hp9
    refine Z_if_le 255 274 dL_types_252 rfl rfl (fun c252 => absurd c252 (nI_nle (Nat.succ_pos _) (by omega))) (fun c252 => ?_)
    rw [if_neg (show ¬ 48 + N / 10 = 59 by omega)] at hP
    exact lL_types255 x i hi kk mm _ N v5 v6 hN (by omega) hP

set_option maxRecDepth 100000 in
set_option maxHeartbeats 4000000 in
theorem lL_types199 {G : zG} {l : Launch} {h : Nat → Nat} {m : zM} (x : Int32) (i : Nat) (hi : i < lowV x 9) (kk : ∀ (mm : zM) (L : Nat), L ≤ 7 * (i + 1) → PT m mm L i → Z G mL_types (fun _ => True) (zN G (fun r w => r = some (.int (nI 1)) ∧ ∃ M, w = zw h M ∧ TX m M (lowV x 9)) 0 0) l 0 0 (zw h mm) 270 [(4, .int (nI i)), (3, .int (nI 1)), (2, .int (nI (lowV x 9))), (1, .int x), (0, .ref (G.1 + 0))] []) : ∀ (mm : zM) (L N d : Nat) (y v5 v6 : Int32), N ≤ 68 → 0 < d ∧ d ≤ 9 → L ≤ 7 * i + 3 → PT m mm L i → Z G mL_types (fun _ => True) (zN G (fun r w => r = some (.int (nI 1)) ∧ ∃ M, w = zw h M ∧ TX m M (lowV x 9)) 0 0) l 0 0 (zw h mm) 199 [(7, .int (nI N)), (6, .int v6), (5, .int v5), (4, .int (nI i)), (3, .int (nI 1)), (2, .int (nI (lowV x 9))), (1, .int x), (0, .ref (G.1 + 0))] [.int (nI d), .int y, .int (nI 48), .ref (G.1 + 0)] := by
  intro mm L N d y v5 v6 hN hd hL hP
  have hn9 : lowV x 9 < 9 := lowV_lt x (by decide)
  refine Z_callS 202 [_, _] (zL_low _ d ⟨hd.1, by omega⟩) dL_types_199 rfl qL_39 kL_low rfl rfl ⟨(Nat.le_of_ble_eq_true rfl), (Nat.le_of_ble_eq_true rfl)⟩ (Nat.le_of_ble_eq_true rfl) ⟨rfl, rfl⟩ ⟨(Nat.le_of_ble_eq_true rfl), (Nat.le_of_ble_eq_true rfl)⟩ (fun r9 w9 hp9 => ?_)
  obtain ⟨⟨q199, hq199, rfl⟩, rfl⟩ := hp9
  refine Z_iadd 203 dL_types_202 rfl ?_
  refine Z_top (v' := .int (nI (48 + q199))) (congrArg Value.int (nI_add 48 q199)) ?_
  refine Z_callV 206 [_] 3 (v_app hP (by omega) (by omega)) dL_types_203 rfl qL_58 kX3_append rfl rfl (Nat.le_of_ble_eq_true rfl) rfl rfl ⟨(Nat.le_of_ble_eq_true rfl), (Nat.le_of_ble_eq_true rfl)⟩ (Nat.le_of_ble_eq_true rfl) ⟨rfl, rfl⟩ ⟨(Nat.le_of_ble_eq_true rfl), (Nat.le_of_ble_eq_true rfl)⟩ (fun r9 w9 hp9 => ?_)
  obtain ⟨rfl, mm, rfl, hP, hlast⟩ := hp9
  refine Z_if_le 209 274 dL_types_206 rfl rfl (fun c206 => absurd c206 (nI_nle (Nat.succ_pos _) (by omega))) (fun c206 => ?_)
  rw [if_neg (show ¬ 48 + q199 = 59 by omega)] at hP
  refine Z_iload 211 1 dL_types_209 rfl rfl ?_
  refine Z_if_eq 214 270 dL_types_211 rfl rfl (fun c211 => ?_) (fun c211 => ?_)
  · skip
    refine Z_lv [3, 4, 5, 6, 7] rfl ?_
    exact kk mm _ (by omega) hP
  · skip
    refine Z_aload_n 215 7 dL_types_214 rfl rfl ?_
    refine Z_iload 217 1 dL_types_215 rfl rfl ?_
    refine Z_if_ge 220 225 dL_types_217 rfl rfl (fun c217 => ?_) (fun c217 => ?_)
    · skip
      refine Z_bipush 227 (nI 43) dL_types_225 rfl rfl ?_
      exact lL_types227 x i hi kk mm _ N 43 v5 v6 hN (by decide) (by omega) hP
    · skip
      refine Z_bipush 222 (nI 45) dL_types_220 rfl rfl ?_
      refine Z_goto 227 dL_types_222 rfl ?_
      exact lL_types227 x i hi kk mm _ N 45 v5 v6 hN (by decide) (by omega) hP

set_option maxRecDepth 100000 in
set_option maxHeartbeats 4000000 in
theorem lL_types154 {G : zG} {l : Launch} {h : Nat → Nat} {m : zM} (x : Int32) (i : Nat) (hi : i < lowV x 9) (kk : ∀ (mm : zM) (L : Nat), L ≤ 7 * (i + 1) → PT m mm L i → Z G mL_types (fun _ => True) (zN G (fun r w => r = some (.int (nI 1)) ∧ ∃ M, w = zw h M ∧ TX m M (lowV x 9)) 0 0) l 0 0 (zw h mm) 270 [(4, .int (nI i)), (3, .int (nI 1)), (2, .int (nI (lowV x 9))), (1, .int x), (0, .ref (G.1 + 0))] []) : ∀ (mm : zM) (L N d : Nat) (y v5 v6 : Int32), N ≤ 68 → 0 < d ∧ d ≤ 9 → L ≤ 7 * i + 1 → PT m mm L i → Z G mL_types (fun _ => True) (zN G (fun r w => r = some (.int (nI 1)) ∧ ∃ M, w = zw h M ∧ TX m M (lowV x 9)) 0 0) l 0 0 (zw h mm) 154 [(7, .int (nI N)), (6, .int v6), (5, .int v5), (4, .int (nI i)), (3, .int (nI 1)), (2, .int (nI (lowV x 9))), (1, .int x), (0, .ref (G.1 + 0))] [.int (nI d), .int y, .int (nI 48), .ref (G.1 + 0)] := by
  intro mm L N d y v5 v6 hN hd hL hP
  have hn9 : lowV x 9 < 9 := lowV_lt x (by decide)
  refine Z_callS 157 [_, _] (zL_low _ d ⟨hd.1, by omega⟩) dL_types_154 rfl qL_39 kL_low rfl rfl ⟨(Nat.le_of_ble_eq_true rfl), (Nat.le_of_ble_eq_true rfl)⟩ (Nat.le_of_ble_eq_true rfl) ⟨rfl, rfl⟩ ⟨(Nat.le_of_ble_eq_true rfl), (Nat.le_of_ble_eq_true rfl)⟩ (fun r9 w9 hp9 => ?_)
  obtain ⟨⟨q154, hq154, rfl⟩, rfl⟩ := hp9
  refine Z_iadd 158 dL_types_157 rfl ?_
  refine Z_top (v' := .int (nI (48 + q154))) (congrArg Value.int (nI_add 48 q154)) ?_
  refine Z_callV 161 [_] 3 (v_app hP (by omega) (by omega)) dL_types_158 rfl qL_58 kX3_append rfl rfl (Nat.le_of_ble_eq_true rfl) rfl rfl ⟨(Nat.le_of_ble_eq_true rfl), (Nat.le_of_ble_eq_true rfl)⟩ (Nat.le_of_ble_eq_true rfl) ⟨rfl, rfl⟩ ⟨(Nat.le_of_ble_eq_true rfl), (Nat.le_of_ble_eq_true rfl)⟩ (fun r9 w9 hp9 => ?_)
  obtain ⟨rfl, mm, rfl, hP, hlast⟩ := hp9
  refine Z_if_le 164 274 dL_types_161 rfl rfl (fun c161 => absurd c161 (nI_nle (Nat.succ_pos _) (by omega))) (fun c161 => ?_)
  rw [if_neg (show ¬ 48 + q154 = 59 by omega)] at hP
  refine Z_aload_n 165 7 dL_types_164 rfl rfl ?_
  refine Z_bipush 167 (nI 60) dL_types_165 rfl rfl ?_
  refine Z_callV 170 [_] 3 (v_app hP (by omega) (by omega)) dL_types_167 rfl qL_58 kX3_append rfl rfl (Nat.le_of_ble_eq_true rfl) rfl rfl ⟨(Nat.le_of_ble_eq_true rfl), (Nat.le_of_ble_eq_true rfl)⟩ (Nat.le_of_ble_eq_true rfl) ⟨rfl, rfl⟩ ⟨(Nat.le_of_ble_eq_true rfl), (Nat.le_of_ble_eq_true rfl)⟩ (fun r9 w9 hp9 => ?_)
  obtain ⟨rfl, mm, rfl, hP, hlast⟩ := hp9
  refine Z_if_le 173 274 dL_types_170 rfl rfl (fun c170 => absurd c170 (nI_nle (Nat.succ_pos _) (by omega))) (fun c170 => ?_)
  rw [if_neg (show ¬ (60 : Nat) = 59 by decide)] at hP
  refine Z_aload_n 174 7 dL_types_173 rfl rfl ?_
  refine Z_bipush 176 (nI 48) dL_types_174 rfl rfl ?_
  refine Z_iload 178 2 dL_types_176 rfl rfl ?_
  refine Z_iconst 179 (nI 3) dL_types_178 rfl rfl ?_
  refine Z_ishr 180 dL_types_179 rfl ?_
  refine Z_iload_n 181 6 dL_types_180 rfl rfl ?_
  refine Z_bipush 183 (nI 24) dL_types_181 rfl rfl ?_
  refine Z_ishr 184 dL_types_183 rfl ?_
  refine Z_bipush 186 (nI 9) dL_types_184 rfl rfl ?_
  refine Z_callS 189 [_, _] (zL_low _ 9 (by decide)) dL_types_186 rfl qL_39 kL_low rfl rfl ⟨(Nat.le_of_ble_eq_true rfl), (Nat.le_of_ble_eq_true rfl)⟩ (Nat.le_of_ble_eq_true rfl) ⟨rfl, rfl⟩ ⟨(Nat.le_of_ble_eq_true rfl), (Nat.le_of_ble_eq_true rfl)⟩ (fun r9 w9 hp9 => ?_)
  obtain ⟨⟨q186, hq186, rfl⟩, rfl⟩ := hp9
  refine Z_if_ne 192 197 dL_types_189 rfl rfl (fun c189 => ?_) (fun c189 => ?_)
  · skip
    refine Z_bipush 199 (nI 8) dL_types_197 rfl rfl ?_
    exact lL_types199 x i hi kk mm _ N 8 _ v5 v6 hN (by decide) (by omega) hP
  · skip
    refine Z_bipush 194 (nI 9) dL_types_192 rfl rfl ?_
    refine Z_goto 199 dL_types_194 rfl ?_
    exact lL_types199 x i hi kk mm _ N 9 _ v5 v6 hN (by decide) (by omega) hP

set_option maxRecDepth 100000 in
set_option maxHeartbeats 4000000 in
theorem lL_types130 {G : zG} {l : Launch} {h : Nat → Nat} {m : zM} (x : Int32) (i : Nat) (hi : i < lowV x 9) (kk : ∀ (mm : zM) (L : Nat), L ≤ 7 * (i + 1) → PT m mm L i → Z G mL_types (fun _ => True) (zN G (fun r w => r = some (.int (nI 1)) ∧ ∃ M, w = zw h M ∧ TX m M (lowV x 9)) 0 0) l 0 0 (zw h mm) 270 [(4, .int (nI i)), (3, .int (nI 1)), (2, .int (nI (lowV x 9))), (1, .int x), (0, .ref (G.1 + 0))] []) : ∀ (mm : zM) (L N : Nat) (v5 v6 : Int32), N ≤ 68 → L ≤ 7 * i + 1 → PT m mm L i → Z G mL_types (fun _ => True) (zN G (fun r w => r = some (.int (nI 1)) ∧ ∃ M, w = zw h M ∧ TX m M (lowV x 9)) 0 0) l 0 0 (zw h mm) 130 [(7, .int (nI N)), (6, .int v6), (5, .int v5), (4, .int (nI i)), (3, .int (nI 1)), (2, .int (nI (lowV x 9))), (1, .int x), (0, .ref (G.1 + 0))] [] := by
  intro mm L N v5 v6 hN hL hP
  refine Z_aload_n 131 7 dL_types_130 rfl rfl ?_
  refine Z_bipush 133 (nI 48) dL_types_131 rfl rfl ?_
  refine Z_iload 135 2 dL_types_133 rfl rfl ?_
  refine Z_iload_n 136 6 dL_types_135 rfl rfl ?_
  refine Z_bipush 138 (nI 23) dL_types_136 rfl rfl ?_
  refine Z_ishr 139 dL_types_138 rfl ?_
  refine Z_bipush 141 (nI 9) dL_types_139 rfl rfl ?_
  refine Z_callS 144 [_, _] (zL_low _ 9 (by decide)) dL_types_141 rfl qL_39 kL_low rfl rfl ⟨(Nat.le_of_ble_eq_true rfl), (Nat.le_of_ble_eq_true rfl)⟩ (Nat.le_of_ble_eq_true rfl) ⟨rfl, rfl⟩ ⟨(Nat.le_of_ble_eq_true rfl), (Nat.le_of_ble_eq_true rfl)⟩ (fun r9 w9 hp9 => ?_)
  obtain ⟨⟨q141, hq141, rfl⟩, rfl⟩ := hp9
  refine Z_if_ne 147 152 dL_types_144 rfl rfl (fun c144 => ?_) (fun c144 => ?_)
  · skip
    refine Z_bipush 154 (nI 8) dL_types_152 rfl rfl ?_
    exact lL_types154 x i hi kk mm _ N 8 _ v5 v6 hN (by decide) hL hP
  · skip
    refine Z_bipush 149 (nI 9) dL_types_147 rfl rfl ?_
    refine Z_goto 154 dL_types_149 rfl ?_
    exact lL_types154 x i hi kk mm _ N 9 _ v5 v6 hN (by decide) hL hP

set_option maxRecDepth 100000 in
set_option maxHeartbeats 4000000 in
theorem lL_types110 {G : zG} {l : Launch} {h : Nat → Nat} {m : zM} (x : Int32) (i : Nat) (hi : i < lowV x 9) (kk : ∀ (mm : zM) (L : Nat), L ≤ 7 * (i + 1) → PT m mm L i → Z G mL_types (fun _ => True) (zN G (fun r w => r = some (.int (nI 1)) ∧ ∃ M, w = zw h M ∧ TX m M (lowV x 9)) 0 0) l 0 0 (zw h mm) 270 [(4, .int (nI i)), (3, .int (nI 1)), (2, .int (nI (lowV x 9))), (1, .int x), (0, .ref (G.1 + 0))] []) : ∀ (mm : zM) (L N : Nat) (v5 v6 : Int32), N ≤ 68 → L ≤ 7 * i → PT m mm L (i - 1) → Z G mL_types (fun _ => True) (zN G (fun r w => r = some (.int (nI 1)) ∧ ∃ M, w = zw h M ∧ TX m M (lowV x 9)) 0 0) l 0 0 (zw h mm) 110 [(6, .int v6), (5, .int v5), (4, .int (nI i)), (3, .int (nI 1)), (2, .int (nI (lowV x 9))), (1, .int x), (0, .ref (G.1 + 0))] [.int (nI N)] := by
  intro mm L N v5 v6 hN hL hP
  have hn9 : lowV x 9 < 9 := lowV_lt x (by decide)
  refine Z_istore 112 [(7, _), (6, _), (5, _), (4, _), (3, _), (2, _), (1, _), (0, _)] dL_types_110 rfl (Nat.le_of_ble_eq_true rfl) rfl ?_
  refine Z_iload_n 113 4 dL_types_112 rfl rfl ?_
  refine Z_if_eq 116 274 dL_types_113 rfl rfl (fun c113 => absurd c113 (by decide)) (fun c113 => ?_)
  refine Z_iload 118 3 dL_types_116 rfl rfl ?_
  refine Z_if_eq 121 130 dL_types_118 rfl rfl (fun c118 => ?_) (fun c118 => ?_)
  · skip
    have e0 : i = 0 := nz c118 (by omega)
    rw [show i - 1 = i by omega] at hP
    exact lL_types130 x i hi kk mm _ N v5 v6 hN (by omega) hP
  · skip
    have e0 : ¬ i = 0 := fun z => c118 (by rw [z]; rfl)
    refine Z_aload_n 122 7 dL_types_121 rfl rfl ?_
    refine Z_bipush 124 (nI 59) dL_types_122 rfl rfl ?_
    refine Z_callV 127 [_] 3 (v_app hP (by omega) (by omega)) dL_types_124 rfl qL_58 kX3_append rfl rfl (Nat.le_of_ble_eq_true rfl) rfl rfl ⟨(Nat.le_of_ble_eq_true rfl), (Nat.le_of_ble_eq_true rfl)⟩ (Nat.le_of_ble_eq_true rfl) ⟨rfl, rfl⟩ ⟨(Nat.le_of_ble_eq_true rfl), (Nat.le_of_ble_eq_true rfl)⟩ (fun r9 w9 hp9 => ?_)
    obtain ⟨rfl, mm, rfl, hP, hlast⟩ := hp9
    refine Z_if_le 130 274 dL_types_127 rfl rfl (fun c127 => absurd c127 (nI_nle (Nat.succ_pos _) (by omega))) (fun c127 => ?_)
    rw [if_pos rfl, show i - 1 + 1 = i by omega] at hP
    exact lL_types130 x i hi kk mm _ N v5 v6 hN (by omega) hP

set_option maxRecDepth 100000 in
set_option maxHeartbeats 4000000 in
theorem lL_types95 {G : zG} {l : Launch} {h : Nat → Nat} {m : zM} (x : Int32) (i : Nat) (hi : i < lowV x 9) (kk : ∀ (mm : zM) (L : Nat), L ≤ 7 * (i + 1) → PT m mm L i → Z G mL_types (fun _ => True) (zN G (fun r w => r = some (.int (nI 1)) ∧ ∃ M, w = zw h M ∧ TX m M (lowV x 9)) 0 0) l 0 0 (zw h mm) 270 [(4, .int (nI i)), (3, .int (nI 1)), (2, .int (nI (lowV x 9))), (1, .int x), (0, .ref (G.1 + 0))] []) : ∀ (mm : zM) (L : Nat) (v5 v6 : Int32), -30 ≤ v6.toInt ∧ v6.toInt ≤ 68 → L ≤ 7 * i → PT m mm L (i - 1) → Z G mL_types (fun _ => True) (zN G (fun r w => r = some (.int (nI 1)) ∧ ∃ M, w = zw h M ∧ TX m M (lowV x 9)) 0 0) l 0 0 (zw h mm) 95 [(5, .int v5), (4, .int (nI i)), (3, .int (nI 1)), (2, .int (nI (lowV x 9))), (1, .int x), (0, .ref (G.1 + 0))] [.int v6] := by
  intro mm L v5 v6 hv hL hP
  refine Z_istore 97 [(6, _), (5, _), (4, _), (3, _), (2, _), (1, _), (0, _)] dL_types_95 rfl (Nat.le_of_ble_eq_true rfl) rfl ?_
  refine Z_iload 99 0 dL_types_97 rfl rfl ?_
  refine Z_if_ge 102 108 dL_types_99 rfl rfl (fun c99 => ?_) (fun c99 => ?_)
  · skip
    obtain ⟨N, hN, eN⟩ := (u_of hv.1 hv.2).2 (Int32.not_lt.mpr c99)
    refine Z_iload 110 0 dL_types_108 rfl rfl ?_
    refine Z_top (v' := .int (nI N)) (congrArg Value.int eN) ?_
    exact lL_types110 x i hi kk mm L N v5 v6 hN hL hP
  · skip
    obtain ⟨N, hN, eN⟩ := (u_of hv.1 hv.2).1 (Int32.not_le.mp c99)
    refine Z_iload 104 0 dL_types_102 rfl rfl ?_
    refine Z_ineg 105 dL_types_104 rfl ?_
    refine Z_goto 110 dL_types_105 rfl ?_
    refine Z_top (v' := .int (nI N)) (congrArg Value.int eN) ?_
    exact lL_types110 x i hi kk mm L N v5 v6 hN hL hP

set_option maxRecDepth 100000 in
set_option maxHeartbeats 4000000 in
theorem lL_types89 {G : zG} {l : Launch} {h : Nat → Nat} {m : zM} (x : Int32) (i : Nat) (hi : i < lowV x 9) (kk : ∀ (mm : zM) (L : Nat), L ≤ 7 * (i + 1) → PT m mm L i → Z G mL_types (fun _ => True) (zN G (fun r w => r = some (.int (nI 1)) ∧ ∃ M, w = zw h M ∧ TX m M (lowV x 9)) 0 0) l 0 0 (zw h mm) 270 [(4, .int (nI i)), (3, .int (nI 1)), (2, .int (nI (lowV x 9))), (1, .int x), (0, .ref (G.1 + 0))] []) : ∀ (mm : zM) (L d : Nat) (y v5 : Int32), 0 < d ∧ d ≤ 99 → L ≤ 7 * i → PT m mm L (i - 1) → Z G mL_types (fun _ => True) (zN G (fun r w => r = some (.int (nI 1)) ∧ ∃ M, w = zw h M ∧ TX m M (lowV x 9)) 0 0) l 0 0 (zw h mm) 89 [(5, .int v5), (4, .int (nI i)), (3, .int (nI 1)), (2, .int (nI (lowV x 9))), (1, .int x), (0, .ref (G.1 + 0))] [.int (nI d), .int y] := by
  intro mm L d y v5 hd hL hP
  refine Z_callS 92 [_, _] (zL_low _ d ⟨hd.1, by omega⟩) dL_types_89 rfl qL_39 kL_low rfl rfl ⟨(Nat.le_of_ble_eq_true rfl), (Nat.le_of_ble_eq_true rfl)⟩ (Nat.le_of_ble_eq_true rfl) ⟨rfl, rfl⟩ ⟨(Nat.le_of_ble_eq_true rfl), (Nat.le_of_ble_eq_true rfl)⟩ (fun r9 w9 hp9 => ?_)
  obtain ⟨⟨q89, hq89, rfl⟩, rfl⟩ := hp9
  refine Z_bipush 94 (nI 30) dL_types_92 rfl rfl ?_
  refine Z_isub 95 dL_types_94 rfl ?_
  exact lL_types95 x i hi kk mm L v5 _ (by have := nn_r (a := q89) (b := 30) (c := 98) (by omega) (by decide) (by decide); have e := pk_sub_toInt (a := q89) (b := 30) (by omega) (by decide); omega) hL hP

set_option maxRecDepth 100000 in
set_option maxHeartbeats 4000000 in
theorem lL_types23 {G : zG} {l : Launch} {h : Nat → Nat} {m : zM} (x : Int32) : ∀ (t i : Nat), i + t = lowV x 9 → ∀ (mm : zM) (L : Nat), L ≤ 7 * i → PT m mm L (i - 1) → Z G mL_types (fun _ => True) (zN G (fun r w => r = some (.int (nI 1)) ∧ ∃ M, w = zw h M ∧ TX m M (lowV x 9)) 0 0) l 0 0 (zw h mm) 23 [(4, .int (nI i)), (3, .int (nI 1)), (2, .int (nI (lowV x 9))), (1, .int x), (0, .ref (G.1 + 0))] [] := by
  intro t
  induction t with
  | zero =>
    intro i hi mm L hL hP
    have e9 : i = lowV x 9 := by omega
    subst e9
    have hn9 : lowV x 9 < 9 := lowV_lt x (by decide)
    refine Z_iload 25 0 dL_types_23 rfl rfl ?_
    refine Z_iload_n 26 2 dL_types_25 rfl rfl ?_
    refine Z_icmp_ge 29 282 dL_types_26 rfl rfl (fun c26 => ?_) (fun c26 => absurd (nI_le (Nat.le_refl _) (by omega)) c26)
    refine Z_lv [1, 2, 3, 4] rfl ?_
    exact lL_types282 x mm L hL hP
  | succ t ih =>
    intro i hi mm L hL hP
    have hlt : i < lowV x 9 := by omega
    have hn9 : lowV x 9 < 9 := lowV_lt x (by decide)
    refine Z_iload 25 0 dL_types_23 rfl rfl ?_
    refine Z_iload_n 26 2 dL_types_25 rfl rfl ?_
    refine Z_icmp_ge 29 282 dL_types_26 rfl rfl (fun c26 => absurd c26 (nI_ge hlt (by omega))) (fun c26 => ?_)
    refine Z_iload_n 30 3 dL_types_29 rfl rfl ?_
    refine Z_iconst 31 (nI 1) dL_types_30 rfl rfl ?_
    refine Z_iconst 32 (nI 2) dL_types_31 rfl rfl ?_
    refine Z_iload 34 0 dL_types_32 rfl rfl ?_
    refine Z_imul 35 dL_types_34 rfl ?_
    refine Z_iadd 36 dL_types_35 rfl ?_
    refine Z_ishr 37 dL_types_36 rfl ?_
    refine Z_istore 39 [(5, _), (4, _), (3, _), (2, _), (1, _), (0, _)] dL_types_37 rfl (Nat.le_of_ble_eq_true rfl) rfl ?_
    refine Z_iload 41 0 dL_types_39 rfl rfl ?_
    refine Z_iconst 42 (nI 5) dL_types_41 rfl rfl ?_
    refine Z_ishr 43 dL_types_42 rfl ?_
    refine Z_iconst 44 (nI 3) dL_types_43 rfl rfl ?_
    refine Z_callS 47 [_, _] (zL_low _ 3 (by decide)) dL_types_44 rfl qL_39 kL_low rfl rfl ⟨(Nat.le_of_ble_eq_true rfl), (Nat.le_of_ble_eq_true rfl)⟩ (Nat.le_of_ble_eq_true rfl) ⟨rfl, rfl⟩ ⟨(Nat.le_of_ble_eq_true rfl), (Nat.le_of_ble_eq_true rfl)⟩ (fun r9 w9 hp9 => ?_)
    obtain ⟨⟨q44, hq44, rfl⟩, rfl⟩ := hp9
    refine Z_if_le 50 65 dL_types_47 rfl rfl (fun c47 => ?_) (fun c47 => ?_)
    · skip
      refine Z_iload 67 0 dL_types_65 rfl rfl ?_
      refine Z_bipush 69 (nI 7) dL_types_67 rfl rfl ?_
      refine Z_ishr 70 dL_types_69 rfl ?_
      refine Z_iload_n 71 4 dL_types_70 rfl rfl ?_
      refine Z_bipush 73 (nI 22) dL_types_71 rfl rfl ?_
      refine Z_ishr 74 dL_types_73 rfl ?_
      refine Z_bipush 76 (nI 9) dL_types_74 rfl rfl ?_
      refine Z_callS 79 [_, _] (zL_low _ 9 (by decide)) dL_types_76 rfl qL_39 kL_low rfl rfl ⟨(Nat.le_of_ble_eq_true rfl), (Nat.le_of_ble_eq_true rfl)⟩ (Nat.le_of_ble_eq_true rfl) ⟨rfl, rfl⟩ ⟨(Nat.le_of_ble_eq_true rfl), (Nat.le_of_ble_eq_true rfl)⟩ (fun r9 w9 hp9 => ?_)
      obtain ⟨⟨q76, hq76, rfl⟩, rfl⟩ := hp9
      refine Z_if_ne 82 87 dL_types_79 rfl rfl (fun c79 => ?_) (fun c79 => ?_)
      · skip
        refine Z_bipush 89 (nI 91) dL_types_87 rfl rfl ?_
        refine lL_types89 x i (by omega) (fun mm L hL hP => ?_) mm L 91 _ _ (by decide) hL hP
        refine Z_iconst 271 (nI 1) dL_types_270 rfl rfl ?_
        refine Z_goto 275 dL_types_271 rfl ?_
        refine Z_istore_n 276 [(3, _), (4, _), (2, _), (1, _), (0, _)] dL_types_275 rfl (Nat.le_of_ble_eq_true rfl) rfl ?_
        refine Z_iinc 279 [(4, _), (3, _), (2, _), (1, _), (0, _)] 1 _ dL_types_276 rfl (Nat.le_of_ble_eq_true rfl) rfl (nI_1 _) rfl ?_
        refine Z_goto 23 dL_types_279 rfl ?_
        exact ih (i + 1) (by omega) mm L hL hP
      · skip
        refine Z_bipush 84 (nI 99) dL_types_82 rfl rfl ?_
        refine Z_goto 89 dL_types_84 rfl ?_
        refine lL_types89 x i (by omega) (fun mm L hL hP => ?_) mm L 99 _ _ (by decide) hL hP
        refine Z_iconst 271 (nI 1) dL_types_270 rfl rfl ?_
        refine Z_goto 275 dL_types_271 rfl ?_
        refine Z_istore_n 276 [(3, _), (4, _), (2, _), (1, _), (0, _)] dL_types_275 rfl (Nat.le_of_ble_eq_true rfl) rfl ?_
        refine Z_iinc 279 [(4, _), (3, _), (2, _), (1, _), (0, _)] 1 _ dL_types_276 rfl (Nat.le_of_ble_eq_true rfl) rfl (nI_1 _) rfl ?_
        refine Z_goto 23 dL_types_279 rfl ?_
        exact ih (i + 1) (by omega) mm L hL hP
    · skip
      refine Z_iload 52 0 dL_types_50 rfl rfl ?_
      refine Z_bipush 54 (nI 7) dL_types_52 rfl rfl ?_
      refine Z_ishr 55 dL_types_54 rfl ?_
      refine Z_bipush 57 (nI 21) dL_types_55 rfl rfl ?_
      refine Z_callS 60 [_, _] (zL_low _ 21 (by decide)) dL_types_57 rfl qL_39 kL_low rfl rfl ⟨(Nat.le_of_ble_eq_true rfl), (Nat.le_of_ble_eq_true rfl)⟩ (Nat.le_of_ble_eq_true rfl) ⟨rfl, rfl⟩ ⟨(Nat.le_of_ble_eq_true rfl), (Nat.le_of_ble_eq_true rfl)⟩ (fun r9 w9 hp9 => ?_)
      obtain ⟨⟨q57, hq57, rfl⟩, rfl⟩ := hp9
      refine Z_iconst 61 (nI 4) dL_types_60 rfl rfl ?_
      refine Z_isub 62 dL_types_61 rfl ?_
      refine Z_goto 95 dL_types_62 rfl ?_
      refine lL_types95 x i (by omega) (fun mm L hL hP => ?_) mm L _ _ (by have e := pk_sub_toInt (a := q57) (b := 4) (by omega) (by decide); omega) hL hP
      refine Z_iconst 271 (nI 1) dL_types_270 rfl rfl ?_
      refine Z_goto 275 dL_types_271 rfl ?_
      refine Z_istore_n 276 [(3, _), (4, _), (2, _), (1, _), (0, _)] dL_types_275 rfl (Nat.le_of_ble_eq_true rfl) rfl ?_
      refine Z_iinc 279 [(4, _), (3, _), (2, _), (1, _), (0, _)] 1 _ dL_types_276 rfl (Nat.le_of_ble_eq_true rfl) rfl (nI_1 _) rfl ?_
      refine Z_goto 23 dL_types_279 rfl ?_
      exact ih (i + 1) (by omega) mm L hL hP

set_option maxRecDepth 100000 in
set_option maxHeartbeats 4000000 in
theorem zL_types {G : zG} {l : Launch} {h : Nat → Nat} {mm : zM} (x : Int32) (hpad : PadI mm) : zMet G l yL_types mL_types [.ref (G.1 + 0), .int x] (zw h mm) (fun r w => r = some (.int (nI 1)) ∧ ∃ M, w = zw h M ∧ TX mm M (lowV x 9)) 0 0 := by
  refine zMet_of [(0, .ref (G.1 + 0)), (1, .int x)] (by decide +kernel) rfl (Or.inl rfl) (Nat.le_of_ble_eq_true rfl) rfl ?_
  obtain ⟨L0, hL0, eL⟩ := hpad
  refine Z_iload_n 1 1 dL_types_0 rfl rfl ?_
  refine Z_bipush 3 (nI 9) dL_types_1 rfl rfl ?_
  refine Z_callS 6 [_, _] (zL_lowF _ 9 (by decide)) dL_types_3 rfl qL_39 kL_low rfl rfl ⟨(Nat.le_of_ble_eq_true rfl), (Nat.le_of_ble_eq_true rfl)⟩ (Nat.le_of_ble_eq_true rfl) ⟨rfl, rfl⟩ ⟨(Nat.le_of_ble_eq_true rfl), (Nat.le_of_ble_eq_true rfl)⟩ (fun r9 w9 hp9 => ?_)
  obtain ⟨rfl, rfl⟩ := hp9
  refine Z_istore_n 7 [(2, _), (0, _), (1, _)] dL_types_6 rfl (Nat.le_of_ble_eq_true rfl) rfl ?_
  refine Z_aload_n 8 1 dL_types_7 rfl rfl ?_
  refine Z_callV 11 [] 3 (v_clr) dL_types_8 rfl qL_55 kX3_clear rfl rfl (Nat.le_of_ble_eq_true rfl) rfl rfl ⟨(Nat.le_of_ble_eq_true rfl), (Nat.le_of_ble_eq_true rfl)⟩ (Nat.le_of_ble_eq_true rfl) ⟨rfl, rfl⟩ ⟨(Nat.le_of_ble_eq_true rfl), (Nat.le_of_ble_eq_true rfl)⟩ (fun r9 w9 hp9 => ?_)
  obtain ⟨rfl, M, rfl, hP⟩ := hp9
  refine Z_if_lt 14 18 dL_types_11 rfl rfl (fun c11 => absurd c11 ((by rw [eL]; exact nI_pos (by omega)))) (fun c11 => ?_)
  refine Z_iconst 15 (nI 1) dL_types_14 rfl rfl ?_
  refine Z_goto 19 dL_types_15 rfl ?_
  refine Z_istore_n 20 [(3, _), (2, _), (0, _), (1, _)] dL_types_19 rfl (Nat.le_of_ble_eq_true rfl) rfl ?_
  refine Z_iconst 21 (nI 0) dL_types_20 rfl rfl ?_
  refine Z_istore 23 [(4, _), (3, _), (2, _), (0, _), (1, _)] dL_types_21 rfl (Nat.le_of_ble_eq_true rfl) rfl ?_
  refine Z_lv [0, 1, 2, 4, 3] rfl ?_
  exact lL_types23 x (lowV x 9) 0 (by omega) M 0 (by omega) hP

