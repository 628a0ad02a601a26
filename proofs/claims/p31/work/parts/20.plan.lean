/-! tightest, plan -/
/-- all signed treaties and a new one are possible together -/
def FeI (m : zM) (n f o : Nat) (d : Int) : Prop := ∃ z : Nat → Int, (∀ q, q < 8 → 0 ≤ z q ∧ z q ≤ 99) ∧ z f ≤ z o + d ∧ ∀ t, t < n → z (sF m 1 t) ≤ z (sO m 1 t) + (m 8 t).toInt
theorem FeI.iff {m : zM} {n f o : Nat} {d : Int32} : Fea (eN m f o d) (n + 1) ↔ FeI m n f o d.toInt := by
  constructor
  · rintro ⟨z, h1, h2⟩
    exact ⟨z, h1, h2 0 (by omega) rfl, fun t ht => h2 (t + 1) (by omega) (by show decide (1 = 1 ∨ sForce m 1 t) = true; exact decide_eq_true (Or.inl rfl))⟩
  · rintro ⟨z, h1, h2, h3⟩
    refine ⟨z, h1, fun t ht _ => ?_⟩
    cases t with
    | zero => exact h2
    | succ t => exact h3 t (by omega)
theorem FeI.mono {m : zM} {n f o : Nat} {d d' : Int} (hd : d ≤ d') (h : FeI m n f o d) : FeI m n f o d' := by
  obtain ⟨z, h1, h2, h3⟩ := h
  exact ⟨z, h1, by omega, h3⟩
theorem FeI.fsv {m m' : zM} {n f o : Nat} {d : Int} (hF : Fsv m m') : FeI m' n f o d ↔ FeI m n f o d := by
  unfold FeI sF sO
  rw [hF (1 + 5) (by decide), hF (1 + 6) (by decide), hF 8 (by decide)]
theorem half : ∀ s, s ≤ 64 → nI s / nI 2 = nI (s / 2) := by decide +kernel
theorem nIi {s : Nat} (h : s < 2 ^ 31) : (nI s).toInt = s := nI_toInt h
set_option maxRecDepth 100000 in
set_option maxHeartbeats 4000000 in
theorem lX3_tg0 {G : zG} {l : Launch} {h : Nat → Nat} {m : zM} (n : Nat) (g9 : gOk m n) (f o : Nat) (hf : f < 8) (ho : o < 8) : ∀ (mm : zM) (L : Int32), Fsv m mm → -30 ≤ L.toInt → L.toInt ≤ 60 → FeI m n f o L.toInt → (∀ e : Int, -30 ≤ e → e ≤ L.toInt - 1 → ¬ FeI m n f o e) → Z G mX3_tightest (fun _ => True) (zN G (fun r w => ∃ m', w = zw h m' ∧ Fsv m m' ∧ ((¬ FeI m n f o 60 ∧ r = some (.int (-4))) ∨ ∃ d : Int, -30 ≤ d ∧ d ≤ 60 ∧ FeI m n f o d ∧ (∀ e, -30 ≤ e → e < d → ¬ FeI m n f o e) ∧ ∃ v, r = some (.int v) ∧ v.toInt = d + 100)) 0 0) l 0 0 (zw h mm) 40 [(4, .int (nI (0))), (3, .int L), (0, .ref (G.1 + 0)), (1, .int (nI f)), (2, .int (nI o))] [] := by
  intro mm L hF h1 h2 h3 h4
  refine Z_iload 42 0 dX3_tightest_40 rfl rfl ?_
  refine Z_if_le 45 88 dX3_tightest_42 rfl rfl (fun c42 => ?_) (fun c42 => absurd (by decide) c42)
  refine Z_iload_n 89 1 dX3_tightest_88 rfl rfl ?_
  refine Z_bipush 91 (nI 100) dX3_tightest_89 rfl rfl ?_
  refine Z_iadd 92 dX3_tightest_91 rfl ?_
  exact Z_iret dX3_tightest_92 rfl ⟨mm, rfl, hF, Or.inr ⟨L.toInt, h1, h2, h3, fun e he1 he2 => h4 e he1 (by omega), _, rfl, by rw [i32_add (by have : (nI 100).toInt = 100 := rfl; omega) (by have : (nI 100).toInt = 100 := rfl; omega)]; rfl⟩⟩
set_option maxRecDepth 100000 in
set_option maxHeartbeats 4000000 in
theorem lX3_tgS {G : zG} {l : Launch} {h : Nat → Nat} {m : zM} (n : Nat) (g9 : gOk m n) (f o : Nat) (hf : f < 8) (ho : o < 8) (s9 : Nat) (hs1 : 0 < s9) (hs2 : s9 ≤ 64) (kk : ∀ (mm : zM) (L : Int32), Fsv m mm → -30 ≤ L.toInt → L.toInt ≤ 60 → FeI m n f o L.toInt → (∀ e : Int, -30 ≤ e → e ≤ L.toInt - (s9 : Int) → ¬ FeI m n f o e) → Z G mX3_tightest (fun _ => True) (zN G (fun r w => ∃ m', w = zw h m' ∧ Fsv m m' ∧ ((¬ FeI m n f o 60 ∧ r = some (.int (-4))) ∨ ∃ d : Int, -30 ≤ d ∧ d ≤ 60 ∧ FeI m n f o d ∧ (∀ e, -30 ≤ e → e < d → ¬ FeI m n f o e) ∧ ∃ v, r = some (.int v) ∧ v.toInt = d + 100)) 0 0) l 0 0 (zw h mm) 40 [(4, .int (nI (s9 / 2))), (3, .int L), (0, .ref (G.1 + 0)), (1, .int (nI f)), (2, .int (nI o))] []) : ∀ (mm : zM) (L : Int32), Fsv m mm → -30 ≤ L.toInt → L.toInt ≤ 60 → FeI m n f o L.toInt → (∀ e : Int, -30 ≤ e → e ≤ L.toInt - 2 * (s9 : Int) → ¬ FeI m n f o e) → Z G mX3_tightest (fun _ => True) (zN G (fun r w => ∃ m', w = zw h m' ∧ Fsv m m' ∧ ((¬ FeI m n f o 60 ∧ r = some (.int (-4))) ∨ ∃ d : Int, -30 ≤ d ∧ d ≤ 60 ∧ FeI m n f o d ∧ (∀ e, -30 ≤ e → e < d → ¬ FeI m n f o e) ∧ ∃ v, r = some (.int v) ∧ v.toInt = d + 100)) 0 0) l 0 0 (zw h mm) 40 [(4, .int (nI (s9))), (3, .int L), (0, .ref (G.1 + 0)), (1, .int (nI f)), (2, .int (nI o))] [] := by
  have K79 : ∀ (mm : zM) (L : Int32), Fsv m mm → -30 ≤ L.toInt → L.toInt ≤ 60 → FeI m n f o L.toInt → (∀ e : Int, -30 ≤ e → e ≤ L.toInt - (s9 : Int) → ¬ FeI m n f o e) → Z G mX3_tightest (fun _ => True) (zN G (fun r w => ∃ m', w = zw h m' ∧ Fsv m m' ∧ ((¬ FeI m n f o 60 ∧ r = some (.int (-4))) ∨ ∃ d : Int, -30 ≤ d ∧ d ≤ 60 ∧ FeI m n f o d ∧ (∀ e, -30 ≤ e → e < d → ¬ FeI m n f o e) ∧ ∃ v, r = some (.int v) ∧ v.toInt = d + 100)) 0 0) l 0 0 (zw h mm) 79 [(4, .int (nI (s9))), (3, .int L), (0, .ref (G.1 + 0)), (1, .int (nI f)), (2, .int (nI o))] [] := by
    intro mm L hF h1 h2 h3 h4
    refine Z_iload 81 0 dX3_tightest_79 rfl rfl ?_
    refine Z_iconst 82 (nI 2) dX3_tightest_81 rfl rfl ?_
    refine Z_idiv 83 dX3_tightest_82 rfl (by decide) ?_
    refine Z_top (v' := .int (nI (s9 / 2))) (congrArg Value.int (half s9 hs2)) ?_
    refine Z_istore 85 [(4, _), (3, _), (0, _), (1, _), (2, _)] dX3_tightest_83 rfl (Nat.le_of_ble_eq_true rfl) rfl ?_
    refine Z_goto 40 dX3_tightest_85 rfl ?_
    exact kk mm L hF h1 h2 h3 h4
  intro mm L hF h1 h2 h3 h4
  have hm30 : (-30 : Int32).toInt = -30 := rfl
  have hsub : (L - nI s9).toInt = L.toInt - (s9 : Int) := by
    rw [i32_sub (by rw [nIi (by omega)]; omega) (by rw [nIi (by omega)]; omega), nIi (by omega)]
  refine Z_iload 42 0 dX3_tightest_40 rfl rfl ?_
  refine Z_if_le 45 88 dX3_tightest_42 rfl rfl (fun c42 => absurd c42 (fun q => nI_nle hs1 (by omega) q)) (fun c42 => ?_)
  refine Z_iload_n 46 1 dX3_tightest_45 rfl rfl ?_
  refine Z_iload 48 0 dX3_tightest_46 rfl rfl ?_
  refine Z_isub 49 dX3_tightest_48 rfl ?_
  refine Z_istore 51 [(5, _), (4, _), (3, _), (0, _), (1, _), (2, _)] dX3_tightest_49 rfl (Nat.le_of_ble_eq_true rfl) rfl ?_
  refine Z_iload 53 0 dX3_tightest_51 rfl rfl ?_
  refine Z_bipush 55 (-30) dX3_tightest_53 rfl rfl ?_
  refine Z_icmp_lt 58 79 dX3_tightest_55 rfl rfl (fun c55 => ?_) (fun c55 => ?_)
  · skip
    refine Z_lv [1, 2, 3, 4, 5] rfl ?_
    refine K79 mm L hF h1 h2 h3 (fun e he1 he2 => ?_)
    rw [i32_lt, hsub, hm30] at c55
    exact h4 e he1 (by omega)
  · skip
    rw [i32_lt, hsub, hm30] at c55
    have hd60 : (L - nI s9).toInt ≤ 60 ∧ -60 ≤ (L - nI s9).toInt := by rw [hsub]; omega
    refine Z_aload_n 59 3 dX3_tightest_58 rfl rfl ?_
    refine Z_getR 62 dX3_tightest_59 rfl fX3_26 (Nat.le_of_ble_eq_true rfl) rfl rfl ?_
    refine Z_aload_n 63 3 dX3_tightest_62 rfl rfl ?_
    refine Z_getR 66 dX3_tightest_63 rfl fX3_10 (Nat.le_of_ble_eq_true rfl) rfl rfl ?_
    refine Z_iload_n 67 4 dX3_tightest_66 rfl rfl ?_
    refine Z_iload_n 68 5 dX3_tightest_67 rfl rfl ?_
    refine Z_iload 70 0 dX3_tightest_68 rfl rfl ?_
    refine Z_callV 73 [_, _, _, _] 2 (zX2_isPossibleWith (m := mm) n (hF.sOk g9.1) (hF.dOk g9.2.1) f o hf ho (L - nI s9) ⟨hd60.2, hd60.1⟩) dX3_tightest_70 rfl qX3_206 kX2_isPossibleWith rfl rfl (Nat.le_of_ble_eq_true rfl) rfl rfl ⟨(Nat.le_of_ble_eq_true rfl), (Nat.le_of_ble_eq_true rfl)⟩ (Nat.le_of_ble_eq_true rfl) ⟨rfl, rfl⟩ ⟨(Nat.le_of_ble_eq_true rfl), (Nat.le_of_ble_eq_true rfl)⟩ (fun r9 w9 hp9 => ?_)
    obtain ⟨m2, rfl, hF2, hr9⟩ := hp9
    rw [FeI.iff, FeI.fsv hF, hsub] at hr9
    have hF3 := hF.trans (hF2.v (by decide))
    rcases hr9 with ⟨hr8, hfe⟩ | ⟨hr8, hfe⟩
    · cases hr8
      refine Z_if_eq 76 79 dX3_tightest_73 rfl rfl (fun c73 => absurd c73 (by decide)) (fun c73 => ?_)
      refine Z_iload 78 0 dX3_tightest_76 rfl rfl ?_
      refine Z_istore_n 79 [(3, _), (5, _), (4, _), (0, _), (1, _), (2, _)] dX3_tightest_78 rfl (Nat.le_of_ble_eq_true rfl) rfl ?_
      refine Z_lv [2, 0, 3, 4, 5] rfl ?_
      refine K79 m2 _ hF3 (by rw [hsub]; omega) (by rw [hsub]; omega) (by rw [hsub]; exact hfe) (fun e he1 he2 => ?_)
      rw [hsub] at he2
      exact h4 e he1 (by omega)
    · cases hr8
      refine Z_if_eq 76 79 dX3_tightest_73 rfl rfl (fun c73 => ?_) (fun c73 => absurd (by decide) c73)
      refine Z_lv [1, 2, 3, 4, 5] rfl ?_
      exact K79 m2 L hF3 h1 h2 h3 (fun e he1 he2 hfe2 => hfe (FeI.mono (by omega) hfe2))
set_option maxRecDepth 100000 in
set_option maxHeartbeats 4000000 in
theorem zX3_tightest {G : zG} {l : Launch} {h : Nat → Nat} {m : zM} (n : Nat) (g9 : gOk m n) (f o : Nat) (hf : f < 8) (ho : o < 8) (hag : agr (nI f) (nI o) (nI 60)) : zMet G l yX3_tightest mX3_tightest [.ref (G.1 + 0), .int (nI f), .int (nI o)] (zw h m) (fun r w => ∃ m', w = zw h m' ∧ Fsv m m' ∧ ((¬ FeI m n f o 60 ∧ r = some (.int (-4))) ∨ ∃ d : Int, -30 ≤ d ∧ d ≤ 60 ∧ FeI m n f o d ∧ (∀ e, -30 ≤ e → e < d → ¬ FeI m n f o e) ∧ ∃ v, r = some (.int v) ∧ v.toInt = d + 100)) 0 0 := by
  refine zMet_of [(0, .ref (G.1 + 0)), (1, .int (nI f)), (2, .int (nI o))] (by decide +kernel) rfl (Or.inl rfl) (Nat.le_of_ble_eq_true rfl) rfl ?_
  refine Z_iload_n 1 1 dX3_tightest_0 rfl rfl ?_
  refine Z_iload_n 2 2 dX3_tightest_1 rfl rfl ?_
  refine Z_bipush 4 (nI 60) dX3_tightest_2 rfl rfl ?_
  refine Z_callS 7 [_, _, _] (zX3_isAgreement _ _ _) dX3_tightest_4 rfl qX3_174 kX3_isAgreement rfl rfl ⟨(Nat.le_of_ble_eq_true rfl), (Nat.le_of_ble_eq_true rfl)⟩ (Nat.le_of_ble_eq_true rfl) ⟨rfl, rfl⟩ ⟨(Nat.le_of_ble_eq_true rfl), (Nat.le_of_ble_eq_true rfl)⟩ (fun r9 w9 hp9 => ?_)
  obtain ⟨rfl, rfl⟩ := hp9
  refine Z_if_ne 10 12 dX3_tightest_7 rfl rfl (fun c7 => ?_) (fun c7 => absurd (bI_ne hag) c7)
  refine Z_aload_n 13 0 dX3_tightest_12 rfl rfl ?_
  refine Z_getR 16 dX3_tightest_13 rfl fX3_26 (Nat.le_of_ble_eq_true rfl) rfl rfl ?_
  refine Z_aload_n 17 0 dX3_tightest_16 rfl rfl ?_
  refine Z_getR 20 dX3_tightest_17 rfl fX3_10 (Nat.le_of_ble_eq_true rfl) rfl rfl ?_
  refine Z_iload_n 21 1 dX3_tightest_20 rfl rfl ?_
  refine Z_iload_n 22 2 dX3_tightest_21 rfl rfl ?_
  refine Z_bipush 24 (nI 60) dX3_tightest_22 rfl rfl ?_
  refine Z_callV 27 [_, _, _, _] 2 (zX2_isPossibleWith n g9.1 g9.2.1 f o hf ho (nI 60) (by decide)) dX3_tightest_24 rfl qX3_206 kX2_isPossibleWith rfl rfl (Nat.le_of_ble_eq_true rfl) rfl rfl ⟨(Nat.le_of_ble_eq_true rfl), (Nat.le_of_ble_eq_true rfl)⟩ (Nat.le_of_ble_eq_true rfl) ⟨rfl, rfl⟩ ⟨(Nat.le_of_ble_eq_true rfl), (Nat.le_of_ble_eq_true rfl)⟩ (fun r9 w9 hp9 => ?_)
  obtain ⟨m2, rfl, hF2, hr9⟩ := hp9
  rw [FeI.iff, show (nI 60).toInt = 60 from rfl] at hr9
  have hF3 := hF2.v (by decide)
  rcases hr9 with ⟨hr8, hfe⟩ | ⟨hr8, hfe⟩
  · cases hr8
    refine Z_if_ne 30 33 dX3_tightest_27 rfl rfl (fun c27 => ?_) (fun c27 => absurd (by decide) c27)
    refine Z_bipush 35 (nI 60) dX3_tightest_33 rfl rfl ?_
    refine Z_istore_n 36 [(3, _), (0, _), (1, _), (2, _)] dX3_tightest_35 rfl (Nat.le_of_ble_eq_true rfl) rfl ?_
    refine Z_bipush 38 (nI 64) dX3_tightest_36 rfl rfl ?_
    refine Z_istore 40 [(4, _), (3, _), (0, _), (1, _), (2, _)] dX3_tightest_38 rfl (Nat.le_of_ble_eq_true rfl) rfl ?_
    exact (lX3_tgS n g9 f o hf ho 64 (by decide) (by decide) (lX3_tgS n g9 f o hf ho 32 (by decide) (by decide) (lX3_tgS n g9 f o hf ho 16 (by decide) (by decide) (lX3_tgS n g9 f o hf ho 8 (by decide) (by decide) (lX3_tgS n g9 f o hf ho 4 (by decide) (by decide) (lX3_tgS n g9 f o hf ho 2 (by decide) (by decide) (lX3_tgS n g9 f o hf ho 1 (by decide) (by decide) (fun mm L hF h1 h2 h3 h4 => lX3_tg0 n g9 f o hf ho mm L hF h1 h2 h3 h4)))))))) m2 (nI 60) hF3 (by decide) (by decide) hfe (fun e he1 he2 => by have h60 : (nI 60).toInt = 60 := rfl; omega)
  · cases hr8
    refine Z_if_ne 30 33 dX3_tightest_27 rfl rfl (fun c27 => absurd c27 (fun q => q rfl)) (fun c27 => ?_)
    refine Z_bipush 32 (-4) dX3_tightest_30 rfl rfl ?_
    exact Z_iret dX3_tightest_32 rfl ⟨m2, rfl, hF3, Or.inl ⟨hfe, rfl⟩⟩

set_option maxRecDepth 100000 in
set_option maxHeartbeats 4000000 in
theorem eX3_tightest {G : zG} {l : Launch} {h : Nat → Nat} {m : zM} (x1 x2 : Int32) (hne : ¬ agr x1 x2 (nI 60)) : zMet G l yX3_tightest mX3_tightest [.ref (G.1 + 0), .int x1, .int x2] (zw h m) (fun r w => r = some (.int (-1)) ∧ w = zw h m) 0 0 := by
  refine zMet_of [(0, .ref (G.1 + 0)), (1, .int x1), (2, .int x2)] (by decide +kernel) rfl (Or.inl rfl) (Nat.le_of_ble_eq_true rfl) rfl ?_
  refine Z_iload_n 1 1 dX3_tightest_0 rfl rfl ?_
  refine Z_iload_n 2 2 dX3_tightest_1 rfl rfl ?_
  refine Z_bipush 4 (nI 60) dX3_tightest_2 rfl rfl ?_
  refine Z_callS 7 [_, _, _] (zX3_isAgreement _ _ _) dX3_tightest_4 rfl qX3_174 kX3_isAgreement rfl rfl ⟨(Nat.le_of_ble_eq_true rfl), (Nat.le_of_ble_eq_true rfl)⟩ (Nat.le_of_ble_eq_true rfl) ⟨rfl, rfl⟩ ⟨(Nat.le_of_ble_eq_true rfl), (Nat.le_of_ble_eq_true rfl)⟩ (fun r9 w9 hp9 => ?_)
  obtain ⟨rfl, rfl⟩ := hp9
  refine Z_if_ne 10 12 dX3_tightest_7 rfl rfl (fun c7 => absurd c7 (fun q => q (bI_z hne))) (fun c7 => ?_)
  refine Z_iconst 11 (-1) dX3_tightest_10 rfl rfl ?_
  exact Z_iret dX3_tightest_11 rfl ⟨rfl, rfl⟩

set_option maxRecDepth 100000 in
set_option maxHeartbeats 4000000 in
theorem lX3_isNestInTheWay {G : zG} {l : Launch} {h : Nat → Nat} {m : zM}  : ∀ (t i : Nat), i + t = 8 → (∀ q, q < i → ¬ (sNest m 1 q ∧ m 57 q < m 2 q)) → Z G mX3_isNestInTheWay (fun _ => True) (zN G (fun r w => w = zw h m ∧ ((r = some (.int (nI 1)) ∧ ∃ q, q < 8 ∧ sNest m 1 q ∧ m 57 q < m 2 q) ∨ (r = some (.int (nI 0)) ∧ ∀ q, q < 8 → ¬ (sNest m 1 q ∧ m 57 q < m 2 q)))) 0 0) l 0 0 (zw h m) 2 [(1, .int (nI i)), (0, .ref (G.1 + 0))] [] := by
  intro t
  induction t with
  | zero =>
    intro i hi hy
    have e9 : i = 8 := by omega
    subst e9
    refine Z_iload_n 3 0 dX3_isNestInTheWay_2 rfl rfl ?_
    refine Z_bipush 5 (nI 8) dX3_isNestInTheWay_3 rfl rfl ?_
    refine Z_icmp_ge 8 48 dX3_isNestInTheWay_5 rfl rfl (fun c5 => ?_) (fun c5 => absurd (nI_le (Nat.le_refl _) (by omega)) c5)
    refine Z_iconst 49 (nI 0) dX3_isNestInTheWay_48 rfl rfl ?_
    exact Z_zret dX3_isNestInTheWay_49 rfl (by first | exact Or.inl rfl | exact Or.inr rfl | exact bI_01) ⟨rfl, Or.inr ⟨rfl, hy⟩⟩
  | succ t ih =>
    intro i hi hy
    have hlt : i < 8 := by omega
    refine Z_iload_n 3 0 dX3_isNestInTheWay_2 rfl rfl ?_
    refine Z_bipush 5 (nI 8) dX3_isNestInTheWay_3 rfl rfl ?_
    refine Z_icmp_ge 8 48 dX3_isNestInTheWay_5 rfl rfl (fun c5 => absurd c5 (nI_ge hlt (by omega))) (fun c5 => ?_)
    refine Z_aload_n 9 1 dX3_isNestInTheWay_8 rfl rfl ?_
    refine Z_getR 12 dX3_isNestInTheWay_9 rfl fX3_10 (Nat.le_of_ble_eq_true rfl) rfl rfl ?_
    refine Z_iload_n 13 0 dX3_isNestInTheWay_12 rfl rfl ?_
    refine Z_callV 16 [_] 1 (zX1_isNested 1 (Or.inl rfl) i hlt) dX3_isNestInTheWay_13 rfl qX3_58 kX1_isNested rfl rfl (Nat.le_of_ble_eq_true rfl) rfl rfl ⟨(Nat.le_of_ble_eq_true rfl), (Nat.le_of_ble_eq_true rfl)⟩ (Nat.le_of_ble_eq_true rfl) ⟨rfl, rfl⟩ ⟨(Nat.le_of_ble_eq_true rfl), (Nat.le_of_ble_eq_true rfl)⟩ (fun r9 w9 hp9 => ?_)
    obtain ⟨rfl, rfl⟩ := hp9
    refine Z_if_eq 19 42 dX3_isNestInTheWay_16 rfl rfl (fun c16 => ?_) (fun c16 => ?_)
    · skip
      have hq9 : ¬ (sNest m 1 i ∧ m 57 i < m 2 i) := fun z => bI_0 c16 z.1
      refine Z_iinc 45 [(1, _), (0, _)] 0 _ dX3_isNestInTheWay_42 rfl (Nat.le_of_ble_eq_true rfl) rfl (nI_1 _) rfl ?_
      refine Z_goto 2 dX3_isNestInTheWay_45 rfl ?_
      exact ih (i + 1) (by omega) (fun q hq => by
        rcases Nat.lt_succ_iff_lt_or_eq.mp hq with g | g
        · exact hy q g
        · rw [g]
          exact hq9)
    · skip
      refine Z_aload_n 20 1 dX3_isNestInTheWay_19 rfl rfl ?_
      refine Z_getR 23 dX3_isNestInTheWay_20 rfl fX3_26 (Nat.le_of_ble_eq_true rfl) rfl rfl ?_
      refine Z_getR 26 dX3_isNestInTheWay_23 rfl fX3_77 (Nat.le_of_ble_eq_true rfl) rfl rfl ?_
      refine Z_iload_n 27 0 dX3_isNestInTheWay_26 rfl rfl ?_
      refine Z_ialn 28 dX3_isNestInTheWay_27 rfl (Nat.le_of_ble_eq_true rfl) rfl (by first | assumption | omega) (by decide) ?_
      refine Z_aload_n 29 1 dX3_isNestInTheWay_28 rfl rfl ?_
      refine Z_getR 32 dX3_isNestInTheWay_29 rfl fX3_10 (Nat.le_of_ble_eq_true rfl) rfl rfl ?_
      refine Z_getR 35 dX3_isNestInTheWay_32 rfl fX3_44 (Nat.le_of_ble_eq_true rfl) rfl rfl ?_
      refine Z_iload_n 36 0 dX3_isNestInTheWay_35 rfl rfl ?_
      refine Z_ialn 37 dX3_isNestInTheWay_36 rfl (Nat.le_of_ble_eq_true rfl) rfl (by first | assumption | omega) (by decide) ?_
      refine Z_icmp_ge 40 42 dX3_isNestInTheWay_37 rfl rfl (fun c37 => ?_) (fun c37 => ?_)
      · skip
        have hq9 : ¬ (sNest m 1 i ∧ m 57 i < m 2 i) := fun z => absurd z.2 (Int32.not_lt.mpr c37)
        refine Z_iinc 45 [(1, _), (0, _)] 0 _ dX3_isNestInTheWay_42 rfl (Nat.le_of_ble_eq_true rfl) rfl (nI_1 _) rfl ?_
        refine Z_goto 2 dX3_isNestInTheWay_45 rfl ?_
        exact ih (i + 1) (by omega) (fun q hq => by
          rcases Nat.lt_succ_iff_lt_or_eq.mp hq with g | g
          · exact hy q g
          · rw [g]
            exact hq9)
      · skip
        refine Z_iconst 41 (nI 1) dX3_isNestInTheWay_40 rfl rfl ?_
        exact Z_zret dX3_isNestInTheWay_41 rfl (by first | exact Or.inl rfl | exact Or.inr rfl | exact bI_01) ⟨rfl, Or.inl ⟨rfl, i, hlt, bI_1 c16, Int32.not_le.mp c37⟩⟩

set_option maxRecDepth 100000 in
set_option maxHeartbeats 4000000 in
theorem zX3_isNestInTheWay {G : zG} {l : Launch} {h : Nat → Nat} {m : zM}  : zMet G l yX3_isNestInTheWay mX3_isNestInTheWay [.ref (G.1 + 0)] (zw h m) (fun r w => w = zw h m ∧ ((r = some (.int (nI 1)) ∧ ∃ q, q < 8 ∧ sNest m 1 q ∧ m 57 q < m 2 q) ∨ (r = some (.int (nI 0)) ∧ ∀ q, q < 8 → ¬ (sNest m 1 q ∧ m 57 q < m 2 q)))) 0 0 := by
  refine zMet_of [(0, .ref (G.1 + 0))] (by decide +kernel) rfl (Or.inl rfl) (Nat.le_of_ble_eq_true rfl) rfl ?_
  refine Z_iconst 1 (nI 0) dX3_isNestInTheWay_0 rfl rfl ?_
  refine Z_istore_n 2 [(1, _), (0, _)] dX3_isNestInTheWay_1 rfl (Nat.le_of_ble_eq_true rfl) rfl ?_
  exact lX3_isNestInTheWay 8 0 (by omega) (fun q hq => absurd hq (Nat.not_lt_zero q))

/-- cuts down to L, hedge by hedge -/
def plM (m : zM) (L : Nat → Int32) : Nat → zM
  | 0 => m
  | i + 1 => if 0 < m 2 i - L i then cutM (plM m L i) 1 i (m 2 i - L i) else plM m L i
def plT (m : zM) (L : Nat → Int32) : Nat → Int32
  | 0 => nI 0
  | i + 1 => if 0 < m 2 i - L i then plT m L i + (m 2 i - L i) else plT m L i
theorem plM_o (m : zM) (L : Nat → Int32) {q : Nat} (h1 : q ≠ 1) (h2 : q ≠ 2) (h3 : q ≠ 5) : ∀ i, plM m L i q = m q
  | 0 => rfl
  | i + 1 => by
    unfold plM
    split
    · unfold cutM
      rw [up2_na _ _ _ h1, up2_na _ _ _ h3, up2_na _ _ _ h2]
      exact plM_o m L h1 h2 h3 i
    · exact plM_o m L h1 h2 h3 i
theorem plM_2 (m : zM) (L : Nat → Int32) : ∀ i j, i ≤ j → plM m L i 2 j = m 2 j
  | 0, j, _ => rfl
  | i + 1, j, h => by
    unfold plM
    split
    · have e : cutM (plM m L i) 1 i (m 2 i - L i) 2 j = plM m L i 2 j := by
        unfold cutM
        rw [up2_na _ _ _ (by decide), up2_na _ _ _ (by decide), up2_ne _ _ (fun z => by have := z.2; omega)]
      rw [e]
      exact plM_2 m L i j (by omega)
    · exact plM_2 m L i j (by omega)
set_option maxRecDepth 100000 in
set_option maxHeartbeats 4000000 in
theorem lX3_cut {G : zG} {l : Launch} {h : Nat → Nat} {m : zM} (h2 : Nat → Nat) (m2 : zM) (y : Nat → Int) (hlv : ∀ q, q < 8 → m2 57 q = Int32.ofInt (y q)) (PP : Option Value → zW → Prop) (hPP : PP (some (.int (nI 10 + plT m2 (fun q => Int32.ofInt (y q)) 8))) (zw h2 (plM m2 (fun q => Int32.ofInt (y q)) 8))) : ∀ (t i : Nat), i + t = 8 → Z G mX3_plan (fun _ => True) (zN G (PP) 0 0) l 0 0 (zw h2 (plM m2 (fun q => Int32.ofInt (y q)) i)) 41 [(2, .int (nI i)), (1, .int (plT m2 (fun q => Int32.ofInt (y q)) i)), (0, .ref (G.1 + 0))] [] := by
  intro t
  induction t with
  | zero =>
    intro i hi
    have e9 : i = 8 := by omega
    subst e9
    refine Z_iload_n 42 0 dX3_plan_41 rfl rfl ?_
    refine Z_bipush 44 (nI 8) dX3_plan_42 rfl rfl ?_
    refine Z_icmp_ge 47 90 dX3_plan_44 rfl rfl (fun c44 => ?_) (fun c44 => absurd (nI_le (Nat.le_refl _) (by omega)) c44)
    refine Z_bipush 92 (nI 10) dX3_plan_90 rfl rfl ?_
    refine Z_iload_n 93 1 dX3_plan_92 rfl rfl ?_
    refine Z_iadd 94 dX3_plan_93 rfl ?_
    exact Z_iret dX3_plan_94 rfl hPP
  | succ t ih =>
    intro i hi
    have hlt : i < 8 := by omega
    have K84 : ∀ (mm : zM) (t2 : Int32), mm = plM m2 (fun q => Int32.ofInt (y q)) (i + 1) → t2 = plT m2 (fun q => Int32.ofInt (y q)) (i + 1) → Z G mX3_plan (fun _ => True) (zN G (PP) 0 0) l 0 0 (zw h2 mm) 84 [(2, .int (nI i)), (1, .int t2), (0, .ref (G.1 + 0))] [] := by
      intro mm t2 e1 e2
      refine Z_iinc 87 [(2, _), (1, _), (0, _)] 0 _ dX3_plan_84 rfl (Nat.le_of_ble_eq_true rfl) rfl (nI_1 _) rfl ?_
      refine Z_goto 41 dX3_plan_87 rfl ?_
      subst e1
      subst e2
      exact ih (i + 1) (by omega)
    refine Z_iload_n 42 0 dX3_plan_41 rfl rfl ?_
    refine Z_bipush 44 (nI 8) dX3_plan_42 rfl rfl ?_
    refine Z_icmp_ge 47 90 dX3_plan_44 rfl rfl (fun c44 => absurd c44 (nI_ge hlt (by omega))) (fun c44 => ?_)
    refine Z_aload_n 48 2 dX3_plan_47 rfl rfl ?_
    refine Z_getR 51 dX3_plan_48 rfl fX3_10 (Nat.le_of_ble_eq_true rfl) rfl rfl ?_
    refine Z_getR 54 dX3_plan_51 rfl fX3_44 (Nat.le_of_ble_eq_true rfl) rfl rfl ?_
    refine Z_iload_n 55 0 dX3_plan_54 rfl rfl ?_
    refine Z_ialn 56 dX3_plan_55 rfl (Nat.le_of_ble_eq_true rfl) rfl hlt (by decide) ?_
    refine Z_top (v' := .int (m2 2 i)) (congrArg Value.int (plM_2 m2 _ i i (Nat.le_refl i))) ?_
    refine Z_aload_n 57 2 dX3_plan_56 rfl rfl ?_
    refine Z_getR 60 dX3_plan_57 rfl fX3_26 (Nat.le_of_ble_eq_true rfl) rfl rfl ?_
    refine Z_getR 63 dX3_plan_60 rfl fX3_77 (Nat.le_of_ble_eq_true rfl) rfl rfl ?_
    refine Z_iload_n 64 0 dX3_plan_63 rfl rfl ?_
    refine Z_ialn 65 dX3_plan_64 rfl (Nat.le_of_ble_eq_true rfl) rfl hlt (by decide) ?_
    refine Z_top (v' := .int ((fun q => Int32.ofInt (y q)) i)) (congrArg Value.int ((congrFun (plM_o m2 _ (by decide) (by decide) (by decide) i) i).trans (hlv i hlt))) ?_
    refine Z_isub 66 dX3_plan_65 rfl ?_
    refine Z_istore_n 67 [(3, _), (2, _), (1, _), (0, _)] dX3_plan_66 rfl (Nat.le_of_ble_eq_true rfl) rfl ?_
    refine Z_iload_n 68 0 dX3_plan_67 rfl rfl ?_
    refine Z_if_le 71 84 dX3_plan_68 rfl rfl (fun c68 => ?_) (fun c68 => ?_)
    · skip
      refine Z_lv [1, 2, 3] rfl ?_
      exact K84 _ _ (if_neg (Int32.not_lt.mpr c68)).symm (if_neg (Int32.not_lt.mpr c68)).symm
    · skip
      have c69 := Int32.not_le.mp c68
      refine Z_aload_n 72 3 dX3_plan_71 rfl rfl ?_
      refine Z_getR 75 dX3_plan_72 rfl fX3_10 (Nat.le_of_ble_eq_true rfl) rfl rfl ?_
      refine Z_iload_n 76 1 dX3_plan_75 rfl rfl ?_
      refine Z_iload_n 77 0 dX3_plan_76 rfl rfl ?_
      refine Z_callV 80 [_, _] 1 (zX1_cutOff 1 (Or.inl rfl) i hlt _) dX3_plan_77 rfl qX3_65 kX1_cutOff rfl rfl (Nat.le_of_ble_eq_true rfl) rfl rfl ⟨(Nat.le_of_ble_eq_true rfl), (Nat.le_of_ble_eq_true rfl)⟩ (Nat.le_of_ble_eq_true rfl) ⟨rfl, rfl⟩ ⟨(Nat.le_of_ble_eq_true rfl), (Nat.le_of_ble_eq_true rfl)⟩ (fun r9 w9 hp9 => ?_)
      obtain ⟨rfl, rfl⟩ := hp9
      refine Z_iload_n 81 2 dX3_plan_80 rfl rfl ?_
      refine Z_iload_n 82 0 dX3_plan_81 rfl rfl ?_
      refine Z_iadd 83 dX3_plan_82 rfl ?_
      refine Z_istore_n 84 [(1, _), (3, _), (2, _), (0, _)] dX3_plan_83 rfl (Nat.le_of_ble_eq_true rfl) rfl ?_
      refine Z_lv [2, 0, 3] rfl ?_
      exact K84 _ _ (if_pos c69).symm (if_pos c69).symm

theorem plT_congr {m m' : zM} {L : Nat → Int32} (h : m' 2 = m 2) : ∀ i, plT m' L i = plT m L i
  | 0 => rfl
  | i + 1 => by
    unfold plT
    rw [plT_congr h i, h]
set_option maxRecDepth 100000 in
set_option maxHeartbeats 4000000 in
theorem zX3_plan {G : zG} {l : Launch} {h : Nat → Nat} {m : zM} (s : Nat) (hs : s ≤ 4) (hst : m 0 5 = nI s) (hh : hOk h) (n : Nat) (g9 : gOk (mRem h m s) n) : zMet G l yX3_plan mX3_plan [.ref (G.1 + 0)] (zw h m) (fun r w => ∃ m' y, Fsv (mRem h m s) m' ∧ Top (HgtY ((mRem h m s) 2)) (eL (mRem h m s) (pFo (mRem h m s))) n y ∧ (((∃ q, q < 8 ∧ y q < 0) ∧ r = some (.int (nI 4)) ∧ w = zw (hRem h s) (refM m')) ∨ ((∀ q, q < 8 → 0 ≤ y q) ∧ (∃ q, q < 8 ∧ sNest (mRem h m s) 1 q ∧ y q < ((mRem h m s) 2 q).toInt) ∧ r = some (.int (nI 3)) ∧ w = zw (hRem h s) (refM m')) ∨ ((∀ q, q < 8 → 0 ≤ y q) ∧ (∀ q, q < 8 → ¬ (sNest (mRem h m s) 1 q ∧ y q < ((mRem h m s) 2 q).toInt)) ∧ r = some (.int (nI 10 + plT (mRem h m s) (fun q => Int32.ofInt (y q)) 8)) ∧ w = zw (hRem h s) (plM m' (fun q => Int32.ofInt (y q)) 8)))) 0 0 := by
  refine zMet_of [(0, .ref (G.1 + 0))] (by decide +kernel) rfl (Or.inl rfl) (Nat.le_of_ble_eq_true rfl) rfl ?_
  obtain ⟨f9, hp⟩ := g9.potL (fun t => decide (0 = 1 ∨ sForce (mRem h m s) 1 t))
  refine Z_aload_n 1 0 dX3_plan_0 rfl rfl ?_
  refine Z_callV 4 [] 3 (zX3_remember s hs hst hh) dX3_plan_1 rfl qX3_41 kX3_remember rfl rfl (Nat.le_of_ble_eq_true rfl) rfl rfl ⟨(Nat.le_of_ble_eq_true rfl), (Nat.le_of_ble_eq_true rfl)⟩ (Nat.le_of_ble_eq_true rfl) ⟨rfl, rfl⟩ ⟨(Nat.le_of_ble_eq_true rfl), (Nat.le_of_ble_eq_true rfl)⟩ (fun r9 w9 hp9 => ?_)
  obtain ⟨rfl, rfl⟩ := hp9
  refine Z_aload_n 5 0 dX3_plan_4 rfl rfl ?_
  refine Z_getR 8 dX3_plan_5 rfl fX3_26 (Nat.le_of_ble_eq_true rfl) rfl rfl ?_
  refine Z_aload_n 9 0 dX3_plan_8 rfl rfl ?_
  refine Z_getR 12 dX3_plan_9 rfl fX3_10 (Nat.le_of_ble_eq_true rfl) rfl rfl ?_
  refine Z_callV 15 [_] 2 (zX2_findLeastClipping (m := (mRem h m s)) n g9.1 g9.2.1 g9.2.2.1 f9 hp) dX3_plan_12 rfl qX3_69 kX2_findLeastClipping rfl rfl (Nat.le_of_ble_eq_true rfl) rfl rfl ⟨(Nat.le_of_ble_eq_true rfl), (Nat.le_of_ble_eq_true rfl)⟩ (Nat.le_of_ble_eq_true rfl) ⟨rfl, rfl⟩ ⟨(Nat.le_of_ble_eq_true rfl), (Nat.le_of_ble_eq_true rfl)⟩ (fun r9 w9 hp9 => ?_)
  obtain ⟨m2, y, rfl, hF2, hT2, hL2, hr9⟩ := hp9
  rw [eLF] at hT2
  have hV2 := hF2.v (by decide)
  have hlv : ∀ q, q < 8 → m2 57 q = Int32.ofInt (y q) := fun q hq => ofI (hL2 q hq).1
  rcases hr9 with ⟨hr8, hr9⟩ | ⟨hr8, hr9⟩
  · cases hr8
    refine Z_if_ne 18 24 dX3_plan_15 rfl rfl (fun c15 => ?_) (fun c15 => absurd (by decide) c15)
    refine Z_aload_n 25 0 dX3_plan_24 rfl rfl ?_
    refine Z_callV 28 [] 3 (zX3_isNestInTheWay (m := m2)) dX3_plan_25 rfl qX3_73 kX3_isNestInTheWay rfl rfl (Nat.le_of_ble_eq_true rfl) rfl rfl ⟨(Nat.le_of_ble_eq_true rfl), (Nat.le_of_ble_eq_true rfl)⟩ (Nat.le_of_ble_eq_true rfl) ⟨rfl, rfl⟩ ⟨(Nat.le_of_ble_eq_true rfl), (Nat.le_of_ble_eq_true rfl)⟩ (fun r9 w9 hp9 => ?_)
    obtain ⟨rfl, hq9⟩ := hp9
    have e57 : ∀ q, q < 8 → ((sNest m2 1 q ∧ m2 57 q < m2 2 q) ↔ (sNest (mRem h m s) 1 q ∧ y q < ((mRem h m s) 2 q).toInt)) := fun q hq => by
      unfold sNest
      rw [hV2 1 (by decide), hV2 (1 + 3) (by decide), hV2 2 (by decide), i32_lt (x := m2 57 q), (hL2 q hq).1]
    rcases hq9 with ⟨hq8, _, hq1, hq2⟩ | ⟨hq8, hq1⟩
    · cases hq8
      refine Z_if_eq 31 37 dX3_plan_28 rfl rfl (fun c28 => absurd c28 (by decide)) (fun c28 => ?_)
      refine Z_aload_n 32 0 dX3_plan_31 rfl rfl ?_
      refine Z_iconst 33 (nI 3) dX3_plan_32 rfl rfl ?_
      refine Z_callV 36 [_] 3 (zX3_refuse _) dX3_plan_33 rfl qX3_61 kX3_refuse rfl rfl (Nat.le_of_ble_eq_true rfl) rfl rfl ⟨(Nat.le_of_ble_eq_true rfl), (Nat.le_of_ble_eq_true rfl)⟩ (Nat.le_of_ble_eq_true rfl) ⟨rfl, rfl⟩ ⟨(Nat.le_of_ble_eq_true rfl), (Nat.le_of_ble_eq_true rfl)⟩ (fun r9 w9 hp9 => ?_)
      obtain ⟨rfl, rfl⟩ := hp9
      exact Z_iret dX3_plan_36 rfl ⟨m2, y, hV2, hT2, Or.inr (Or.inl ⟨hr9, ⟨_, hq1, (e57 _ hq1).mp hq2⟩, rfl, rfl⟩)⟩
    · cases hq8
      refine Z_if_eq 31 37 dX3_plan_28 rfl rfl (fun c28 => ?_) (fun c28 => absurd (by decide) c28)
      refine Z_iconst 38 (nI 0) dX3_plan_37 rfl rfl ?_
      refine Z_istore_n 39 [(1, _), (0, _)] dX3_plan_38 rfl (Nat.le_of_ble_eq_true rfl) rfl ?_
      refine Z_iconst 40 (nI 0) dX3_plan_39 rfl rfl ?_
      refine Z_istore_n 41 [(2, _), (1, _), (0, _)] dX3_plan_40 rfl (Nat.le_of_ble_eq_true rfl) rfl ?_
      exact lX3_cut (h := h) (m := m) _ m2 y hlv _ ⟨m2, y, hV2, hT2, Or.inr (Or.inr ⟨hr9, fun q hq => fun z => hq1 q hq ((e57 q hq).mpr z), by rw [plT_congr (hV2 2 (by decide))], rfl⟩)⟩ 8 0 (by omega)
  · cases hr8
    refine Z_if_ne 18 24 dX3_plan_15 rfl rfl (fun c15 => absurd c15 (fun q => q rfl)) (fun c15 => ?_)
    refine Z_aload_n 19 0 dX3_plan_18 rfl rfl ?_
    refine Z_iconst 20 (nI 4) dX3_plan_19 rfl rfl ?_
    refine Z_callV 23 [_] 3 (zX3_refuse _) dX3_plan_20 rfl qX3_61 kX3_refuse rfl rfl (Nat.le_of_ble_eq_true rfl) rfl rfl ⟨(Nat.le_of_ble_eq_true rfl), (Nat.le_of_ble_eq_true rfl)⟩ (Nat.le_of_ble_eq_true rfl) ⟨rfl, rfl⟩ ⟨(Nat.le_of_ble_eq_true rfl), (Nat.le_of_ble_eq_true rfl)⟩ (fun r9 w9 hp9 => ?_)
    obtain ⟨rfl, rfl⟩ := hp9
    exact Z_iret dX3_plan_23 rfl ⟨m2, y, hV2, hT2, Or.inl ⟨hr9, rfl, rfl⟩⟩
