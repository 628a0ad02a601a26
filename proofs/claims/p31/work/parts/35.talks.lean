/-! talks -/
theorem left_r {K n t : Nat} {m : zM} (hI : Inv K m n) (hK : K ≤ 1000) (ht : t < n) : (m 9 t - m 1 9).toInt = (m 9 t).toInt - (m 1 9).toInt := by
  have a := hI.ii ht
  have b := hI.day
  exact i32_sub (by omega) (by omega)
theorem left_0 {K n t : Nat} {m : zM} (hI : Inv K m n) (hK : K ≤ 1000) (ht : t < n) (c : sForce m 1 t) : ¬ 0 < m 9 t - m 1 9 := by
  have c2 : m 9 t ≤ m 1 9 := c
  rw [i32_le] at c2
  rw [i32_lt, left_r hI hK ht]
  show ¬ (0 : Int) < _
  omega
theorem left_1 {K n t : Nat} {m : zM} (hI : Inv K m n) (hK : K ≤ 1000) (ht : t < n) (c : ¬ sForce m 1 t) : 0 < m 9 t - m 1 9 := by
  have c2 : ¬ m 9 t ≤ m 1 9 := c
  rw [i32_le] at c2
  rw [i32_lt, left_r hI hK ht]
  show (0 : Int) < _
  omega
theorem left_t {K n t : Nat} {m : zM} (hI : Inv K m n) (hK : K ≤ 1000) (ht : t < n) (c : ¬ sForce m 1 t) (c2 : ¬ m 1 10 < m 9 t - m 1 9) : ¬ nI 10 + m 1 10 - (m 9 t - m 1 9) < nI 10 := by
  have a := hI.ii ht
  have b := hI.day
  have d := hI.ck
  have e := left_r hI hK ht
  have l := left_1 hI hK ht c
  rw [i32_lt, e] at c2 l
  have l2 : (0 : Int) < (m 9 t).toInt - (m 1 9).toInt := l
  have e1 : (nI 10 + m 1 10).toInt = 10 + (m 1 10).toInt := i32_add (by show _ ≤ (10 : Int) + _; omega) (by show (10 : Int) + _ ≤ _; omega)
  rw [i32_lt, i32_sub (by omega) (by omega), e1, e]
  show ¬ _ < (10 : Int)
  omega
theorem left_c (x y : Int32) : x - y = nI 10 + x - y - nI 10 := by
  rw [Int32.sub_eq_add_neg, Int32.sub_eq_add_neg, Int32.sub_eq_add_neg, Int32.add_comm (nI 10) x, Int32.add_assoc, Int32.add_assoc, Int32.add_comm (-y), ← Int32.add_assoc (nI 10), ← Int32.sub_eq_add_neg (a := nI 10), Int32.sub_self, Int32.zero_add]
set_option maxRecDepth 100000 in
set_option maxHeartbeats 4000000 in
theorem zL_talks0 {G : zG} {l : Launch} {h : Nat → Nat} {m : zM} {K n s : Nat} {mm : zM} (sy : Sy K h m n s) (hK : K ≤ 1000) (hF : Fsv m mm) (y : Int32) : zMet G l yL_talks mL_talks [.ref (G.1 + 0), .int (nI 0), .int y] (zw h mm) (actP K h m n s) 0 0 := by
  refine zMet_of [(0, .ref (G.1 + 0)), (1, .int (nI 0)), (2, .int y)] (by decide +kernel) rfl (Or.inl rfl) (Nat.le_of_ble_eq_true rfl) rfl ?_
  have hI := sy.inv
  have hn := hI.n14
  have hk := sy.ok
  have g := hI.g
  refine Z_aload_n 1 0 dL_talks_0 rfl rfl ?_
  refine Z_iconst 2 (nI 1) dL_talks_1 rfl rfl ?_
  refine Z_callV 5 [_] 3 (v_count1 hF hk) dL_talks_2 rfl qL_13 kX3_count rfl rfl (Nat.le_of_ble_eq_true rfl) rfl rfl ⟨(Nat.le_of_ble_eq_true rfl), (Nat.le_of_ble_eq_true rfl)⟩ (Nat.le_of_ble_eq_true rfl) ⟨rfl, rfl⟩ ⟨(Nat.le_of_ble_eq_true rfl), (Nat.le_of_ble_eq_true rfl)⟩ (fun r9 w9 hp9 => ?_)
  obtain ⟨rfl, mm, rfl, hF⟩ := hp9
  refine Z_istore_n 6 [(3, _), (0, _), (1, _), (2, _)] dL_talks_5 rfl (Nat.le_of_ble_eq_true rfl) rfl ?_
  refine Z_iload_n 7 3 dL_talks_6 rfl rfl ?_
  refine Z_iload_n 8 0 dL_talks_7 rfl rfl ?_
  refine Z_iconst 9 (nI 1) dL_talks_8 rfl rfl ?_
  refine Z_iadd 10 dL_talks_9 rfl ?_
  refine Z_top (v' := .int (nI (n + 1))) (congrArg Value.int (nI_add n 1)) ?_
  refine Z_callS 13 [_, _] (zL_low _ (n + 1) (by omega)) dL_talks_10 rfl qL_39 kL_low rfl rfl ⟨(Nat.le_of_ble_eq_true rfl), (Nat.le_of_ble_eq_true rfl)⟩ (Nat.le_of_ble_eq_true rfl) ⟨rfl, rfl⟩ ⟨(Nat.le_of_ble_eq_true rfl), (Nat.le_of_ble_eq_true rfl)⟩ (fun r9 w9 hp9 => ?_)
  obtain ⟨⟨q10, hq10, rfl⟩, rfl⟩ := hp9
  refine Z_istore 15 [(4, _), (3, _), (0, _), (1, _), (2, _)] dL_talks_13 rfl (Nat.le_of_ble_eq_true rfl) rfl ?_
  rcases (show n = q10 ∨ q10 < n by omega) with e8 | e8
  · subst e8
    have KJ : ∀ (mm : zM) (d : Nat) (v : Int32), Fsv m mm → 0 < d ∧ d ≤ 32 → Z G mL_talks (fun _ => True) (zN G (actP K h m n s) 0 0) l 0 0 (zw h mm) 104 [(9, .int (nI 0)), (8, .int (nI 0)), (7, .int (m 1 10)), (6, .int (m 1 9)), (5, .int (nI 1)), (4, .int (nI n)), (3, .int (nI n)), (0, .ref (G.1 + 0)), (1, .int (nI 0)), (2, .int y)] [.int (nI d), .int v] := by
      intro mm d v hF hd
      refine Z_callS 107 [_, _] (zL_low _ d ⟨hd.1, by omega⟩) dL_talks_104 rfl qL_39 kL_low rfl rfl ⟨(Nat.le_of_ble_eq_true rfl), (Nat.le_of_ble_eq_true rfl)⟩ (Nat.le_of_ble_eq_true rfl) ⟨rfl, rfl⟩ ⟨(Nat.le_of_ble_eq_true rfl), (Nat.le_of_ble_eq_true rfl)⟩ (fun r9 w9 hp9 => ?_)
      obtain ⟨⟨q104, hq104, rfl⟩, rfl⟩ := hp9
      refine Z_istore 109 [(10, _), (9, _), (8, _), (7, _), (6, _), (5, _), (4, _), (3, _), (0, _), (1, _), (2, _)] dL_talks_107 rfl (Nat.le_of_ble_eq_true rfl) rfl ?_
      refine Z_iload 111 5 dL_talks_109 rfl rfl ?_
      refine Z_if_ne 114 126 dL_talks_111 rfl rfl (fun c111 => ?_) (fun c111 => absurd (by decide) c111)
      refine Z_iconst 127 (nI 1) dL_talks_126 rfl rfl ?_
      refine Z_goto 131 dL_talks_127 rfl ?_
      refine Z_istore 133 [(11, _), (10, _), (9, _), (8, _), (7, _), (6, _), (5, _), (4, _), (3, _), (0, _), (1, _), (2, _)] dL_talks_131 rfl (Nat.le_of_ble_eq_true rfl) rfl ?_
      refine Z_aload_n 134 9 dL_talks_133 rfl rfl ?_
      refine Z_iload 136 7 dL_talks_134 rfl rfl ?_
      refine Z_iload 138 1 dL_talks_136 rfl rfl ?_
      refine Z_callV 141 [_, _] 3 (e_freeze sy hF (Nat.le_refl _) (by omega) (Or.inl rfl)) dL_talks_138 rfl qL_90 kX3_freeze rfl rfl (Nat.le_of_ble_eq_true rfl) rfl rfl ⟨(Nat.le_of_ble_eq_true rfl), (Nat.le_of_ble_eq_true rfl)⟩ (Nat.le_of_ble_eq_true rfl) ⟨rfl, rfl⟩ ⟨(Nat.le_of_ble_eq_true rfl), (Nat.le_of_ble_eq_true rfl)⟩ (fun r9 w9 hp9 => ?_)
      obtain ⟨rfl, mm, rfl, hF⟩ := hp9
      refine Z_istore 143 [(12, _), (11, _), (10, _), (9, _), (8, _), (7, _), (6, _), (5, _), (4, _), (3, _), (0, _), (1, _), (2, _)] dL_talks_141 rfl (Nat.le_of_ble_eq_true rfl) rfl ?_
      refine Z_iload 145 0 dL_talks_143 rfl rfl ?_
      refine Z_iload 147 1 dL_talks_145 rfl rfl ?_
      refine Z_if_eq 150 154 dL_talks_147 rfl rfl (fun c147 => absurd c147 (by decide)) (fun c147 => ?_)
      refine Z_iconst 151 (-1) dL_talks_150 rfl rfl ?_
      refine Z_goto 159 dL_talks_151 rfl ?_
      refine Z_icmp_ne 162 235 dL_talks_159 rfl rfl (fun c159 => absurd c159 (by decide)) (fun c159 => ?_)
      refine Z_aload_n 163 10 dL_talks_162 rfl rfl ?_
      refine Z_bipush 165 (nI 6) dL_talks_163 rfl rfl ?_
      refine Z_callV 168 [_] 3 (v_count6 hF hk) dL_talks_165 rfl qL_13 kX3_count rfl rfl (Nat.le_of_ble_eq_true rfl) rfl rfl ⟨(Nat.le_of_ble_eq_true rfl), (Nat.le_of_ble_eq_true rfl)⟩ (Nat.le_of_ble_eq_true rfl) ⟨rfl, rfl⟩ ⟨(Nat.le_of_ble_eq_true rfl), (Nat.le_of_ble_eq_true rfl)⟩ (fun r9 w9 hp9 => ?_)
      obtain ⟨rfl, mm, rfl, hF⟩ := hp9
      refine Z_iload 170 5 dL_talks_168 rfl rfl ?_
      refine Z_iload 172 1 dL_talks_170 rfl rfl ?_
      refine Z_if_eq 175 179 dL_talks_172 rfl rfl (fun c172 => absurd c172 (by decide)) (fun c172 => ?_)
      refine Z_iconst 176 (nI 0) dL_talks_175 rfl rfl ?_
      refine Z_goto 181 dL_talks_176 rfl ?_
      refine Z_iadd 182 dL_talks_181 rfl ?_
      refine Z_icmp_ne 185 235 dL_talks_182 rfl rfl (fun c182 => absurd c182 (fun z => z (ad0 _))) (fun c182 => ?_)
      refine Z_iload 187 7 dL_talks_185 rfl rfl ?_
      refine Z_if_ne 190 231 dL_talks_187 rfl rfl (fun c187 => ?_) (fun c187 => absurd (by decide) c187)
      refine Z_iconst 232 (nI 1) dL_talks_231 rfl rfl ?_
      refine Z_goto 236 dL_talks_232 rfl ?_
      exact Z_zret dL_talks_236 rfl (by first | exact Or.inl rfl | exact Or.inr rfl | exact bI_01) (by first | exact actOk (hA.v hF) | exact actOk (Act.noV sy hF))
    refine Z_iload 17 0 dL_talks_15 rfl rfl ?_
    refine Z_iload_n 18 1 dL_talks_17 rfl rfl ?_
    refine Z_icmp_ne 21 25 dL_talks_18 rfl rfl (fun c18 => absurd c18 (fun z => z rfl)) (fun c18 => ?_)
    refine Z_iconst 22 (nI 1) dL_talks_21 rfl rfl ?_
    refine Z_goto 26 dL_talks_22 rfl ?_
    refine Z_istore 28 [(5, _), (4, _), (3, _), (0, _), (1, _), (2, _)] dL_talks_26 rfl (Nat.le_of_ble_eq_true rfl) rfl ?_
    refine Z_aload_n 29 3 dL_talks_28 rfl rfl ?_
    refine Z_iconst 30 (nI 0) dL_talks_29 rfl rfl ?_
    refine Z_callV 33 [_] 3 (v_count0 hF hk) dL_talks_30 rfl qL_13 kX3_count rfl rfl (Nat.le_of_ble_eq_true rfl) rfl rfl ⟨(Nat.le_of_ble_eq_true rfl), (Nat.le_of_ble_eq_true rfl)⟩ (Nat.le_of_ble_eq_true rfl) ⟨rfl, rfl⟩ ⟨(Nat.le_of_ble_eq_true rfl), (Nat.le_of_ble_eq_true rfl)⟩ (fun r9 w9 hp9 => ?_)
    obtain ⟨rfl, mm, rfl, hF⟩ := hp9
    refine Z_istore 35 [(6, _), (5, _), (4, _), (3, _), (0, _), (1, _), (2, _)] dL_talks_33 rfl (Nat.le_of_ble_eq_true rfl) rfl ?_
    refine Z_aload_n 36 4 dL_talks_35 rfl rfl ?_
    refine Z_bipush 38 (nI 6) dL_talks_36 rfl rfl ?_
    refine Z_callV 41 [_] 3 (v_count6 hF hk) dL_talks_38 rfl qL_13 kX3_count rfl rfl (Nat.le_of_ble_eq_true rfl) rfl rfl ⟨(Nat.le_of_ble_eq_true rfl), (Nat.le_of_ble_eq_true rfl)⟩ (Nat.le_of_ble_eq_true rfl) ⟨rfl, rfl⟩ ⟨(Nat.le_of_ble_eq_true rfl), (Nat.le_of_ble_eq_true rfl)⟩ (fun r9 w9 hp9 => ?_)
    obtain ⟨rfl, mm, rfl, hF⟩ := hp9
    refine Z_istore 43 [(7, _), (6, _), (5, _), (4, _), (3, _), (0, _), (1, _), (2, _)] dL_talks_41 rfl (Nat.le_of_ble_eq_true rfl) rfl ?_
    refine Z_iload 45 2 dL_talks_43 rfl rfl ?_
    refine Z_if_eq 48 52 dL_talks_45 rfl rfl (fun c45 => absurd c45 (by decide)) (fun c45 => ?_)
    refine Z_iconst 49 (nI 0) dL_talks_48 rfl rfl ?_
    refine Z_goto 60 dL_talks_49 rfl ?_
    refine Z_istore 62 [(8, _), (7, _), (6, _), (5, _), (4, _), (3, _), (0, _), (1, _), (2, _)] dL_talks_60 rfl (Nat.le_of_ble_eq_true rfl) rfl ?_
    refine Z_iload 64 3 dL_talks_62 rfl rfl ?_
    refine Z_if_eq 67 71 dL_talks_64 rfl rfl (fun c64 => absurd c64 (by decide)) (fun c64 => ?_)
    refine Z_iconst 68 (nI 0) dL_talks_67 rfl rfl ?_
    refine Z_goto 78 dL_talks_68 rfl ?_
    refine Z_istore 80 [(9, _), (8, _), (7, _), (6, _), (5, _), (4, _), (3, _), (0, _), (1, _), (2, _)] dL_talks_78 rfl (Nat.le_of_ble_eq_true rfl) rfl ?_
    refine Z_iload_n 81 8 dL_talks_80 rfl rfl ?_
    refine Z_if_ne 84 237 dL_talks_81 rfl rfl (fun c81 => absurd c81 (by decide)) (fun c81 => ?_)
    refine Z_iload_n 85 9 dL_talks_84 rfl rfl ?_
    refine Z_iconst 86 (nI 3) dL_talks_85 rfl rfl ?_
    refine Z_ishr 87 dL_talks_86 rfl ?_
    refine Z_iload_n 88 9 dL_talks_87 rfl rfl ?_
    refine Z_bipush 90 (nI 9) dL_talks_88 rfl rfl ?_
    refine Z_ishr 91 dL_talks_90 rfl ?_
    refine Z_iconst 92 (nI 3) dL_talks_91 rfl rfl ?_
    refine Z_callS 95 [_, _] (zL_low _ 3 (by decide)) dL_talks_92 rfl qL_39 kL_low rfl rfl ⟨(Nat.le_of_ble_eq_true rfl), (Nat.le_of_ble_eq_true rfl)⟩ (Nat.le_of_ble_eq_true rfl) ⟨rfl, rfl⟩ ⟨(Nat.le_of_ble_eq_true rfl), (Nat.le_of_ble_eq_true rfl)⟩ (fun r9 w9 hp9 => ?_)
    obtain ⟨⟨q92, hq92, rfl⟩, rfl⟩ := hp9
    refine Z_if_ne 98 103 dL_talks_95 rfl rfl (fun c95 => ?_) (fun c95 => ?_)
    · skip
      refine Z_iconst 104 (nI 5) dL_talks_103 rfl rfl ?_
      exact KJ mm 5 _ hF (by decide)
    · skip
      refine Z_bipush 100 (nI 32) dL_talks_98 rfl rfl ?_
      refine Z_goto 104 dL_talks_100 rfl ?_
      exact KJ mm 32 _ hF (by decide)
  · skip
    have KJ : ∀ (mm : zM) (d : Nat) (v : Int32), Fsv m mm → 0 < d ∧ d ≤ 32 → Z G mL_talks (fun _ => True) (zN G (actP K h m n s) 0 0) l 0 0 (zw h mm) 104 [(9, .int (bI (sBrk m 1 q10 (nI 0)))), (8, .int (m 9 q10)), (7, .int (m 1 10)), (6, .int (m 1 9)), (5, .int (nI 0)), (4, .int (nI q10)), (3, .int (nI n)), (0, .ref (G.1 + 0)), (1, .int (nI 0)), (2, .int y)] [.int (nI d), .int v] := by
      intro mm d v hF hd
      refine Z_callS 107 [_, _] (zL_low _ d ⟨hd.1, by omega⟩) dL_talks_104 rfl qL_39 kL_low rfl rfl ⟨(Nat.le_of_ble_eq_true rfl), (Nat.le_of_ble_eq_true rfl)⟩ (Nat.le_of_ble_eq_true rfl) ⟨rfl, rfl⟩ ⟨(Nat.le_of_ble_eq_true rfl), (Nat.le_of_ble_eq_true rfl)⟩ (fun r9 w9 hp9 => ?_)
      obtain ⟨⟨q104, hq104, rfl⟩, rfl⟩ := hp9
      refine Z_istore 109 [(10, _), (9, _), (8, _), (7, _), (6, _), (5, _), (4, _), (3, _), (0, _), (1, _), (2, _)] dL_talks_107 rfl (Nat.le_of_ble_eq_true rfl) rfl ?_
      rcases (show q104 = 0 ∨ q104 = 31 ∨ (1 ≤ q104 ∧ q104 < 31) by omega) with e9 | e9 | e9
      · subst e9
        refine Z_iload 111 5 dL_talks_109 rfl rfl ?_
        refine Z_if_ne 114 126 dL_talks_111 rfl rfl (fun c111 => absurd c111 (by decide)) (fun c111 => ?_)
        refine Z_iload 116 0 dL_talks_114 rfl rfl ?_
        refine Z_if_eq 119 126 dL_talks_116 rfl rfl (fun c116 => ?_) (fun c116 => absurd (by decide) c116)
        refine Z_iconst 127 (nI 1) dL_talks_126 rfl rfl ?_
        refine Z_goto 131 dL_talks_127 rfl ?_
        refine Z_istore 133 [(11, _), (10, _), (9, _), (8, _), (7, _), (6, _), (5, _), (4, _), (3, _), (0, _), (1, _), (2, _)] dL_talks_131 rfl (Nat.le_of_ble_eq_true rfl) rfl ?_
        refine Z_aload_n 134 9 dL_talks_133 rfl rfl ?_
        refine Z_iload 136 7 dL_talks_134 rfl rfl ?_
        refine Z_iload 138 1 dL_talks_136 rfl rfl ?_
        refine Z_callV 141 [_, _] 3 (e_freeze sy hF (by omega) (by omega) (Or.inr (Or.inl rfl))) dL_talks_138 rfl qL_90 kX3_freeze rfl rfl (Nat.le_of_ble_eq_true rfl) rfl rfl ⟨(Nat.le_of_ble_eq_true rfl), (Nat.le_of_ble_eq_true rfl)⟩ (Nat.le_of_ble_eq_true rfl) ⟨rfl, rfl⟩ ⟨(Nat.le_of_ble_eq_true rfl), (Nat.le_of_ble_eq_true rfl)⟩ (fun r9 w9 hp9 => ?_)
        obtain ⟨rfl, mm, rfl, hF⟩ := hp9
        refine Z_istore 143 [(12, _), (11, _), (10, _), (9, _), (8, _), (7, _), (6, _), (5, _), (4, _), (3, _), (0, _), (1, _), (2, _)] dL_talks_141 rfl (Nat.le_of_ble_eq_true rfl) rfl ?_
        refine Z_iload 145 0 dL_talks_143 rfl rfl ?_
        refine Z_iload 147 1 dL_talks_145 rfl rfl ?_
        refine Z_if_eq 150 154 dL_talks_147 rfl rfl (fun c147 => absurd c147 (by decide)) (fun c147 => ?_)
        refine Z_iconst 151 (-1) dL_talks_150 rfl rfl ?_
        refine Z_goto 159 dL_talks_151 rfl ?_
        refine Z_icmp_ne 162 235 dL_talks_159 rfl rfl (fun c159 => absurd c159 (by decide)) (fun c159 => ?_)
        refine Z_aload_n 163 10 dL_talks_162 rfl rfl ?_
        refine Z_bipush 165 (nI 6) dL_talks_163 rfl rfl ?_
        refine Z_callV 168 [_] 3 (v_count6 hF hk) dL_talks_165 rfl qL_13 kX3_count rfl rfl (Nat.le_of_ble_eq_true rfl) rfl rfl ⟨(Nat.le_of_ble_eq_true rfl), (Nat.le_of_ble_eq_true rfl)⟩ (Nat.le_of_ble_eq_true rfl) ⟨rfl, rfl⟩ ⟨(Nat.le_of_ble_eq_true rfl), (Nat.le_of_ble_eq_true rfl)⟩ (fun r9 w9 hp9 => ?_)
        obtain ⟨rfl, mm, rfl, hF⟩ := hp9
        refine Z_iload 170 5 dL_talks_168 rfl rfl ?_
        refine Z_iload 172 1 dL_talks_170 rfl rfl ?_
        refine Z_if_eq 175 179 dL_talks_172 rfl rfl (fun c172 => absurd c172 (by decide)) (fun c172 => ?_)
        refine Z_iconst 176 (nI 0) dL_talks_175 rfl rfl ?_
        refine Z_goto 181 dL_talks_176 rfl ?_
        refine Z_iadd 182 dL_talks_181 rfl ?_
        refine Z_icmp_ne 185 235 dL_talks_182 rfl rfl (fun c182 => absurd c182 (fun z => z (ad0 _))) (fun c182 => ?_)
        refine Z_iload 187 7 dL_talks_185 rfl rfl ?_
        refine Z_if_ne 190 231 dL_talks_187 rfl rfl (fun c187 => absurd c187 (by decide)) (fun c187 => ?_)
        refine Z_aload_n 191 10 dL_talks_190 rfl rfl ?_
        refine Z_iload 193 8 dL_talks_191 rfl rfl ?_
        refine Z_bipush 195 (nI 6) dL_talks_193 rfl rfl ?_
        refine Z_callV 198 [_, _] 3 (v_treaty6 hF hk (by first | assumption | omega)) dL_talks_195 rfl qL_23 kX3_treaty rfl rfl (Nat.le_of_ble_eq_true rfl) rfl rfl ⟨(Nat.le_of_ble_eq_true rfl), (Nat.le_of_ble_eq_true rfl)⟩ (Nat.le_of_ble_eq_true rfl) ⟨rfl, rfl⟩ ⟨(Nat.le_of_ble_eq_true rfl), (Nat.le_of_ble_eq_true rfl)⟩ (fun r9 w9 hp9 => ?_)
        obtain ⟨rfl, mm, rfl, hF⟩ := hp9
        refine Z_iload 200 1 dL_talks_198 rfl rfl ?_
        refine Z_if_eq 203 208 dL_talks_200 rfl rfl (fun c200 => absurd c200 (by decide)) (fun c200 => ?_)
        refine Z_iload 205 4 dL_talks_203 rfl rfl ?_
        refine Z_goto 213 dL_talks_205 rfl ?_
        refine Z_icmp_ne 216 235 dL_talks_213 rfl rfl (fun c213 => absurd c213 (fun z => z rfl)) (fun c213 => ?_)
        refine Z_iload 218 1 dL_talks_216 rfl rfl ?_
        refine Z_if_ne 221 231 dL_talks_218 rfl rfl (fun c218 => ?_) (fun c218 => absurd (by decide) c218)
        refine Z_iconst 232 (nI 1) dL_talks_231 rfl rfl ?_
        refine Z_goto 236 dL_talks_232 rfl ?_
        exact Z_zret dL_talks_236 rfl (by first | exact Or.inl rfl | exact Or.inr rfl | exact bI_01) (by first | exact actOk (hA.v hF) | exact actOk (Act.noV sy hF))
      · subst e9
        refine Z_iload 111 5 dL_talks_109 rfl rfl ?_
        refine Z_if_ne 114 126 dL_talks_111 rfl rfl (fun c111 => absurd c111 (by decide)) (fun c111 => ?_)
        refine Z_iload 116 0 dL_talks_114 rfl rfl ?_
        refine Z_if_eq 119 126 dL_talks_116 rfl rfl (fun c116 => absurd c116 (by decide)) (fun c116 => ?_)
        refine Z_iload 121 0 dL_talks_119 rfl rfl ?_
        refine Z_bipush 123 (nI 31) dL_talks_121 rfl rfl ?_
        refine Z_icmp_ne 126 130 dL_talks_123 rfl rfl (fun c123 => absurd c123 (by decide)) (fun c123 => ?_)
        refine Z_iconst 127 (nI 1) dL_talks_126 rfl rfl ?_
        refine Z_goto 131 dL_talks_127 rfl ?_
        refine Z_istore 133 [(11, _), (10, _), (9, _), (8, _), (7, _), (6, _), (5, _), (4, _), (3, _), (0, _), (1, _), (2, _)] dL_talks_131 rfl (Nat.le_of_ble_eq_true rfl) rfl ?_
        refine Z_aload_n 134 9 dL_talks_133 rfl rfl ?_
        refine Z_iload 136 7 dL_talks_134 rfl rfl ?_
        refine Z_iload 138 1 dL_talks_136 rfl rfl ?_
        refine Z_callV 141 [_, _] 3 (e_freeze sy hF (by omega) (by omega) (Or.inr (Or.inr rfl))) dL_talks_138 rfl qL_90 kX3_freeze rfl rfl (Nat.le_of_ble_eq_true rfl) rfl rfl ⟨(Nat.le_of_ble_eq_true rfl), (Nat.le_of_ble_eq_true rfl)⟩ (Nat.le_of_ble_eq_true rfl) ⟨rfl, rfl⟩ ⟨(Nat.le_of_ble_eq_true rfl), (Nat.le_of_ble_eq_true rfl)⟩ (fun r9 w9 hp9 => ?_)
        obtain ⟨rfl, mm, rfl, hF⟩ := hp9
        refine Z_istore 143 [(12, _), (11, _), (10, _), (9, _), (8, _), (7, _), (6, _), (5, _), (4, _), (3, _), (0, _), (1, _), (2, _)] dL_talks_141 rfl (Nat.le_of_ble_eq_true rfl) rfl ?_
        refine Z_iload 145 0 dL_talks_143 rfl rfl ?_
        refine Z_iload 147 1 dL_talks_145 rfl rfl ?_
        refine Z_if_eq 150 154 dL_talks_147 rfl rfl (fun c147 => absurd c147 (by decide)) (fun c147 => ?_)
        refine Z_iconst 151 (-1) dL_talks_150 rfl rfl ?_
        refine Z_goto 159 dL_talks_151 rfl ?_
        refine Z_icmp_ne 162 235 dL_talks_159 rfl rfl (fun c159 => absurd c159 (by decide)) (fun c159 => ?_)
        refine Z_aload_n 163 10 dL_talks_162 rfl rfl ?_
        refine Z_bipush 165 (nI 6) dL_talks_163 rfl rfl ?_
        refine Z_callV 168 [_] 3 (v_count6 hF hk) dL_talks_165 rfl qL_13 kX3_count rfl rfl (Nat.le_of_ble_eq_true rfl) rfl rfl ⟨(Nat.le_of_ble_eq_true rfl), (Nat.le_of_ble_eq_true rfl)⟩ (Nat.le_of_ble_eq_true rfl) ⟨rfl, rfl⟩ ⟨(Nat.le_of_ble_eq_true rfl), (Nat.le_of_ble_eq_true rfl)⟩ (fun r9 w9 hp9 => ?_)
        obtain ⟨rfl, mm, rfl, hF⟩ := hp9
        refine Z_iload 170 5 dL_talks_168 rfl rfl ?_
        refine Z_iload 172 1 dL_talks_170 rfl rfl ?_
        refine Z_if_eq 175 179 dL_talks_172 rfl rfl (fun c172 => absurd c172 (by decide)) (fun c172 => ?_)
        refine Z_iconst 176 (nI 0) dL_talks_175 rfl rfl ?_
        refine Z_goto 181 dL_talks_176 rfl ?_
        refine Z_iadd 182 dL_talks_181 rfl ?_
        refine Z_icmp_ne 185 235 dL_talks_182 rfl rfl (fun c182 => absurd c182 (fun z => z (ad0 _))) (fun c182 => ?_)
        refine Z_iload 187 7 dL_talks_185 rfl rfl ?_
        refine Z_if_ne 190 231 dL_talks_187 rfl rfl (fun c187 => absurd c187 (by decide)) (fun c187 => ?_)
        refine Z_aload_n 191 10 dL_talks_190 rfl rfl ?_
        refine Z_iload 193 8 dL_talks_191 rfl rfl ?_
        refine Z_bipush 195 (nI 6) dL_talks_193 rfl rfl ?_
        refine Z_callV 198 [_, _] 3 (v_treaty6 hF hk (by first | assumption | omega)) dL_talks_195 rfl qL_23 kX3_treaty rfl rfl (Nat.le_of_ble_eq_true rfl) rfl rfl ⟨(Nat.le_of_ble_eq_true rfl), (Nat.le_of_ble_eq_true rfl)⟩ (Nat.le_of_ble_eq_true rfl) ⟨rfl, rfl⟩ ⟨(Nat.le_of_ble_eq_true rfl), (Nat.le_of_ble_eq_true rfl)⟩ (fun r9 w9 hp9 => ?_)
        obtain ⟨rfl, mm, rfl, hF⟩ := hp9
        refine Z_iload 200 1 dL_talks_198 rfl rfl ?_
        refine Z_if_eq 203 208 dL_talks_200 rfl rfl (fun c200 => absurd c200 (by decide)) (fun c200 => ?_)
        refine Z_iload 205 4 dL_talks_203 rfl rfl ?_
        refine Z_goto 213 dL_talks_205 rfl ?_
        refine Z_icmp_ne 216 235 dL_talks_213 rfl rfl (fun c213 => absurd c213 (fun z => z rfl)) (fun c213 => ?_)
        refine Z_iload 218 1 dL_talks_216 rfl rfl ?_
        refine Z_if_ne 221 231 dL_talks_218 rfl rfl (fun c218 => ?_) (fun c218 => absurd (by decide) c218)
        refine Z_iconst 232 (nI 1) dL_talks_231 rfl rfl ?_
        refine Z_goto 236 dL_talks_232 rfl ?_
        exact Z_zret dL_talks_236 rfl (by first | exact Or.inl rfl | exact Or.inr rfl | exact bI_01) (by first | exact actOk (hA.v hF) | exact actOk (Act.noV sy hF))
      · skip
        refine Z_iload 111 5 dL_talks_109 rfl rfl ?_
        refine Z_if_ne 114 126 dL_talks_111 rfl rfl (fun c111 => absurd c111 (by decide)) (fun c111 => ?_)
        refine Z_iload 116 0 dL_talks_114 rfl rfl ?_
        refine Z_if_eq 119 126 dL_talks_116 rfl rfl (fun c116 => absurd c116 (fun z => absurd (nz z (by omega)) (by omega))) (fun c116 => ?_)
        refine Z_iload 121 0 dL_talks_119 rfl rfl ?_
        refine Z_bipush 123 (nI 31) dL_talks_121 rfl rfl ?_
        refine Z_icmp_ne 126 130 dL_talks_123 rfl rfl (fun c123 => ?_) (fun c123 => absurd (fun z => absurd (eqN z (by omega) (by omega)) (by omega)) c123)
        refine Z_iconst 131 (nI 0) dL_talks_130 rfl rfl ?_
        refine Z_istore 133 [(11, _), (10, _), (9, _), (8, _), (7, _), (6, _), (5, _), (4, _), (3, _), (0, _), (1, _), (2, _)] dL_talks_131 rfl (Nat.le_of_ble_eq_true rfl) rfl ?_
        refine Z_aload_n 134 9 dL_talks_133 rfl rfl ?_
        refine Z_iload 136 7 dL_talks_134 rfl rfl ?_
        refine Z_iload 138 1 dL_talks_136 rfl rfl ?_
        refine Z_callV 141 [_, _] 3 (v_freeze sy hK hF e8 (by omega) (by omega)) dL_talks_138 rfl qL_90 kX3_freeze rfl rfl (Nat.le_of_ble_eq_true rfl) rfl rfl ⟨(Nat.le_of_ble_eq_true rfl), (Nat.le_of_ble_eq_true rfl)⟩ (Nat.le_of_ble_eq_true rfl) ⟨rfl, rfl⟩ ⟨(Nat.le_of_ble_eq_true rfl), (Nat.le_of_ble_eq_true rfl)⟩ (fun r9 w9 hp9 => ?_)
        obtain ⟨rfl, M, rfl, hA, hM⟩ := hp9
        have hk := hA.1.ok
        have g := hA.1.inv.g
        have hF : Fsv M M := Fsv.rf
        refine Z_istore 143 [(12, _), (11, _), (10, _), (9, _), (8, _), (7, _), (6, _), (5, _), (4, _), (3, _), (0, _), (1, _), (2, _)] dL_talks_141 rfl (Nat.le_of_ble_eq_true rfl) rfl ?_
        refine Z_iload 145 0 dL_talks_143 rfl rfl ?_
        refine Z_iload 147 1 dL_talks_145 rfl rfl ?_
        refine Z_if_eq 150 154 dL_talks_147 rfl rfl (fun c147 => ?_) (fun c147 => absurd (by decide) c147)
        refine Z_iload 156 5 dL_talks_154 rfl rfl ?_
        refine Z_iload 158 3 dL_talks_156 rfl rfl ?_
        refine Z_iadd 159 dL_talks_158 rfl ?_
        refine Z_icmp_ne 162 235 dL_talks_159 rfl rfl (fun c159 => absurd c159 (fun z => z rfl)) (fun c159 => ?_)
        refine Z_aload_n 163 10 dL_talks_162 rfl rfl ?_
        refine Z_bipush 165 (nI 6) dL_talks_163 rfl rfl ?_
        refine Z_callV 168 [_] 3 (v_count6 hF hk) dL_talks_165 rfl qL_13 kX3_count rfl rfl (Nat.le_of_ble_eq_true rfl) rfl rfl ⟨(Nat.le_of_ble_eq_true rfl), (Nat.le_of_ble_eq_true rfl)⟩ (Nat.le_of_ble_eq_true rfl) ⟨rfl, rfl⟩ ⟨(Nat.le_of_ble_eq_true rfl), (Nat.le_of_ble_eq_true rfl)⟩ (fun r9 w9 hp9 => ?_)
        obtain ⟨rfl, mm, rfl, hF⟩ := hp9
        refine Z_iload 170 5 dL_talks_168 rfl rfl ?_
        refine Z_iload 172 1 dL_talks_170 rfl rfl ?_
        refine Z_if_eq 175 179 dL_talks_172 rfl rfl (fun c172 => ?_) (fun c172 => absurd (by decide) c172)
        refine Z_iload 181 3 dL_talks_179 rfl rfl ?_
        refine Z_iadd 182 dL_talks_181 rfl ?_
        refine Z_icmp_ne 185 235 dL_talks_182 rfl rfl (fun c182 => absurd c182 (fun z => z hM.1)) (fun c182 => ?_)
        refine Z_iload 187 7 dL_talks_185 rfl rfl ?_
        refine Z_if_ne 190 231 dL_talks_187 rfl rfl (fun c187 => absurd c187 (by decide)) (fun c187 => ?_)
        refine Z_aload_n 191 10 dL_talks_190 rfl rfl ?_
        refine Z_iload 193 8 dL_talks_191 rfl rfl ?_
        refine Z_bipush 195 (nI 6) dL_talks_193 rfl rfl ?_
        refine Z_callV 198 [_, _] 3 (v_treaty6 hF hk (by first | assumption | omega)) dL_talks_195 rfl qL_23 kX3_treaty rfl rfl (Nat.le_of_ble_eq_true rfl) rfl rfl ⟨(Nat.le_of_ble_eq_true rfl), (Nat.le_of_ble_eq_true rfl)⟩ (Nat.le_of_ble_eq_true rfl) ⟨rfl, rfl⟩ ⟨(Nat.le_of_ble_eq_true rfl), (Nat.le_of_ble_eq_true rfl)⟩ (fun r9 w9 hp9 => ?_)
        obtain ⟨rfl, mm, rfl, hF⟩ := hp9
        refine Z_iload 200 1 dL_talks_198 rfl rfl ?_
        refine Z_if_eq 203 208 dL_talks_200 rfl rfl (fun c200 => ?_) (fun c200 => absurd (by decide) c200)
        refine Z_iload 210 6 dL_talks_208 rfl rfl ?_
        refine Z_iload 212 2 dL_talks_210 rfl rfl ?_
        refine Z_iadd 213 dL_talks_212 rfl ?_
        refine Z_icmp_ne 216 235 dL_talks_213 rfl rfl (fun c213 => absurd c213 (fun z => z hM.2.1)) (fun c213 => ?_)
        refine Z_iload 218 1 dL_talks_216 rfl rfl ?_
        refine Z_if_ne 221 231 dL_talks_218 rfl rfl (fun c218 => absurd c218 (by decide)) (fun c218 => ?_)
        refine Z_aload_n 222 10 dL_talks_221 rfl rfl ?_
        refine Z_iload 224 8 dL_talks_222 rfl rfl ?_
        refine Z_iconst 225 (nI 3) dL_talks_224 rfl rfl ?_
        refine Z_callV 228 [_, _] 3 (v_treaty3 hF hk (by first | assumption | omega)) dL_talks_225 rfl qL_23 kX3_treaty rfl rfl (Nat.le_of_ble_eq_true rfl) rfl rfl ⟨(Nat.le_of_ble_eq_true rfl), (Nat.le_of_ble_eq_true rfl)⟩ (Nat.le_of_ble_eq_true rfl) ⟨rfl, rfl⟩ ⟨(Nat.le_of_ble_eq_true rfl), (Nat.le_of_ble_eq_true rfl)⟩ (fun r9 w9 hp9 => ?_)
        obtain ⟨rfl, mm, rfl, hF⟩ := hp9
        refine Z_if_ne 231 235 dL_talks_228 rfl rfl (fun c228 => absurd c228 (fun z => z (bI_z hM.2.2))) (fun c228 => ?_)
        refine Z_iconst 232 (nI 1) dL_talks_231 rfl rfl ?_
        refine Z_goto 236 dL_talks_232 rfl ?_
        exact Z_zret dL_talks_236 rfl (by first | exact Or.inl rfl | exact Or.inr rfl | exact bI_01) (by first | exact actOk (hA.v hF) | exact actOk (Act.noV sy hF))
    refine Z_iload 17 0 dL_talks_15 rfl rfl ?_
    refine Z_iload_n 18 1 dL_talks_17 rfl rfl ?_
    refine Z_icmp_ne 21 25 dL_talks_18 rfl rfl (fun c18 => ?_) (fun c18 => absurd (fun z => absurd (eqN z (by omega) (by omega)) (by omega)) c18)
    refine Z_iconst 26 (nI 0) dL_talks_25 rfl rfl ?_
    refine Z_istore 28 [(5, _), (4, _), (3, _), (0, _), (1, _), (2, _)] dL_talks_26 rfl (Nat.le_of_ble_eq_true rfl) rfl ?_
    refine Z_aload_n 29 3 dL_talks_28 rfl rfl ?_
    refine Z_iconst 30 (nI 0) dL_talks_29 rfl rfl ?_
    refine Z_callV 33 [_] 3 (v_count0 hF hk) dL_talks_30 rfl qL_13 kX3_count rfl rfl (Nat.le_of_ble_eq_true rfl) rfl rfl ⟨(Nat.le_of_ble_eq_true rfl), (Nat.le_of_ble_eq_true rfl)⟩ (Nat.le_of_ble_eq_true rfl) ⟨rfl, rfl⟩ ⟨(Nat.le_of_ble_eq_true rfl), (Nat.le_of_ble_eq_true rfl)⟩ (fun r9 w9 hp9 => ?_)
    obtain ⟨rfl, mm, rfl, hF⟩ := hp9
    refine Z_istore 35 [(6, _), (5, _), (4, _), (3, _), (0, _), (1, _), (2, _)] dL_talks_33 rfl (Nat.le_of_ble_eq_true rfl) rfl ?_
    refine Z_aload_n 36 4 dL_talks_35 rfl rfl ?_
    refine Z_bipush 38 (nI 6) dL_talks_36 rfl rfl ?_
    refine Z_callV 41 [_] 3 (v_count6 hF hk) dL_talks_38 rfl qL_13 kX3_count rfl rfl (Nat.le_of_ble_eq_true rfl) rfl rfl ⟨(Nat.le_of_ble_eq_true rfl), (Nat.le_of_ble_eq_true rfl)⟩ (Nat.le_of_ble_eq_true rfl) ⟨rfl, rfl⟩ ⟨(Nat.le_of_ble_eq_true rfl), (Nat.le_of_ble_eq_true rfl)⟩ (fun r9 w9 hp9 => ?_)
    obtain ⟨rfl, mm, rfl, hF⟩ := hp9
    refine Z_istore 43 [(7, _), (6, _), (5, _), (4, _), (3, _), (0, _), (1, _), (2, _)] dL_talks_41 rfl (Nat.le_of_ble_eq_true rfl) rfl ?_
    refine Z_iload 45 2 dL_talks_43 rfl rfl ?_
    refine Z_if_eq 48 52 dL_talks_45 rfl rfl (fun c45 => ?_) (fun c45 => absurd (by decide) c45)
    refine Z_aload_n 53 5 dL_talks_52 rfl rfl ?_
    refine Z_iload 55 3 dL_talks_53 rfl rfl ?_
    refine Z_bipush 57 (nI 6) dL_talks_55 rfl rfl ?_
    refine Z_callV 60 [_, _] 3 (v_treaty6 hF hk (by first | assumption | omega)) dL_talks_57 rfl qL_23 kX3_treaty rfl rfl (Nat.le_of_ble_eq_true rfl) rfl rfl ⟨(Nat.le_of_ble_eq_true rfl), (Nat.le_of_ble_eq_true rfl)⟩ (Nat.le_of_ble_eq_true rfl) ⟨rfl, rfl⟩ ⟨(Nat.le_of_ble_eq_true rfl), (Nat.le_of_ble_eq_true rfl)⟩ (fun r9 w9 hp9 => ?_)
    obtain ⟨rfl, mm, rfl, hF⟩ := hp9
    refine Z_istore 62 [(8, _), (7, _), (6, _), (5, _), (4, _), (3, _), (0, _), (1, _), (2, _)] dL_talks_60 rfl (Nat.le_of_ble_eq_true rfl) rfl ?_
    refine Z_iload 64 3 dL_talks_62 rfl rfl ?_
    refine Z_if_eq 67 71 dL_talks_64 rfl rfl (fun c64 => ?_) (fun c64 => absurd (by decide) c64)
    refine Z_aload_n 72 6 dL_talks_71 rfl rfl ?_
    refine Z_iload 74 4 dL_talks_72 rfl rfl ?_
    refine Z_iconst 75 (nI 4) dL_talks_74 rfl rfl ?_
    refine Z_callV 78 [_, _] 3 (v_treaty4 hF hk (by first | assumption | omega)) dL_talks_75 rfl qL_23 kX3_treaty rfl rfl (Nat.le_of_ble_eq_true rfl) rfl rfl ⟨(Nat.le_of_ble_eq_true rfl), (Nat.le_of_ble_eq_true rfl)⟩ (Nat.le_of_ble_eq_true rfl) ⟨rfl, rfl⟩ ⟨(Nat.le_of_ble_eq_true rfl), (Nat.le_of_ble_eq_true rfl)⟩ (fun r9 w9 hp9 => ?_)
    obtain ⟨rfl, mm, rfl, hF⟩ := hp9
    refine Z_istore 80 [(9, _), (8, _), (7, _), (6, _), (5, _), (4, _), (3, _), (0, _), (1, _), (2, _)] dL_talks_78 rfl (Nat.le_of_ble_eq_true rfl) rfl ?_
    refine Z_iload_n 81 8 dL_talks_80 rfl rfl ?_
    refine Z_if_ne 84 237 dL_talks_81 rfl rfl (fun c81 => absurd c81 (by decide)) (fun c81 => ?_)
    refine Z_iload_n 85 9 dL_talks_84 rfl rfl ?_
    refine Z_iconst 86 (nI 3) dL_talks_85 rfl rfl ?_
    refine Z_ishr 87 dL_talks_86 rfl ?_
    refine Z_iload_n 88 9 dL_talks_87 rfl rfl ?_
    refine Z_bipush 90 (nI 9) dL_talks_88 rfl rfl ?_
    refine Z_ishr 91 dL_talks_90 rfl ?_
    refine Z_iconst 92 (nI 3) dL_talks_91 rfl rfl ?_
    refine Z_callS 95 [_, _] (zL_low _ 3 (by decide)) dL_talks_92 rfl qL_39 kL_low rfl rfl ⟨(Nat.le_of_ble_eq_true rfl), (Nat.le_of_ble_eq_true rfl)⟩ (Nat.le_of_ble_eq_true rfl) ⟨rfl, rfl⟩ ⟨(Nat.le_of_ble_eq_true rfl), (Nat.le_of_ble_eq_true rfl)⟩ (fun r9 w9 hp9 => ?_)
    obtain ⟨⟨q92, hq92, rfl⟩, rfl⟩ := hp9
    refine Z_if_ne 98 103 dL_talks_95 rfl rfl (fun c95 => ?_) (fun c95 => ?_)
    · skip
      refine Z_iconst 104 (nI 5) dL_talks_103 rfl rfl ?_
      exact KJ mm 5 _ hF (by decide)
    · skip
      refine Z_bipush 100 (nI 32) dL_talks_98 rfl rfl ?_
      refine Z_goto 104 dL_talks_100 rfl ?_
      exact KJ mm 32 _ hF (by decide)

set_option maxRecDepth 100000 in
set_option maxHeartbeats 4000000 in
theorem zL_talks1 {G : zG} {l : Launch} {h : Nat → Nat} {m : zM} {K n s : Nat} {mm : zM} (sy : Sy K h m n s) (hK : K ≤ 1000) (hF : Fsv m mm) (y : Int32) : zMet G l yL_talks mL_talks [.ref (G.1 + 0), .int (nI 1), .int y] (zw h mm) (actP K h m n s) 0 0 := by
  refine zMet_of [(0, .ref (G.1 + 0)), (1, .int (nI 1)), (2, .int y)] (by decide +kernel) rfl (Or.inl rfl) (Nat.le_of_ble_eq_true rfl) rfl ?_
  have hI := sy.inv
  have hn := hI.n14
  have hk := sy.ok
  have g := hI.g
  refine Z_aload_n 1 0 dL_talks_0 rfl rfl ?_
  refine Z_iconst 2 (nI 1) dL_talks_1 rfl rfl ?_
  refine Z_callV 5 [_] 3 (v_count1 hF hk) dL_talks_2 rfl qL_13 kX3_count rfl rfl (Nat.le_of_ble_eq_true rfl) rfl rfl ⟨(Nat.le_of_ble_eq_true rfl), (Nat.le_of_ble_eq_true rfl)⟩ (Nat.le_of_ble_eq_true rfl) ⟨rfl, rfl⟩ ⟨(Nat.le_of_ble_eq_true rfl), (Nat.le_of_ble_eq_true rfl)⟩ (fun r9 w9 hp9 => ?_)
  obtain ⟨rfl, mm, rfl, hF⟩ := hp9
  refine Z_istore_n 6 [(3, _), (0, _), (1, _), (2, _)] dL_talks_5 rfl (Nat.le_of_ble_eq_true rfl) rfl ?_
  refine Z_iload_n 7 3 dL_talks_6 rfl rfl ?_
  refine Z_iload_n 8 0 dL_talks_7 rfl rfl ?_
  refine Z_iconst 9 (nI 1) dL_talks_8 rfl rfl ?_
  refine Z_iadd 10 dL_talks_9 rfl ?_
  refine Z_top (v' := .int (nI (n + 1))) (congrArg Value.int (nI_add n 1)) ?_
  refine Z_callS 13 [_, _] (zL_low _ (n + 1) (by omega)) dL_talks_10 rfl qL_39 kL_low rfl rfl ⟨(Nat.le_of_ble_eq_true rfl), (Nat.le_of_ble_eq_true rfl)⟩ (Nat.le_of_ble_eq_true rfl) ⟨rfl, rfl⟩ ⟨(Nat.le_of_ble_eq_true rfl), (Nat.le_of_ble_eq_true rfl)⟩ (fun r9 w9 hp9 => ?_)
  obtain ⟨⟨q10, hq10, rfl⟩, rfl⟩ := hp9
  refine Z_istore 15 [(4, _), (3, _), (0, _), (1, _), (2, _)] dL_talks_13 rfl (Nat.le_of_ble_eq_true rfl) rfl ?_
  rcases (show n = q10 ∨ q10 < n by omega) with e8 | e8
  · subst e8
    refine Z_iload 17 0 dL_talks_15 rfl rfl ?_
    refine Z_iload_n 18 1 dL_talks_17 rfl rfl ?_
    refine Z_icmp_ne 21 25 dL_talks_18 rfl rfl (fun c18 => absurd c18 (fun z => z rfl)) (fun c18 => ?_)
    refine Z_iconst 22 (nI 1) dL_talks_21 rfl rfl ?_
    refine Z_goto 26 dL_talks_22 rfl ?_
    refine Z_istore 28 [(5, _), (4, _), (3, _), (0, _), (1, _), (2, _)] dL_talks_26 rfl (Nat.le_of_ble_eq_true rfl) rfl ?_
    refine Z_aload_n 29 3 dL_talks_28 rfl rfl ?_
    refine Z_iconst 30 (nI 0) dL_talks_29 rfl rfl ?_
    refine Z_callV 33 [_] 3 (v_count0 hF hk) dL_talks_30 rfl qL_13 kX3_count rfl rfl (Nat.le_of_ble_eq_true rfl) rfl rfl ⟨(Nat.le_of_ble_eq_true rfl), (Nat.le_of_ble_eq_true rfl)⟩ (Nat.le_of_ble_eq_true rfl) ⟨rfl, rfl⟩ ⟨(Nat.le_of_ble_eq_true rfl), (Nat.le_of_ble_eq_true rfl)⟩ (fun r9 w9 hp9 => ?_)
    obtain ⟨rfl, mm, rfl, hF⟩ := hp9
    refine Z_istore 35 [(6, _), (5, _), (4, _), (3, _), (0, _), (1, _), (2, _)] dL_talks_33 rfl (Nat.le_of_ble_eq_true rfl) rfl ?_
    refine Z_aload_n 36 4 dL_talks_35 rfl rfl ?_
    refine Z_bipush 38 (nI 6) dL_talks_36 rfl rfl ?_
    refine Z_callV 41 [_] 3 (v_count6 hF hk) dL_talks_38 rfl qL_13 kX3_count rfl rfl (Nat.le_of_ble_eq_true rfl) rfl rfl ⟨(Nat.le_of_ble_eq_true rfl), (Nat.le_of_ble_eq_true rfl)⟩ (Nat.le_of_ble_eq_true rfl) ⟨rfl, rfl⟩ ⟨(Nat.le_of_ble_eq_true rfl), (Nat.le_of_ble_eq_true rfl)⟩ (fun r9 w9 hp9 => ?_)
    obtain ⟨rfl, mm, rfl, hF⟩ := hp9
    refine Z_istore 43 [(7, _), (6, _), (5, _), (4, _), (3, _), (0, _), (1, _), (2, _)] dL_talks_41 rfl (Nat.le_of_ble_eq_true rfl) rfl ?_
    refine Z_iload 45 2 dL_talks_43 rfl rfl ?_
    refine Z_if_eq 48 52 dL_talks_45 rfl rfl (fun c45 => absurd c45 (by decide)) (fun c45 => ?_)
    refine Z_iconst 49 (nI 0) dL_talks_48 rfl rfl ?_
    refine Z_goto 60 dL_talks_49 rfl ?_
    refine Z_istore 62 [(8, _), (7, _), (6, _), (5, _), (4, _), (3, _), (0, _), (1, _), (2, _)] dL_talks_60 rfl (Nat.le_of_ble_eq_true rfl) rfl ?_
    refine Z_iload 64 3 dL_talks_62 rfl rfl ?_
    refine Z_if_eq 67 71 dL_talks_64 rfl rfl (fun c64 => absurd c64 (by decide)) (fun c64 => ?_)
    refine Z_iconst 68 (nI 0) dL_talks_67 rfl rfl ?_
    refine Z_goto 78 dL_talks_68 rfl ?_
    refine Z_istore 80 [(9, _), (8, _), (7, _), (6, _), (5, _), (4, _), (3, _), (0, _), (1, _), (2, _)] dL_talks_78 rfl (Nat.le_of_ble_eq_true rfl) rfl ?_
    refine Z_iload_n 81 8 dL_talks_80 rfl rfl ?_
    refine Z_if_ne 84 237 dL_talks_81 rfl rfl (fun c81 => ?_) (fun c81 => absurd (by decide) c81)
    refine Z_iload_n 238 8 dL_talks_237 rfl rfl ?_
    refine Z_iconst 239 (nI 1) dL_talks_238 rfl rfl ?_
    refine Z_icmp_ne 242 412 dL_talks_239 rfl rfl (fun c239 => absurd c239 (by decide)) (fun c239 => ?_)
    refine Z_iload 244 1 dL_talks_242 rfl rfl ?_
    refine Z_iload 246 3 dL_talks_244 rfl rfl ?_
    refine Z_isub 247 dL_talks_246 rfl ?_
    refine Z_istore 249 [(10, _), (9, _), (8, _), (7, _), (6, _), (5, _), (4, _), (3, _), (0, _), (1, _), (2, _)] dL_talks_247 rfl (Nat.le_of_ble_eq_true rfl) rfl ?_
    refine Z_iload 251 5 dL_talks_249 rfl rfl ?_
    refine Z_if_eq 254 258 dL_talks_251 rfl rfl (fun c251 => absurd c251 (by decide)) (fun c251 => ?_)
    refine Z_iconst 255 (nI 0) dL_talks_254 rfl rfl ?_
    refine Z_goto 280 dL_talks_255 rfl ?_
    refine Z_istore 282 [(11, _), (10, _), (9, _), (8, _), (7, _), (6, _), (5, _), (4, _), (3, _), (0, _), (1, _), (2, _)] dL_talks_280 rfl (Nat.le_of_ble_eq_true rfl) rfl ?_
    refine Z_aload_n 283 9 dL_talks_282 rfl rfl ?_
    refine Z_bipush 285 (nI 8) dL_talks_283 rfl rfl ?_
    refine Z_callV 288 [_] 3 (v_count8 hF hk) dL_talks_285 rfl qL_13 kX3_count rfl rfl (Nat.le_of_ble_eq_true rfl) rfl rfl ⟨(Nat.le_of_ble_eq_true rfl), (Nat.le_of_ble_eq_true rfl)⟩ (Nat.le_of_ble_eq_true rfl) ⟨rfl, rfl⟩ ⟨(Nat.le_of_ble_eq_true rfl), (Nat.le_of_ble_eq_true rfl)⟩ (fun r9 w9 hp9 => ?_)
    obtain ⟨rfl, mm, rfl, hF⟩ := hp9
    refine Z_istore 290 [(12, _), (11, _), (10, _), (9, _), (8, _), (7, _), (6, _), (5, _), (4, _), (3, _), (0, _), (1, _), (2, _)] dL_talks_288 rfl (Nat.le_of_ble_eq_true rfl) rfl ?_
    refine Z_aload_n 291 10 dL_talks_290 rfl rfl ?_
    refine Z_iload 293 8 dL_talks_291 rfl rfl ?_
    refine Z_callV 296 [_] 3 (e_thaw sy hF) dL_talks_293 rfl qL_93 kX3_thaw rfl rfl (Nat.le_of_ble_eq_true rfl) rfl rfl ⟨(Nat.le_of_ble_eq_true rfl), (Nat.le_of_ble_eq_true rfl)⟩ (Nat.le_of_ble_eq_true rfl) ⟨rfl, rfl⟩ ⟨(Nat.le_of_ble_eq_true rfl), (Nat.le_of_ble_eq_true rfl)⟩ (fun r9 w9 hp9 => ?_)
    obtain ⟨rfl, mm, rfl, hF⟩ := hp9
    refine Z_istore 298 [(13, _), (12, _), (11, _), (10, _), (9, _), (8, _), (7, _), (6, _), (5, _), (4, _), (3, _), (0, _), (1, _), (2, _)] dL_talks_296 rfl (Nat.le_of_ble_eq_true rfl) rfl ?_
    refine Z_iload 300 0 dL_talks_298 rfl rfl ?_
    refine Z_iload 302 8 dL_talks_300 rfl rfl ?_
    refine Z_if_eq 305 309 dL_talks_302 rfl rfl (fun c302 => absurd c302 (by decide)) (fun c302 => ?_)
    refine Z_iconst 306 (-1) dL_talks_305 rfl rfl ?_
    refine Z_goto 327 dL_talks_306 rfl ?_
    refine Z_icmp_ne 330 410 dL_talks_327 rfl rfl (fun c327 => absurd c327 (by decide)) (fun c327 => ?_)
    refine Z_aload_n 331 11 dL_talks_330 rfl rfl ?_
    refine Z_bipush 333 (nI 8) dL_talks_331 rfl rfl ?_
    refine Z_callV 336 [_] 3 (v_count8 hF hk) dL_talks_333 rfl qL_13 kX3_count rfl rfl (Nat.le_of_ble_eq_true rfl) rfl rfl ⟨(Nat.le_of_ble_eq_true rfl), (Nat.le_of_ble_eq_true rfl)⟩ (Nat.le_of_ble_eq_true rfl) ⟨rfl, rfl⟩ ⟨(Nat.le_of_ble_eq_true rfl), (Nat.le_of_ble_eq_true rfl)⟩ (fun r9 w9 hp9 => ?_)
    obtain ⟨rfl, mm, rfl, hF⟩ := hp9
    refine Z_iload 338 1 dL_talks_336 rfl rfl ?_
    refine Z_iload 340 2 dL_talks_338 rfl rfl ?_
    refine Z_if_le 343 347 dL_talks_340 rfl rfl (fun c340 => ?_) (fun c340 => absurd (by decide) c340)
    refine Z_iconst 348 (nI 0) dL_talks_347 rfl rfl ?_
    refine Z_iadd 349 dL_talks_348 rfl ?_
    refine Z_icmp_ne 352 410 dL_talks_349 rfl rfl (fun c349 => absurd c349 (fun z => z (ad0 _))) (fun c349 => ?_)
    refine Z_iload 354 8 dL_talks_352 rfl rfl ?_
    refine Z_if_ne 357 380 dL_talks_354 rfl rfl (fun c354 => ?_) (fun c354 => absurd (by decide) c354)
    refine Z_aload_n 381 11 dL_talks_380 rfl rfl ?_
    refine Z_bipush 383 (nI 6) dL_talks_381 rfl rfl ?_
    refine Z_callV 386 [_] 3 (v_count6 hF hk) dL_talks_383 rfl qL_13 kX3_count rfl rfl (Nat.le_of_ble_eq_true rfl) rfl rfl ⟨(Nat.le_of_ble_eq_true rfl), (Nat.le_of_ble_eq_true rfl)⟩ (Nat.le_of_ble_eq_true rfl) ⟨rfl, rfl⟩ ⟨(Nat.le_of_ble_eq_true rfl), (Nat.le_of_ble_eq_true rfl)⟩ (fun r9 w9 hp9 => ?_)
    obtain ⟨rfl, mm, rfl, hF⟩ := hp9
    refine Z_iload 388 0 dL_talks_386 rfl rfl ?_
    refine Z_bipush 390 (nI 10) dL_talks_388 rfl rfl ?_
    refine Z_icmp_lt 393 401 dL_talks_390 rfl rfl (fun c390 => ?_) (fun c390 => absurd (by decide) c390)
    refine Z_iload 403 6 dL_talks_401 rfl rfl ?_
    refine Z_icmp_ne 406 410 dL_talks_403 rfl rfl (fun c403 => absurd c403 (fun z => z rfl)) (fun c403 => ?_)
    refine Z_iconst 407 (nI 1) dL_talks_406 rfl rfl ?_
    refine Z_goto 411 dL_talks_407 rfl ?_
    exact Z_zret dL_talks_411 rfl (by first | exact Or.inl rfl | exact Or.inr rfl | exact bI_01) (by first | exact actOk (hA.v hF) | exact actOk (Act.noV sy hF))
  · skip
    refine Z_iload 17 0 dL_talks_15 rfl rfl ?_
    refine Z_iload_n 18 1 dL_talks_17 rfl rfl ?_
    refine Z_icmp_ne 21 25 dL_talks_18 rfl rfl (fun c18 => ?_) (fun c18 => absurd (fun z => absurd (eqN z (by omega) (by omega)) (by omega)) c18)
    refine Z_iconst 26 (nI 0) dL_talks_25 rfl rfl ?_
    refine Z_istore 28 [(5, _), (4, _), (3, _), (0, _), (1, _), (2, _)] dL_talks_26 rfl (Nat.le_of_ble_eq_true rfl) rfl ?_
    refine Z_aload_n 29 3 dL_talks_28 rfl rfl ?_
    refine Z_iconst 30 (nI 0) dL_talks_29 rfl rfl ?_
    refine Z_callV 33 [_] 3 (v_count0 hF hk) dL_talks_30 rfl qL_13 kX3_count rfl rfl (Nat.le_of_ble_eq_true rfl) rfl rfl ⟨(Nat.le_of_ble_eq_true rfl), (Nat.le_of_ble_eq_true rfl)⟩ (Nat.le_of_ble_eq_true rfl) ⟨rfl, rfl⟩ ⟨(Nat.le_of_ble_eq_true rfl), (Nat.le_of_ble_eq_true rfl)⟩ (fun r9 w9 hp9 => ?_)
    obtain ⟨rfl, mm, rfl, hF⟩ := hp9
    refine Z_istore 35 [(6, _), (5, _), (4, _), (3, _), (0, _), (1, _), (2, _)] dL_talks_33 rfl (Nat.le_of_ble_eq_true rfl) rfl ?_
    refine Z_aload_n 36 4 dL_talks_35 rfl rfl ?_
    refine Z_bipush 38 (nI 6) dL_talks_36 rfl rfl ?_
    refine Z_callV 41 [_] 3 (v_count6 hF hk) dL_talks_38 rfl qL_13 kX3_count rfl rfl (Nat.le_of_ble_eq_true rfl) rfl rfl ⟨(Nat.le_of_ble_eq_true rfl), (Nat.le_of_ble_eq_true rfl)⟩ (Nat.le_of_ble_eq_true rfl) ⟨rfl, rfl⟩ ⟨(Nat.le_of_ble_eq_true rfl), (Nat.le_of_ble_eq_true rfl)⟩ (fun r9 w9 hp9 => ?_)
    obtain ⟨rfl, mm, rfl, hF⟩ := hp9
    refine Z_istore 43 [(7, _), (6, _), (5, _), (4, _), (3, _), (0, _), (1, _), (2, _)] dL_talks_41 rfl (Nat.le_of_ble_eq_true rfl) rfl ?_
    refine Z_iload 45 2 dL_talks_43 rfl rfl ?_
    refine Z_if_eq 48 52 dL_talks_45 rfl rfl (fun c45 => ?_) (fun c45 => absurd (by decide) c45)
    refine Z_aload_n 53 5 dL_talks_52 rfl rfl ?_
    refine Z_iload 55 3 dL_talks_53 rfl rfl ?_
    refine Z_bipush 57 (nI 6) dL_talks_55 rfl rfl ?_
    refine Z_callV 60 [_, _] 3 (v_treaty6 hF hk (by first | assumption | omega)) dL_talks_57 rfl qL_23 kX3_treaty rfl rfl (Nat.le_of_ble_eq_true rfl) rfl rfl ⟨(Nat.le_of_ble_eq_true rfl), (Nat.le_of_ble_eq_true rfl)⟩ (Nat.le_of_ble_eq_true rfl) ⟨rfl, rfl⟩ ⟨(Nat.le_of_ble_eq_true rfl), (Nat.le_of_ble_eq_true rfl)⟩ (fun r9 w9 hp9 => ?_)
    obtain ⟨rfl, mm, rfl, hF⟩ := hp9
    refine Z_istore 62 [(8, _), (7, _), (6, _), (5, _), (4, _), (3, _), (0, _), (1, _), (2, _)] dL_talks_60 rfl (Nat.le_of_ble_eq_true rfl) rfl ?_
    refine Z_iload 64 3 dL_talks_62 rfl rfl ?_
    refine Z_if_eq 67 71 dL_talks_64 rfl rfl (fun c64 => ?_) (fun c64 => absurd (by decide) c64)
    refine Z_aload_n 72 6 dL_talks_71 rfl rfl ?_
    refine Z_iload 74 4 dL_talks_72 rfl rfl ?_
    refine Z_iconst 75 (nI 4) dL_talks_74 rfl rfl ?_
    refine Z_callV 78 [_, _] 3 (v_treaty4 hF hk (by first | assumption | omega)) dL_talks_75 rfl qL_23 kX3_treaty rfl rfl (Nat.le_of_ble_eq_true rfl) rfl rfl ⟨(Nat.le_of_ble_eq_true rfl), (Nat.le_of_ble_eq_true rfl)⟩ (Nat.le_of_ble_eq_true rfl) ⟨rfl, rfl⟩ ⟨(Nat.le_of_ble_eq_true rfl), (Nat.le_of_ble_eq_true rfl)⟩ (fun r9 w9 hp9 => ?_)
    obtain ⟨rfl, mm, rfl, hF⟩ := hp9
    refine Z_istore 80 [(9, _), (8, _), (7, _), (6, _), (5, _), (4, _), (3, _), (0, _), (1, _), (2, _)] dL_talks_78 rfl (Nat.le_of_ble_eq_true rfl) rfl ?_
    refine Z_iload_n 81 8 dL_talks_80 rfl rfl ?_
    refine Z_if_ne 84 237 dL_talks_81 rfl rfl (fun c81 => ?_) (fun c81 => absurd (by decide) c81)
    refine Z_iload_n 238 8 dL_talks_237 rfl rfl ?_
    refine Z_iconst 239 (nI 1) dL_talks_238 rfl rfl ?_
    refine Z_icmp_ne 242 412 dL_talks_239 rfl rfl (fun c239 => absurd c239 (by decide)) (fun c239 => ?_)
    rcases (show sForce m 1 q10 ∨ ¬ sForce m 1 q10 from Decidable.em _) with hs | hs
    · skip
      refine Z_iload 244 1 dL_talks_242 rfl rfl ?_
      refine Z_iload 246 3 dL_talks_244 rfl rfl ?_
      refine Z_isub 247 dL_talks_246 rfl ?_
      refine Z_istore 249 [(10, _), (9, _), (8, _), (7, _), (6, _), (5, _), (4, _), (3, _), (0, _), (1, _), (2, _)] dL_talks_247 rfl (Nat.le_of_ble_eq_true rfl) rfl ?_
      refine Z_iload 251 5 dL_talks_249 rfl rfl ?_
      refine Z_if_eq 254 258 dL_talks_251 rfl rfl (fun c251 => ?_) (fun c251 => absurd (by decide) c251)
      refine Z_iload 260 0 dL_talks_258 rfl rfl ?_
      refine Z_if_gt 263 267 dL_talks_260 rfl rfl (fun c260 => absurd c260 (left_0 hI hK e8 hs)) (fun c260 => ?_)
      refine Z_iconst 264 (nI 5) dL_talks_263 rfl rfl ?_
      refine Z_goto 280 dL_talks_264 rfl ?_
      refine Z_istore 282 [(11, _), (10, _), (9, _), (8, _), (7, _), (6, _), (5, _), (4, _), (3, _), (0, _), (1, _), (2, _)] dL_talks_280 rfl (Nat.le_of_ble_eq_true rfl) rfl ?_
      refine Z_aload_n 283 9 dL_talks_282 rfl rfl ?_
      refine Z_bipush 285 (nI 8) dL_talks_283 rfl rfl ?_
      refine Z_callV 288 [_] 3 (v_count8 hF hk) dL_talks_285 rfl qL_13 kX3_count rfl rfl (Nat.le_of_ble_eq_true rfl) rfl rfl ⟨(Nat.le_of_ble_eq_true rfl), (Nat.le_of_ble_eq_true rfl)⟩ (Nat.le_of_ble_eq_true rfl) ⟨rfl, rfl⟩ ⟨(Nat.le_of_ble_eq_true rfl), (Nat.le_of_ble_eq_true rfl)⟩ (fun r9 w9 hp9 => ?_)
      obtain ⟨rfl, mm, rfl, hF⟩ := hp9
      refine Z_istore 290 [(12, _), (11, _), (10, _), (9, _), (8, _), (7, _), (6, _), (5, _), (4, _), (3, _), (0, _), (1, _), (2, _)] dL_talks_288 rfl (Nat.le_of_ble_eq_true rfl) rfl ?_
      refine Z_aload_n 291 10 dL_talks_290 rfl rfl ?_
      refine Z_iload 293 8 dL_talks_291 rfl rfl ?_
      refine Z_callV 296 [_] 3 (v_thawA sy hF e8 hs) dL_talks_293 rfl qL_93 kX3_thaw rfl rfl (Nat.le_of_ble_eq_true rfl) rfl rfl ⟨(Nat.le_of_ble_eq_true rfl), (Nat.le_of_ble_eq_true rfl)⟩ (Nat.le_of_ble_eq_true rfl) ⟨rfl, rfl⟩ ⟨(Nat.le_of_ble_eq_true rfl), (Nat.le_of_ble_eq_true rfl)⟩ (fun r9 w9 hp9 => ?_)
      obtain ⟨rfl, M, rfl, hA, hM⟩ := hp9
      have hk := hA.1.ok
      have g := hA.1.inv.g
      have hF : Fsv M M := Fsv.rf
      refine Z_istore 298 [(13, _), (12, _), (11, _), (10, _), (9, _), (8, _), (7, _), (6, _), (5, _), (4, _), (3, _), (0, _), (1, _), (2, _)] dL_talks_296 rfl (Nat.le_of_ble_eq_true rfl) rfl ?_
      refine Z_iload 300 0 dL_talks_298 rfl rfl ?_
      refine Z_iload 302 8 dL_talks_300 rfl rfl ?_
      refine Z_if_eq 305 309 dL_talks_302 rfl rfl (fun c302 => ?_) (fun c302 => absurd (by decide) c302)
      refine Z_iload 311 2 dL_talks_309 rfl rfl ?_
      refine Z_if_le 314 319 dL_talks_311 rfl rfl (fun c311 => absurd c311 (by decide)) (fun c311 => ?_)
      refine Z_iload 316 2 dL_talks_314 rfl rfl ?_
      refine Z_goto 327 dL_talks_316 rfl ?_
      refine Z_icmp_ne 330 410 dL_talks_327 rfl rfl (fun c327 => absurd c327 (by decide)) (fun c327 => ?_)
      refine Z_aload_n 331 11 dL_talks_330 rfl rfl ?_
      refine Z_bipush 333 (nI 8) dL_talks_331 rfl rfl ?_
      refine Z_callV 336 [_] 3 (v_count8 hF hk) dL_talks_333 rfl qL_13 kX3_count rfl rfl (Nat.le_of_ble_eq_true rfl) rfl rfl ⟨(Nat.le_of_ble_eq_true rfl), (Nat.le_of_ble_eq_true rfl)⟩ (Nat.le_of_ble_eq_true rfl) ⟨rfl, rfl⟩ ⟨(Nat.le_of_ble_eq_true rfl), (Nat.le_of_ble_eq_true rfl)⟩ (fun r9 w9 hp9 => ?_)
      obtain ⟨rfl, mm, rfl, hF⟩ := hp9
      refine Z_iload 338 1 dL_talks_336 rfl rfl ?_
      refine Z_iload 340 2 dL_talks_338 rfl rfl ?_
      refine Z_if_le 343 347 dL_talks_340 rfl rfl (fun c340 => absurd c340 (by decide)) (fun c340 => ?_)
      refine Z_iconst 344 (nI 1) dL_talks_343 rfl rfl ?_
      refine Z_goto 348 dL_talks_344 rfl ?_
      refine Z_iadd 349 dL_talks_348 rfl ?_
      refine Z_icmp_ne 352 410 dL_talks_349 rfl rfl (fun c349 => absurd c349 (fun z => z hM.1)) (fun c349 => ?_)
      refine Z_iload 354 8 dL_talks_352 rfl rfl ?_
      refine Z_if_ne 357 380 dL_talks_354 rfl rfl (fun c354 => absurd c354 (by decide)) (fun c354 => ?_)
      refine Z_aload_n 358 11 dL_talks_357 rfl rfl ?_
      refine Z_iload 360 9 dL_talks_358 rfl rfl ?_
      refine Z_bipush 362 (nI 6) dL_talks_360 rfl rfl ?_
      refine Z_callV 365 [_, _] 3 (v_treaty6 hF hk (by first | assumption | omega)) dL_talks_362 rfl qL_23 kX3_treaty rfl rfl (Nat.le_of_ble_eq_true rfl) rfl rfl ⟨(Nat.le_of_ble_eq_true rfl), (Nat.le_of_ble_eq_true rfl)⟩ (Nat.le_of_ble_eq_true rfl) ⟨rfl, rfl⟩ ⟨(Nat.le_of_ble_eq_true rfl), (Nat.le_of_ble_eq_true rfl)⟩ (fun r9 w9 hp9 => ?_)
      obtain ⟨rfl, mm, rfl, hF⟩ := hp9
      refine Z_iload 367 2 dL_talks_365 rfl rfl ?_
      refine Z_if_le 370 375 dL_talks_367 rfl rfl (fun c367 => absurd c367 (by decide)) (fun c367 => ?_)
      refine Z_iload 372 5 dL_talks_370 rfl rfl ?_
      refine Z_goto 377 dL_talks_372 rfl ?_
      refine Z_icmp_ne 380 410 dL_talks_377 rfl rfl (fun c377 => absurd c377 (fun z => z (by rw [hM.2.2.2.2.1]))) (fun c377 => ?_)
      refine Z_aload_n 381 11 dL_talks_380 rfl rfl ?_
      refine Z_bipush 383 (nI 6) dL_talks_381 rfl rfl ?_
      refine Z_callV 386 [_] 3 (v_count6 hF hk) dL_talks_383 rfl qL_13 kX3_count rfl rfl (Nat.le_of_ble_eq_true rfl) rfl rfl ⟨(Nat.le_of_ble_eq_true rfl), (Nat.le_of_ble_eq_true rfl)⟩ (Nat.le_of_ble_eq_true rfl) ⟨rfl, rfl⟩ ⟨(Nat.le_of_ble_eq_true rfl), (Nat.le_of_ble_eq_true rfl)⟩ (fun r9 w9 hp9 => ?_)
      obtain ⟨rfl, mm, rfl, hF⟩ := hp9
      refine Z_iload 388 0 dL_talks_386 rfl rfl ?_
      refine Z_bipush 390 (nI 10) dL_talks_388 rfl rfl ?_
      refine Z_icmp_lt 393 401 dL_talks_390 rfl rfl (fun c390 => ?_) (fun c390 => absurd (by decide) c390)
      refine Z_iload 403 6 dL_talks_401 rfl rfl ?_
      refine Z_icmp_ne 406 410 dL_talks_403 rfl rfl (fun c403 => absurd c403 (fun z => z hM.2.2.2.2.2)) (fun c403 => ?_)
      refine Z_iconst 407 (nI 1) dL_talks_406 rfl rfl ?_
      refine Z_goto 411 dL_talks_407 rfl ?_
      exact Z_zret dL_talks_411 rfl (by first | exact Or.inl rfl | exact Or.inr rfl | exact bI_01) (by first | exact actOk (hA.v hF) | exact actOk (Act.noV sy hF))
    · rcases (show m 1 10 < m 9 q10 - m 1 9 ∨ ¬ m 1 10 < m 9 q10 - m 1 9 from Decidable.em _) with c2 | c2
      · skip
        refine Z_iload 244 1 dL_talks_242 rfl rfl ?_
        refine Z_iload 246 3 dL_talks_244 rfl rfl ?_
        refine Z_isub 247 dL_talks_246 rfl ?_
        refine Z_istore 249 [(10, _), (9, _), (8, _), (7, _), (6, _), (5, _), (4, _), (3, _), (0, _), (1, _), (2, _)] dL_talks_247 rfl (Nat.le_of_ble_eq_true rfl) rfl ?_
        refine Z_iload 251 5 dL_talks_249 rfl rfl ?_
        refine Z_if_eq 254 258 dL_talks_251 rfl rfl (fun c251 => ?_) (fun c251 => absurd (by decide) c251)
        refine Z_iload 260 0 dL_talks_258 rfl rfl ?_
        refine Z_if_gt 263 267 dL_talks_260 rfl rfl (fun c260 => ?_) (fun c260 => absurd (left_1 hI hK e8 hs) c260)
        refine Z_iload 269 0 dL_talks_267 rfl rfl ?_
        refine Z_iload 271 3 dL_talks_269 rfl rfl ?_
        refine Z_icmp_le 274 279 dL_talks_271 rfl rfl (fun c271 => absurd c271 (Int32.not_le.mpr c2)) (fun c271 => ?_)
        refine Z_bipush 276 (nI 6) dL_talks_274 rfl rfl ?_
        refine Z_goto 280 dL_talks_276 rfl ?_
        refine Z_istore 282 [(11, _), (10, _), (9, _), (8, _), (7, _), (6, _), (5, _), (4, _), (3, _), (0, _), (1, _), (2, _)] dL_talks_280 rfl (Nat.le_of_ble_eq_true rfl) rfl ?_
        refine Z_aload_n 283 9 dL_talks_282 rfl rfl ?_
        refine Z_bipush 285 (nI 8) dL_talks_283 rfl rfl ?_
        refine Z_callV 288 [_] 3 (v_count8 hF hk) dL_talks_285 rfl qL_13 kX3_count rfl rfl (Nat.le_of_ble_eq_true rfl) rfl rfl ⟨(Nat.le_of_ble_eq_true rfl), (Nat.le_of_ble_eq_true rfl)⟩ (Nat.le_of_ble_eq_true rfl) ⟨rfl, rfl⟩ ⟨(Nat.le_of_ble_eq_true rfl), (Nat.le_of_ble_eq_true rfl)⟩ (fun r9 w9 hp9 => ?_)
        obtain ⟨rfl, mm, rfl, hF⟩ := hp9
        refine Z_istore 290 [(12, _), (11, _), (10, _), (9, _), (8, _), (7, _), (6, _), (5, _), (4, _), (3, _), (0, _), (1, _), (2, _)] dL_talks_288 rfl (Nat.le_of_ble_eq_true rfl) rfl ?_
        refine Z_aload_n 291 10 dL_talks_290 rfl rfl ?_
        refine Z_iload 293 8 dL_talks_291 rfl rfl ?_
        refine Z_callV 296 [_] 3 (v_thawB sy hF e8 hs c2) dL_talks_293 rfl qL_93 kX3_thaw rfl rfl (Nat.le_of_ble_eq_true rfl) rfl rfl ⟨(Nat.le_of_ble_eq_true rfl), (Nat.le_of_ble_eq_true rfl)⟩ (Nat.le_of_ble_eq_true rfl) ⟨rfl, rfl⟩ ⟨(Nat.le_of_ble_eq_true rfl), (Nat.le_of_ble_eq_true rfl)⟩ (fun r9 w9 hp9 => ?_)
        obtain ⟨rfl, M, rfl, hA, hM⟩ := hp9
        have hk := hA.1.ok
        have g := hA.1.inv.g
        have hF : Fsv M M := Fsv.rf
        refine Z_istore 298 [(13, _), (12, _), (11, _), (10, _), (9, _), (8, _), (7, _), (6, _), (5, _), (4, _), (3, _), (0, _), (1, _), (2, _)] dL_talks_296 rfl (Nat.le_of_ble_eq_true rfl) rfl ?_
        refine Z_iload 300 0 dL_talks_298 rfl rfl ?_
        refine Z_iload 302 8 dL_talks_300 rfl rfl ?_
        refine Z_if_eq 305 309 dL_talks_302 rfl rfl (fun c302 => ?_) (fun c302 => absurd (by decide) c302)
        refine Z_iload 311 2 dL_talks_309 rfl rfl ?_
        refine Z_if_le 314 319 dL_talks_311 rfl rfl (fun c311 => absurd c311 (by decide)) (fun c311 => ?_)
        refine Z_iload 316 2 dL_talks_314 rfl rfl ?_
        refine Z_goto 327 dL_talks_316 rfl ?_
        refine Z_icmp_ne 330 410 dL_talks_327 rfl rfl (fun c327 => absurd c327 (by decide)) (fun c327 => ?_)
        refine Z_aload_n 331 11 dL_talks_330 rfl rfl ?_
        refine Z_bipush 333 (nI 8) dL_talks_331 rfl rfl ?_
        refine Z_callV 336 [_] 3 (v_count8 hF hk) dL_talks_333 rfl qL_13 kX3_count rfl rfl (Nat.le_of_ble_eq_true rfl) rfl rfl ⟨(Nat.le_of_ble_eq_true rfl), (Nat.le_of_ble_eq_true rfl)⟩ (Nat.le_of_ble_eq_true rfl) ⟨rfl, rfl⟩ ⟨(Nat.le_of_ble_eq_true rfl), (Nat.le_of_ble_eq_true rfl)⟩ (fun r9 w9 hp9 => ?_)
        obtain ⟨rfl, mm, rfl, hF⟩ := hp9
        refine Z_iload 338 1 dL_talks_336 rfl rfl ?_
        refine Z_iload 340 2 dL_talks_338 rfl rfl ?_
        refine Z_if_le 343 347 dL_talks_340 rfl rfl (fun c340 => absurd c340 (by decide)) (fun c340 => ?_)
        refine Z_iconst 344 (nI 1) dL_talks_343 rfl rfl ?_
        refine Z_goto 348 dL_talks_344 rfl ?_
        refine Z_iadd 349 dL_talks_348 rfl ?_
        refine Z_icmp_ne 352 410 dL_talks_349 rfl rfl (fun c349 => absurd c349 (fun z => z hM.1)) (fun c349 => ?_)
        refine Z_iload 354 8 dL_talks_352 rfl rfl ?_
        refine Z_if_ne 357 380 dL_talks_354 rfl rfl (fun c354 => absurd c354 (by decide)) (fun c354 => ?_)
        refine Z_aload_n 358 11 dL_talks_357 rfl rfl ?_
        refine Z_iload 360 9 dL_talks_358 rfl rfl ?_
        refine Z_bipush 362 (nI 6) dL_talks_360 rfl rfl ?_
        refine Z_callV 365 [_, _] 3 (v_treaty6 hF hk (by first | assumption | omega)) dL_talks_362 rfl qL_23 kX3_treaty rfl rfl (Nat.le_of_ble_eq_true rfl) rfl rfl ⟨(Nat.le_of_ble_eq_true rfl), (Nat.le_of_ble_eq_true rfl)⟩ (Nat.le_of_ble_eq_true rfl) ⟨rfl, rfl⟩ ⟨(Nat.le_of_ble_eq_true rfl), (Nat.le_of_ble_eq_true rfl)⟩ (fun r9 w9 hp9 => ?_)
        obtain ⟨rfl, mm, rfl, hF⟩ := hp9
        refine Z_iload 367 2 dL_talks_365 rfl rfl ?_
        refine Z_if_le 370 375 dL_talks_367 rfl rfl (fun c367 => absurd c367 (by decide)) (fun c367 => ?_)
        refine Z_iload 372 5 dL_talks_370 rfl rfl ?_
        refine Z_goto 377 dL_talks_372 rfl ?_
        refine Z_icmp_ne 380 410 dL_talks_377 rfl rfl (fun c377 => absurd c377 (fun z => z (by rw [hM.2.2.2.2.1]))) (fun c377 => ?_)
        refine Z_aload_n 381 11 dL_talks_380 rfl rfl ?_
        refine Z_bipush 383 (nI 6) dL_talks_381 rfl rfl ?_
        refine Z_callV 386 [_] 3 (v_count6 hF hk) dL_talks_383 rfl qL_13 kX3_count rfl rfl (Nat.le_of_ble_eq_true rfl) rfl rfl ⟨(Nat.le_of_ble_eq_true rfl), (Nat.le_of_ble_eq_true rfl)⟩ (Nat.le_of_ble_eq_true rfl) ⟨rfl, rfl⟩ ⟨(Nat.le_of_ble_eq_true rfl), (Nat.le_of_ble_eq_true rfl)⟩ (fun r9 w9 hp9 => ?_)
        obtain ⟨rfl, mm, rfl, hF⟩ := hp9
        refine Z_iload 388 0 dL_talks_386 rfl rfl ?_
        refine Z_bipush 390 (nI 10) dL_talks_388 rfl rfl ?_
        refine Z_icmp_lt 393 401 dL_talks_390 rfl rfl (fun c390 => ?_) (fun c390 => absurd (by decide) c390)
        refine Z_iload 403 6 dL_talks_401 rfl rfl ?_
        refine Z_icmp_ne 406 410 dL_talks_403 rfl rfl (fun c403 => absurd c403 (fun z => z hM.2.2.2.2.2)) (fun c403 => ?_)
        refine Z_iconst 407 (nI 1) dL_talks_406 rfl rfl ?_
        refine Z_goto 411 dL_talks_407 rfl ?_
        exact Z_zret dL_talks_411 rfl (by first | exact Or.inl rfl | exact Or.inr rfl | exact bI_01) (by first | exact actOk (hA.v hF) | exact actOk (Act.noV sy hF))
      · skip
        refine Z_iload 244 1 dL_talks_242 rfl rfl ?_
        refine Z_iload 246 3 dL_talks_244 rfl rfl ?_
        refine Z_isub 247 dL_talks_246 rfl ?_
        refine Z_istore 249 [(10, _), (9, _), (8, _), (7, _), (6, _), (5, _), (4, _), (3, _), (0, _), (1, _), (2, _)] dL_talks_247 rfl (Nat.le_of_ble_eq_true rfl) rfl ?_
        refine Z_iload 251 5 dL_talks_249 rfl rfl ?_
        refine Z_if_eq 254 258 dL_talks_251 rfl rfl (fun c251 => ?_) (fun c251 => absurd (by decide) c251)
        refine Z_iload 260 0 dL_talks_258 rfl rfl ?_
        refine Z_if_gt 263 267 dL_talks_260 rfl rfl (fun c260 => ?_) (fun c260 => absurd (left_1 hI hK e8 hs) c260)
        refine Z_iload 269 0 dL_talks_267 rfl rfl ?_
        refine Z_iload 271 3 dL_talks_269 rfl rfl ?_
        refine Z_icmp_le 274 279 dL_talks_271 rfl rfl (fun c271 => ?_) (fun c271 => absurd (Int32.not_lt.mp c2) c271)
        refine Z_iconst 280 (nI 0) dL_talks_279 rfl rfl ?_
        refine Z_istore 282 [(11, _), (10, _), (9, _), (8, _), (7, _), (6, _), (5, _), (4, _), (3, _), (0, _), (1, _), (2, _)] dL_talks_280 rfl (Nat.le_of_ble_eq_true rfl) rfl ?_
        refine Z_aload_n 283 9 dL_talks_282 rfl rfl ?_
        refine Z_bipush 285 (nI 8) dL_talks_283 rfl rfl ?_
        refine Z_callV 288 [_] 3 (v_count8 hF hk) dL_talks_285 rfl qL_13 kX3_count rfl rfl (Nat.le_of_ble_eq_true rfl) rfl rfl ⟨(Nat.le_of_ble_eq_true rfl), (Nat.le_of_ble_eq_true rfl)⟩ (Nat.le_of_ble_eq_true rfl) ⟨rfl, rfl⟩ ⟨(Nat.le_of_ble_eq_true rfl), (Nat.le_of_ble_eq_true rfl)⟩ (fun r9 w9 hp9 => ?_)
        obtain ⟨rfl, mm, rfl, hF⟩ := hp9
        refine Z_istore 290 [(12, _), (11, _), (10, _), (9, _), (8, _), (7, _), (6, _), (5, _), (4, _), (3, _), (0, _), (1, _), (2, _)] dL_talks_288 rfl (Nat.le_of_ble_eq_true rfl) rfl ?_
        refine Z_aload_n 291 10 dL_talks_290 rfl rfl ?_
        refine Z_iload 293 8 dL_talks_291 rfl rfl ?_
        refine Z_callV 296 [_] 3 (v_thawC sy hK hF e8 hs c2) dL_talks_293 rfl qL_93 kX3_thaw rfl rfl (Nat.le_of_ble_eq_true rfl) rfl rfl ⟨(Nat.le_of_ble_eq_true rfl), (Nat.le_of_ble_eq_true rfl)⟩ (Nat.le_of_ble_eq_true rfl) ⟨rfl, rfl⟩ ⟨(Nat.le_of_ble_eq_true rfl), (Nat.le_of_ble_eq_true rfl)⟩ (fun r9 w9 hp9 => ?_)
        obtain ⟨rfl, M, rfl, hA, hM⟩ := hp9
        have hk := hA.1.ok
        have g := hA.1.inv.g
        have hF : Fsv M M := Fsv.rf
        refine Z_istore 298 [(13, _), (12, _), (11, _), (10, _), (9, _), (8, _), (7, _), (6, _), (5, _), (4, _), (3, _), (0, _), (1, _), (2, _)] dL_talks_296 rfl (Nat.le_of_ble_eq_true rfl) rfl ?_
        refine Z_iload 300 0 dL_talks_298 rfl rfl ?_
        refine Z_iload 302 8 dL_talks_300 rfl rfl ?_
        refine Z_if_eq 305 309 dL_talks_302 rfl rfl (fun c302 => ?_) (fun c302 => absurd (by decide) c302)
        refine Z_iload 311 2 dL_talks_309 rfl rfl ?_
        refine Z_if_le 314 319 dL_talks_311 rfl rfl (fun c311 => ?_) (fun c311 => absurd (by decide) c311)
        refine Z_bipush 321 (nI 10) dL_talks_319 rfl rfl ?_
        refine Z_iload 323 6 dL_talks_321 rfl rfl ?_
        refine Z_iadd 324 dL_talks_323 rfl ?_
        refine Z_iload 326 3 dL_talks_324 rfl rfl ?_
        refine Z_isub 327 dL_talks_326 rfl ?_
        refine Z_icmp_ne 330 410 dL_talks_327 rfl rfl (fun c327 => absurd c327 (fun z => z rfl)) (fun c327 => ?_)
        refine Z_aload_n 331 11 dL_talks_330 rfl rfl ?_
        refine Z_bipush 333 (nI 8) dL_talks_331 rfl rfl ?_
        refine Z_callV 336 [_] 3 (v_count8 hF hk) dL_talks_333 rfl qL_13 kX3_count rfl rfl (Nat.le_of_ble_eq_true rfl) rfl rfl ⟨(Nat.le_of_ble_eq_true rfl), (Nat.le_of_ble_eq_true rfl)⟩ (Nat.le_of_ble_eq_true rfl) ⟨rfl, rfl⟩ ⟨(Nat.le_of_ble_eq_true rfl), (Nat.le_of_ble_eq_true rfl)⟩ (fun r9 w9 hp9 => ?_)
        obtain ⟨rfl, mm, rfl, hF⟩ := hp9
        refine Z_iload 338 1 dL_talks_336 rfl rfl ?_
        refine Z_iload 340 2 dL_talks_338 rfl rfl ?_
        refine Z_if_le 343 347 dL_talks_340 rfl rfl (fun c340 => ?_) (fun c340 => absurd (by decide) c340)
        refine Z_iconst 348 (nI 0) dL_talks_347 rfl rfl ?_
        refine Z_iadd 349 dL_talks_348 rfl ?_
        refine Z_icmp_ne 352 410 dL_talks_349 rfl rfl (fun c349 => absurd c349 (fun z => z (by rw [hM.1]; exact ad0 _))) (fun c349 => ?_)
        refine Z_iload 354 8 dL_talks_352 rfl rfl ?_
        refine Z_if_ne 357 380 dL_talks_354 rfl rfl (fun c354 => absurd c354 (by decide)) (fun c354 => ?_)
        refine Z_aload_n 358 11 dL_talks_357 rfl rfl ?_
        refine Z_iload 360 9 dL_talks_358 rfl rfl ?_
        refine Z_bipush 362 (nI 6) dL_talks_360 rfl rfl ?_
        refine Z_callV 365 [_, _] 3 (v_treaty6 hF hk (by first | assumption | omega)) dL_talks_362 rfl qL_23 kX3_treaty rfl rfl (Nat.le_of_ble_eq_true rfl) rfl rfl ⟨(Nat.le_of_ble_eq_true rfl), (Nat.le_of_ble_eq_true rfl)⟩ (Nat.le_of_ble_eq_true rfl) ⟨rfl, rfl⟩ ⟨(Nat.le_of_ble_eq_true rfl), (Nat.le_of_ble_eq_true rfl)⟩ (fun r9 w9 hp9 => ?_)
        obtain ⟨rfl, mm, rfl, hF⟩ := hp9
        refine Z_iload 367 2 dL_talks_365 rfl rfl ?_
        refine Z_if_le 370 375 dL_talks_367 rfl rfl (fun c367 => ?_) (fun c367 => absurd (by decide) c367)
        refine Z_iload 377 7 dL_talks_375 rfl rfl ?_
        refine Z_icmp_ne 380 410 dL_talks_377 rfl rfl (fun c377 => absurd c377 (fun z => z hM.2.1)) (fun c377 => ?_)
        refine Z_aload_n 381 11 dL_talks_380 rfl rfl ?_
        refine Z_bipush 383 (nI 6) dL_talks_381 rfl rfl ?_
        refine Z_callV 386 [_] 3 (v_count6 hF hk) dL_talks_383 rfl qL_13 kX3_count rfl rfl (Nat.le_of_ble_eq_true rfl) rfl rfl ⟨(Nat.le_of_ble_eq_true rfl), (Nat.le_of_ble_eq_true rfl)⟩ (Nat.le_of_ble_eq_true rfl) ⟨rfl, rfl⟩ ⟨(Nat.le_of_ble_eq_true rfl), (Nat.le_of_ble_eq_true rfl)⟩ (fun r9 w9 hp9 => ?_)
        obtain ⟨rfl, mm, rfl, hF⟩ := hp9
        refine Z_iload 388 0 dL_talks_386 rfl rfl ?_
        refine Z_bipush 390 (nI 10) dL_talks_388 rfl rfl ?_
        refine Z_icmp_lt 393 401 dL_talks_390 rfl rfl (fun c390 => absurd c390 (left_t hI hK e8 hs c2)) (fun c390 => ?_)
        refine Z_iload 395 0 dL_talks_393 rfl rfl ?_
        refine Z_bipush 397 (nI 10) dL_talks_395 rfl rfl ?_
        refine Z_isub 398 dL_talks_397 rfl ?_
        refine Z_goto 403 dL_talks_398 rfl ?_
        refine Z_icmp_ne 406 410 dL_talks_403 rfl rfl (fun c403 => absurd c403 (fun z => z (by rw [hM.2.2]; exact left_c _ _))) (fun c403 => ?_)
        refine Z_iconst 407 (nI 1) dL_talks_406 rfl rfl ?_
        refine Z_goto 411 dL_talks_407 rfl ?_
        exact Z_zret dL_talks_411 rfl (by first | exact Or.inl rfl | exact Or.inr rfl | exact bI_01) (by first | exact actOk (hA.v hF) | exact actOk (Act.noV sy hF))

set_option maxRecDepth 100000 in
set_option maxHeartbeats 4000000 in
theorem zL_talks2 {G : zG} {l : Launch} {h : Nat → Nat} {m : zM} {K n s : Nat} {mm : zM} (sy : Sy K h m n s) (hK : K ≤ 1000) (hF : Fsv m mm) (y : Int32) : zMet G l yL_talks mL_talks [.ref (G.1 + 0), .int (nI 2), .int y] (zw h mm) (actP K h m n s) 0 0 := by
  refine zMet_of [(0, .ref (G.1 + 0)), (1, .int (nI 2)), (2, .int y)] (by decide +kernel) rfl (Or.inl rfl) (Nat.le_of_ble_eq_true rfl) rfl ?_
  have hI := sy.inv
  have hn := hI.n14
  have hk := sy.ok
  have g := hI.g
  refine Z_aload_n 1 0 dL_talks_0 rfl rfl ?_
  refine Z_iconst 2 (nI 1) dL_talks_1 rfl rfl ?_
  refine Z_callV 5 [_] 3 (v_count1 hF hk) dL_talks_2 rfl qL_13 kX3_count rfl rfl (Nat.le_of_ble_eq_true rfl) rfl rfl ⟨(Nat.le_of_ble_eq_true rfl), (Nat.le_of_ble_eq_true rfl)⟩ (Nat.le_of_ble_eq_true rfl) ⟨rfl, rfl⟩ ⟨(Nat.le_of_ble_eq_true rfl), (Nat.le_of_ble_eq_true rfl)⟩ (fun r9 w9 hp9 => ?_)
  obtain ⟨rfl, mm, rfl, hF⟩ := hp9
  refine Z_istore_n 6 [(3, _), (0, _), (1, _), (2, _)] dL_talks_5 rfl (Nat.le_of_ble_eq_true rfl) rfl ?_
  refine Z_iload_n 7 3 dL_talks_6 rfl rfl ?_
  refine Z_iload_n 8 0 dL_talks_7 rfl rfl ?_
  refine Z_iconst 9 (nI 1) dL_talks_8 rfl rfl ?_
  refine Z_iadd 10 dL_talks_9 rfl ?_
  refine Z_top (v' := .int (nI (n + 1))) (congrArg Value.int (nI_add n 1)) ?_
  refine Z_callS 13 [_, _] (zL_low _ (n + 1) (by omega)) dL_talks_10 rfl qL_39 kL_low rfl rfl ⟨(Nat.le_of_ble_eq_true rfl), (Nat.le_of_ble_eq_true rfl)⟩ (Nat.le_of_ble_eq_true rfl) ⟨rfl, rfl⟩ ⟨(Nat.le_of_ble_eq_true rfl), (Nat.le_of_ble_eq_true rfl)⟩ (fun r9 w9 hp9 => ?_)
  obtain ⟨⟨q10, hq10, rfl⟩, rfl⟩ := hp9
  refine Z_istore 15 [(4, _), (3, _), (0, _), (1, _), (2, _)] dL_talks_13 rfl (Nat.le_of_ble_eq_true rfl) rfl ?_
  rcases (show n = q10 ∨ q10 < n by omega) with e8 | e8
  · subst e8
    refine Z_iload 17 0 dL_talks_15 rfl rfl ?_
    refine Z_iload_n 18 1 dL_talks_17 rfl rfl ?_
    refine Z_icmp_ne 21 25 dL_talks_18 rfl rfl (fun c18 => absurd c18 (fun z => z rfl)) (fun c18 => ?_)
    refine Z_iconst 22 (nI 1) dL_talks_21 rfl rfl ?_
    refine Z_goto 26 dL_talks_22 rfl ?_
    refine Z_istore 28 [(5, _), (4, _), (3, _), (0, _), (1, _), (2, _)] dL_talks_26 rfl (Nat.le_of_ble_eq_true rfl) rfl ?_
    refine Z_aload_n 29 3 dL_talks_28 rfl rfl ?_
    refine Z_iconst 30 (nI 0) dL_talks_29 rfl rfl ?_
    refine Z_callV 33 [_] 3 (v_count0 hF hk) dL_talks_30 rfl qL_13 kX3_count rfl rfl (Nat.le_of_ble_eq_true rfl) rfl rfl ⟨(Nat.le_of_ble_eq_true rfl), (Nat.le_of_ble_eq_true rfl)⟩ (Nat.le_of_ble_eq_true rfl) ⟨rfl, rfl⟩ ⟨(Nat.le_of_ble_eq_true rfl), (Nat.le_of_ble_eq_true rfl)⟩ (fun r9 w9 hp9 => ?_)
    obtain ⟨rfl, mm, rfl, hF⟩ := hp9
    refine Z_istore 35 [(6, _), (5, _), (4, _), (3, _), (0, _), (1, _), (2, _)] dL_talks_33 rfl (Nat.le_of_ble_eq_true rfl) rfl ?_
    refine Z_aload_n 36 4 dL_talks_35 rfl rfl ?_
    refine Z_bipush 38 (nI 6) dL_talks_36 rfl rfl ?_
    refine Z_callV 41 [_] 3 (v_count6 hF hk) dL_talks_38 rfl qL_13 kX3_count rfl rfl (Nat.le_of_ble_eq_true rfl) rfl rfl ⟨(Nat.le_of_ble_eq_true rfl), (Nat.le_of_ble_eq_true rfl)⟩ (Nat.le_of_ble_eq_true rfl) ⟨rfl, rfl⟩ ⟨(Nat.le_of_ble_eq_true rfl), (Nat.le_of_ble_eq_true rfl)⟩ (fun r9 w9 hp9 => ?_)
    obtain ⟨rfl, mm, rfl, hF⟩ := hp9
    refine Z_istore 43 [(7, _), (6, _), (5, _), (4, _), (3, _), (0, _), (1, _), (2, _)] dL_talks_41 rfl (Nat.le_of_ble_eq_true rfl) rfl ?_
    refine Z_iload 45 2 dL_talks_43 rfl rfl ?_
    refine Z_if_eq 48 52 dL_talks_45 rfl rfl (fun c45 => absurd c45 (by decide)) (fun c45 => ?_)
    refine Z_iconst 49 (nI 0) dL_talks_48 rfl rfl ?_
    refine Z_goto 60 dL_talks_49 rfl ?_
    refine Z_istore 62 [(8, _), (7, _), (6, _), (5, _), (4, _), (3, _), (0, _), (1, _), (2, _)] dL_talks_60 rfl (Nat.le_of_ble_eq_true rfl) rfl ?_
    refine Z_iload 64 3 dL_talks_62 rfl rfl ?_
    refine Z_if_eq 67 71 dL_talks_64 rfl rfl (fun c64 => absurd c64 (by decide)) (fun c64 => ?_)
    refine Z_iconst 68 (nI 0) dL_talks_67 rfl rfl ?_
    refine Z_goto 78 dL_talks_68 rfl ?_
    refine Z_istore 80 [(9, _), (8, _), (7, _), (6, _), (5, _), (4, _), (3, _), (0, _), (1, _), (2, _)] dL_talks_78 rfl (Nat.le_of_ble_eq_true rfl) rfl ?_
    refine Z_iload_n 81 8 dL_talks_80 rfl rfl ?_
    refine Z_if_ne 84 237 dL_talks_81 rfl rfl (fun c81 => ?_) (fun c81 => absurd (by decide) c81)
    refine Z_iload_n 238 8 dL_talks_237 rfl rfl ?_
    refine Z_iconst 239 (nI 1) dL_talks_238 rfl rfl ?_
    refine Z_icmp_ne 242 412 dL_talks_239 rfl rfl (fun c239 => ?_) (fun c239 => absurd (by decide) c239)
    refine Z_aload_n 413 7 dL_talks_412 rfl rfl ?_
    refine Z_iload 415 5 dL_talks_413 rfl rfl ?_
    refine Z_callV 418 [_] 3 (e_cancel sy hF) dL_talks_415 rfl qL_96 kX3_cancel rfl rfl (Nat.le_of_ble_eq_true rfl) rfl rfl ⟨(Nat.le_of_ble_eq_true rfl), (Nat.le_of_ble_eq_true rfl)⟩ (Nat.le_of_ble_eq_true rfl) ⟨rfl, rfl⟩ ⟨(Nat.le_of_ble_eq_true rfl), (Nat.le_of_ble_eq_true rfl)⟩ (fun r9 w9 hp9 => ?_)
    obtain ⟨rfl, mm, rfl, hF⟩ := hp9
    refine Z_iload 420 4 dL_talks_418 rfl rfl ?_
    refine Z_if_eq 423 427 dL_talks_420 rfl rfl (fun c420 => absurd c420 (by decide)) (fun c420 => ?_)
    refine Z_iconst 424 (-1) dL_talks_423 rfl rfl ?_
    refine Z_goto 430 dL_talks_424 rfl ?_
    refine Z_icmp_ne 433 457 dL_talks_430 rfl rfl (fun c430 => absurd c430 (by decide)) (fun c430 => ?_)
    refine Z_aload_n 434 7 dL_talks_433 rfl rfl ?_
    refine Z_iconst 435 (nI 1) dL_talks_434 rfl rfl ?_
    refine Z_callV 438 [_] 3 (v_count1 hF hk) dL_talks_435 rfl qL_13 kX3_count rfl rfl (Nat.le_of_ble_eq_true rfl) rfl rfl ⟨(Nat.le_of_ble_eq_true rfl), (Nat.le_of_ble_eq_true rfl)⟩ (Nat.le_of_ble_eq_true rfl) ⟨rfl, rfl⟩ ⟨(Nat.le_of_ble_eq_true rfl), (Nat.le_of_ble_eq_true rfl)⟩ (fun r9 w9 hp9 => ?_)
    obtain ⟨rfl, mm, rfl, hF⟩ := hp9
    refine Z_iload_n 439 6 dL_talks_438 rfl rfl ?_
    refine Z_iload 441 4 dL_talks_439 rfl rfl ?_
    refine Z_if_eq 444 448 dL_talks_441 rfl rfl (fun c441 => absurd c441 (by decide)) (fun c441 => ?_)
    refine Z_iconst 445 (nI 0) dL_talks_444 rfl rfl ?_
    refine Z_goto 449 dL_talks_445 rfl ?_
    refine Z_isub 450 dL_talks_449 rfl ?_
    refine Z_icmp_ne 453 457 dL_talks_450 rfl rfl (fun c450 => absurd c450 (fun z => z (sb0 _))) (fun c450 => ?_)
    refine Z_iconst 454 (nI 1) dL_talks_453 rfl rfl ?_
    refine Z_goto 458 dL_talks_454 rfl ?_
    exact Z_zret dL_talks_458 rfl (by first | exact Or.inl rfl | exact Or.inr rfl | exact bI_01) (by first | exact actOk (hA.v hF) | exact actOk (Act.noV sy hF))
  · skip
    refine Z_iload 17 0 dL_talks_15 rfl rfl ?_
    refine Z_iload_n 18 1 dL_talks_17 rfl rfl ?_
    refine Z_icmp_ne 21 25 dL_talks_18 rfl rfl (fun c18 => ?_) (fun c18 => absurd (fun z => absurd (eqN z (by omega) (by omega)) (by omega)) c18)
    refine Z_iconst 26 (nI 0) dL_talks_25 rfl rfl ?_
    refine Z_istore 28 [(5, _), (4, _), (3, _), (0, _), (1, _), (2, _)] dL_talks_26 rfl (Nat.le_of_ble_eq_true rfl) rfl ?_
    refine Z_aload_n 29 3 dL_talks_28 rfl rfl ?_
    refine Z_iconst 30 (nI 0) dL_talks_29 rfl rfl ?_
    refine Z_callV 33 [_] 3 (v_count0 hF hk) dL_talks_30 rfl qL_13 kX3_count rfl rfl (Nat.le_of_ble_eq_true rfl) rfl rfl ⟨(Nat.le_of_ble_eq_true rfl), (Nat.le_of_ble_eq_true rfl)⟩ (Nat.le_of_ble_eq_true rfl) ⟨rfl, rfl⟩ ⟨(Nat.le_of_ble_eq_true rfl), (Nat.le_of_ble_eq_true rfl)⟩ (fun r9 w9 hp9 => ?_)
    obtain ⟨rfl, mm, rfl, hF⟩ := hp9
    refine Z_istore 35 [(6, _), (5, _), (4, _), (3, _), (0, _), (1, _), (2, _)] dL_talks_33 rfl (Nat.le_of_ble_eq_true rfl) rfl ?_
    refine Z_aload_n 36 4 dL_talks_35 rfl rfl ?_
    refine Z_bipush 38 (nI 6) dL_talks_36 rfl rfl ?_
    refine Z_callV 41 [_] 3 (v_count6 hF hk) dL_talks_38 rfl qL_13 kX3_count rfl rfl (Nat.le_of_ble_eq_true rfl) rfl rfl ⟨(Nat.le_of_ble_eq_true rfl), (Nat.le_of_ble_eq_true rfl)⟩ (Nat.le_of_ble_eq_true rfl) ⟨rfl, rfl⟩ ⟨(Nat.le_of_ble_eq_true rfl), (Nat.le_of_ble_eq_true rfl)⟩ (fun r9 w9 hp9 => ?_)
    obtain ⟨rfl, mm, rfl, hF⟩ := hp9
    refine Z_istore 43 [(7, _), (6, _), (5, _), (4, _), (3, _), (0, _), (1, _), (2, _)] dL_talks_41 rfl (Nat.le_of_ble_eq_true rfl) rfl ?_
    refine Z_iload 45 2 dL_talks_43 rfl rfl ?_
    refine Z_if_eq 48 52 dL_talks_45 rfl rfl (fun c45 => ?_) (fun c45 => absurd (by decide) c45)
    refine Z_aload_n 53 5 dL_talks_52 rfl rfl ?_
    refine Z_iload 55 3 dL_talks_53 rfl rfl ?_
    refine Z_bipush 57 (nI 6) dL_talks_55 rfl rfl ?_
    refine Z_callV 60 [_, _] 3 (v_treaty6 hF hk (by first | assumption | omega)) dL_talks_57 rfl qL_23 kX3_treaty rfl rfl (Nat.le_of_ble_eq_true rfl) rfl rfl ⟨(Nat.le_of_ble_eq_true rfl), (Nat.le_of_ble_eq_true rfl)⟩ (Nat.le_of_ble_eq_true rfl) ⟨rfl, rfl⟩ ⟨(Nat.le_of_ble_eq_true rfl), (Nat.le_of_ble_eq_true rfl)⟩ (fun r9 w9 hp9 => ?_)
    obtain ⟨rfl, mm, rfl, hF⟩ := hp9
    refine Z_istore 62 [(8, _), (7, _), (6, _), (5, _), (4, _), (3, _), (0, _), (1, _), (2, _)] dL_talks_60 rfl (Nat.le_of_ble_eq_true rfl) rfl ?_
    refine Z_iload 64 3 dL_talks_62 rfl rfl ?_
    refine Z_if_eq 67 71 dL_talks_64 rfl rfl (fun c64 => ?_) (fun c64 => absurd (by decide) c64)
    refine Z_aload_n 72 6 dL_talks_71 rfl rfl ?_
    refine Z_iload 74 4 dL_talks_72 rfl rfl ?_
    refine Z_iconst 75 (nI 4) dL_talks_74 rfl rfl ?_
    refine Z_callV 78 [_, _] 3 (v_treaty4 hF hk (by first | assumption | omega)) dL_talks_75 rfl qL_23 kX3_treaty rfl rfl (Nat.le_of_ble_eq_true rfl) rfl rfl ⟨(Nat.le_of_ble_eq_true rfl), (Nat.le_of_ble_eq_true rfl)⟩ (Nat.le_of_ble_eq_true rfl) ⟨rfl, rfl⟩ ⟨(Nat.le_of_ble_eq_true rfl), (Nat.le_of_ble_eq_true rfl)⟩ (fun r9 w9 hp9 => ?_)
    obtain ⟨rfl, mm, rfl, hF⟩ := hp9
    refine Z_istore 80 [(9, _), (8, _), (7, _), (6, _), (5, _), (4, _), (3, _), (0, _), (1, _), (2, _)] dL_talks_78 rfl (Nat.le_of_ble_eq_true rfl) rfl ?_
    refine Z_iload_n 81 8 dL_talks_80 rfl rfl ?_
    refine Z_if_ne 84 237 dL_talks_81 rfl rfl (fun c81 => ?_) (fun c81 => absurd (by decide) c81)
    refine Z_iload_n 238 8 dL_talks_237 rfl rfl ?_
    refine Z_iconst 239 (nI 1) dL_talks_238 rfl rfl ?_
    refine Z_icmp_ne 242 412 dL_talks_239 rfl rfl (fun c239 => ?_) (fun c239 => absurd (by decide) c239)
    refine Z_aload_n 413 7 dL_talks_412 rfl rfl ?_
    refine Z_iload 415 5 dL_talks_413 rfl rfl ?_
    refine Z_callV 418 [_] 3 (v_cancel sy hF e8) dL_talks_415 rfl qL_96 kX3_cancel rfl rfl (Nat.le_of_ble_eq_true rfl) rfl rfl ⟨(Nat.le_of_ble_eq_true rfl), (Nat.le_of_ble_eq_true rfl)⟩ (Nat.le_of_ble_eq_true rfl) ⟨rfl, rfl⟩ ⟨(Nat.le_of_ble_eq_true rfl), (Nat.le_of_ble_eq_true rfl)⟩ (fun r9 w9 hp9 => ?_)
    obtain ⟨rfl, M, rfl, hA, hM⟩ := hp9
    have hk := hA.1.ok
    have g := hA.1.inv.g
    have hF : Fsv M M := Fsv.rf
    refine Z_iload 420 4 dL_talks_418 rfl rfl ?_
    refine Z_if_eq 423 427 dL_talks_420 rfl rfl (fun c420 => ?_) (fun c420 => absurd (by decide) c420)
    refine Z_iload_n 428 6 dL_talks_427 rfl rfl ?_
    refine Z_iconst 429 (nI 1) dL_talks_428 rfl rfl ?_
    refine Z_isub 430 dL_talks_429 rfl ?_
    refine Z_icmp_ne 433 457 dL_talks_430 rfl rfl (fun c430 => absurd c430 (fun z => z (pk_sub (a := n) (b := 1) (by omega)).symm)) (fun c430 => ?_)
    refine Z_aload_n 434 7 dL_talks_433 rfl rfl ?_
    refine Z_iconst 435 (nI 1) dL_talks_434 rfl rfl ?_
    refine Z_callV 438 [_] 3 (v_count1 hF hk) dL_talks_435 rfl qL_13 kX3_count rfl rfl (Nat.le_of_ble_eq_true rfl) rfl rfl ⟨(Nat.le_of_ble_eq_true rfl), (Nat.le_of_ble_eq_true rfl)⟩ (Nat.le_of_ble_eq_true rfl) ⟨rfl, rfl⟩ ⟨(Nat.le_of_ble_eq_true rfl), (Nat.le_of_ble_eq_true rfl)⟩ (fun r9 w9 hp9 => ?_)
    obtain ⟨rfl, mm, rfl, hF⟩ := hp9
    refine Z_iload_n 439 6 dL_talks_438 rfl rfl ?_
    refine Z_iload 441 4 dL_talks_439 rfl rfl ?_
    refine Z_if_eq 444 448 dL_talks_441 rfl rfl (fun c441 => ?_) (fun c441 => absurd (by decide) c441)
    refine Z_iconst 449 (nI 1) dL_talks_448 rfl rfl ?_
    refine Z_isub 450 dL_talks_449 rfl ?_
    refine Z_icmp_ne 453 457 dL_talks_450 rfl rfl (fun c450 => absurd c450 (fun z => z (pk_sub (a := n) (b := 1) (by omega)).symm)) (fun c450 => ?_)
    refine Z_iconst 454 (nI 1) dL_talks_453 rfl rfl ?_
    refine Z_goto 458 dL_talks_454 rfl ?_
    exact Z_zret dL_talks_458 rfl (by first | exact Or.inl rfl | exact Or.inr rfl | exact bI_01) (by first | exact actOk (hA.v hF) | exact actOk (Act.noV sy hF))

