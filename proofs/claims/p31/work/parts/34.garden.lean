/-! garden -/
theorem actOk {K n s : Nat} {h h1 : Nat → Nat} {m m1 : zM} {n1 s1 : Nat} (a : Act K h m n s h1 m1 n1 s1) : actP K h m n s (some (.int (nI 1))) (zw h1 m1) := ⟨rfl, _, _, _, _, rfl, a⟩
theorem ad0 (x : Int32) : x = x + nI 0 := by rw [nI_0, Int32.add_zero]
theorem sb0 (x : Int32) : x = x - nI 0 := by rw [nI_0, Int32.sub_zero]
theorem eqN {a b : Nat} (h : nI a = nI b) (ha : a < 2 ^ 31) (hb : b < 2 ^ 31) : a = b := (nI_eq ha hb).mp h
theorem nz {a : Nat} (h : nI a = 0) (ha : a < 2 ^ 31) : a = 0 := (nI_eq (b := 0) ha (by decide)).mp (h.trans nI_0.symm)
set_option maxRecDepth 100000 in
set_option maxHeartbeats 4000000 in
theorem lL_garden0 {G : zG} {l : Launch} {h : Nat → Nat} {m : zM} {K n s : Nat} (sy : Sy K h m n s) (hK : K ≤ 1000) : ∀ (mm : zM) (d : Nat) (y : Int32), Fsv m mm → d = 8 ∨ d = 9 → Z G mL_garden (fun _ => True) (zN G (actP K h m n s) 0 0) l 0 0 (zw h mm) 20 [(2, .int y), (1, .int (nI 0)), (0, .ref (G.1 + 0))] [.int (nI d), .int y] := by
  intro mm d y hF hd
  have hI := sy.inv
  have hn := hI.n14
  have hk := sy.ok
  have g := hI.g
  refine Z_callS 23 [_, _] (zL_low _ d (by omega)) dL_garden_20 rfl qL_39 kL_low rfl rfl ⟨(Nat.le_of_ble_eq_true rfl), (Nat.le_of_ble_eq_true rfl)⟩ (Nat.le_of_ble_eq_true rfl) ⟨rfl, rfl⟩ ⟨(Nat.le_of_ble_eq_true rfl), (Nat.le_of_ble_eq_true rfl)⟩ (fun r9 w9 hp9 => ?_)
  obtain ⟨⟨q20, hq20, rfl⟩, rfl⟩ := hp9
  refine Z_istore_n 24 [(3, _), (2, _), (1, _), (0, _)] dL_garden_23 rfl (Nat.le_of_ble_eq_true rfl) rfl ?_
  rcases (show q20 = 8 ∨ q20 < 8 by omega) with k8 | k8
  · subst k8
    have KJ : ∀ (mm : zM) (d : Nat) (v : Int32), Fsv m mm → 0 < d ∧ d ≤ 101 → Z G mL_garden (fun _ => True) (zN G (actP K h m n s) 0 0) l 0 0 (zw h mm) 62 [(4, .int (nI 1)), (3, .int (nI 8)), (2, .int y), (1, .int (nI 0)), (0, .ref (G.1 + 0))] [.int (nI d), .int v] := by
      intro mm d v hF hd
      refine Z_callS 65 [_, _] (zL_low _ d ⟨hd.1, by omega⟩) dL_garden_62 rfl qL_39 kL_low rfl rfl ⟨(Nat.le_of_ble_eq_true rfl), (Nat.le_of_ble_eq_true rfl)⟩ (Nat.le_of_ble_eq_true rfl) ⟨rfl, rfl⟩ ⟨(Nat.le_of_ble_eq_true rfl), (Nat.le_of_ble_eq_true rfl)⟩ (fun r9 w9 hp9 => ?_)
      obtain ⟨⟨q62, hq62, rfl⟩, rfl⟩ := hp9
      refine Z_istore 67 [(5, _), (4, _), (3, _), (2, _), (1, _), (0, _)] dL_garden_65 rfl (Nat.le_of_ble_eq_true rfl) rfl ?_
      refine Z_iload 69 1 dL_garden_67 rfl rfl ?_
      refine Z_if_eq 72 76 dL_garden_69 rfl rfl (fun c69 => absurd c69 (by decide)) (fun c69 => ?_)
      refine Z_iconst 73 (nI 0) dL_garden_72 rfl rfl ?_
      refine Z_goto 82 dL_garden_73 rfl ?_
      refine Z_istore 84 [(6, _), (5, _), (4, _), (3, _), (2, _), (1, _), (0, _)] dL_garden_82 rfl (Nat.le_of_ble_eq_true rfl) rfl ?_
      refine Z_iload 86 2 dL_garden_84 rfl rfl ?_
      refine Z_if_ne 89 96 dL_garden_86 rfl rfl (fun c86 => ?_) (fun c86 => absurd (by decide) c86)
      refine Z_iconst 97 (nI 1) dL_garden_96 rfl rfl ?_
      refine Z_goto 101 dL_garden_97 rfl ?_
      refine Z_istore 103 [(7, _), (6, _), (5, _), (4, _), (3, _), (2, _), (1, _), (0, _)] dL_garden_101 rfl (Nat.le_of_ble_eq_true rfl) rfl ?_
      refine Z_aload_n 104 7 dL_garden_103 rfl rfl ?_
      refine Z_iload_n 105 4 dL_garden_104 rfl rfl ?_
      refine Z_iload 107 2 dL_garden_105 rfl rfl ?_
      refine Z_callV 110 [_, _] 3 (e_height hF (by omega) (by omega) (Or.inl rfl)) dL_garden_107 rfl qL_78 kX3_height rfl rfl (Nat.le_of_ble_eq_true rfl) rfl rfl ⟨(Nat.le_of_ble_eq_true rfl), (Nat.le_of_ble_eq_true rfl)⟩ (Nat.le_of_ble_eq_true rfl) ⟨rfl, rfl⟩ ⟨(Nat.le_of_ble_eq_true rfl), (Nat.le_of_ble_eq_true rfl)⟩ (fun r9 w9 hp9 => ?_)
      obtain ⟨rfl, mm, rfl, hF⟩ := hp9
      refine Z_iload 112 0 dL_garden_110 rfl rfl ?_
      refine Z_if_eq 115 119 dL_garden_112 rfl rfl (fun c112 => absurd c112 (by decide)) (fun c112 => ?_)
      refine Z_iconst 116 (-1) dL_garden_115 rfl rfl ?_
      refine Z_goto 121 dL_garden_116 rfl ?_
      refine Z_icmp_ne 124 154 dL_garden_121 rfl rfl (fun c121 => absurd c121 (by decide)) (fun c121 => ?_)
      refine Z_iload 126 3 dL_garden_124 rfl rfl ?_
      refine Z_if_ne 129 150 dL_garden_126 rfl rfl (fun c126 => ?_) (fun c126 => absurd (by decide) c126)
      refine Z_iconst 151 (nI 1) dL_garden_150 rfl rfl ?_
      refine Z_goto 155 dL_garden_151 rfl ?_
      exact Z_zret dL_garden_155 rfl (by first | exact Or.inl rfl | exact Or.inr rfl | exact bI_01) (by first | exact actOk (hA.v hF) | exact actOk (Act.noV sy hF))
    refine Z_iload_n 25 0 dL_garden_24 rfl rfl ?_
    refine Z_bipush 27 (nI 8) dL_garden_25 rfl rfl ?_
    refine Z_icmp_ne 30 34 dL_garden_27 rfl rfl (fun c27 => absurd c27 (by decide)) (fun c27 => ?_)
    refine Z_iconst 31 (nI 1) dL_garden_30 rfl rfl ?_
    refine Z_goto 35 dL_garden_31 rfl ?_
    refine Z_istore 37 [(4, _), (3, _), (2, _), (1, _), (0, _)] dL_garden_35 rfl (Nat.le_of_ble_eq_true rfl) rfl ?_
    refine Z_iload_n 38 3 dL_garden_37 rfl rfl ?_
    refine Z_if_ne 41 156 dL_garden_38 rfl rfl (fun c38 => absurd c38 (by decide)) (fun c38 => ?_)
    refine Z_iload_n 42 2 dL_garden_41 rfl rfl ?_
    refine Z_iconst 43 (nI 3) dL_garden_42 rfl rfl ?_
    refine Z_ishr 44 dL_garden_43 rfl ?_
    refine Z_iload_n 45 2 dL_garden_44 rfl rfl ?_
    refine Z_bipush 47 (nI 11) dL_garden_45 rfl rfl ?_
    refine Z_ishr 48 dL_garden_47 rfl ?_
    refine Z_iconst 49 (nI 4) dL_garden_48 rfl rfl ?_
    refine Z_callS 52 [_, _] (zL_low _ 4 (by decide)) dL_garden_49 rfl qL_39 kL_low rfl rfl ⟨(Nat.le_of_ble_eq_true rfl), (Nat.le_of_ble_eq_true rfl)⟩ (Nat.le_of_ble_eq_true rfl) ⟨rfl, rfl⟩ ⟨(Nat.le_of_ble_eq_true rfl), (Nat.le_of_ble_eq_true rfl)⟩ (fun r9 w9 hp9 => ?_)
    obtain ⟨⟨q49, hq49, rfl⟩, rfl⟩ := hp9
    refine Z_if_ne 55 60 dL_garden_52 rfl rfl (fun c52 => ?_) (fun c52 => ?_)
    · skip
      refine Z_bipush 62 (nI 25) dL_garden_60 rfl rfl ?_
      exact KJ mm 25 _ hF (by decide)
    · skip
      refine Z_bipush 57 (nI 101) dL_garden_55 rfl rfl ?_
      refine Z_goto 62 dL_garden_57 rfl ?_
      exact KJ mm 101 _ hF (by decide)
  · skip
    have KJ : ∀ (mm : zM) (d : Nat) (v : Int32), Fsv m mm → 0 < d ∧ d ≤ 101 → Z G mL_garden (fun _ => True) (zN G (actP K h m n s) 0 0) l 0 0 (zw h mm) 62 [(4, .int (nI 0)), (3, .int (nI q20)), (2, .int y), (1, .int (nI 0)), (0, .ref (G.1 + 0))] [.int (nI d), .int v] := by
      intro mm d v hF hd
      refine Z_callS 65 [_, _] (zL_low _ d ⟨hd.1, by omega⟩) dL_garden_62 rfl qL_39 kL_low rfl rfl ⟨(Nat.le_of_ble_eq_true rfl), (Nat.le_of_ble_eq_true rfl)⟩ (Nat.le_of_ble_eq_true rfl) ⟨rfl, rfl⟩ ⟨(Nat.le_of_ble_eq_true rfl), (Nat.le_of_ble_eq_true rfl)⟩ (fun r9 w9 hp9 => ?_)
      obtain ⟨⟨q62, hq62, rfl⟩, rfl⟩ := hp9
      refine Z_istore 67 [(5, _), (4, _), (3, _), (2, _), (1, _), (0, _)] dL_garden_65 rfl (Nat.le_of_ble_eq_true rfl) rfl ?_
      have hq9 : q62 ≤ 100 := by omega
      rcases (show q62 = 100 ∨ q62 < 100 by omega) with e9 | e9
      · subst e9
        refine Z_iload 69 1 dL_garden_67 rfl rfl ?_
        refine Z_if_eq 72 76 dL_garden_69 rfl rfl (fun c69 => ?_) (fun c69 => absurd (by decide) c69)
        refine Z_aload_n 77 5 dL_garden_76 rfl rfl ?_
        refine Z_iload_n 78 2 dL_garden_77 rfl rfl ?_
        refine Z_iconst 79 (nI 0) dL_garden_78 rfl rfl ?_
        refine Z_callV 82 [_, _] 3 (v_hedge0 hF hk (by first | assumption | omega)) dL_garden_79 rfl qL_19 kX3_hedge rfl rfl (Nat.le_of_ble_eq_true rfl) rfl rfl ⟨(Nat.le_of_ble_eq_true rfl), (Nat.le_of_ble_eq_true rfl)⟩ (Nat.le_of_ble_eq_true rfl) ⟨rfl, rfl⟩ ⟨(Nat.le_of_ble_eq_true rfl), (Nat.le_of_ble_eq_true rfl)⟩ (fun r9 w9 hp9 => ?_)
        obtain ⟨rfl, mm, rfl, hF⟩ := hp9
        refine Z_istore 84 [(6, _), (5, _), (4, _), (3, _), (2, _), (1, _), (0, _)] dL_garden_82 rfl (Nat.le_of_ble_eq_true rfl) rfl ?_
        refine Z_iload 86 2 dL_garden_84 rfl rfl ?_
        refine Z_if_ne 89 96 dL_garden_86 rfl rfl (fun c86 => absurd c86 (by decide)) (fun c86 => ?_)
        refine Z_iload 91 1 dL_garden_89 rfl rfl ?_
        refine Z_bipush 93 (nI 100) dL_garden_91 rfl rfl ?_
        refine Z_icmp_ne 96 100 dL_garden_93 rfl rfl (fun c93 => absurd c93 (by decide)) (fun c93 => ?_)
        refine Z_iconst 97 (nI 1) dL_garden_96 rfl rfl ?_
        refine Z_goto 101 dL_garden_97 rfl ?_
        refine Z_istore 103 [(7, _), (6, _), (5, _), (4, _), (3, _), (2, _), (1, _), (0, _)] dL_garden_101 rfl (Nat.le_of_ble_eq_true rfl) rfl ?_
        refine Z_aload_n 104 7 dL_garden_103 rfl rfl ?_
        refine Z_iload_n 105 4 dL_garden_104 rfl rfl ?_
        refine Z_iload 107 2 dL_garden_105 rfl rfl ?_
        refine Z_callV 110 [_, _] 3 (e_height hF (by omega) (by omega) (Or.inr rfl)) dL_garden_107 rfl qL_78 kX3_height rfl rfl (Nat.le_of_ble_eq_true rfl) rfl rfl ⟨(Nat.le_of_ble_eq_true rfl), (Nat.le_of_ble_eq_true rfl)⟩ (Nat.le_of_ble_eq_true rfl) ⟨rfl, rfl⟩ ⟨(Nat.le_of_ble_eq_true rfl), (Nat.le_of_ble_eq_true rfl)⟩ (fun r9 w9 hp9 => ?_)
        obtain ⟨rfl, mm, rfl, hF⟩ := hp9
        refine Z_iload 112 0 dL_garden_110 rfl rfl ?_
        refine Z_if_eq 115 119 dL_garden_112 rfl rfl (fun c112 => absurd c112 (by decide)) (fun c112 => ?_)
        refine Z_iconst 116 (-1) dL_garden_115 rfl rfl ?_
        refine Z_goto 121 dL_garden_116 rfl ?_
        refine Z_icmp_ne 124 154 dL_garden_121 rfl rfl (fun c121 => absurd c121 (fun z => z rfl)) (fun c121 => ?_)
        refine Z_iload 126 3 dL_garden_124 rfl rfl ?_
        refine Z_if_ne 129 150 dL_garden_126 rfl rfl (fun c126 => absurd c126 (by decide)) (fun c126 => ?_)
        refine Z_aload_n 130 7 dL_garden_129 rfl rfl ?_
        refine Z_iload_n 131 4 dL_garden_130 rfl rfl ?_
        refine Z_iconst 132 (nI 0) dL_garden_131 rfl rfl ?_
        refine Z_callV 135 [_, _] 3 (v_hedge0 hF hk (by first | assumption | omega)) dL_garden_132 rfl qL_19 kX3_hedge rfl rfl (Nat.le_of_ble_eq_true rfl) rfl rfl ⟨(Nat.le_of_ble_eq_true rfl), (Nat.le_of_ble_eq_true rfl)⟩ (Nat.le_of_ble_eq_true rfl) ⟨rfl, rfl⟩ ⟨(Nat.le_of_ble_eq_true rfl), (Nat.le_of_ble_eq_true rfl)⟩ (fun r9 w9 hp9 => ?_)
        obtain ⟨rfl, mm, rfl, hF⟩ := hp9
        refine Z_iload 137 0 dL_garden_135 rfl rfl ?_
        refine Z_if_eq 140 145 dL_garden_137 rfl rfl (fun c137 => absurd c137 (by decide)) (fun c137 => ?_)
        refine Z_iload 142 1 dL_garden_140 rfl rfl ?_
        refine Z_goto 147 dL_garden_142 rfl ?_
        refine Z_icmp_ne 150 154 dL_garden_147 rfl rfl (fun c147 => absurd c147 (fun z => z rfl)) (fun c147 => ?_)
        refine Z_iconst 151 (nI 1) dL_garden_150 rfl rfl ?_
        refine Z_goto 155 dL_garden_151 rfl ?_
        exact Z_zret dL_garden_155 rfl (by first | exact Or.inl rfl | exact Or.inr rfl | exact bI_01) (by first | exact actOk (hA.v hF) | exact actOk (Act.noV sy hF))
      · skip
        refine Z_iload 69 1 dL_garden_67 rfl rfl ?_
        refine Z_if_eq 72 76 dL_garden_69 rfl rfl (fun c69 => ?_) (fun c69 => absurd (by decide) c69)
        refine Z_aload_n 77 5 dL_garden_76 rfl rfl ?_
        refine Z_iload_n 78 2 dL_garden_77 rfl rfl ?_
        refine Z_iconst 79 (nI 0) dL_garden_78 rfl rfl ?_
        refine Z_callV 82 [_, _] 3 (v_hedge0 hF hk (by first | assumption | omega)) dL_garden_79 rfl qL_19 kX3_hedge rfl rfl (Nat.le_of_ble_eq_true rfl) rfl rfl ⟨(Nat.le_of_ble_eq_true rfl), (Nat.le_of_ble_eq_true rfl)⟩ (Nat.le_of_ble_eq_true rfl) ⟨rfl, rfl⟩ ⟨(Nat.le_of_ble_eq_true rfl), (Nat.le_of_ble_eq_true rfl)⟩ (fun r9 w9 hp9 => ?_)
        obtain ⟨rfl, mm, rfl, hF⟩ := hp9
        refine Z_istore 84 [(6, _), (5, _), (4, _), (3, _), (2, _), (1, _), (0, _)] dL_garden_82 rfl (Nat.le_of_ble_eq_true rfl) rfl ?_
        refine Z_iload 86 2 dL_garden_84 rfl rfl ?_
        refine Z_if_ne 89 96 dL_garden_86 rfl rfl (fun c86 => absurd c86 (by decide)) (fun c86 => ?_)
        refine Z_iload 91 1 dL_garden_89 rfl rfl ?_
        refine Z_bipush 93 (nI 100) dL_garden_91 rfl rfl ?_
        refine Z_icmp_ne 96 100 dL_garden_93 rfl rfl (fun c93 => ?_) (fun c93 => absurd (fun z => absurd (eqN z (by omega) (by omega)) (by omega)) c93)
        refine Z_iconst 101 (nI 0) dL_garden_100 rfl rfl ?_
        refine Z_istore 103 [(7, _), (6, _), (5, _), (4, _), (3, _), (2, _), (1, _), (0, _)] dL_garden_101 rfl (Nat.le_of_ble_eq_true rfl) rfl ?_
        refine Z_aload_n 104 7 dL_garden_103 rfl rfl ?_
        refine Z_iload_n 105 4 dL_garden_104 rfl rfl ?_
        refine Z_iload 107 2 dL_garden_105 rfl rfl ?_
        refine Z_callV 110 [_, _] 3 (v_height sy hF k8 (by omega)) dL_garden_107 rfl qL_78 kX3_height rfl rfl (Nat.le_of_ble_eq_true rfl) rfl rfl ⟨(Nat.le_of_ble_eq_true rfl), (Nat.le_of_ble_eq_true rfl)⟩ (Nat.le_of_ble_eq_true rfl) ⟨rfl, rfl⟩ ⟨(Nat.le_of_ble_eq_true rfl), (Nat.le_of_ble_eq_true rfl)⟩ (fun r9 w9 hp9 => ?_)
        obtain ⟨rfl, M, rfl, hA, hM⟩ := hp9
        have hk := hA.1.ok
        have g := hA.1.inv.g
        have hF : Fsv M M := Fsv.rf
        refine Z_iload 112 0 dL_garden_110 rfl rfl ?_
        refine Z_if_eq 115 119 dL_garden_112 rfl rfl (fun c112 => ?_) (fun c112 => absurd (by decide) c112)
        refine Z_iload 121 1 dL_garden_119 rfl rfl ?_
        refine Z_icmp_ne 124 154 dL_garden_121 rfl rfl (fun c121 => absurd c121 (fun z => z rfl)) (fun c121 => ?_)
        refine Z_iload 126 3 dL_garden_124 rfl rfl ?_
        refine Z_if_ne 129 150 dL_garden_126 rfl rfl (fun c126 => absurd c126 (by decide)) (fun c126 => ?_)
        refine Z_aload_n 130 7 dL_garden_129 rfl rfl ?_
        refine Z_iload_n 131 4 dL_garden_130 rfl rfl ?_
        refine Z_iconst 132 (nI 0) dL_garden_131 rfl rfl ?_
        refine Z_callV 135 [_, _] 3 (v_hedge0 hF hk (by first | assumption | omega)) dL_garden_132 rfl qL_19 kX3_hedge rfl rfl (Nat.le_of_ble_eq_true rfl) rfl rfl ⟨(Nat.le_of_ble_eq_true rfl), (Nat.le_of_ble_eq_true rfl)⟩ (Nat.le_of_ble_eq_true rfl) ⟨rfl, rfl⟩ ⟨(Nat.le_of_ble_eq_true rfl), (Nat.le_of_ble_eq_true rfl)⟩ (fun r9 w9 hp9 => ?_)
        obtain ⟨rfl, mm, rfl, hF⟩ := hp9
        refine Z_iload 137 0 dL_garden_135 rfl rfl ?_
        refine Z_if_eq 140 145 dL_garden_137 rfl rfl (fun c137 => ?_) (fun c137 => absurd (by decide) c137)
        refine Z_iload 147 2 dL_garden_145 rfl rfl ?_
        refine Z_icmp_ne 150 154 dL_garden_147 rfl rfl (fun c147 => absurd c147 (fun z => z hM)) (fun c147 => ?_)
        refine Z_iconst 151 (nI 1) dL_garden_150 rfl rfl ?_
        refine Z_goto 155 dL_garden_151 rfl ?_
        exact Z_zret dL_garden_155 rfl (by first | exact Or.inl rfl | exact Or.inr rfl | exact bI_01) (by first | exact actOk (hA.v hF) | exact actOk (Act.noV sy hF))
    refine Z_iload_n 25 0 dL_garden_24 rfl rfl ?_
    refine Z_bipush 27 (nI 8) dL_garden_25 rfl rfl ?_
    refine Z_icmp_ne 30 34 dL_garden_27 rfl rfl (fun c27 => ?_) (fun c27 => absurd (fun z => absurd (eqN z (by omega) (by omega)) (by omega)) c27)
    refine Z_iconst 35 (nI 0) dL_garden_34 rfl rfl ?_
    refine Z_istore 37 [(4, _), (3, _), (2, _), (1, _), (0, _)] dL_garden_35 rfl (Nat.le_of_ble_eq_true rfl) rfl ?_
    refine Z_iload_n 38 3 dL_garden_37 rfl rfl ?_
    refine Z_if_ne 41 156 dL_garden_38 rfl rfl (fun c38 => absurd c38 (by decide)) (fun c38 => ?_)
    refine Z_iload_n 42 2 dL_garden_41 rfl rfl ?_
    refine Z_iconst 43 (nI 3) dL_garden_42 rfl rfl ?_
    refine Z_ishr 44 dL_garden_43 rfl ?_
    refine Z_iload_n 45 2 dL_garden_44 rfl rfl ?_
    refine Z_bipush 47 (nI 11) dL_garden_45 rfl rfl ?_
    refine Z_ishr 48 dL_garden_47 rfl ?_
    refine Z_iconst 49 (nI 4) dL_garden_48 rfl rfl ?_
    refine Z_callS 52 [_, _] (zL_low _ 4 (by decide)) dL_garden_49 rfl qL_39 kL_low rfl rfl ⟨(Nat.le_of_ble_eq_true rfl), (Nat.le_of_ble_eq_true rfl)⟩ (Nat.le_of_ble_eq_true rfl) ⟨rfl, rfl⟩ ⟨(Nat.le_of_ble_eq_true rfl), (Nat.le_of_ble_eq_true rfl)⟩ (fun r9 w9 hp9 => ?_)
    obtain ⟨⟨q49, hq49, rfl⟩, rfl⟩ := hp9
    refine Z_if_ne 55 60 dL_garden_52 rfl rfl (fun c52 => ?_) (fun c52 => ?_)
    · skip
      refine Z_bipush 62 (nI 25) dL_garden_60 rfl rfl ?_
      exact KJ mm 25 _ hF (by decide)
    · skip
      refine Z_bipush 57 (nI 101) dL_garden_55 rfl rfl ?_
      refine Z_goto 62 dL_garden_57 rfl ?_
      exact KJ mm 101 _ hF (by decide)

set_option maxRecDepth 100000 in
set_option maxHeartbeats 4000000 in
theorem zL_garden0 {G : zG} {l : Launch} {h : Nat → Nat} {m : zM} {K n s : Nat} {mm : zM} (sy : Sy K h m n s) (hK : K ≤ 1000) (hF : Fsv m mm) (y : Int32) : zMet G l yL_garden mL_garden [.ref (G.1 + 0), .int (nI 0), .int y] (zw h mm) (actP K h m n s) 0 0 := by
  refine zMet_of [(0, .ref (G.1 + 0)), (1, .int (nI 0)), (2, .int y)] (by decide +kernel) rfl (Or.inl rfl) (Nat.le_of_ble_eq_true rfl) rfl ?_
  refine Z_iload_n 1 2 dL_garden_0 rfl rfl ?_
  refine Z_iload_n 2 2 dL_garden_1 rfl rfl ?_
  refine Z_bipush 4 (nI 14) dL_garden_2 rfl rfl ?_
  refine Z_ishr 5 dL_garden_4 rfl ?_
  refine Z_bipush 7 (nI 9) dL_garden_5 rfl rfl ?_
  refine Z_callS 10 [_, _] (zL_low _ 9 (by decide)) dL_garden_7 rfl qL_39 kL_low rfl rfl ⟨(Nat.le_of_ble_eq_true rfl), (Nat.le_of_ble_eq_true rfl)⟩ (Nat.le_of_ble_eq_true rfl) ⟨rfl, rfl⟩ ⟨(Nat.le_of_ble_eq_true rfl), (Nat.le_of_ble_eq_true rfl)⟩ (fun r9 w9 hp9 => ?_)
  obtain ⟨⟨q7, hq7, rfl⟩, rfl⟩ := hp9
  refine Z_if_ne 13 18 dL_garden_10 rfl rfl (fun c10 => ?_) (fun c10 => ?_)
  · skip
    refine Z_bipush 20 (nI 8) dL_garden_18 rfl rfl ?_
    refine Z_lv [2, 1, 0] rfl ?_
    exact lL_garden0 sy hK mm 8 _ hF (by decide)
  · skip
    refine Z_bipush 15 (nI 9) dL_garden_13 rfl rfl ?_
    refine Z_goto 20 dL_garden_15 rfl ?_
    refine Z_lv [2, 1, 0] rfl ?_
    exact lL_garden0 sy hK mm 9 _ hF (by decide)

set_option maxRecDepth 100000 in
set_option maxHeartbeats 4000000 in
theorem lL_garden1 {G : zG} {l : Launch} {h : Nat → Nat} {m : zM} {K n s : Nat} (sy : Sy K h m n s) (hK : K ≤ 1000) : ∀ (mm : zM) (d : Nat) (y : Int32), Fsv m mm → d = 8 ∨ d = 9 → Z G mL_garden (fun _ => True) (zN G (actP K h m n s) 0 0) l 0 0 (zw h mm) 20 [(2, .int y), (1, .int (nI 1)), (0, .ref (G.1 + 0))] [.int (nI d), .int y] := by
  intro mm d y hF hd
  have hI := sy.inv
  have hn := hI.n14
  have hk := sy.ok
  have g := hI.g
  refine Z_callS 23 [_, _] (zL_low _ d (by omega)) dL_garden_20 rfl qL_39 kL_low rfl rfl ⟨(Nat.le_of_ble_eq_true rfl), (Nat.le_of_ble_eq_true rfl)⟩ (Nat.le_of_ble_eq_true rfl) ⟨rfl, rfl⟩ ⟨(Nat.le_of_ble_eq_true rfl), (Nat.le_of_ble_eq_true rfl)⟩ (fun r9 w9 hp9 => ?_)
  obtain ⟨⟨q20, hq20, rfl⟩, rfl⟩ := hp9
  refine Z_istore_n 24 [(3, _), (2, _), (1, _), (0, _)] dL_garden_23 rfl (Nat.le_of_ble_eq_true rfl) rfl ?_
  rcases (show q20 = 8 ∨ q20 < 8 by omega) with k8 | k8
  · subst k8
    refine Z_iload_n 25 0 dL_garden_24 rfl rfl ?_
    refine Z_bipush 27 (nI 8) dL_garden_25 rfl rfl ?_
    refine Z_icmp_ne 30 34 dL_garden_27 rfl rfl (fun c27 => absurd c27 (by decide)) (fun c27 => ?_)
    refine Z_iconst 31 (nI 1) dL_garden_30 rfl rfl ?_
    refine Z_goto 35 dL_garden_31 rfl ?_
    refine Z_istore 37 [(4, _), (3, _), (2, _), (1, _), (0, _)] dL_garden_35 rfl (Nat.le_of_ble_eq_true rfl) rfl ?_
    refine Z_iload_n 38 3 dL_garden_37 rfl rfl ?_
    refine Z_if_ne 41 156 dL_garden_38 rfl rfl (fun c38 => ?_) (fun c38 => absurd (by decide) c38)
    refine Z_iload_n 157 3 dL_garden_156 rfl rfl ?_
    refine Z_iconst 158 (nI 1) dL_garden_157 rfl rfl ?_
    refine Z_icmp_ne 161 260 dL_garden_158 rfl rfl (fun c158 => absurd c158 (by decide)) (fun c158 => ?_)
    refine Z_iload_n 162 2 dL_garden_161 rfl rfl ?_
    refine Z_iconst 163 (nI 3) dL_garden_162 rfl rfl ?_
    refine Z_ishr 164 dL_garden_163 rfl ?_
    refine Z_bipush 166 (nI 7) dL_garden_164 rfl rfl ?_
    refine Z_callS 169 [_, _] (zL_low _ 7 (by decide)) dL_garden_166 rfl qL_39 kL_low rfl rfl ⟨(Nat.le_of_ble_eq_true rfl), (Nat.le_of_ble_eq_true rfl)⟩ (Nat.le_of_ble_eq_true rfl) ⟨rfl, rfl⟩ ⟨(Nat.le_of_ble_eq_true rfl), (Nat.le_of_ble_eq_true rfl)⟩ (fun r9 w9 hp9 => ?_)
    obtain ⟨⟨q166, hq166, rfl⟩, rfl⟩ := hp9
    refine Z_istore 171 [(5, _), (4, _), (3, _), (2, _), (1, _), (0, _)] dL_garden_169 rfl (Nat.le_of_ble_eq_true rfl) rfl ?_
    refine Z_iload 173 1 dL_garden_171 rfl rfl ?_
    refine Z_if_eq 176 180 dL_garden_173 rfl rfl (fun c173 => absurd c173 (by decide)) (fun c173 => ?_)
    refine Z_iconst 177 (nI 0) dL_garden_176 rfl rfl ?_
    refine Z_goto 186 dL_garden_177 rfl ?_
    refine Z_istore 188 [(6, _), (5, _), (4, _), (3, _), (2, _), (1, _), (0, _)] dL_garden_186 rfl (Nat.le_of_ble_eq_true rfl) rfl ?_
    refine Z_iload 190 2 dL_garden_188 rfl rfl ?_
    refine Z_if_ne 193 200 dL_garden_190 rfl rfl (fun c190 => ?_) (fun c190 => absurd (by decide) c190)
    refine Z_iconst 201 (nI 1) dL_garden_200 rfl rfl ?_
    refine Z_goto 205 dL_garden_201 rfl ?_
    refine Z_istore 207 [(7, _), (6, _), (5, _), (4, _), (3, _), (2, _), (1, _), (0, _)] dL_garden_205 rfl (Nat.le_of_ble_eq_true rfl) rfl ?_
    refine Z_aload_n 208 7 dL_garden_207 rfl rfl ?_
    refine Z_iload_n 209 4 dL_garden_208 rfl rfl ?_
    refine Z_iload 211 2 dL_garden_209 rfl rfl ?_
    refine Z_callV 214 [_, _] 3 (e_growth hF (by omega) (by omega) (Or.inl rfl)) dL_garden_211 rfl qL_81 kX3_growth rfl rfl (Nat.le_of_ble_eq_true rfl) rfl rfl ⟨(Nat.le_of_ble_eq_true rfl), (Nat.le_of_ble_eq_true rfl)⟩ (Nat.le_of_ble_eq_true rfl) ⟨rfl, rfl⟩ ⟨(Nat.le_of_ble_eq_true rfl), (Nat.le_of_ble_eq_true rfl)⟩ (fun r9 w9 hp9 => ?_)
    obtain ⟨rfl, mm, rfl, hF⟩ := hp9
    refine Z_iload 216 0 dL_garden_214 rfl rfl ?_
    refine Z_if_eq 219 223 dL_garden_216 rfl rfl (fun c216 => absurd c216 (by decide)) (fun c216 => ?_)
    refine Z_iconst 220 (-1) dL_garden_219 rfl rfl ?_
    refine Z_goto 225 dL_garden_220 rfl ?_
    refine Z_icmp_ne 228 258 dL_garden_225 rfl rfl (fun c225 => absurd c225 (by decide)) (fun c225 => ?_)
    refine Z_iload 230 3 dL_garden_228 rfl rfl ?_
    refine Z_if_ne 233 254 dL_garden_230 rfl rfl (fun c230 => ?_) (fun c230 => absurd (by decide) c230)
    refine Z_iconst 255 (nI 1) dL_garden_254 rfl rfl ?_
    refine Z_goto 259 dL_garden_255 rfl ?_
    exact Z_zret dL_garden_259 rfl (by first | exact Or.inl rfl | exact Or.inr rfl | exact bI_01) (by first | exact actOk (hA.v hF) | exact actOk (Act.noV sy hF))
  · skip
    refine Z_iload_n 25 0 dL_garden_24 rfl rfl ?_
    refine Z_bipush 27 (nI 8) dL_garden_25 rfl rfl ?_
    refine Z_icmp_ne 30 34 dL_garden_27 rfl rfl (fun c27 => ?_) (fun c27 => absurd (fun z => absurd (eqN z (by omega) (by omega)) (by omega)) c27)
    refine Z_iconst 35 (nI 0) dL_garden_34 rfl rfl ?_
    refine Z_istore 37 [(4, _), (3, _), (2, _), (1, _), (0, _)] dL_garden_35 rfl (Nat.le_of_ble_eq_true rfl) rfl ?_
    refine Z_iload_n 38 3 dL_garden_37 rfl rfl ?_
    refine Z_if_ne 41 156 dL_garden_38 rfl rfl (fun c38 => ?_) (fun c38 => absurd (by decide) c38)
    refine Z_iload_n 157 3 dL_garden_156 rfl rfl ?_
    refine Z_iconst 158 (nI 1) dL_garden_157 rfl rfl ?_
    refine Z_icmp_ne 161 260 dL_garden_158 rfl rfl (fun c158 => absurd c158 (by decide)) (fun c158 => ?_)
    refine Z_iload_n 162 2 dL_garden_161 rfl rfl ?_
    refine Z_iconst 163 (nI 3) dL_garden_162 rfl rfl ?_
    refine Z_ishr 164 dL_garden_163 rfl ?_
    refine Z_bipush 166 (nI 7) dL_garden_164 rfl rfl ?_
    refine Z_callS 169 [_, _] (zL_low _ 7 (by decide)) dL_garden_166 rfl qL_39 kL_low rfl rfl ⟨(Nat.le_of_ble_eq_true rfl), (Nat.le_of_ble_eq_true rfl)⟩ (Nat.le_of_ble_eq_true rfl) ⟨rfl, rfl⟩ ⟨(Nat.le_of_ble_eq_true rfl), (Nat.le_of_ble_eq_true rfl)⟩ (fun r9 w9 hp9 => ?_)
    obtain ⟨⟨q166, hq166, rfl⟩, rfl⟩ := hp9
    refine Z_istore 171 [(5, _), (4, _), (3, _), (2, _), (1, _), (0, _)] dL_garden_169 rfl (Nat.le_of_ble_eq_true rfl) rfl ?_
    have hq9 : q166 ≤ 6 := by omega
    rcases (show q166 = 6 ∨ q166 < 6 by omega) with e9 | e9
    · subst e9
      refine Z_iload 173 1 dL_garden_171 rfl rfl ?_
      refine Z_if_eq 176 180 dL_garden_173 rfl rfl (fun c173 => ?_) (fun c173 => absurd (by decide) c173)
      refine Z_aload_n 181 5 dL_garden_180 rfl rfl ?_
      refine Z_iload_n 182 2 dL_garden_181 rfl rfl ?_
      refine Z_iconst 183 (nI 1) dL_garden_182 rfl rfl ?_
      refine Z_callV 186 [_, _] 3 (v_hedge1 hF hk (by first | assumption | omega)) dL_garden_183 rfl qL_19 kX3_hedge rfl rfl (Nat.le_of_ble_eq_true rfl) rfl rfl ⟨(Nat.le_of_ble_eq_true rfl), (Nat.le_of_ble_eq_true rfl)⟩ (Nat.le_of_ble_eq_true rfl) ⟨rfl, rfl⟩ ⟨(Nat.le_of_ble_eq_true rfl), (Nat.le_of_ble_eq_true rfl)⟩ (fun r9 w9 hp9 => ?_)
      obtain ⟨rfl, mm, rfl, hF⟩ := hp9
      refine Z_istore 188 [(6, _), (5, _), (4, _), (3, _), (2, _), (1, _), (0, _)] dL_garden_186 rfl (Nat.le_of_ble_eq_true rfl) rfl ?_
      refine Z_iload 190 2 dL_garden_188 rfl rfl ?_
      refine Z_if_ne 193 200 dL_garden_190 rfl rfl (fun c190 => absurd c190 (by decide)) (fun c190 => ?_)
      refine Z_iload 195 1 dL_garden_193 rfl rfl ?_
      refine Z_bipush 197 (nI 6) dL_garden_195 rfl rfl ?_
      refine Z_icmp_ne 200 204 dL_garden_197 rfl rfl (fun c197 => absurd c197 (by decide)) (fun c197 => ?_)
      refine Z_iconst 201 (nI 1) dL_garden_200 rfl rfl ?_
      refine Z_goto 205 dL_garden_201 rfl ?_
      refine Z_istore 207 [(7, _), (6, _), (5, _), (4, _), (3, _), (2, _), (1, _), (0, _)] dL_garden_205 rfl (Nat.le_of_ble_eq_true rfl) rfl ?_
      refine Z_aload_n 208 7 dL_garden_207 rfl rfl ?_
      refine Z_iload_n 209 4 dL_garden_208 rfl rfl ?_
      refine Z_iload 211 2 dL_garden_209 rfl rfl ?_
      refine Z_callV 214 [_, _] 3 (e_growth hF (by omega) (by omega) (Or.inr rfl)) dL_garden_211 rfl qL_81 kX3_growth rfl rfl (Nat.le_of_ble_eq_true rfl) rfl rfl ⟨(Nat.le_of_ble_eq_true rfl), (Nat.le_of_ble_eq_true rfl)⟩ (Nat.le_of_ble_eq_true rfl) ⟨rfl, rfl⟩ ⟨(Nat.le_of_ble_eq_true rfl), (Nat.le_of_ble_eq_true rfl)⟩ (fun r9 w9 hp9 => ?_)
      obtain ⟨rfl, mm, rfl, hF⟩ := hp9
      refine Z_iload 216 0 dL_garden_214 rfl rfl ?_
      refine Z_if_eq 219 223 dL_garden_216 rfl rfl (fun c216 => absurd c216 (by decide)) (fun c216 => ?_)
      refine Z_iconst 220 (-1) dL_garden_219 rfl rfl ?_
      refine Z_goto 225 dL_garden_220 rfl ?_
      refine Z_icmp_ne 228 258 dL_garden_225 rfl rfl (fun c225 => absurd c225 (fun z => z rfl)) (fun c225 => ?_)
      refine Z_iload 230 3 dL_garden_228 rfl rfl ?_
      refine Z_if_ne 233 254 dL_garden_230 rfl rfl (fun c230 => absurd c230 (by decide)) (fun c230 => ?_)
      refine Z_aload_n 234 7 dL_garden_233 rfl rfl ?_
      refine Z_iload_n 235 4 dL_garden_234 rfl rfl ?_
      refine Z_iconst 236 (nI 1) dL_garden_235 rfl rfl ?_
      refine Z_callV 239 [_, _] 3 (v_hedge1 hF hk (by first | assumption | omega)) dL_garden_236 rfl qL_19 kX3_hedge rfl rfl (Nat.le_of_ble_eq_true rfl) rfl rfl ⟨(Nat.le_of_ble_eq_true rfl), (Nat.le_of_ble_eq_true rfl)⟩ (Nat.le_of_ble_eq_true rfl) ⟨rfl, rfl⟩ ⟨(Nat.le_of_ble_eq_true rfl), (Nat.le_of_ble_eq_true rfl)⟩ (fun r9 w9 hp9 => ?_)
      obtain ⟨rfl, mm, rfl, hF⟩ := hp9
      refine Z_iload 241 0 dL_garden_239 rfl rfl ?_
      refine Z_if_eq 244 249 dL_garden_241 rfl rfl (fun c241 => absurd c241 (by decide)) (fun c241 => ?_)
      refine Z_iload 246 1 dL_garden_244 rfl rfl ?_
      refine Z_goto 251 dL_garden_246 rfl ?_
      refine Z_icmp_ne 254 258 dL_garden_251 rfl rfl (fun c251 => absurd c251 (fun z => z rfl)) (fun c251 => ?_)
      refine Z_iconst 255 (nI 1) dL_garden_254 rfl rfl ?_
      refine Z_goto 259 dL_garden_255 rfl ?_
      exact Z_zret dL_garden_259 rfl (by first | exact Or.inl rfl | exact Or.inr rfl | exact bI_01) (by first | exact actOk (hA.v hF) | exact actOk (Act.noV sy hF))
    · skip
      refine Z_iload 173 1 dL_garden_171 rfl rfl ?_
      refine Z_if_eq 176 180 dL_garden_173 rfl rfl (fun c173 => ?_) (fun c173 => absurd (by decide) c173)
      refine Z_aload_n 181 5 dL_garden_180 rfl rfl ?_
      refine Z_iload_n 182 2 dL_garden_181 rfl rfl ?_
      refine Z_iconst 183 (nI 1) dL_garden_182 rfl rfl ?_
      refine Z_callV 186 [_, _] 3 (v_hedge1 hF hk (by first | assumption | omega)) dL_garden_183 rfl qL_19 kX3_hedge rfl rfl (Nat.le_of_ble_eq_true rfl) rfl rfl ⟨(Nat.le_of_ble_eq_true rfl), (Nat.le_of_ble_eq_true rfl)⟩ (Nat.le_of_ble_eq_true rfl) ⟨rfl, rfl⟩ ⟨(Nat.le_of_ble_eq_true rfl), (Nat.le_of_ble_eq_true rfl)⟩ (fun r9 w9 hp9 => ?_)
      obtain ⟨rfl, mm, rfl, hF⟩ := hp9
      refine Z_istore 188 [(6, _), (5, _), (4, _), (3, _), (2, _), (1, _), (0, _)] dL_garden_186 rfl (Nat.le_of_ble_eq_true rfl) rfl ?_
      refine Z_iload 190 2 dL_garden_188 rfl rfl ?_
      refine Z_if_ne 193 200 dL_garden_190 rfl rfl (fun c190 => absurd c190 (by decide)) (fun c190 => ?_)
      refine Z_iload 195 1 dL_garden_193 rfl rfl ?_
      refine Z_bipush 197 (nI 6) dL_garden_195 rfl rfl ?_
      refine Z_icmp_ne 200 204 dL_garden_197 rfl rfl (fun c197 => ?_) (fun c197 => absurd (fun z => absurd (eqN z (by omega) (by omega)) (by omega)) c197)
      refine Z_iconst 205 (nI 0) dL_garden_204 rfl rfl ?_
      refine Z_istore 207 [(7, _), (6, _), (5, _), (4, _), (3, _), (2, _), (1, _), (0, _)] dL_garden_205 rfl (Nat.le_of_ble_eq_true rfl) rfl ?_
      refine Z_aload_n 208 7 dL_garden_207 rfl rfl ?_
      refine Z_iload_n 209 4 dL_garden_208 rfl rfl ?_
      refine Z_iload 211 2 dL_garden_209 rfl rfl ?_
      refine Z_callV 214 [_, _] 3 (v_growth sy hF k8 (by omega)) dL_garden_211 rfl qL_81 kX3_growth rfl rfl (Nat.le_of_ble_eq_true rfl) rfl rfl ⟨(Nat.le_of_ble_eq_true rfl), (Nat.le_of_ble_eq_true rfl)⟩ (Nat.le_of_ble_eq_true rfl) ⟨rfl, rfl⟩ ⟨(Nat.le_of_ble_eq_true rfl), (Nat.le_of_ble_eq_true rfl)⟩ (fun r9 w9 hp9 => ?_)
      obtain ⟨rfl, M, rfl, hA, hM⟩ := hp9
      have hk := hA.1.ok
      have g := hA.1.inv.g
      have hF : Fsv M M := Fsv.rf
      refine Z_iload 216 0 dL_garden_214 rfl rfl ?_
      refine Z_if_eq 219 223 dL_garden_216 rfl rfl (fun c216 => ?_) (fun c216 => absurd (by decide) c216)
      refine Z_iload 225 1 dL_garden_223 rfl rfl ?_
      refine Z_icmp_ne 228 258 dL_garden_225 rfl rfl (fun c225 => absurd c225 (fun z => z rfl)) (fun c225 => ?_)
      refine Z_iload 230 3 dL_garden_228 rfl rfl ?_
      refine Z_if_ne 233 254 dL_garden_230 rfl rfl (fun c230 => absurd c230 (by decide)) (fun c230 => ?_)
      refine Z_aload_n 234 7 dL_garden_233 rfl rfl ?_
      refine Z_iload_n 235 4 dL_garden_234 rfl rfl ?_
      refine Z_iconst 236 (nI 1) dL_garden_235 rfl rfl ?_
      refine Z_callV 239 [_, _] 3 (v_hedge1 hF hk (by first | assumption | omega)) dL_garden_236 rfl qL_19 kX3_hedge rfl rfl (Nat.le_of_ble_eq_true rfl) rfl rfl ⟨(Nat.le_of_ble_eq_true rfl), (Nat.le_of_ble_eq_true rfl)⟩ (Nat.le_of_ble_eq_true rfl) ⟨rfl, rfl⟩ ⟨(Nat.le_of_ble_eq_true rfl), (Nat.le_of_ble_eq_true rfl)⟩ (fun r9 w9 hp9 => ?_)
      obtain ⟨rfl, mm, rfl, hF⟩ := hp9
      refine Z_iload 241 0 dL_garden_239 rfl rfl ?_
      refine Z_if_eq 244 249 dL_garden_241 rfl rfl (fun c241 => ?_) (fun c241 => absurd (by decide) c241)
      refine Z_iload 251 2 dL_garden_249 rfl rfl ?_
      refine Z_icmp_ne 254 258 dL_garden_251 rfl rfl (fun c251 => absurd c251 (fun z => z hM)) (fun c251 => ?_)
      refine Z_iconst 255 (nI 1) dL_garden_254 rfl rfl ?_
      refine Z_goto 259 dL_garden_255 rfl ?_
      exact Z_zret dL_garden_259 rfl (by first | exact Or.inl rfl | exact Or.inr rfl | exact bI_01) (by first | exact actOk (hA.v hF) | exact actOk (Act.noV sy hF))

set_option maxRecDepth 100000 in
set_option maxHeartbeats 4000000 in
theorem zL_garden1 {G : zG} {l : Launch} {h : Nat → Nat} {m : zM} {K n s : Nat} {mm : zM} (sy : Sy K h m n s) (hK : K ≤ 1000) (hF : Fsv m mm) (y : Int32) : zMet G l yL_garden mL_garden [.ref (G.1 + 0), .int (nI 1), .int y] (zw h mm) (actP K h m n s) 0 0 := by
  refine zMet_of [(0, .ref (G.1 + 0)), (1, .int (nI 1)), (2, .int y)] (by decide +kernel) rfl (Or.inl rfl) (Nat.le_of_ble_eq_true rfl) rfl ?_
  refine Z_iload_n 1 2 dL_garden_0 rfl rfl ?_
  refine Z_iload_n 2 2 dL_garden_1 rfl rfl ?_
  refine Z_bipush 4 (nI 14) dL_garden_2 rfl rfl ?_
  refine Z_ishr 5 dL_garden_4 rfl ?_
  refine Z_bipush 7 (nI 9) dL_garden_5 rfl rfl ?_
  refine Z_callS 10 [_, _] (zL_low _ 9 (by decide)) dL_garden_7 rfl qL_39 kL_low rfl rfl ⟨(Nat.le_of_ble_eq_true rfl), (Nat.le_of_ble_eq_true rfl)⟩ (Nat.le_of_ble_eq_true rfl) ⟨rfl, rfl⟩ ⟨(Nat.le_of_ble_eq_true rfl), (Nat.le_of_ble_eq_true rfl)⟩ (fun r9 w9 hp9 => ?_)
  obtain ⟨⟨q7, hq7, rfl⟩, rfl⟩ := hp9
  refine Z_if_ne 13 18 dL_garden_10 rfl rfl (fun c10 => ?_) (fun c10 => ?_)
  · skip
    refine Z_bipush 20 (nI 8) dL_garden_18 rfl rfl ?_
    refine Z_lv [2, 1, 0] rfl ?_
    exact lL_garden1 sy hK mm 8 _ hF (by decide)
  · skip
    refine Z_bipush 15 (nI 9) dL_garden_13 rfl rfl ?_
    refine Z_goto 20 dL_garden_15 rfl ?_
    refine Z_lv [2, 1, 0] rfl ?_
    exact lL_garden1 sy hK mm 9 _ hF (by decide)

set_option maxRecDepth 100000 in
set_option maxHeartbeats 4000000 in
theorem lL_garden2 {G : zG} {l : Launch} {h : Nat → Nat} {m : zM} {K n s : Nat} (sy : Sy K h m n s) (hK : K ≤ 1000) : ∀ (mm : zM) (d : Nat) (y : Int32), Fsv m mm → d = 8 ∨ d = 9 → Z G mL_garden (fun _ => True) (zN G (actP K h m n s) 0 0) l 0 0 (zw h mm) 20 [(2, .int y), (1, .int (nI 2)), (0, .ref (G.1 + 0))] [.int (nI d), .int y] := by
  intro mm d y hF hd
  have hI := sy.inv
  have hn := hI.n14
  have hk := sy.ok
  have g := hI.g
  refine Z_callS 23 [_, _] (zL_low _ d (by omega)) dL_garden_20 rfl qL_39 kL_low rfl rfl ⟨(Nat.le_of_ble_eq_true rfl), (Nat.le_of_ble_eq_true rfl)⟩ (Nat.le_of_ble_eq_true rfl) ⟨rfl, rfl⟩ ⟨(Nat.le_of_ble_eq_true rfl), (Nat.le_of_ble_eq_true rfl)⟩ (fun r9 w9 hp9 => ?_)
  obtain ⟨⟨q20, hq20, rfl⟩, rfl⟩ := hp9
  refine Z_istore_n 24 [(3, _), (2, _), (1, _), (0, _)] dL_garden_23 rfl (Nat.le_of_ble_eq_true rfl) rfl ?_
  rcases (show q20 = 8 ∨ q20 < 8 by omega) with k8 | k8
  · subst k8
    have KJ : ∀ (mm : zM) (d : Nat) (v : Int32), Fsv m mm → 0 < d ∧ d ≤ 32 → Z G mL_garden (fun _ => True) (zN G (actP K h m n s) 0 0) l 0 0 (zw h mm) 285 [(4, .int (nI 1)), (3, .int (nI 8)), (2, .int y), (1, .int (nI 2)), (0, .ref (G.1 + 0))] [.int (nI d), .int v] := by
      intro mm d v hF hd
      refine Z_callS 288 [_, _] (zL_low _ d ⟨hd.1, by omega⟩) dL_garden_285 rfl qL_39 kL_low rfl rfl ⟨(Nat.le_of_ble_eq_true rfl), (Nat.le_of_ble_eq_true rfl)⟩ (Nat.le_of_ble_eq_true rfl) ⟨rfl, rfl⟩ ⟨(Nat.le_of_ble_eq_true rfl), (Nat.le_of_ble_eq_true rfl)⟩ (fun r9 w9 hp9 => ?_)
      obtain ⟨⟨q285, hq285, rfl⟩, rfl⟩ := hp9
      refine Z_istore 290 [(5, _), (4, _), (3, _), (2, _), (1, _), (0, _)] dL_garden_288 rfl (Nat.le_of_ble_eq_true rfl) rfl ?_
      refine Z_iload 292 1 dL_garden_290 rfl rfl ?_
      refine Z_if_eq 295 299 dL_garden_292 rfl rfl (fun c292 => absurd c292 (by decide)) (fun c292 => ?_)
      refine Z_iconst 296 (nI 0) dL_garden_295 rfl rfl ?_
      refine Z_goto 305 dL_garden_296 rfl ?_
      refine Z_istore 307 [(6, _), (5, _), (4, _), (3, _), (2, _), (1, _), (0, _)] dL_garden_305 rfl (Nat.le_of_ble_eq_true rfl) rfl ?_
      refine Z_iload 309 2 dL_garden_307 rfl rfl ?_
      refine Z_if_ne 312 319 dL_garden_309 rfl rfl (fun c309 => ?_) (fun c309 => absurd (by decide) c309)
      refine Z_iconst 320 (nI 1) dL_garden_319 rfl rfl ?_
      refine Z_goto 324 dL_garden_320 rfl ?_
      refine Z_istore 326 [(7, _), (6, _), (5, _), (4, _), (3, _), (2, _), (1, _), (0, _)] dL_garden_324 rfl (Nat.le_of_ble_eq_true rfl) rfl ?_
      refine Z_aload_n 327 7 dL_garden_326 rfl rfl ?_
      refine Z_iload_n 328 4 dL_garden_327 rfl rfl ?_
      refine Z_iload 330 2 dL_garden_328 rfl rfl ?_
      refine Z_callV 333 [_, _] 3 (e_nest hF (by omega) (by omega) (Or.inl rfl)) dL_garden_330 rfl qL_84 kX3_nest rfl rfl (Nat.le_of_ble_eq_true rfl) rfl rfl ⟨(Nat.le_of_ble_eq_true rfl), (Nat.le_of_ble_eq_true rfl)⟩ (Nat.le_of_ble_eq_true rfl) ⟨rfl, rfl⟩ ⟨(Nat.le_of_ble_eq_true rfl), (Nat.le_of_ble_eq_true rfl)⟩ (fun r9 w9 hp9 => ?_)
      obtain ⟨rfl, mm, rfl, hF⟩ := hp9
      refine Z_iload 335 0 dL_garden_333 rfl rfl ?_
      refine Z_if_eq 338 342 dL_garden_335 rfl rfl (fun c335 => absurd c335 (by decide)) (fun c335 => ?_)
      refine Z_iconst 339 (-1) dL_garden_338 rfl rfl ?_
      refine Z_goto 344 dL_garden_339 rfl ?_
      refine Z_icmp_ne 347 383 dL_garden_344 rfl rfl (fun c344 => absurd c344 (by decide)) (fun c344 => ?_)
      refine Z_iload 349 3 dL_garden_347 rfl rfl ?_
      refine Z_if_ne 352 379 dL_garden_349 rfl rfl (fun c349 => ?_) (fun c349 => absurd (by decide) c349)
      refine Z_iconst 380 (nI 1) dL_garden_379 rfl rfl ?_
      refine Z_goto 384 dL_garden_380 rfl ?_
      exact Z_zret dL_garden_384 rfl (by first | exact Or.inl rfl | exact Or.inr rfl | exact bI_01) (by first | exact actOk (hA.v hF) | exact actOk (Act.noV sy hF))
    refine Z_iload_n 25 0 dL_garden_24 rfl rfl ?_
    refine Z_bipush 27 (nI 8) dL_garden_25 rfl rfl ?_
    refine Z_icmp_ne 30 34 dL_garden_27 rfl rfl (fun c27 => absurd c27 (by decide)) (fun c27 => ?_)
    refine Z_iconst 31 (nI 1) dL_garden_30 rfl rfl ?_
    refine Z_goto 35 dL_garden_31 rfl ?_
    refine Z_istore 37 [(4, _), (3, _), (2, _), (1, _), (0, _)] dL_garden_35 rfl (Nat.le_of_ble_eq_true rfl) rfl ?_
    refine Z_iload_n 38 3 dL_garden_37 rfl rfl ?_
    refine Z_if_ne 41 156 dL_garden_38 rfl rfl (fun c38 => ?_) (fun c38 => absurd (by decide) c38)
    refine Z_iload_n 157 3 dL_garden_156 rfl rfl ?_
    refine Z_iconst 158 (nI 1) dL_garden_157 rfl rfl ?_
    refine Z_icmp_ne 161 260 dL_garden_158 rfl rfl (fun c158 => ?_) (fun c158 => absurd (by decide) c158)
    refine Z_iload_n 261 3 dL_garden_260 rfl rfl ?_
    refine Z_iconst 262 (nI 2) dL_garden_261 rfl rfl ?_
    refine Z_icmp_ne 265 385 dL_garden_262 rfl rfl (fun c262 => absurd c262 (by decide)) (fun c262 => ?_)
    refine Z_iload_n 266 2 dL_garden_265 rfl rfl ?_
    refine Z_iconst 267 (nI 3) dL_garden_266 rfl rfl ?_
    refine Z_ishr 268 dL_garden_267 rfl ?_
    refine Z_iload_n 269 2 dL_garden_268 rfl rfl ?_
    refine Z_bipush 271 (nI 9) dL_garden_269 rfl rfl ?_
    refine Z_ishr 272 dL_garden_271 rfl ?_
    refine Z_iconst 273 (nI 3) dL_garden_272 rfl rfl ?_
    refine Z_callS 276 [_, _] (zL_low _ 3 (by decide)) dL_garden_273 rfl qL_39 kL_low rfl rfl ⟨(Nat.le_of_ble_eq_true rfl), (Nat.le_of_ble_eq_true rfl)⟩ (Nat.le_of_ble_eq_true rfl) ⟨rfl, rfl⟩ ⟨(Nat.le_of_ble_eq_true rfl), (Nat.le_of_ble_eq_true rfl)⟩ (fun r9 w9 hp9 => ?_)
    obtain ⟨⟨q273, hq273, rfl⟩, rfl⟩ := hp9
    refine Z_if_ne 279 284 dL_garden_276 rfl rfl (fun c276 => ?_) (fun c276 => ?_)
    · skip
      refine Z_iconst 285 (nI 4) dL_garden_284 rfl rfl ?_
      exact KJ mm 4 _ hF (by decide)
    · skip
      refine Z_bipush 281 (nI 32) dL_garden_279 rfl rfl ?_
      refine Z_goto 285 dL_garden_281 rfl ?_
      exact KJ mm 32 _ hF (by decide)
  · skip
    have KJ : ∀ (mm : zM) (d : Nat) (v : Int32), Fsv m mm → 0 < d ∧ d ≤ 32 → Z G mL_garden (fun _ => True) (zN G (actP K h m n s) 0 0) l 0 0 (zw h mm) 285 [(4, .int (nI 0)), (3, .int (nI q20)), (2, .int y), (1, .int (nI 2)), (0, .ref (G.1 + 0))] [.int (nI d), .int v] := by
      intro mm d v hF hd
      refine Z_callS 288 [_, _] (zL_low _ d ⟨hd.1, by omega⟩) dL_garden_285 rfl qL_39 kL_low rfl rfl ⟨(Nat.le_of_ble_eq_true rfl), (Nat.le_of_ble_eq_true rfl)⟩ (Nat.le_of_ble_eq_true rfl) ⟨rfl, rfl⟩ ⟨(Nat.le_of_ble_eq_true rfl), (Nat.le_of_ble_eq_true rfl)⟩ (fun r9 w9 hp9 => ?_)
      obtain ⟨⟨q285, hq285, rfl⟩, rfl⟩ := hp9
      refine Z_istore 290 [(5, _), (4, _), (3, _), (2, _), (1, _), (0, _)] dL_garden_288 rfl (Nat.le_of_ble_eq_true rfl) rfl ?_
      have hq9 : q285 ≤ 31 := by omega
      rcases (show q285 = 31 ∨ q285 < 31 by omega) with e9 | e9
      · subst e9
        refine Z_iload 292 1 dL_garden_290 rfl rfl ?_
        refine Z_if_eq 295 299 dL_garden_292 rfl rfl (fun c292 => ?_) (fun c292 => absurd (by decide) c292)
        refine Z_aload_n 300 5 dL_garden_299 rfl rfl ?_
        refine Z_iload_n 301 2 dL_garden_300 rfl rfl ?_
        refine Z_iconst 302 (nI 3) dL_garden_301 rfl rfl ?_
        refine Z_callV 305 [_, _] 3 (v_hedge3 hF hk (by first | assumption | omega)) dL_garden_302 rfl qL_19 kX3_hedge rfl rfl (Nat.le_of_ble_eq_true rfl) rfl rfl ⟨(Nat.le_of_ble_eq_true rfl), (Nat.le_of_ble_eq_true rfl)⟩ (Nat.le_of_ble_eq_true rfl) ⟨rfl, rfl⟩ ⟨(Nat.le_of_ble_eq_true rfl), (Nat.le_of_ble_eq_true rfl)⟩ (fun r9 w9 hp9 => ?_)
        obtain ⟨rfl, mm, rfl, hF⟩ := hp9
        refine Z_istore 307 [(6, _), (5, _), (4, _), (3, _), (2, _), (1, _), (0, _)] dL_garden_305 rfl (Nat.le_of_ble_eq_true rfl) rfl ?_
        refine Z_iload 309 2 dL_garden_307 rfl rfl ?_
        refine Z_if_ne 312 319 dL_garden_309 rfl rfl (fun c309 => absurd c309 (by decide)) (fun c309 => ?_)
        refine Z_iload 314 1 dL_garden_312 rfl rfl ?_
        refine Z_bipush 316 (nI 31) dL_garden_314 rfl rfl ?_
        refine Z_icmp_ne 319 323 dL_garden_316 rfl rfl (fun c316 => absurd c316 (by decide)) (fun c316 => ?_)
        refine Z_iconst 320 (nI 1) dL_garden_319 rfl rfl ?_
        refine Z_goto 324 dL_garden_320 rfl ?_
        refine Z_istore 326 [(7, _), (6, _), (5, _), (4, _), (3, _), (2, _), (1, _), (0, _)] dL_garden_324 rfl (Nat.le_of_ble_eq_true rfl) rfl ?_
        refine Z_aload_n 327 7 dL_garden_326 rfl rfl ?_
        refine Z_iload_n 328 4 dL_garden_327 rfl rfl ?_
        refine Z_iload 330 2 dL_garden_328 rfl rfl ?_
        refine Z_callV 333 [_, _] 3 (e_nest hF (by omega) (by omega) (Or.inr rfl)) dL_garden_330 rfl qL_84 kX3_nest rfl rfl (Nat.le_of_ble_eq_true rfl) rfl rfl ⟨(Nat.le_of_ble_eq_true rfl), (Nat.le_of_ble_eq_true rfl)⟩ (Nat.le_of_ble_eq_true rfl) ⟨rfl, rfl⟩ ⟨(Nat.le_of_ble_eq_true rfl), (Nat.le_of_ble_eq_true rfl)⟩ (fun r9 w9 hp9 => ?_)
        obtain ⟨rfl, mm, rfl, hF⟩ := hp9
        refine Z_iload 335 0 dL_garden_333 rfl rfl ?_
        refine Z_if_eq 338 342 dL_garden_335 rfl rfl (fun c335 => absurd c335 (by decide)) (fun c335 => ?_)
        refine Z_iconst 339 (-1) dL_garden_338 rfl rfl ?_
        refine Z_goto 344 dL_garden_339 rfl ?_
        refine Z_icmp_ne 347 383 dL_garden_344 rfl rfl (fun c344 => absurd c344 (fun z => z rfl)) (fun c344 => ?_)
        refine Z_iload 349 3 dL_garden_347 rfl rfl ?_
        refine Z_if_ne 352 379 dL_garden_349 rfl rfl (fun c349 => absurd c349 (by decide)) (fun c349 => ?_)
        refine Z_aload_n 353 7 dL_garden_352 rfl rfl ?_
        refine Z_iload_n 354 4 dL_garden_353 rfl rfl ?_
        refine Z_iconst 355 (nI 3) dL_garden_354 rfl rfl ?_
        refine Z_callV 358 [_, _] 3 (v_hedge3 hF hk (by first | assumption | omega)) dL_garden_355 rfl qL_19 kX3_hedge rfl rfl (Nat.le_of_ble_eq_true rfl) rfl rfl ⟨(Nat.le_of_ble_eq_true rfl), (Nat.le_of_ble_eq_true rfl)⟩ (Nat.le_of_ble_eq_true rfl) ⟨rfl, rfl⟩ ⟨(Nat.le_of_ble_eq_true rfl), (Nat.le_of_ble_eq_true rfl)⟩ (fun r9 w9 hp9 => ?_)
        obtain ⟨rfl, mm, rfl, hF⟩ := hp9
        refine Z_iload 360 0 dL_garden_358 rfl rfl ?_
        refine Z_if_eq 363 368 dL_garden_360 rfl rfl (fun c360 => absurd c360 (by decide)) (fun c360 => ?_)
        refine Z_iload 365 1 dL_garden_363 rfl rfl ?_
        refine Z_goto 376 dL_garden_365 rfl ?_
        refine Z_icmp_ne 379 383 dL_garden_376 rfl rfl (fun c376 => absurd c376 (fun z => z rfl)) (fun c376 => ?_)
        refine Z_iconst 380 (nI 1) dL_garden_379 rfl rfl ?_
        refine Z_goto 384 dL_garden_380 rfl ?_
        exact Z_zret dL_garden_384 rfl (by first | exact Or.inl rfl | exact Or.inr rfl | exact bI_01) (by first | exact actOk (hA.v hF) | exact actOk (Act.noV sy hF))
      · skip
        refine Z_iload 292 1 dL_garden_290 rfl rfl ?_
        refine Z_if_eq 295 299 dL_garden_292 rfl rfl (fun c292 => ?_) (fun c292 => absurd (by decide) c292)
        refine Z_aload_n 300 5 dL_garden_299 rfl rfl ?_
        refine Z_iload_n 301 2 dL_garden_300 rfl rfl ?_
        refine Z_iconst 302 (nI 3) dL_garden_301 rfl rfl ?_
        refine Z_callV 305 [_, _] 3 (v_hedge3 hF hk (by first | assumption | omega)) dL_garden_302 rfl qL_19 kX3_hedge rfl rfl (Nat.le_of_ble_eq_true rfl) rfl rfl ⟨(Nat.le_of_ble_eq_true rfl), (Nat.le_of_ble_eq_true rfl)⟩ (Nat.le_of_ble_eq_true rfl) ⟨rfl, rfl⟩ ⟨(Nat.le_of_ble_eq_true rfl), (Nat.le_of_ble_eq_true rfl)⟩ (fun r9 w9 hp9 => ?_)
        obtain ⟨rfl, mm, rfl, hF⟩ := hp9
        refine Z_istore 307 [(6, _), (5, _), (4, _), (3, _), (2, _), (1, _), (0, _)] dL_garden_305 rfl (Nat.le_of_ble_eq_true rfl) rfl ?_
        refine Z_iload 309 2 dL_garden_307 rfl rfl ?_
        refine Z_if_ne 312 319 dL_garden_309 rfl rfl (fun c309 => absurd c309 (by decide)) (fun c309 => ?_)
        refine Z_iload 314 1 dL_garden_312 rfl rfl ?_
        refine Z_bipush 316 (nI 31) dL_garden_314 rfl rfl ?_
        refine Z_icmp_ne 319 323 dL_garden_316 rfl rfl (fun c316 => ?_) (fun c316 => absurd (fun z => absurd (eqN z (by omega) (by omega)) (by omega)) c316)
        refine Z_iconst 324 (nI 0) dL_garden_323 rfl rfl ?_
        refine Z_istore 326 [(7, _), (6, _), (5, _), (4, _), (3, _), (2, _), (1, _), (0, _)] dL_garden_324 rfl (Nat.le_of_ble_eq_true rfl) rfl ?_
        refine Z_aload_n 327 7 dL_garden_326 rfl rfl ?_
        refine Z_iload_n 328 4 dL_garden_327 rfl rfl ?_
        refine Z_iload 330 2 dL_garden_328 rfl rfl ?_
        refine Z_callV 333 [_, _] 3 (v_nest sy hF k8 (by omega)) dL_garden_330 rfl qL_84 kX3_nest rfl rfl (Nat.le_of_ble_eq_true rfl) rfl rfl ⟨(Nat.le_of_ble_eq_true rfl), (Nat.le_of_ble_eq_true rfl)⟩ (Nat.le_of_ble_eq_true rfl) ⟨rfl, rfl⟩ ⟨(Nat.le_of_ble_eq_true rfl), (Nat.le_of_ble_eq_true rfl)⟩ (fun r9 w9 hp9 => ?_)
        obtain ⟨rfl, M, rfl, hA, hM⟩ := hp9
        have hk := hA.1.ok
        have g := hA.1.inv.g
        have hF : Fsv M M := Fsv.rf
        refine Z_iload 335 0 dL_garden_333 rfl rfl ?_
        refine Z_if_eq 338 342 dL_garden_335 rfl rfl (fun c335 => ?_) (fun c335 => absurd (by decide) c335)
        refine Z_iload 344 1 dL_garden_342 rfl rfl ?_
        refine Z_icmp_ne 347 383 dL_garden_344 rfl rfl (fun c344 => absurd c344 (fun z => z rfl)) (fun c344 => ?_)
        refine Z_iload 349 3 dL_garden_347 rfl rfl ?_
        refine Z_if_ne 352 379 dL_garden_349 rfl rfl (fun c349 => absurd c349 (by decide)) (fun c349 => ?_)
        refine Z_aload_n 353 7 dL_garden_352 rfl rfl ?_
        refine Z_iload_n 354 4 dL_garden_353 rfl rfl ?_
        refine Z_iconst 355 (nI 3) dL_garden_354 rfl rfl ?_
        refine Z_callV 358 [_, _] 3 (v_hedge3 hF hk (by first | assumption | omega)) dL_garden_355 rfl qL_19 kX3_hedge rfl rfl (Nat.le_of_ble_eq_true rfl) rfl rfl ⟨(Nat.le_of_ble_eq_true rfl), (Nat.le_of_ble_eq_true rfl)⟩ (Nat.le_of_ble_eq_true rfl) ⟨rfl, rfl⟩ ⟨(Nat.le_of_ble_eq_true rfl), (Nat.le_of_ble_eq_true rfl)⟩ (fun r9 w9 hp9 => ?_)
        obtain ⟨rfl, mm, rfl, hF⟩ := hp9
        refine Z_iload 360 0 dL_garden_358 rfl rfl ?_
        refine Z_if_eq 363 368 dL_garden_360 rfl rfl (fun c360 => ?_) (fun c360 => absurd (by decide) c360)
        refine Z_aload_n 369 7 dL_garden_368 rfl rfl ?_
        refine Z_iconst 370 (nI 0) dL_garden_369 rfl rfl ?_
        refine Z_callV 373 [_] 3 (v_count0 hF hk) dL_garden_370 rfl qL_13 kX3_count rfl rfl (Nat.le_of_ble_eq_true rfl) rfl rfl ⟨(Nat.le_of_ble_eq_true rfl), (Nat.le_of_ble_eq_true rfl)⟩ (Nat.le_of_ble_eq_true rfl) ⟨rfl, rfl⟩ ⟨(Nat.le_of_ble_eq_true rfl), (Nat.le_of_ble_eq_true rfl)⟩ (fun r9 w9 hp9 => ?_)
        obtain ⟨rfl, mm, rfl, hF⟩ := hp9
        refine Z_iload 375 2 dL_garden_373 rfl rfl ?_
        refine Z_iadd 376 dL_garden_375 rfl ?_
        refine Z_icmp_ne 379 383 dL_garden_376 rfl rfl (fun c376 => absurd c376 (fun z => z (by rw [hM.1, hM.2]))) (fun c376 => ?_)
        refine Z_iconst 380 (nI 1) dL_garden_379 rfl rfl ?_
        refine Z_goto 384 dL_garden_380 rfl ?_
        exact Z_zret dL_garden_384 rfl (by first | exact Or.inl rfl | exact Or.inr rfl | exact bI_01) (by first | exact actOk (hA.v hF) | exact actOk (Act.noV sy hF))
    refine Z_iload_n 25 0 dL_garden_24 rfl rfl ?_
    refine Z_bipush 27 (nI 8) dL_garden_25 rfl rfl ?_
    refine Z_icmp_ne 30 34 dL_garden_27 rfl rfl (fun c27 => ?_) (fun c27 => absurd (fun z => absurd (eqN z (by omega) (by omega)) (by omega)) c27)
    refine Z_iconst 35 (nI 0) dL_garden_34 rfl rfl ?_
    refine Z_istore 37 [(4, _), (3, _), (2, _), (1, _), (0, _)] dL_garden_35 rfl (Nat.le_of_ble_eq_true rfl) rfl ?_
    refine Z_iload_n 38 3 dL_garden_37 rfl rfl ?_
    refine Z_if_ne 41 156 dL_garden_38 rfl rfl (fun c38 => ?_) (fun c38 => absurd (by decide) c38)
    refine Z_iload_n 157 3 dL_garden_156 rfl rfl ?_
    refine Z_iconst 158 (nI 1) dL_garden_157 rfl rfl ?_
    refine Z_icmp_ne 161 260 dL_garden_158 rfl rfl (fun c158 => ?_) (fun c158 => absurd (by decide) c158)
    refine Z_iload_n 261 3 dL_garden_260 rfl rfl ?_
    refine Z_iconst 262 (nI 2) dL_garden_261 rfl rfl ?_
    refine Z_icmp_ne 265 385 dL_garden_262 rfl rfl (fun c262 => absurd c262 (by decide)) (fun c262 => ?_)
    refine Z_iload_n 266 2 dL_garden_265 rfl rfl ?_
    refine Z_iconst 267 (nI 3) dL_garden_266 rfl rfl ?_
    refine Z_ishr 268 dL_garden_267 rfl ?_
    refine Z_iload_n 269 2 dL_garden_268 rfl rfl ?_
    refine Z_bipush 271 (nI 9) dL_garden_269 rfl rfl ?_
    refine Z_ishr 272 dL_garden_271 rfl ?_
    refine Z_iconst 273 (nI 3) dL_garden_272 rfl rfl ?_
    refine Z_callS 276 [_, _] (zL_low _ 3 (by decide)) dL_garden_273 rfl qL_39 kL_low rfl rfl ⟨(Nat.le_of_ble_eq_true rfl), (Nat.le_of_ble_eq_true rfl)⟩ (Nat.le_of_ble_eq_true rfl) ⟨rfl, rfl⟩ ⟨(Nat.le_of_ble_eq_true rfl), (Nat.le_of_ble_eq_true rfl)⟩ (fun r9 w9 hp9 => ?_)
    obtain ⟨⟨q273, hq273, rfl⟩, rfl⟩ := hp9
    refine Z_if_ne 279 284 dL_garden_276 rfl rfl (fun c276 => ?_) (fun c276 => ?_)
    · skip
      refine Z_iconst 285 (nI 4) dL_garden_284 rfl rfl ?_
      exact KJ mm 4 _ hF (by decide)
    · skip
      refine Z_bipush 281 (nI 32) dL_garden_279 rfl rfl ?_
      refine Z_goto 285 dL_garden_281 rfl ?_
      exact KJ mm 32 _ hF (by decide)

set_option maxRecDepth 100000 in
set_option maxHeartbeats 4000000 in
theorem zL_garden2 {G : zG} {l : Launch} {h : Nat → Nat} {m : zM} {K n s : Nat} {mm : zM} (sy : Sy K h m n s) (hK : K ≤ 1000) (hF : Fsv m mm) (y : Int32) : zMet G l yL_garden mL_garden [.ref (G.1 + 0), .int (nI 2), .int y] (zw h mm) (actP K h m n s) 0 0 := by
  refine zMet_of [(0, .ref (G.1 + 0)), (1, .int (nI 2)), (2, .int y)] (by decide +kernel) rfl (Or.inl rfl) (Nat.le_of_ble_eq_true rfl) rfl ?_
  refine Z_iload_n 1 2 dL_garden_0 rfl rfl ?_
  refine Z_iload_n 2 2 dL_garden_1 rfl rfl ?_
  refine Z_bipush 4 (nI 14) dL_garden_2 rfl rfl ?_
  refine Z_ishr 5 dL_garden_4 rfl ?_
  refine Z_bipush 7 (nI 9) dL_garden_5 rfl rfl ?_
  refine Z_callS 10 [_, _] (zL_low _ 9 (by decide)) dL_garden_7 rfl qL_39 kL_low rfl rfl ⟨(Nat.le_of_ble_eq_true rfl), (Nat.le_of_ble_eq_true rfl)⟩ (Nat.le_of_ble_eq_true rfl) ⟨rfl, rfl⟩ ⟨(Nat.le_of_ble_eq_true rfl), (Nat.le_of_ble_eq_true rfl)⟩ (fun r9 w9 hp9 => ?_)
  obtain ⟨⟨q7, hq7, rfl⟩, rfl⟩ := hp9
  refine Z_if_ne 13 18 dL_garden_10 rfl rfl (fun c10 => ?_) (fun c10 => ?_)
  · skip
    refine Z_bipush 20 (nI 8) dL_garden_18 rfl rfl ?_
    refine Z_lv [2, 1, 0] rfl ?_
    exact lL_garden2 sy hK mm 8 _ hF (by decide)
  · skip
    refine Z_bipush 15 (nI 9) dL_garden_13 rfl rfl ?_
    refine Z_goto 20 dL_garden_15 rfl ?_
    refine Z_lv [2, 1, 0] rfl ?_
    exact lL_garden2 sy hK mm 9 _ hF (by decide)

set_option maxRecDepth 100000 in
set_option maxHeartbeats 4000000 in
theorem lL_garden3 {G : zG} {l : Launch} {h : Nat → Nat} {m : zM} {K n s : Nat} (sy : Sy K h m n s) (hK : K ≤ 1000) : ∀ (mm : zM) (d : Nat) (y : Int32), Fsv m mm → d = 8 ∨ d = 9 → Z G mL_garden (fun _ => True) (zN G (actP K h m n s) 0 0) l 0 0 (zw h mm) 20 [(2, .int y), (1, .int (nI 3)), (0, .ref (G.1 + 0))] [.int (nI d), .int y] := by
  intro mm d y hF hd
  have hI := sy.inv
  have hn := hI.n14
  have hk := sy.ok
  have g := hI.g
  refine Z_callS 23 [_, _] (zL_low _ d (by omega)) dL_garden_20 rfl qL_39 kL_low rfl rfl ⟨(Nat.le_of_ble_eq_true rfl), (Nat.le_of_ble_eq_true rfl)⟩ (Nat.le_of_ble_eq_true rfl) ⟨rfl, rfl⟩ ⟨(Nat.le_of_ble_eq_true rfl), (Nat.le_of_ble_eq_true rfl)⟩ (fun r9 w9 hp9 => ?_)
  obtain ⟨⟨q20, hq20, rfl⟩, rfl⟩ := hp9
  refine Z_istore_n 24 [(3, _), (2, _), (1, _), (0, _)] dL_garden_23 rfl (Nat.le_of_ble_eq_true rfl) rfl ?_
  rcases (show q20 = 8 ∨ q20 < 8 by omega) with k8 | k8
  · subst k8
    have KJ : ∀ (mm : zM) (d : Nat) (v : Int32), Fsv m mm → 0 < d ∧ d ≤ 101 → Z G mL_garden (fun _ => True) (zN G (actP K h m n s) 0 0) l 0 0 (zw h mm) 406 [(4, .int (nI 1)), (3, .int (nI 8)), (2, .int y), (1, .int (nI 3)), (0, .ref (G.1 + 0))] [.int (nI d), .int v] := by
      intro mm d v hF hd
      refine Z_callS 409 [_, _] (zL_low _ d ⟨hd.1, by omega⟩) dL_garden_406 rfl qL_39 kL_low rfl rfl ⟨(Nat.le_of_ble_eq_true rfl), (Nat.le_of_ble_eq_true rfl)⟩ (Nat.le_of_ble_eq_true rfl) ⟨rfl, rfl⟩ ⟨(Nat.le_of_ble_eq_true rfl), (Nat.le_of_ble_eq_true rfl)⟩ (fun r9 w9 hp9 => ?_)
      obtain ⟨⟨q406, hq406, rfl⟩, rfl⟩ := hp9
      refine Z_istore 411 [(5, _), (4, _), (3, _), (2, _), (1, _), (0, _)] dL_garden_409 rfl (Nat.le_of_ble_eq_true rfl) rfl ?_
      refine Z_iload 413 1 dL_garden_411 rfl rfl ?_
      refine Z_if_ne 416 428 dL_garden_413 rfl rfl (fun c413 => ?_) (fun c413 => absurd (by decide) c413)
      refine Z_iconst 429 (nI 1) dL_garden_428 rfl rfl ?_
      refine Z_goto 433 dL_garden_429 rfl ?_
      refine Z_istore 435 [(6, _), (5, _), (4, _), (3, _), (2, _), (1, _), (0, _)] dL_garden_433 rfl (Nat.le_of_ble_eq_true rfl) rfl ?_
      refine Z_iload 437 2 dL_garden_435 rfl rfl ?_
      refine Z_if_eq 440 444 dL_garden_437 rfl rfl (fun c437 => absurd c437 (by decide)) (fun c437 => ?_)
      refine Z_iconst 441 (nI 0) dL_garden_440 rfl rfl ?_
      refine Z_goto 450 dL_garden_441 rfl ?_
      refine Z_istore 452 [(7, _), (6, _), (5, _), (4, _), (3, _), (2, _), (1, _), (0, _)] dL_garden_450 rfl (Nat.le_of_ble_eq_true rfl) rfl ?_
      refine Z_iload 454 1 dL_garden_452 rfl rfl ?_
      refine Z_if_eq 457 461 dL_garden_454 rfl rfl (fun c454 => absurd c454 (by decide)) (fun c454 => ?_)
      refine Z_iconst 458 (nI 0) dL_garden_457 rfl rfl ?_
      refine Z_goto 487 dL_garden_458 rfl ?_
      refine Z_istore 489 [(8, _), (7, _), (6, _), (5, _), (4, _), (3, _), (2, _), (1, _), (0, _)] dL_garden_487 rfl (Nat.le_of_ble_eq_true rfl) rfl ?_
      refine Z_aload_n 490 8 dL_garden_489 rfl rfl ?_
      refine Z_bipush 492 (nI 8) dL_garden_490 rfl rfl ?_
      refine Z_callV 495 [_] 3 (v_count8 hF hk) dL_garden_492 rfl qL_13 kX3_count rfl rfl (Nat.le_of_ble_eq_true rfl) rfl rfl ⟨(Nat.le_of_ble_eq_true rfl), (Nat.le_of_ble_eq_true rfl)⟩ (Nat.le_of_ble_eq_true rfl) ⟨rfl, rfl⟩ ⟨(Nat.le_of_ble_eq_true rfl), (Nat.le_of_ble_eq_true rfl)⟩ (fun r9 w9 hp9 => ?_)
      obtain ⟨rfl, mm, rfl, hF⟩ := hp9
      refine Z_istore 497 [(9, _), (8, _), (7, _), (6, _), (5, _), (4, _), (3, _), (2, _), (1, _), (0, _)] dL_garden_495 rfl (Nat.le_of_ble_eq_true rfl) rfl ?_
      refine Z_aload_n 498 9 dL_garden_497 rfl rfl ?_
      refine Z_bipush 500 (nI 9) dL_garden_498 rfl rfl ?_
      refine Z_callV 503 [_] 3 (v_count9 hF hk) dL_garden_500 rfl qL_13 kX3_count rfl rfl (Nat.le_of_ble_eq_true rfl) rfl rfl ⟨(Nat.le_of_ble_eq_true rfl), (Nat.le_of_ble_eq_true rfl)⟩ (Nat.le_of_ble_eq_true rfl) ⟨rfl, rfl⟩ ⟨(Nat.le_of_ble_eq_true rfl), (Nat.le_of_ble_eq_true rfl)⟩ (fun r9 w9 hp9 => ?_)
      obtain ⟨rfl, mm, rfl, hF⟩ := hp9
      refine Z_istore 505 [(10, _), (9, _), (8, _), (7, _), (6, _), (5, _), (4, _), (3, _), (2, _), (1, _), (0, _)] dL_garden_503 rfl (Nat.le_of_ble_eq_true rfl) rfl ?_
      refine Z_aload_n 506 10 dL_garden_505 rfl rfl ?_
      refine Z_bipush 508 (nI 10) dL_garden_506 rfl rfl ?_
      refine Z_callV 511 [_] 3 (v_count10 hF hk) dL_garden_508 rfl qL_13 kX3_count rfl rfl (Nat.le_of_ble_eq_true rfl) rfl rfl ⟨(Nat.le_of_ble_eq_true rfl), (Nat.le_of_ble_eq_true rfl)⟩ (Nat.le_of_ble_eq_true rfl) ⟨rfl, rfl⟩ ⟨(Nat.le_of_ble_eq_true rfl), (Nat.le_of_ble_eq_true rfl)⟩ (fun r9 w9 hp9 => ?_)
      obtain ⟨rfl, mm, rfl, hF⟩ := hp9
      refine Z_istore 513 [(11, _), (10, _), (9, _), (8, _), (7, _), (6, _), (5, _), (4, _), (3, _), (2, _), (1, _), (0, _)] dL_garden_511 rfl (Nat.le_of_ble_eq_true rfl) rfl ?_
      refine Z_iload 515 5 dL_garden_513 rfl rfl ?_
      refine Z_if_ne 518 527 dL_garden_515 rfl rfl (fun c515 => ?_) (fun c515 => absurd (by decide) c515)
      refine Z_iconst 528 (nI 0) dL_garden_527 rfl rfl ?_
      refine Z_istore 530 [(12, _), (11, _), (10, _), (9, _), (8, _), (7, _), (6, _), (5, _), (4, _), (3, _), (2, _), (1, _), (0, _)] dL_garden_528 rfl (Nat.le_of_ble_eq_true rfl) rfl ?_
      refine Z_aload_n 531 12 dL_garden_530 rfl rfl ?_
      refine Z_iload_n 532 9 dL_garden_531 rfl rfl ?_
      refine Z_iload 534 7 dL_garden_532 rfl rfl ?_
      refine Z_callV 537 [_, _] 3 (e_clip hF (by omega) (by omega) (Or.inl rfl)) dL_garden_534 rfl qL_87 kX3_clip rfl rfl (Nat.le_of_ble_eq_true rfl) rfl rfl ⟨(Nat.le_of_ble_eq_true rfl), (Nat.le_of_ble_eq_true rfl)⟩ (Nat.le_of_ble_eq_true rfl) ⟨rfl, rfl⟩ ⟨(Nat.le_of_ble_eq_true rfl), (Nat.le_of_ble_eq_true rfl)⟩ (fun r9 w9 hp9 => ?_)
      obtain ⟨rfl, mm, rfl, hF⟩ := hp9
      refine Z_istore 539 [(13, _), (12, _), (11, _), (10, _), (9, _), (8, _), (7, _), (6, _), (5, _), (4, _), (3, _), (2, _), (1, _), (0, _)] dL_garden_537 rfl (Nat.le_of_ble_eq_true rfl) rfl ?_
      refine Z_iload 541 0 dL_garden_539 rfl rfl ?_
      refine Z_iload 543 7 dL_garden_541 rfl rfl ?_
      refine Z_if_eq 546 550 dL_garden_543 rfl rfl (fun c543 => absurd c543 (by decide)) (fun c543 => ?_)
      refine Z_iconst 547 (-1) dL_garden_546 rfl rfl ?_
      refine Z_goto 568 dL_garden_547 rfl ?_
      refine Z_icmp_ne 571 670 dL_garden_568 rfl rfl (fun c568 => absurd c568 (by decide)) (fun c568 => ?_)
      refine Z_aload_n 572 13 dL_garden_571 rfl rfl ?_
      refine Z_bipush 574 (nI 8) dL_garden_572 rfl rfl ?_
      refine Z_callV 577 [_] 3 (v_count8 hF hk) dL_garden_574 rfl qL_13 kX3_count rfl rfl (Nat.le_of_ble_eq_true rfl) rfl rfl ⟨(Nat.le_of_ble_eq_true rfl), (Nat.le_of_ble_eq_true rfl)⟩ (Nat.le_of_ble_eq_true rfl) ⟨rfl, rfl⟩ ⟨(Nat.le_of_ble_eq_true rfl), (Nat.le_of_ble_eq_true rfl)⟩ (fun r9 w9 hp9 => ?_)
      obtain ⟨rfl, mm, rfl, hF⟩ := hp9
      refine Z_iload 579 4 dL_garden_577 rfl rfl ?_
      refine Z_iload 581 5 dL_garden_579 rfl rfl ?_
      refine Z_if_le 584 588 dL_garden_581 rfl rfl (fun c581 => ?_) (fun c581 => absurd (by decide) c581)
      refine Z_iconst 589 (nI 0) dL_garden_588 rfl rfl ?_
      refine Z_iadd 590 dL_garden_589 rfl ?_
      refine Z_icmp_ne 593 670 dL_garden_590 rfl rfl (fun c590 => absurd c590 (fun z => z (ad0 _))) (fun c590 => ?_)
      refine Z_aload_n 594 13 dL_garden_593 rfl rfl ?_
      refine Z_bipush 596 (nI 9) dL_garden_594 rfl rfl ?_
      refine Z_callV 599 [_] 3 (v_count9 hF hk) dL_garden_596 rfl qL_13 kX3_count rfl rfl (Nat.le_of_ble_eq_true rfl) rfl rfl ⟨(Nat.le_of_ble_eq_true rfl), (Nat.le_of_ble_eq_true rfl)⟩ (Nat.le_of_ble_eq_true rfl) ⟨rfl, rfl⟩ ⟨(Nat.le_of_ble_eq_true rfl), (Nat.le_of_ble_eq_true rfl)⟩ (fun r9 w9 hp9 => ?_)
      obtain ⟨rfl, mm, rfl, hF⟩ := hp9
      refine Z_iload 601 3 dL_garden_599 rfl rfl ?_
      refine Z_iload 603 1 dL_garden_601 rfl rfl ?_
      refine Z_if_eq 606 610 dL_garden_603 rfl rfl (fun c603 => ?_) (fun c603 => absurd (by decide) c603)
      refine Z_iconst 611 (nI 0) dL_garden_610 rfl rfl ?_
      refine Z_iadd 612 dL_garden_611 rfl ?_
      refine Z_icmp_ne 615 670 dL_garden_612 rfl rfl (fun c612 => absurd c612 (fun z => z (ad0 _))) (fun c612 => ?_)
      refine Z_aload_n 616 13 dL_garden_615 rfl rfl ?_
      refine Z_bipush 618 (nI 10) dL_garden_616 rfl rfl ?_
      refine Z_callV 621 [_] 3 (v_count10 hF hk) dL_garden_618 rfl qL_13 kX3_count rfl rfl (Nat.le_of_ble_eq_true rfl) rfl rfl ⟨(Nat.le_of_ble_eq_true rfl), (Nat.le_of_ble_eq_true rfl)⟩ (Nat.le_of_ble_eq_true rfl) ⟨rfl, rfl⟩ ⟨(Nat.le_of_ble_eq_true rfl), (Nat.le_of_ble_eq_true rfl)⟩ (fun r9 w9 hp9 => ?_)
      obtain ⟨rfl, mm, rfl, hF⟩ := hp9
      refine Z_iload 623 2 dL_garden_621 rfl rfl ?_
      refine Z_iload 625 1 dL_garden_623 rfl rfl ?_
      refine Z_if_eq 628 633 dL_garden_625 rfl rfl (fun c625 => ?_) (fun c625 => absurd (by decide) c625)
      refine Z_iconst 634 (nI 0) dL_garden_633 rfl rfl ?_
      refine Z_iadd 635 dL_garden_634 rfl ?_
      refine Z_icmp_ne 638 670 dL_garden_635 rfl rfl (fun c635 => absurd c635 (fun z => z (ad0 _))) (fun c635 => ?_)
      refine Z_iload 640 9 dL_garden_638 rfl rfl ?_
      refine Z_if_ne 643 666 dL_garden_640 rfl rfl (fun c640 => ?_) (fun c640 => absurd (by decide) c640)
      refine Z_iconst 667 (nI 1) dL_garden_666 rfl rfl ?_
      refine Z_goto 671 dL_garden_667 rfl ?_
      exact Z_zret dL_garden_671 rfl (by first | exact Or.inl rfl | exact Or.inr rfl | exact bI_01) (by first | exact actOk (hA.v hF) | exact actOk (Act.noV sy hF))
    refine Z_iload_n 25 0 dL_garden_24 rfl rfl ?_
    refine Z_bipush 27 (nI 8) dL_garden_25 rfl rfl ?_
    refine Z_icmp_ne 30 34 dL_garden_27 rfl rfl (fun c27 => absurd c27 (by decide)) (fun c27 => ?_)
    refine Z_iconst 31 (nI 1) dL_garden_30 rfl rfl ?_
    refine Z_goto 35 dL_garden_31 rfl ?_
    refine Z_istore 37 [(4, _), (3, _), (2, _), (1, _), (0, _)] dL_garden_35 rfl (Nat.le_of_ble_eq_true rfl) rfl ?_
    refine Z_iload_n 38 3 dL_garden_37 rfl rfl ?_
    refine Z_if_ne 41 156 dL_garden_38 rfl rfl (fun c38 => ?_) (fun c38 => absurd (by decide) c38)
    refine Z_iload_n 157 3 dL_garden_156 rfl rfl ?_
    refine Z_iconst 158 (nI 1) dL_garden_157 rfl rfl ?_
    refine Z_icmp_ne 161 260 dL_garden_158 rfl rfl (fun c158 => ?_) (fun c158 => absurd (by decide) c158)
    refine Z_iload_n 261 3 dL_garden_260 rfl rfl ?_
    refine Z_iconst 262 (nI 2) dL_garden_261 rfl rfl ?_
    refine Z_icmp_ne 265 385 dL_garden_262 rfl rfl (fun c262 => ?_) (fun c262 => absurd (by decide) c262)
    refine Z_iload_n 386 2 dL_garden_385 rfl rfl ?_
    refine Z_iconst 387 (nI 3) dL_garden_386 rfl rfl ?_
    refine Z_ishr 388 dL_garden_387 rfl ?_
    refine Z_iload_n 389 2 dL_garden_388 rfl rfl ?_
    refine Z_bipush 391 (nI 9) dL_garden_389 rfl rfl ?_
    refine Z_ishr 392 dL_garden_391 rfl ?_
    refine Z_iconst 393 (nI 4) dL_garden_392 rfl rfl ?_
    refine Z_callS 396 [_, _] (zL_low _ 4 (by decide)) dL_garden_393 rfl qL_39 kL_low rfl rfl ⟨(Nat.le_of_ble_eq_true rfl), (Nat.le_of_ble_eq_true rfl)⟩ (Nat.le_of_ble_eq_true rfl) ⟨rfl, rfl⟩ ⟨(Nat.le_of_ble_eq_true rfl), (Nat.le_of_ble_eq_true rfl)⟩ (fun r9 w9 hp9 => ?_)
    obtain ⟨⟨q393, hq393, rfl⟩, rfl⟩ := hp9
    refine Z_if_ne 399 404 dL_garden_396 rfl rfl (fun c396 => ?_) (fun c396 => ?_)
    · skip
      refine Z_bipush 406 (nI 9) dL_garden_404 rfl rfl ?_
      exact KJ mm 9 _ hF (by decide)
    · skip
      refine Z_bipush 401 (nI 101) dL_garden_399 rfl rfl ?_
      refine Z_goto 406 dL_garden_401 rfl ?_
      exact KJ mm 101 _ hF (by decide)
  · skip
    have KJ : ∀ (mm : zM) (d : Nat) (v : Int32), Fsv m mm → 0 < d ∧ d ≤ 101 → Z G mL_garden (fun _ => True) (zN G (actP K h m n s) 0 0) l 0 0 (zw h mm) 406 [(4, .int (nI 0)), (3, .int (nI q20)), (2, .int y), (1, .int (nI 3)), (0, .ref (G.1 + 0))] [.int (nI d), .int v] := by
      intro mm d v hF hd
      refine Z_callS 409 [_, _] (zL_low _ d ⟨hd.1, by omega⟩) dL_garden_406 rfl qL_39 kL_low rfl rfl ⟨(Nat.le_of_ble_eq_true rfl), (Nat.le_of_ble_eq_true rfl)⟩ (Nat.le_of_ble_eq_true rfl) ⟨rfl, rfl⟩ ⟨(Nat.le_of_ble_eq_true rfl), (Nat.le_of_ble_eq_true rfl)⟩ (fun r9 w9 hp9 => ?_)
      obtain ⟨⟨q406, hq406, rfl⟩, rfl⟩ := hp9
      refine Z_istore 411 [(5, _), (4, _), (3, _), (2, _), (1, _), (0, _)] dL_garden_409 rfl (Nat.le_of_ble_eq_true rfl) rfl ?_
      have hq9 : q406 ≤ 100 := by omega
      rcases (show q406 = 0 ∨ q406 = 100 ∨ (1 ≤ q406 ∧ q406 < 100) by omega) with e9 | e9 | e9
      · subst e9
        refine Z_iload 413 1 dL_garden_411 rfl rfl ?_
        refine Z_if_ne 416 428 dL_garden_413 rfl rfl (fun c413 => absurd c413 (by decide)) (fun c413 => ?_)
        refine Z_iload 418 0 dL_garden_416 rfl rfl ?_
        refine Z_if_eq 421 428 dL_garden_418 rfl rfl (fun c418 => ?_) (fun c418 => absurd (by decide) c418)
        refine Z_iconst 429 (nI 1) dL_garden_428 rfl rfl ?_
        refine Z_goto 433 dL_garden_429 rfl ?_
        refine Z_istore 435 [(6, _), (5, _), (4, _), (3, _), (2, _), (1, _), (0, _)] dL_garden_433 rfl (Nat.le_of_ble_eq_true rfl) rfl ?_
        refine Z_iload 437 2 dL_garden_435 rfl rfl ?_
        refine Z_if_eq 440 444 dL_garden_437 rfl rfl (fun c437 => ?_) (fun c437 => absurd (by decide) c437)
        refine Z_aload_n 445 6 dL_garden_444 rfl rfl ?_
        refine Z_iload_n 446 3 dL_garden_445 rfl rfl ?_
        refine Z_iconst 447 (nI 0) dL_garden_446 rfl rfl ?_
        refine Z_callV 450 [_, _] 3 (v_hedge0 hF hk (by first | assumption | omega)) dL_garden_447 rfl qL_19 kX3_hedge rfl rfl (Nat.le_of_ble_eq_true rfl) rfl rfl ⟨(Nat.le_of_ble_eq_true rfl), (Nat.le_of_ble_eq_true rfl)⟩ (Nat.le_of_ble_eq_true rfl) ⟨rfl, rfl⟩ ⟨(Nat.le_of_ble_eq_true rfl), (Nat.le_of_ble_eq_true rfl)⟩ (fun r9 w9 hp9 => ?_)
        obtain ⟨rfl, mm, rfl, hF⟩ := hp9
        refine Z_istore 452 [(7, _), (6, _), (5, _), (4, _), (3, _), (2, _), (1, _), (0, _)] dL_garden_450 rfl (Nat.le_of_ble_eq_true rfl) rfl ?_
        refine Z_iload 454 1 dL_garden_452 rfl rfl ?_
        refine Z_if_eq 457 461 dL_garden_454 rfl rfl (fun c454 => absurd c454 (by decide)) (fun c454 => ?_)
        refine Z_iconst 458 (nI 0) dL_garden_457 rfl rfl ?_
        refine Z_goto 487 dL_garden_458 rfl ?_
        refine Z_istore 489 [(8, _), (7, _), (6, _), (5, _), (4, _), (3, _), (2, _), (1, _), (0, _)] dL_garden_487 rfl (Nat.le_of_ble_eq_true rfl) rfl ?_
        refine Z_aload_n 490 8 dL_garden_489 rfl rfl ?_
        refine Z_bipush 492 (nI 8) dL_garden_490 rfl rfl ?_
        refine Z_callV 495 [_] 3 (v_count8 hF hk) dL_garden_492 rfl qL_13 kX3_count rfl rfl (Nat.le_of_ble_eq_true rfl) rfl rfl ⟨(Nat.le_of_ble_eq_true rfl), (Nat.le_of_ble_eq_true rfl)⟩ (Nat.le_of_ble_eq_true rfl) ⟨rfl, rfl⟩ ⟨(Nat.le_of_ble_eq_true rfl), (Nat.le_of_ble_eq_true rfl)⟩ (fun r9 w9 hp9 => ?_)
        obtain ⟨rfl, mm, rfl, hF⟩ := hp9
        refine Z_istore 497 [(9, _), (8, _), (7, _), (6, _), (5, _), (4, _), (3, _), (2, _), (1, _), (0, _)] dL_garden_495 rfl (Nat.le_of_ble_eq_true rfl) rfl ?_
        refine Z_aload_n 498 9 dL_garden_497 rfl rfl ?_
        refine Z_bipush 500 (nI 9) dL_garden_498 rfl rfl ?_
        refine Z_callV 503 [_] 3 (v_count9 hF hk) dL_garden_500 rfl qL_13 kX3_count rfl rfl (Nat.le_of_ble_eq_true rfl) rfl rfl ⟨(Nat.le_of_ble_eq_true rfl), (Nat.le_of_ble_eq_true rfl)⟩ (Nat.le_of_ble_eq_true rfl) ⟨rfl, rfl⟩ ⟨(Nat.le_of_ble_eq_true rfl), (Nat.le_of_ble_eq_true rfl)⟩ (fun r9 w9 hp9 => ?_)
        obtain ⟨rfl, mm, rfl, hF⟩ := hp9
        refine Z_istore 505 [(10, _), (9, _), (8, _), (7, _), (6, _), (5, _), (4, _), (3, _), (2, _), (1, _), (0, _)] dL_garden_503 rfl (Nat.le_of_ble_eq_true rfl) rfl ?_
        refine Z_aload_n 506 10 dL_garden_505 rfl rfl ?_
        refine Z_bipush 508 (nI 10) dL_garden_506 rfl rfl ?_
        refine Z_callV 511 [_] 3 (v_count10 hF hk) dL_garden_508 rfl qL_13 kX3_count rfl rfl (Nat.le_of_ble_eq_true rfl) rfl rfl ⟨(Nat.le_of_ble_eq_true rfl), (Nat.le_of_ble_eq_true rfl)⟩ (Nat.le_of_ble_eq_true rfl) ⟨rfl, rfl⟩ ⟨(Nat.le_of_ble_eq_true rfl), (Nat.le_of_ble_eq_true rfl)⟩ (fun r9 w9 hp9 => ?_)
        obtain ⟨rfl, mm, rfl, hF⟩ := hp9
        refine Z_istore 513 [(11, _), (10, _), (9, _), (8, _), (7, _), (6, _), (5, _), (4, _), (3, _), (2, _), (1, _), (0, _)] dL_garden_511 rfl (Nat.le_of_ble_eq_true rfl) rfl ?_
        refine Z_iload 515 5 dL_garden_513 rfl rfl ?_
        refine Z_if_ne 518 527 dL_garden_515 rfl rfl (fun c515 => ?_) (fun c515 => absurd (by decide) c515)
        refine Z_iconst 528 (nI 0) dL_garden_527 rfl rfl ?_
        refine Z_istore 530 [(12, _), (11, _), (10, _), (9, _), (8, _), (7, _), (6, _), (5, _), (4, _), (3, _), (2, _), (1, _), (0, _)] dL_garden_528 rfl (Nat.le_of_ble_eq_true rfl) rfl ?_
        refine Z_aload_n 531 12 dL_garden_530 rfl rfl ?_
        refine Z_iload_n 532 9 dL_garden_531 rfl rfl ?_
        refine Z_iload 534 7 dL_garden_532 rfl rfl ?_
        refine Z_callV 537 [_, _] 3 (e_clip hF (by omega) (by omega) (Or.inr (Or.inl rfl))) dL_garden_534 rfl qL_87 kX3_clip rfl rfl (Nat.le_of_ble_eq_true rfl) rfl rfl ⟨(Nat.le_of_ble_eq_true rfl), (Nat.le_of_ble_eq_true rfl)⟩ (Nat.le_of_ble_eq_true rfl) ⟨rfl, rfl⟩ ⟨(Nat.le_of_ble_eq_true rfl), (Nat.le_of_ble_eq_true rfl)⟩ (fun r9 w9 hp9 => ?_)
        obtain ⟨rfl, mm, rfl, hF⟩ := hp9
        refine Z_istore 539 [(13, _), (12, _), (11, _), (10, _), (9, _), (8, _), (7, _), (6, _), (5, _), (4, _), (3, _), (2, _), (1, _), (0, _)] dL_garden_537 rfl (Nat.le_of_ble_eq_true rfl) rfl ?_
        refine Z_iload 541 0 dL_garden_539 rfl rfl ?_
        refine Z_iload 543 7 dL_garden_541 rfl rfl ?_
        refine Z_if_eq 546 550 dL_garden_543 rfl rfl (fun c543 => absurd c543 (by decide)) (fun c543 => ?_)
        refine Z_iconst 547 (-1) dL_garden_546 rfl rfl ?_
        refine Z_goto 568 dL_garden_547 rfl ?_
        refine Z_icmp_ne 571 670 dL_garden_568 rfl rfl (fun c568 => absurd c568 (fun z => z rfl)) (fun c568 => ?_)
        refine Z_aload_n 572 13 dL_garden_571 rfl rfl ?_
        refine Z_bipush 574 (nI 8) dL_garden_572 rfl rfl ?_
        refine Z_callV 577 [_] 3 (v_count8 hF hk) dL_garden_574 rfl qL_13 kX3_count rfl rfl (Nat.le_of_ble_eq_true rfl) rfl rfl ⟨(Nat.le_of_ble_eq_true rfl), (Nat.le_of_ble_eq_true rfl)⟩ (Nat.le_of_ble_eq_true rfl) ⟨rfl, rfl⟩ ⟨(Nat.le_of_ble_eq_true rfl), (Nat.le_of_ble_eq_true rfl)⟩ (fun r9 w9 hp9 => ?_)
        obtain ⟨rfl, mm, rfl, hF⟩ := hp9
        refine Z_iload 579 4 dL_garden_577 rfl rfl ?_
        refine Z_iload 581 5 dL_garden_579 rfl rfl ?_
        refine Z_if_le 584 588 dL_garden_581 rfl rfl (fun c581 => ?_) (fun c581 => absurd (by decide) c581)
        refine Z_iconst 589 (nI 0) dL_garden_588 rfl rfl ?_
        refine Z_iadd 590 dL_garden_589 rfl ?_
        refine Z_icmp_ne 593 670 dL_garden_590 rfl rfl (fun c590 => absurd c590 (fun z => z (ad0 _))) (fun c590 => ?_)
        refine Z_aload_n 594 13 dL_garden_593 rfl rfl ?_
        refine Z_bipush 596 (nI 9) dL_garden_594 rfl rfl ?_
        refine Z_callV 599 [_] 3 (v_count9 hF hk) dL_garden_596 rfl qL_13 kX3_count rfl rfl (Nat.le_of_ble_eq_true rfl) rfl rfl ⟨(Nat.le_of_ble_eq_true rfl), (Nat.le_of_ble_eq_true rfl)⟩ (Nat.le_of_ble_eq_true rfl) ⟨rfl, rfl⟩ ⟨(Nat.le_of_ble_eq_true rfl), (Nat.le_of_ble_eq_true rfl)⟩ (fun r9 w9 hp9 => ?_)
        obtain ⟨rfl, mm, rfl, hF⟩ := hp9
        refine Z_iload 601 3 dL_garden_599 rfl rfl ?_
        refine Z_iload 603 1 dL_garden_601 rfl rfl ?_
        refine Z_if_eq 606 610 dL_garden_603 rfl rfl (fun c603 => ?_) (fun c603 => absurd (by decide) c603)
        refine Z_iconst 611 (nI 0) dL_garden_610 rfl rfl ?_
        refine Z_iadd 612 dL_garden_611 rfl ?_
        refine Z_icmp_ne 615 670 dL_garden_612 rfl rfl (fun c612 => absurd c612 (fun z => z (ad0 _))) (fun c612 => ?_)
        refine Z_aload_n 616 13 dL_garden_615 rfl rfl ?_
        refine Z_bipush 618 (nI 10) dL_garden_616 rfl rfl ?_
        refine Z_callV 621 [_] 3 (v_count10 hF hk) dL_garden_618 rfl qL_13 kX3_count rfl rfl (Nat.le_of_ble_eq_true rfl) rfl rfl ⟨(Nat.le_of_ble_eq_true rfl), (Nat.le_of_ble_eq_true rfl)⟩ (Nat.le_of_ble_eq_true rfl) ⟨rfl, rfl⟩ ⟨(Nat.le_of_ble_eq_true rfl), (Nat.le_of_ble_eq_true rfl)⟩ (fun r9 w9 hp9 => ?_)
        obtain ⟨rfl, mm, rfl, hF⟩ := hp9
        refine Z_iload 623 2 dL_garden_621 rfl rfl ?_
        refine Z_iload 625 1 dL_garden_623 rfl rfl ?_
        refine Z_if_eq 628 633 dL_garden_625 rfl rfl (fun c625 => ?_) (fun c625 => absurd (by decide) c625)
        refine Z_iconst 634 (nI 0) dL_garden_633 rfl rfl ?_
        refine Z_iadd 635 dL_garden_634 rfl ?_
        refine Z_icmp_ne 638 670 dL_garden_635 rfl rfl (fun c635 => absurd c635 (fun z => z (ad0 _))) (fun c635 => ?_)
        refine Z_iload 640 9 dL_garden_638 rfl rfl ?_
        refine Z_if_ne 643 666 dL_garden_640 rfl rfl (fun c640 => absurd c640 (by decide)) (fun c640 => ?_)
        refine Z_aload_n 644 13 dL_garden_643 rfl rfl ?_
        refine Z_iload_n 645 10 dL_garden_644 rfl rfl ?_
        refine Z_iconst 646 (nI 0) dL_garden_645 rfl rfl ?_
        refine Z_callV 649 [_, _] 3 (v_hedge0 hF hk (by first | assumption | omega)) dL_garden_646 rfl qL_19 kX3_hedge rfl rfl (Nat.le_of_ble_eq_true rfl) rfl rfl ⟨(Nat.le_of_ble_eq_true rfl), (Nat.le_of_ble_eq_true rfl)⟩ (Nat.le_of_ble_eq_true rfl) ⟨rfl, rfl⟩ ⟨(Nat.le_of_ble_eq_true rfl), (Nat.le_of_ble_eq_true rfl)⟩ (fun r9 w9 hp9 => ?_)
        obtain ⟨rfl, mm, rfl, hF⟩ := hp9
        refine Z_iload 651 6 dL_garden_649 rfl rfl ?_
        refine Z_iload 653 1 dL_garden_651 rfl rfl ?_
        refine Z_if_eq 656 661 dL_garden_653 rfl rfl (fun c653 => ?_) (fun c653 => absurd (by decide) c653)
        refine Z_iconst 662 (nI 0) dL_garden_661 rfl rfl ?_
        refine Z_isub 663 dL_garden_662 rfl ?_
        refine Z_icmp_ne 666 670 dL_garden_663 rfl rfl (fun c663 => absurd c663 (fun z => z (sb0 _))) (fun c663 => ?_)
        refine Z_iconst 667 (nI 1) dL_garden_666 rfl rfl ?_
        refine Z_goto 671 dL_garden_667 rfl ?_
        exact Z_zret dL_garden_671 rfl (by first | exact Or.inl rfl | exact Or.inr rfl | exact bI_01) (by first | exact actOk (hA.v hF) | exact actOk (Act.noV sy hF))
      · subst e9
        refine Z_iload 413 1 dL_garden_411 rfl rfl ?_
        refine Z_if_ne 416 428 dL_garden_413 rfl rfl (fun c413 => absurd c413 (by decide)) (fun c413 => ?_)
        refine Z_iload 418 0 dL_garden_416 rfl rfl ?_
        refine Z_if_eq 421 428 dL_garden_418 rfl rfl (fun c418 => absurd c418 (by decide)) (fun c418 => ?_)
        refine Z_iload 423 0 dL_garden_421 rfl rfl ?_
        refine Z_bipush 425 (nI 100) dL_garden_423 rfl rfl ?_
        refine Z_icmp_ne 428 432 dL_garden_425 rfl rfl (fun c425 => absurd c425 (by decide)) (fun c425 => ?_)
        refine Z_iconst 429 (nI 1) dL_garden_428 rfl rfl ?_
        refine Z_goto 433 dL_garden_429 rfl ?_
        refine Z_istore 435 [(6, _), (5, _), (4, _), (3, _), (2, _), (1, _), (0, _)] dL_garden_433 rfl (Nat.le_of_ble_eq_true rfl) rfl ?_
        refine Z_iload 437 2 dL_garden_435 rfl rfl ?_
        refine Z_if_eq 440 444 dL_garden_437 rfl rfl (fun c437 => ?_) (fun c437 => absurd (by decide) c437)
        refine Z_aload_n 445 6 dL_garden_444 rfl rfl ?_
        refine Z_iload_n 446 3 dL_garden_445 rfl rfl ?_
        refine Z_iconst 447 (nI 0) dL_garden_446 rfl rfl ?_
        refine Z_callV 450 [_, _] 3 (v_hedge0 hF hk (by first | assumption | omega)) dL_garden_447 rfl qL_19 kX3_hedge rfl rfl (Nat.le_of_ble_eq_true rfl) rfl rfl ⟨(Nat.le_of_ble_eq_true rfl), (Nat.le_of_ble_eq_true rfl)⟩ (Nat.le_of_ble_eq_true rfl) ⟨rfl, rfl⟩ ⟨(Nat.le_of_ble_eq_true rfl), (Nat.le_of_ble_eq_true rfl)⟩ (fun r9 w9 hp9 => ?_)
        obtain ⟨rfl, mm, rfl, hF⟩ := hp9
        refine Z_istore 452 [(7, _), (6, _), (5, _), (4, _), (3, _), (2, _), (1, _), (0, _)] dL_garden_450 rfl (Nat.le_of_ble_eq_true rfl) rfl ?_
        refine Z_iload 454 1 dL_garden_452 rfl rfl ?_
        refine Z_if_eq 457 461 dL_garden_454 rfl rfl (fun c454 => absurd c454 (by decide)) (fun c454 => ?_)
        refine Z_iconst 458 (nI 0) dL_garden_457 rfl rfl ?_
        refine Z_goto 487 dL_garden_458 rfl ?_
        refine Z_istore 489 [(8, _), (7, _), (6, _), (5, _), (4, _), (3, _), (2, _), (1, _), (0, _)] dL_garden_487 rfl (Nat.le_of_ble_eq_true rfl) rfl ?_
        refine Z_aload_n 490 8 dL_garden_489 rfl rfl ?_
        refine Z_bipush 492 (nI 8) dL_garden_490 rfl rfl ?_
        refine Z_callV 495 [_] 3 (v_count8 hF hk) dL_garden_492 rfl qL_13 kX3_count rfl rfl (Nat.le_of_ble_eq_true rfl) rfl rfl ⟨(Nat.le_of_ble_eq_true rfl), (Nat.le_of_ble_eq_true rfl)⟩ (Nat.le_of_ble_eq_true rfl) ⟨rfl, rfl⟩ ⟨(Nat.le_of_ble_eq_true rfl), (Nat.le_of_ble_eq_true rfl)⟩ (fun r9 w9 hp9 => ?_)
        obtain ⟨rfl, mm, rfl, hF⟩ := hp9
        refine Z_istore 497 [(9, _), (8, _), (7, _), (6, _), (5, _), (4, _), (3, _), (2, _), (1, _), (0, _)] dL_garden_495 rfl (Nat.le_of_ble_eq_true rfl) rfl ?_
        refine Z_aload_n 498 9 dL_garden_497 rfl rfl ?_
        refine Z_bipush 500 (nI 9) dL_garden_498 rfl rfl ?_
        refine Z_callV 503 [_] 3 (v_count9 hF hk) dL_garden_500 rfl qL_13 kX3_count rfl rfl (Nat.le_of_ble_eq_true rfl) rfl rfl ⟨(Nat.le_of_ble_eq_true rfl), (Nat.le_of_ble_eq_true rfl)⟩ (Nat.le_of_ble_eq_true rfl) ⟨rfl, rfl⟩ ⟨(Nat.le_of_ble_eq_true rfl), (Nat.le_of_ble_eq_true rfl)⟩ (fun r9 w9 hp9 => ?_)
        obtain ⟨rfl, mm, rfl, hF⟩ := hp9
        refine Z_istore 505 [(10, _), (9, _), (8, _), (7, _), (6, _), (5, _), (4, _), (3, _), (2, _), (1, _), (0, _)] dL_garden_503 rfl (Nat.le_of_ble_eq_true rfl) rfl ?_
        refine Z_aload_n 506 10 dL_garden_505 rfl rfl ?_
        refine Z_bipush 508 (nI 10) dL_garden_506 rfl rfl ?_
        refine Z_callV 511 [_] 3 (v_count10 hF hk) dL_garden_508 rfl qL_13 kX3_count rfl rfl (Nat.le_of_ble_eq_true rfl) rfl rfl ⟨(Nat.le_of_ble_eq_true rfl), (Nat.le_of_ble_eq_true rfl)⟩ (Nat.le_of_ble_eq_true rfl) ⟨rfl, rfl⟩ ⟨(Nat.le_of_ble_eq_true rfl), (Nat.le_of_ble_eq_true rfl)⟩ (fun r9 w9 hp9 => ?_)
        obtain ⟨rfl, mm, rfl, hF⟩ := hp9
        refine Z_istore 513 [(11, _), (10, _), (9, _), (8, _), (7, _), (6, _), (5, _), (4, _), (3, _), (2, _), (1, _), (0, _)] dL_garden_511 rfl (Nat.le_of_ble_eq_true rfl) rfl ?_
        refine Z_iload 515 5 dL_garden_513 rfl rfl ?_
        refine Z_if_ne 518 527 dL_garden_515 rfl rfl (fun c515 => ?_) (fun c515 => absurd (by decide) c515)
        refine Z_iconst 528 (nI 0) dL_garden_527 rfl rfl ?_
        refine Z_istore 530 [(12, _), (11, _), (10, _), (9, _), (8, _), (7, _), (6, _), (5, _), (4, _), (3, _), (2, _), (1, _), (0, _)] dL_garden_528 rfl (Nat.le_of_ble_eq_true rfl) rfl ?_
        refine Z_aload_n 531 12 dL_garden_530 rfl rfl ?_
        refine Z_iload_n 532 9 dL_garden_531 rfl rfl ?_
        refine Z_iload 534 7 dL_garden_532 rfl rfl ?_
        refine Z_callV 537 [_, _] 3 (e_clip hF (by omega) (by omega) (Or.inr (Or.inr rfl))) dL_garden_534 rfl qL_87 kX3_clip rfl rfl (Nat.le_of_ble_eq_true rfl) rfl rfl ⟨(Nat.le_of_ble_eq_true rfl), (Nat.le_of_ble_eq_true rfl)⟩ (Nat.le_of_ble_eq_true rfl) ⟨rfl, rfl⟩ ⟨(Nat.le_of_ble_eq_true rfl), (Nat.le_of_ble_eq_true rfl)⟩ (fun r9 w9 hp9 => ?_)
        obtain ⟨rfl, mm, rfl, hF⟩ := hp9
        refine Z_istore 539 [(13, _), (12, _), (11, _), (10, _), (9, _), (8, _), (7, _), (6, _), (5, _), (4, _), (3, _), (2, _), (1, _), (0, _)] dL_garden_537 rfl (Nat.le_of_ble_eq_true rfl) rfl ?_
        refine Z_iload 541 0 dL_garden_539 rfl rfl ?_
        refine Z_iload 543 7 dL_garden_541 rfl rfl ?_
        refine Z_if_eq 546 550 dL_garden_543 rfl rfl (fun c543 => absurd c543 (by decide)) (fun c543 => ?_)
        refine Z_iconst 547 (-1) dL_garden_546 rfl rfl ?_
        refine Z_goto 568 dL_garden_547 rfl ?_
        refine Z_icmp_ne 571 670 dL_garden_568 rfl rfl (fun c568 => absurd c568 (fun z => z rfl)) (fun c568 => ?_)
        refine Z_aload_n 572 13 dL_garden_571 rfl rfl ?_
        refine Z_bipush 574 (nI 8) dL_garden_572 rfl rfl ?_
        refine Z_callV 577 [_] 3 (v_count8 hF hk) dL_garden_574 rfl qL_13 kX3_count rfl rfl (Nat.le_of_ble_eq_true rfl) rfl rfl ⟨(Nat.le_of_ble_eq_true rfl), (Nat.le_of_ble_eq_true rfl)⟩ (Nat.le_of_ble_eq_true rfl) ⟨rfl, rfl⟩ ⟨(Nat.le_of_ble_eq_true rfl), (Nat.le_of_ble_eq_true rfl)⟩ (fun r9 w9 hp9 => ?_)
        obtain ⟨rfl, mm, rfl, hF⟩ := hp9
        refine Z_iload 579 4 dL_garden_577 rfl rfl ?_
        refine Z_iload 581 5 dL_garden_579 rfl rfl ?_
        refine Z_if_le 584 588 dL_garden_581 rfl rfl (fun c581 => ?_) (fun c581 => absurd (by decide) c581)
        refine Z_iconst 589 (nI 0) dL_garden_588 rfl rfl ?_
        refine Z_iadd 590 dL_garden_589 rfl ?_
        refine Z_icmp_ne 593 670 dL_garden_590 rfl rfl (fun c590 => absurd c590 (fun z => z (ad0 _))) (fun c590 => ?_)
        refine Z_aload_n 594 13 dL_garden_593 rfl rfl ?_
        refine Z_bipush 596 (nI 9) dL_garden_594 rfl rfl ?_
        refine Z_callV 599 [_] 3 (v_count9 hF hk) dL_garden_596 rfl qL_13 kX3_count rfl rfl (Nat.le_of_ble_eq_true rfl) rfl rfl ⟨(Nat.le_of_ble_eq_true rfl), (Nat.le_of_ble_eq_true rfl)⟩ (Nat.le_of_ble_eq_true rfl) ⟨rfl, rfl⟩ ⟨(Nat.le_of_ble_eq_true rfl), (Nat.le_of_ble_eq_true rfl)⟩ (fun r9 w9 hp9 => ?_)
        obtain ⟨rfl, mm, rfl, hF⟩ := hp9
        refine Z_iload 601 3 dL_garden_599 rfl rfl ?_
        refine Z_iload 603 1 dL_garden_601 rfl rfl ?_
        refine Z_if_eq 606 610 dL_garden_603 rfl rfl (fun c603 => ?_) (fun c603 => absurd (by decide) c603)
        refine Z_iconst 611 (nI 0) dL_garden_610 rfl rfl ?_
        refine Z_iadd 612 dL_garden_611 rfl ?_
        refine Z_icmp_ne 615 670 dL_garden_612 rfl rfl (fun c612 => absurd c612 (fun z => z (ad0 _))) (fun c612 => ?_)
        refine Z_aload_n 616 13 dL_garden_615 rfl rfl ?_
        refine Z_bipush 618 (nI 10) dL_garden_616 rfl rfl ?_
        refine Z_callV 621 [_] 3 (v_count10 hF hk) dL_garden_618 rfl qL_13 kX3_count rfl rfl (Nat.le_of_ble_eq_true rfl) rfl rfl ⟨(Nat.le_of_ble_eq_true rfl), (Nat.le_of_ble_eq_true rfl)⟩ (Nat.le_of_ble_eq_true rfl) ⟨rfl, rfl⟩ ⟨(Nat.le_of_ble_eq_true rfl), (Nat.le_of_ble_eq_true rfl)⟩ (fun r9 w9 hp9 => ?_)
        obtain ⟨rfl, mm, rfl, hF⟩ := hp9
        refine Z_iload 623 2 dL_garden_621 rfl rfl ?_
        refine Z_iload 625 1 dL_garden_623 rfl rfl ?_
        refine Z_if_eq 628 633 dL_garden_625 rfl rfl (fun c625 => ?_) (fun c625 => absurd (by decide) c625)
        refine Z_iconst 634 (nI 0) dL_garden_633 rfl rfl ?_
        refine Z_iadd 635 dL_garden_634 rfl ?_
        refine Z_icmp_ne 638 670 dL_garden_635 rfl rfl (fun c635 => absurd c635 (fun z => z (ad0 _))) (fun c635 => ?_)
        refine Z_iload 640 9 dL_garden_638 rfl rfl ?_
        refine Z_if_ne 643 666 dL_garden_640 rfl rfl (fun c640 => absurd c640 (by decide)) (fun c640 => ?_)
        refine Z_aload_n 644 13 dL_garden_643 rfl rfl ?_
        refine Z_iload_n 645 10 dL_garden_644 rfl rfl ?_
        refine Z_iconst 646 (nI 0) dL_garden_645 rfl rfl ?_
        refine Z_callV 649 [_, _] 3 (v_hedge0 hF hk (by first | assumption | omega)) dL_garden_646 rfl qL_19 kX3_hedge rfl rfl (Nat.le_of_ble_eq_true rfl) rfl rfl ⟨(Nat.le_of_ble_eq_true rfl), (Nat.le_of_ble_eq_true rfl)⟩ (Nat.le_of_ble_eq_true rfl) ⟨rfl, rfl⟩ ⟨(Nat.le_of_ble_eq_true rfl), (Nat.le_of_ble_eq_true rfl)⟩ (fun r9 w9 hp9 => ?_)
        obtain ⟨rfl, mm, rfl, hF⟩ := hp9
        refine Z_iload 651 6 dL_garden_649 rfl rfl ?_
        refine Z_iload 653 1 dL_garden_651 rfl rfl ?_
        refine Z_if_eq 656 661 dL_garden_653 rfl rfl (fun c653 => ?_) (fun c653 => absurd (by decide) c653)
        refine Z_iconst 662 (nI 0) dL_garden_661 rfl rfl ?_
        refine Z_isub 663 dL_garden_662 rfl ?_
        refine Z_icmp_ne 666 670 dL_garden_663 rfl rfl (fun c663 => absurd c663 (fun z => z (sb0 _))) (fun c663 => ?_)
        refine Z_iconst 667 (nI 1) dL_garden_666 rfl rfl ?_
        refine Z_goto 671 dL_garden_667 rfl ?_
        exact Z_zret dL_garden_671 rfl (by first | exact Or.inl rfl | exact Or.inr rfl | exact bI_01) (by first | exact actOk (hA.v hF) | exact actOk (Act.noV sy hF))
      · rcases (show sNest m 1 q20 ∨ ¬ sNest m 1 q20 from Decidable.em _) with hs | hs
        · skip
          refine Z_iload 413 1 dL_garden_411 rfl rfl ?_
          refine Z_if_ne 416 428 dL_garden_413 rfl rfl (fun c413 => absurd c413 (by decide)) (fun c413 => ?_)
          refine Z_iload 418 0 dL_garden_416 rfl rfl ?_
          refine Z_if_eq 421 428 dL_garden_418 rfl rfl (fun c418 => absurd c418 (fun z => absurd (nz z (by omega)) (by omega))) (fun c418 => ?_)
          refine Z_iload 423 0 dL_garden_421 rfl rfl ?_
          refine Z_bipush 425 (nI 100) dL_garden_423 rfl rfl ?_
          refine Z_icmp_ne 428 432 dL_garden_425 rfl rfl (fun c425 => ?_) (fun c425 => absurd (fun z => absurd (eqN z (by omega) (by omega)) (by omega)) c425)
          refine Z_iconst 433 (nI 0) dL_garden_432 rfl rfl ?_
          refine Z_istore 435 [(6, _), (5, _), (4, _), (3, _), (2, _), (1, _), (0, _)] dL_garden_433 rfl (Nat.le_of_ble_eq_true rfl) rfl ?_
          refine Z_iload 437 2 dL_garden_435 rfl rfl ?_
          refine Z_if_eq 440 444 dL_garden_437 rfl rfl (fun c437 => ?_) (fun c437 => absurd (by decide) c437)
          refine Z_aload_n 445 6 dL_garden_444 rfl rfl ?_
          refine Z_iload_n 446 3 dL_garden_445 rfl rfl ?_
          refine Z_iconst 447 (nI 0) dL_garden_446 rfl rfl ?_
          refine Z_callV 450 [_, _] 3 (v_hedge0 hF hk (by first | assumption | omega)) dL_garden_447 rfl qL_19 kX3_hedge rfl rfl (Nat.le_of_ble_eq_true rfl) rfl rfl ⟨(Nat.le_of_ble_eq_true rfl), (Nat.le_of_ble_eq_true rfl)⟩ (Nat.le_of_ble_eq_true rfl) ⟨rfl, rfl⟩ ⟨(Nat.le_of_ble_eq_true rfl), (Nat.le_of_ble_eq_true rfl)⟩ (fun r9 w9 hp9 => ?_)
          obtain ⟨rfl, mm, rfl, hF⟩ := hp9
          refine Z_istore 452 [(7, _), (6, _), (5, _), (4, _), (3, _), (2, _), (1, _), (0, _)] dL_garden_450 rfl (Nat.le_of_ble_eq_true rfl) rfl ?_
          refine Z_iload 454 1 dL_garden_452 rfl rfl ?_
          refine Z_if_eq 457 461 dL_garden_454 rfl rfl (fun c454 => ?_) (fun c454 => absurd (by decide) c454)
          refine Z_aload_n 462 7 dL_garden_461 rfl rfl ?_
          refine Z_iload_n 463 4 dL_garden_462 rfl rfl ?_
          refine Z_iconst 464 (nI 2) dL_garden_463 rfl rfl ?_
          refine Z_callV 467 [_, _] 3 (v_hedge2 hF hk (by first | assumption | omega)) dL_garden_464 rfl qL_19 kX3_hedge rfl rfl (Nat.le_of_ble_eq_true rfl) rfl rfl ⟨(Nat.le_of_ble_eq_true rfl), (Nat.le_of_ble_eq_true rfl)⟩ (Nat.le_of_ble_eq_true rfl) ⟨rfl, rfl⟩ ⟨(Nat.le_of_ble_eq_true rfl), (Nat.le_of_ble_eq_true rfl)⟩ (fun r9 w9 hp9 => ?_)
          obtain ⟨rfl, mm, rfl, hF⟩ := hp9
          refine Z_iconst 468 (nI 1) dL_garden_467 rfl rfl ?_
          refine Z_icmp_ne 471 475 dL_garden_468 rfl rfl (fun c468 => absurd c468 (fun z => z (bI_t hs))) (fun c468 => ?_)
          refine Z_iconst 472 (nI 3) dL_garden_471 rfl rfl ?_
          refine Z_goto 487 dL_garden_472 rfl ?_
          refine Z_istore 489 [(8, _), (7, _), (6, _), (5, _), (4, _), (3, _), (2, _), (1, _), (0, _)] dL_garden_487 rfl (Nat.le_of_ble_eq_true rfl) rfl ?_
          refine Z_aload_n 490 8 dL_garden_489 rfl rfl ?_
          refine Z_bipush 492 (nI 8) dL_garden_490 rfl rfl ?_
          refine Z_callV 495 [_] 3 (v_count8 hF hk) dL_garden_492 rfl qL_13 kX3_count rfl rfl (Nat.le_of_ble_eq_true rfl) rfl rfl ⟨(Nat.le_of_ble_eq_true rfl), (Nat.le_of_ble_eq_true rfl)⟩ (Nat.le_of_ble_eq_true rfl) ⟨rfl, rfl⟩ ⟨(Nat.le_of_ble_eq_true rfl), (Nat.le_of_ble_eq_true rfl)⟩ (fun r9 w9 hp9 => ?_)
          obtain ⟨rfl, mm, rfl, hF⟩ := hp9
          refine Z_istore 497 [(9, _), (8, _), (7, _), (6, _), (5, _), (4, _), (3, _), (2, _), (1, _), (0, _)] dL_garden_495 rfl (Nat.le_of_ble_eq_true rfl) rfl ?_
          refine Z_aload_n 498 9 dL_garden_497 rfl rfl ?_
          refine Z_bipush 500 (nI 9) dL_garden_498 rfl rfl ?_
          refine Z_callV 503 [_] 3 (v_count9 hF hk) dL_garden_500 rfl qL_13 kX3_count rfl rfl (Nat.le_of_ble_eq_true rfl) rfl rfl ⟨(Nat.le_of_ble_eq_true rfl), (Nat.le_of_ble_eq_true rfl)⟩ (Nat.le_of_ble_eq_true rfl) ⟨rfl, rfl⟩ ⟨(Nat.le_of_ble_eq_true rfl), (Nat.le_of_ble_eq_true rfl)⟩ (fun r9 w9 hp9 => ?_)
          obtain ⟨rfl, mm, rfl, hF⟩ := hp9
          refine Z_istore 505 [(10, _), (9, _), (8, _), (7, _), (6, _), (5, _), (4, _), (3, _), (2, _), (1, _), (0, _)] dL_garden_503 rfl (Nat.le_of_ble_eq_true rfl) rfl ?_
          refine Z_aload_n 506 10 dL_garden_505 rfl rfl ?_
          refine Z_bipush 508 (nI 10) dL_garden_506 rfl rfl ?_
          refine Z_callV 511 [_] 3 (v_count10 hF hk) dL_garden_508 rfl qL_13 kX3_count rfl rfl (Nat.le_of_ble_eq_true rfl) rfl rfl ⟨(Nat.le_of_ble_eq_true rfl), (Nat.le_of_ble_eq_true rfl)⟩ (Nat.le_of_ble_eq_true rfl) ⟨rfl, rfl⟩ ⟨(Nat.le_of_ble_eq_true rfl), (Nat.le_of_ble_eq_true rfl)⟩ (fun r9 w9 hp9 => ?_)
          obtain ⟨rfl, mm, rfl, hF⟩ := hp9
          refine Z_istore 513 [(11, _), (10, _), (9, _), (8, _), (7, _), (6, _), (5, _), (4, _), (3, _), (2, _), (1, _), (0, _)] dL_garden_511 rfl (Nat.le_of_ble_eq_true rfl) rfl ?_
          refine Z_iload 515 5 dL_garden_513 rfl rfl ?_
          refine Z_if_ne 518 527 dL_garden_515 rfl rfl (fun c515 => absurd c515 (by decide)) (fun c515 => ?_)
          refine Z_iload 520 3 dL_garden_518 rfl rfl ?_
          refine Z_if_ne 523 527 dL_garden_520 rfl rfl (fun c520 => ?_) (fun c520 => absurd (by decide) c520)
          refine Z_iconst 528 (nI 0) dL_garden_527 rfl rfl ?_
          refine Z_istore 530 [(12, _), (11, _), (10, _), (9, _), (8, _), (7, _), (6, _), (5, _), (4, _), (3, _), (2, _), (1, _), (0, _)] dL_garden_528 rfl (Nat.le_of_ble_eq_true rfl) rfl ?_
          refine Z_aload_n 531 12 dL_garden_530 rfl rfl ?_
          refine Z_iload_n 532 9 dL_garden_531 rfl rfl ?_
          refine Z_iload 534 7 dL_garden_532 rfl rfl ?_
          refine Z_callV 537 [_, _] 3 (v_clipA sy hF k8 (by omega) (by omega) hs) dL_garden_534 rfl qL_87 kX3_clip rfl rfl (Nat.le_of_ble_eq_true rfl) rfl rfl ⟨(Nat.le_of_ble_eq_true rfl), (Nat.le_of_ble_eq_true rfl)⟩ (Nat.le_of_ble_eq_true rfl) ⟨rfl, rfl⟩ ⟨(Nat.le_of_ble_eq_true rfl), (Nat.le_of_ble_eq_true rfl)⟩ (fun r9 w9 hp9 => ?_)
          obtain ⟨rfl, M, rfl, hA, hM⟩ := hp9
          have hk := hA.1.ok
          have g := hA.1.inv.g
          have hF : Fsv M M := Fsv.rf
          refine Z_istore 539 [(13, _), (12, _), (11, _), (10, _), (9, _), (8, _), (7, _), (6, _), (5, _), (4, _), (3, _), (2, _), (1, _), (0, _)] dL_garden_537 rfl (Nat.le_of_ble_eq_true rfl) rfl ?_
          refine Z_iload 541 0 dL_garden_539 rfl rfl ?_
          refine Z_iload 543 7 dL_garden_541 rfl rfl ?_
          refine Z_if_eq 546 550 dL_garden_543 rfl rfl (fun c543 => ?_) (fun c543 => absurd (by decide) c543)
          refine Z_iload 552 5 dL_garden_550 rfl rfl ?_
          refine Z_if_le 555 560 dL_garden_552 rfl rfl (fun c552 => absurd c552 (by decide)) (fun c552 => ?_)
          refine Z_iload 557 5 dL_garden_555 rfl rfl ?_
          refine Z_goto 568 dL_garden_557 rfl ?_
          refine Z_icmp_ne 571 670 dL_garden_568 rfl rfl (fun c568 => absurd c568 (by decide)) (fun c568 => ?_)
          refine Z_aload_n 572 13 dL_garden_571 rfl rfl ?_
          refine Z_bipush 574 (nI 8) dL_garden_572 rfl rfl ?_
          refine Z_callV 577 [_] 3 (v_count8 hF hk) dL_garden_574 rfl qL_13 kX3_count rfl rfl (Nat.le_of_ble_eq_true rfl) rfl rfl ⟨(Nat.le_of_ble_eq_true rfl), (Nat.le_of_ble_eq_true rfl)⟩ (Nat.le_of_ble_eq_true rfl) ⟨rfl, rfl⟩ ⟨(Nat.le_of_ble_eq_true rfl), (Nat.le_of_ble_eq_true rfl)⟩ (fun r9 w9 hp9 => ?_)
          obtain ⟨rfl, mm, rfl, hF⟩ := hp9
          refine Z_iload 579 4 dL_garden_577 rfl rfl ?_
          refine Z_iload 581 5 dL_garden_579 rfl rfl ?_
          refine Z_if_le 584 588 dL_garden_581 rfl rfl (fun c581 => absurd c581 (by decide)) (fun c581 => ?_)
          refine Z_iconst 585 (nI 1) dL_garden_584 rfl rfl ?_
          refine Z_goto 589 dL_garden_585 rfl ?_
          refine Z_iadd 590 dL_garden_589 rfl ?_
          refine Z_icmp_ne 593 670 dL_garden_590 rfl rfl (fun c590 => absurd c590 (fun z => z hM.1)) (fun c590 => ?_)
          refine Z_aload_n 594 13 dL_garden_593 rfl rfl ?_
          refine Z_bipush 596 (nI 9) dL_garden_594 rfl rfl ?_
          refine Z_callV 599 [_] 3 (v_count9 hF hk) dL_garden_596 rfl qL_13 kX3_count rfl rfl (Nat.le_of_ble_eq_true rfl) rfl rfl ⟨(Nat.le_of_ble_eq_true rfl), (Nat.le_of_ble_eq_true rfl)⟩ (Nat.le_of_ble_eq_true rfl) ⟨rfl, rfl⟩ ⟨(Nat.le_of_ble_eq_true rfl), (Nat.le_of_ble_eq_true rfl)⟩ (fun r9 w9 hp9 => ?_)
          obtain ⟨rfl, mm, rfl, hF⟩ := hp9
          refine Z_iload 601 3 dL_garden_599 rfl rfl ?_
          refine Z_iload 603 1 dL_garden_601 rfl rfl ?_
          refine Z_if_eq 606 610 dL_garden_603 rfl rfl (fun c603 => ?_) (fun c603 => absurd (by decide) c603)
          refine Z_iconst 611 (nI 0) dL_garden_610 rfl rfl ?_
          refine Z_iadd 612 dL_garden_611 rfl ?_
          refine Z_icmp_ne 615 670 dL_garden_612 rfl rfl (fun c612 => absurd c612 (fun z => z (by rw [hM.2.1]; exact ad0 _))) (fun c612 => ?_)
          refine Z_aload_n 616 13 dL_garden_615 rfl rfl ?_
          refine Z_bipush 618 (nI 10) dL_garden_616 rfl rfl ?_
          refine Z_callV 621 [_] 3 (v_count10 hF hk) dL_garden_618 rfl qL_13 kX3_count rfl rfl (Nat.le_of_ble_eq_true rfl) rfl rfl ⟨(Nat.le_of_ble_eq_true rfl), (Nat.le_of_ble_eq_true rfl)⟩ (Nat.le_of_ble_eq_true rfl) ⟨rfl, rfl⟩ ⟨(Nat.le_of_ble_eq_true rfl), (Nat.le_of_ble_eq_true rfl)⟩ (fun r9 w9 hp9 => ?_)
          obtain ⟨rfl, mm, rfl, hF⟩ := hp9
          refine Z_iload 623 2 dL_garden_621 rfl rfl ?_
          refine Z_iload 625 1 dL_garden_623 rfl rfl ?_
          refine Z_if_eq 628 633 dL_garden_625 rfl rfl (fun c625 => ?_) (fun c625 => absurd (by decide) c625)
          refine Z_iconst 634 (nI 0) dL_garden_633 rfl rfl ?_
          refine Z_iadd 635 dL_garden_634 rfl ?_
          refine Z_icmp_ne 638 670 dL_garden_635 rfl rfl (fun c635 => absurd c635 (fun z => z (by rw [hM.2.2.1]; exact ad0 _))) (fun c635 => ?_)
          refine Z_iload 640 9 dL_garden_638 rfl rfl ?_
          refine Z_if_ne 643 666 dL_garden_640 rfl rfl (fun c640 => absurd c640 (by decide)) (fun c640 => ?_)
          refine Z_aload_n 644 13 dL_garden_643 rfl rfl ?_
          refine Z_iload_n 645 10 dL_garden_644 rfl rfl ?_
          refine Z_iconst 646 (nI 0) dL_garden_645 rfl rfl ?_
          refine Z_callV 649 [_, _] 3 (v_hedge0 hF hk (by first | assumption | omega)) dL_garden_646 rfl qL_19 kX3_hedge rfl rfl (Nat.le_of_ble_eq_true rfl) rfl rfl ⟨(Nat.le_of_ble_eq_true rfl), (Nat.le_of_ble_eq_true rfl)⟩ (Nat.le_of_ble_eq_true rfl) ⟨rfl, rfl⟩ ⟨(Nat.le_of_ble_eq_true rfl), (Nat.le_of_ble_eq_true rfl)⟩ (fun r9 w9 hp9 => ?_)
          obtain ⟨rfl, mm, rfl, hF⟩ := hp9
          refine Z_iload 651 6 dL_garden_649 rfl rfl ?_
          refine Z_iload 653 1 dL_garden_651 rfl rfl ?_
          refine Z_if_eq 656 661 dL_garden_653 rfl rfl (fun c653 => ?_) (fun c653 => absurd (by decide) c653)
          refine Z_iconst 662 (nI 0) dL_garden_661 rfl rfl ?_
          refine Z_isub 663 dL_garden_662 rfl ?_
          refine Z_icmp_ne 666 670 dL_garden_663 rfl rfl (fun c663 => absurd c663 (fun z => z (by rw [hM.2.2.2.1]; exact sb0 _))) (fun c663 => ?_)
          refine Z_iconst 667 (nI 1) dL_garden_666 rfl rfl ?_
          refine Z_goto 671 dL_garden_667 rfl ?_
          exact Z_zret dL_garden_671 rfl (by first | exact Or.inl rfl | exact Or.inr rfl | exact bI_01) (by first | exact actOk (hA.v hF) | exact actOk (Act.noV sy hF))
        · rcases (show m 2 q20 < nI q406 ∨ ¬ m 2 q20 < nI q406 from Decidable.em _) with c2 | c2
          · skip
            refine Z_iload 413 1 dL_garden_411 rfl rfl ?_
            refine Z_if_ne 416 428 dL_garden_413 rfl rfl (fun c413 => absurd c413 (by decide)) (fun c413 => ?_)
            refine Z_iload 418 0 dL_garden_416 rfl rfl ?_
            refine Z_if_eq 421 428 dL_garden_418 rfl rfl (fun c418 => absurd c418 (fun z => absurd (nz z (by omega)) (by omega))) (fun c418 => ?_)
            refine Z_iload 423 0 dL_garden_421 rfl rfl ?_
            refine Z_bipush 425 (nI 100) dL_garden_423 rfl rfl ?_
            refine Z_icmp_ne 428 432 dL_garden_425 rfl rfl (fun c425 => ?_) (fun c425 => absurd (fun z => absurd (eqN z (by omega) (by omega)) (by omega)) c425)
            refine Z_iconst 433 (nI 0) dL_garden_432 rfl rfl ?_
            refine Z_istore 435 [(6, _), (5, _), (4, _), (3, _), (2, _), (1, _), (0, _)] dL_garden_433 rfl (Nat.le_of_ble_eq_true rfl) rfl ?_
            refine Z_iload 437 2 dL_garden_435 rfl rfl ?_
            refine Z_if_eq 440 444 dL_garden_437 rfl rfl (fun c437 => ?_) (fun c437 => absurd (by decide) c437)
            refine Z_aload_n 445 6 dL_garden_444 rfl rfl ?_
            refine Z_iload_n 446 3 dL_garden_445 rfl rfl ?_
            refine Z_iconst 447 (nI 0) dL_garden_446 rfl rfl ?_
            refine Z_callV 450 [_, _] 3 (v_hedge0 hF hk (by first | assumption | omega)) dL_garden_447 rfl qL_19 kX3_hedge rfl rfl (Nat.le_of_ble_eq_true rfl) rfl rfl ⟨(Nat.le_of_ble_eq_true rfl), (Nat.le_of_ble_eq_true rfl)⟩ (Nat.le_of_ble_eq_true rfl) ⟨rfl, rfl⟩ ⟨(Nat.le_of_ble_eq_true rfl), (Nat.le_of_ble_eq_true rfl)⟩ (fun r9 w9 hp9 => ?_)
            obtain ⟨rfl, mm, rfl, hF⟩ := hp9
            refine Z_istore 452 [(7, _), (6, _), (5, _), (4, _), (3, _), (2, _), (1, _), (0, _)] dL_garden_450 rfl (Nat.le_of_ble_eq_true rfl) rfl ?_
            refine Z_iload 454 1 dL_garden_452 rfl rfl ?_
            refine Z_if_eq 457 461 dL_garden_454 rfl rfl (fun c454 => ?_) (fun c454 => absurd (by decide) c454)
            refine Z_aload_n 462 7 dL_garden_461 rfl rfl ?_
            refine Z_iload_n 463 4 dL_garden_462 rfl rfl ?_
            refine Z_iconst 464 (nI 2) dL_garden_463 rfl rfl ?_
            refine Z_callV 467 [_, _] 3 (v_hedge2 hF hk (by first | assumption | omega)) dL_garden_464 rfl qL_19 kX3_hedge rfl rfl (Nat.le_of_ble_eq_true rfl) rfl rfl ⟨(Nat.le_of_ble_eq_true rfl), (Nat.le_of_ble_eq_true rfl)⟩ (Nat.le_of_ble_eq_true rfl) ⟨rfl, rfl⟩ ⟨(Nat.le_of_ble_eq_true rfl), (Nat.le_of_ble_eq_true rfl)⟩ (fun r9 w9 hp9 => ?_)
            obtain ⟨rfl, mm, rfl, hF⟩ := hp9
            refine Z_iconst 468 (nI 1) dL_garden_467 rfl rfl ?_
            refine Z_icmp_ne 471 475 dL_garden_468 rfl rfl (fun c468 => ?_) (fun c468 => absurd (fun z => hs (bI_s z)) c468)
            refine Z_iload 477 2 dL_garden_475 rfl rfl ?_
            refine Z_iload 479 0 dL_garden_477 rfl rfl ?_
            refine Z_icmp_le 482 486 dL_garden_479 rfl rfl (fun c479 => absurd c479 (Int32.not_le.mpr c2)) (fun c479 => ?_)
            refine Z_iconst 483 (nI 4) dL_garden_482 rfl rfl ?_
            refine Z_goto 487 dL_garden_483 rfl ?_
            refine Z_istore 489 [(8, _), (7, _), (6, _), (5, _), (4, _), (3, _), (2, _), (1, _), (0, _)] dL_garden_487 rfl (Nat.le_of_ble_eq_true rfl) rfl ?_
            refine Z_aload_n 490 8 dL_garden_489 rfl rfl ?_
            refine Z_bipush 492 (nI 8) dL_garden_490 rfl rfl ?_
            refine Z_callV 495 [_] 3 (v_count8 hF hk) dL_garden_492 rfl qL_13 kX3_count rfl rfl (Nat.le_of_ble_eq_true rfl) rfl rfl ⟨(Nat.le_of_ble_eq_true rfl), (Nat.le_of_ble_eq_true rfl)⟩ (Nat.le_of_ble_eq_true rfl) ⟨rfl, rfl⟩ ⟨(Nat.le_of_ble_eq_true rfl), (Nat.le_of_ble_eq_true rfl)⟩ (fun r9 w9 hp9 => ?_)
            obtain ⟨rfl, mm, rfl, hF⟩ := hp9
            refine Z_istore 497 [(9, _), (8, _), (7, _), (6, _), (5, _), (4, _), (3, _), (2, _), (1, _), (0, _)] dL_garden_495 rfl (Nat.le_of_ble_eq_true rfl) rfl ?_
            refine Z_aload_n 498 9 dL_garden_497 rfl rfl ?_
            refine Z_bipush 500 (nI 9) dL_garden_498 rfl rfl ?_
            refine Z_callV 503 [_] 3 (v_count9 hF hk) dL_garden_500 rfl qL_13 kX3_count rfl rfl (Nat.le_of_ble_eq_true rfl) rfl rfl ⟨(Nat.le_of_ble_eq_true rfl), (Nat.le_of_ble_eq_true rfl)⟩ (Nat.le_of_ble_eq_true rfl) ⟨rfl, rfl⟩ ⟨(Nat.le_of_ble_eq_true rfl), (Nat.le_of_ble_eq_true rfl)⟩ (fun r9 w9 hp9 => ?_)
            obtain ⟨rfl, mm, rfl, hF⟩ := hp9
            refine Z_istore 505 [(10, _), (9, _), (8, _), (7, _), (6, _), (5, _), (4, _), (3, _), (2, _), (1, _), (0, _)] dL_garden_503 rfl (Nat.le_of_ble_eq_true rfl) rfl ?_
            refine Z_aload_n 506 10 dL_garden_505 rfl rfl ?_
            refine Z_bipush 508 (nI 10) dL_garden_506 rfl rfl ?_
            refine Z_callV 511 [_] 3 (v_count10 hF hk) dL_garden_508 rfl qL_13 kX3_count rfl rfl (Nat.le_of_ble_eq_true rfl) rfl rfl ⟨(Nat.le_of_ble_eq_true rfl), (Nat.le_of_ble_eq_true rfl)⟩ (Nat.le_of_ble_eq_true rfl) ⟨rfl, rfl⟩ ⟨(Nat.le_of_ble_eq_true rfl), (Nat.le_of_ble_eq_true rfl)⟩ (fun r9 w9 hp9 => ?_)
            obtain ⟨rfl, mm, rfl, hF⟩ := hp9
            refine Z_istore 513 [(11, _), (10, _), (9, _), (8, _), (7, _), (6, _), (5, _), (4, _), (3, _), (2, _), (1, _), (0, _)] dL_garden_511 rfl (Nat.le_of_ble_eq_true rfl) rfl ?_
            refine Z_iload 515 5 dL_garden_513 rfl rfl ?_
            refine Z_if_ne 518 527 dL_garden_515 rfl rfl (fun c515 => absurd c515 (by decide)) (fun c515 => ?_)
            refine Z_iload 520 3 dL_garden_518 rfl rfl ?_
            refine Z_if_ne 523 527 dL_garden_520 rfl rfl (fun c520 => ?_) (fun c520 => absurd (by decide) c520)
            refine Z_iconst 528 (nI 0) dL_garden_527 rfl rfl ?_
            refine Z_istore 530 [(12, _), (11, _), (10, _), (9, _), (8, _), (7, _), (6, _), (5, _), (4, _), (3, _), (2, _), (1, _), (0, _)] dL_garden_528 rfl (Nat.le_of_ble_eq_true rfl) rfl ?_
            refine Z_aload_n 531 12 dL_garden_530 rfl rfl ?_
            refine Z_iload_n 532 9 dL_garden_531 rfl rfl ?_
            refine Z_iload 534 7 dL_garden_532 rfl rfl ?_
            refine Z_callV 537 [_, _] 3 (v_clipB sy hF k8 (by omega) (by omega) hs c2) dL_garden_534 rfl qL_87 kX3_clip rfl rfl (Nat.le_of_ble_eq_true rfl) rfl rfl ⟨(Nat.le_of_ble_eq_true rfl), (Nat.le_of_ble_eq_true rfl)⟩ (Nat.le_of_ble_eq_true rfl) ⟨rfl, rfl⟩ ⟨(Nat.le_of_ble_eq_true rfl), (Nat.le_of_ble_eq_true rfl)⟩ (fun r9 w9 hp9 => ?_)
            obtain ⟨rfl, M, rfl, hA, hM⟩ := hp9
            have hk := hA.1.ok
            have g := hA.1.inv.g
            have hF : Fsv M M := Fsv.rf
            refine Z_istore 539 [(13, _), (12, _), (11, _), (10, _), (9, _), (8, _), (7, _), (6, _), (5, _), (4, _), (3, _), (2, _), (1, _), (0, _)] dL_garden_537 rfl (Nat.le_of_ble_eq_true rfl) rfl ?_
            refine Z_iload 541 0 dL_garden_539 rfl rfl ?_
            refine Z_iload 543 7 dL_garden_541 rfl rfl ?_
            refine Z_if_eq 546 550 dL_garden_543 rfl rfl (fun c543 => ?_) (fun c543 => absurd (by decide) c543)
            refine Z_iload 552 5 dL_garden_550 rfl rfl ?_
            refine Z_if_le 555 560 dL_garden_552 rfl rfl (fun c552 => absurd c552 (by decide)) (fun c552 => ?_)
            refine Z_iload 557 5 dL_garden_555 rfl rfl ?_
            refine Z_goto 568 dL_garden_557 rfl ?_
            refine Z_icmp_ne 571 670 dL_garden_568 rfl rfl (fun c568 => absurd c568 (by decide)) (fun c568 => ?_)
            refine Z_aload_n 572 13 dL_garden_571 rfl rfl ?_
            refine Z_bipush 574 (nI 8) dL_garden_572 rfl rfl ?_
            refine Z_callV 577 [_] 3 (v_count8 hF hk) dL_garden_574 rfl qL_13 kX3_count rfl rfl (Nat.le_of_ble_eq_true rfl) rfl rfl ⟨(Nat.le_of_ble_eq_true rfl), (Nat.le_of_ble_eq_true rfl)⟩ (Nat.le_of_ble_eq_true rfl) ⟨rfl, rfl⟩ ⟨(Nat.le_of_ble_eq_true rfl), (Nat.le_of_ble_eq_true rfl)⟩ (fun r9 w9 hp9 => ?_)
            obtain ⟨rfl, mm, rfl, hF⟩ := hp9
            refine Z_iload 579 4 dL_garden_577 rfl rfl ?_
            refine Z_iload 581 5 dL_garden_579 rfl rfl ?_
            refine Z_if_le 584 588 dL_garden_581 rfl rfl (fun c581 => absurd c581 (by decide)) (fun c581 => ?_)
            refine Z_iconst 585 (nI 1) dL_garden_584 rfl rfl ?_
            refine Z_goto 589 dL_garden_585 rfl ?_
            refine Z_iadd 590 dL_garden_589 rfl ?_
            refine Z_icmp_ne 593 670 dL_garden_590 rfl rfl (fun c590 => absurd c590 (fun z => z hM.1)) (fun c590 => ?_)
            refine Z_aload_n 594 13 dL_garden_593 rfl rfl ?_
            refine Z_bipush 596 (nI 9) dL_garden_594 rfl rfl ?_
            refine Z_callV 599 [_] 3 (v_count9 hF hk) dL_garden_596 rfl qL_13 kX3_count rfl rfl (Nat.le_of_ble_eq_true rfl) rfl rfl ⟨(Nat.le_of_ble_eq_true rfl), (Nat.le_of_ble_eq_true rfl)⟩ (Nat.le_of_ble_eq_true rfl) ⟨rfl, rfl⟩ ⟨(Nat.le_of_ble_eq_true rfl), (Nat.le_of_ble_eq_true rfl)⟩ (fun r9 w9 hp9 => ?_)
            obtain ⟨rfl, mm, rfl, hF⟩ := hp9
            refine Z_iload 601 3 dL_garden_599 rfl rfl ?_
            refine Z_iload 603 1 dL_garden_601 rfl rfl ?_
            refine Z_if_eq 606 610 dL_garden_603 rfl rfl (fun c603 => ?_) (fun c603 => absurd (by decide) c603)
            refine Z_iconst 611 (nI 0) dL_garden_610 rfl rfl ?_
            refine Z_iadd 612 dL_garden_611 rfl ?_
            refine Z_icmp_ne 615 670 dL_garden_612 rfl rfl (fun c612 => absurd c612 (fun z => z (by rw [hM.2.1]; exact ad0 _))) (fun c612 => ?_)
            refine Z_aload_n 616 13 dL_garden_615 rfl rfl ?_
            refine Z_bipush 618 (nI 10) dL_garden_616 rfl rfl ?_
            refine Z_callV 621 [_] 3 (v_count10 hF hk) dL_garden_618 rfl qL_13 kX3_count rfl rfl (Nat.le_of_ble_eq_true rfl) rfl rfl ⟨(Nat.le_of_ble_eq_true rfl), (Nat.le_of_ble_eq_true rfl)⟩ (Nat.le_of_ble_eq_true rfl) ⟨rfl, rfl⟩ ⟨(Nat.le_of_ble_eq_true rfl), (Nat.le_of_ble_eq_true rfl)⟩ (fun r9 w9 hp9 => ?_)
            obtain ⟨rfl, mm, rfl, hF⟩ := hp9
            refine Z_iload 623 2 dL_garden_621 rfl rfl ?_
            refine Z_iload 625 1 dL_garden_623 rfl rfl ?_
            refine Z_if_eq 628 633 dL_garden_625 rfl rfl (fun c625 => ?_) (fun c625 => absurd (by decide) c625)
            refine Z_iconst 634 (nI 0) dL_garden_633 rfl rfl ?_
            refine Z_iadd 635 dL_garden_634 rfl ?_
            refine Z_icmp_ne 638 670 dL_garden_635 rfl rfl (fun c635 => absurd c635 (fun z => z (by rw [hM.2.2.1]; exact ad0 _))) (fun c635 => ?_)
            refine Z_iload 640 9 dL_garden_638 rfl rfl ?_
            refine Z_if_ne 643 666 dL_garden_640 rfl rfl (fun c640 => absurd c640 (by decide)) (fun c640 => ?_)
            refine Z_aload_n 644 13 dL_garden_643 rfl rfl ?_
            refine Z_iload_n 645 10 dL_garden_644 rfl rfl ?_
            refine Z_iconst 646 (nI 0) dL_garden_645 rfl rfl ?_
            refine Z_callV 649 [_, _] 3 (v_hedge0 hF hk (by first | assumption | omega)) dL_garden_646 rfl qL_19 kX3_hedge rfl rfl (Nat.le_of_ble_eq_true rfl) rfl rfl ⟨(Nat.le_of_ble_eq_true rfl), (Nat.le_of_ble_eq_true rfl)⟩ (Nat.le_of_ble_eq_true rfl) ⟨rfl, rfl⟩ ⟨(Nat.le_of_ble_eq_true rfl), (Nat.le_of_ble_eq_true rfl)⟩ (fun r9 w9 hp9 => ?_)
            obtain ⟨rfl, mm, rfl, hF⟩ := hp9
            refine Z_iload 651 6 dL_garden_649 rfl rfl ?_
            refine Z_iload 653 1 dL_garden_651 rfl rfl ?_
            refine Z_if_eq 656 661 dL_garden_653 rfl rfl (fun c653 => ?_) (fun c653 => absurd (by decide) c653)
            refine Z_iconst 662 (nI 0) dL_garden_661 rfl rfl ?_
            refine Z_isub 663 dL_garden_662 rfl ?_
            refine Z_icmp_ne 666 670 dL_garden_663 rfl rfl (fun c663 => absurd c663 (fun z => z (by rw [hM.2.2.2.1]; exact sb0 _))) (fun c663 => ?_)
            refine Z_iconst 667 (nI 1) dL_garden_666 rfl rfl ?_
            refine Z_goto 671 dL_garden_667 rfl ?_
            exact Z_zret dL_garden_671 rfl (by first | exact Or.inl rfl | exact Or.inr rfl | exact bI_01) (by first | exact actOk (hA.v hF) | exact actOk (Act.noV sy hF))
          · skip
            refine Z_iload 413 1 dL_garden_411 rfl rfl ?_
            refine Z_if_ne 416 428 dL_garden_413 rfl rfl (fun c413 => absurd c413 (by decide)) (fun c413 => ?_)
            refine Z_iload 418 0 dL_garden_416 rfl rfl ?_
            refine Z_if_eq 421 428 dL_garden_418 rfl rfl (fun c418 => absurd c418 (fun z => absurd (nz z (by omega)) (by omega))) (fun c418 => ?_)
            refine Z_iload 423 0 dL_garden_421 rfl rfl ?_
            refine Z_bipush 425 (nI 100) dL_garden_423 rfl rfl ?_
            refine Z_icmp_ne 428 432 dL_garden_425 rfl rfl (fun c425 => ?_) (fun c425 => absurd (fun z => absurd (eqN z (by omega) (by omega)) (by omega)) c425)
            refine Z_iconst 433 (nI 0) dL_garden_432 rfl rfl ?_
            refine Z_istore 435 [(6, _), (5, _), (4, _), (3, _), (2, _), (1, _), (0, _)] dL_garden_433 rfl (Nat.le_of_ble_eq_true rfl) rfl ?_
            refine Z_iload 437 2 dL_garden_435 rfl rfl ?_
            refine Z_if_eq 440 444 dL_garden_437 rfl rfl (fun c437 => ?_) (fun c437 => absurd (by decide) c437)
            refine Z_aload_n 445 6 dL_garden_444 rfl rfl ?_
            refine Z_iload_n 446 3 dL_garden_445 rfl rfl ?_
            refine Z_iconst 447 (nI 0) dL_garden_446 rfl rfl ?_
            refine Z_callV 450 [_, _] 3 (v_hedge0 hF hk (by first | assumption | omega)) dL_garden_447 rfl qL_19 kX3_hedge rfl rfl (Nat.le_of_ble_eq_true rfl) rfl rfl ⟨(Nat.le_of_ble_eq_true rfl), (Nat.le_of_ble_eq_true rfl)⟩ (Nat.le_of_ble_eq_true rfl) ⟨rfl, rfl⟩ ⟨(Nat.le_of_ble_eq_true rfl), (Nat.le_of_ble_eq_true rfl)⟩ (fun r9 w9 hp9 => ?_)
            obtain ⟨rfl, mm, rfl, hF⟩ := hp9
            refine Z_istore 452 [(7, _), (6, _), (5, _), (4, _), (3, _), (2, _), (1, _), (0, _)] dL_garden_450 rfl (Nat.le_of_ble_eq_true rfl) rfl ?_
            refine Z_iload 454 1 dL_garden_452 rfl rfl ?_
            refine Z_if_eq 457 461 dL_garden_454 rfl rfl (fun c454 => ?_) (fun c454 => absurd (by decide) c454)
            refine Z_aload_n 462 7 dL_garden_461 rfl rfl ?_
            refine Z_iload_n 463 4 dL_garden_462 rfl rfl ?_
            refine Z_iconst 464 (nI 2) dL_garden_463 rfl rfl ?_
            refine Z_callV 467 [_, _] 3 (v_hedge2 hF hk (by first | assumption | omega)) dL_garden_464 rfl qL_19 kX3_hedge rfl rfl (Nat.le_of_ble_eq_true rfl) rfl rfl ⟨(Nat.le_of_ble_eq_true rfl), (Nat.le_of_ble_eq_true rfl)⟩ (Nat.le_of_ble_eq_true rfl) ⟨rfl, rfl⟩ ⟨(Nat.le_of_ble_eq_true rfl), (Nat.le_of_ble_eq_true rfl)⟩ (fun r9 w9 hp9 => ?_)
            obtain ⟨rfl, mm, rfl, hF⟩ := hp9
            refine Z_iconst 468 (nI 1) dL_garden_467 rfl rfl ?_
            refine Z_icmp_ne 471 475 dL_garden_468 rfl rfl (fun c468 => ?_) (fun c468 => absurd (fun z => hs (bI_s z)) c468)
            refine Z_iload 477 2 dL_garden_475 rfl rfl ?_
            refine Z_iload 479 0 dL_garden_477 rfl rfl ?_
            refine Z_icmp_le 482 486 dL_garden_479 rfl rfl (fun c479 => ?_) (fun c479 => absurd (Int32.not_lt.mp c2) c479)
            refine Z_iconst 487 (nI 0) dL_garden_486 rfl rfl ?_
            refine Z_istore 489 [(8, _), (7, _), (6, _), (5, _), (4, _), (3, _), (2, _), (1, _), (0, _)] dL_garden_487 rfl (Nat.le_of_ble_eq_true rfl) rfl ?_
            refine Z_aload_n 490 8 dL_garden_489 rfl rfl ?_
            refine Z_bipush 492 (nI 8) dL_garden_490 rfl rfl ?_
            refine Z_callV 495 [_] 3 (v_count8 hF hk) dL_garden_492 rfl qL_13 kX3_count rfl rfl (Nat.le_of_ble_eq_true rfl) rfl rfl ⟨(Nat.le_of_ble_eq_true rfl), (Nat.le_of_ble_eq_true rfl)⟩ (Nat.le_of_ble_eq_true rfl) ⟨rfl, rfl⟩ ⟨(Nat.le_of_ble_eq_true rfl), (Nat.le_of_ble_eq_true rfl)⟩ (fun r9 w9 hp9 => ?_)
            obtain ⟨rfl, mm, rfl, hF⟩ := hp9
            refine Z_istore 497 [(9, _), (8, _), (7, _), (6, _), (5, _), (4, _), (3, _), (2, _), (1, _), (0, _)] dL_garden_495 rfl (Nat.le_of_ble_eq_true rfl) rfl ?_
            refine Z_aload_n 498 9 dL_garden_497 rfl rfl ?_
            refine Z_bipush 500 (nI 9) dL_garden_498 rfl rfl ?_
            refine Z_callV 503 [_] 3 (v_count9 hF hk) dL_garden_500 rfl qL_13 kX3_count rfl rfl (Nat.le_of_ble_eq_true rfl) rfl rfl ⟨(Nat.le_of_ble_eq_true rfl), (Nat.le_of_ble_eq_true rfl)⟩ (Nat.le_of_ble_eq_true rfl) ⟨rfl, rfl⟩ ⟨(Nat.le_of_ble_eq_true rfl), (Nat.le_of_ble_eq_true rfl)⟩ (fun r9 w9 hp9 => ?_)
            obtain ⟨rfl, mm, rfl, hF⟩ := hp9
            refine Z_istore 505 [(10, _), (9, _), (8, _), (7, _), (6, _), (5, _), (4, _), (3, _), (2, _), (1, _), (0, _)] dL_garden_503 rfl (Nat.le_of_ble_eq_true rfl) rfl ?_
            refine Z_aload_n 506 10 dL_garden_505 rfl rfl ?_
            refine Z_bipush 508 (nI 10) dL_garden_506 rfl rfl ?_
            refine Z_callV 511 [_] 3 (v_count10 hF hk) dL_garden_508 rfl qL_13 kX3_count rfl rfl (Nat.le_of_ble_eq_true rfl) rfl rfl ⟨(Nat.le_of_ble_eq_true rfl), (Nat.le_of_ble_eq_true rfl)⟩ (Nat.le_of_ble_eq_true rfl) ⟨rfl, rfl⟩ ⟨(Nat.le_of_ble_eq_true rfl), (Nat.le_of_ble_eq_true rfl)⟩ (fun r9 w9 hp9 => ?_)
            obtain ⟨rfl, mm, rfl, hF⟩ := hp9
            refine Z_istore 513 [(11, _), (10, _), (9, _), (8, _), (7, _), (6, _), (5, _), (4, _), (3, _), (2, _), (1, _), (0, _)] dL_garden_511 rfl (Nat.le_of_ble_eq_true rfl) rfl ?_
            refine Z_iload 515 5 dL_garden_513 rfl rfl ?_
            refine Z_if_ne 518 527 dL_garden_515 rfl rfl (fun c515 => absurd c515 (by decide)) (fun c515 => ?_)
            refine Z_iload 520 3 dL_garden_518 rfl rfl ?_
            refine Z_if_ne 523 527 dL_garden_520 rfl rfl (fun c520 => absurd c520 (by decide)) (fun c520 => ?_)
            refine Z_iconst 524 (nI 1) dL_garden_523 rfl rfl ?_
            refine Z_goto 528 dL_garden_524 rfl ?_
            refine Z_istore 530 [(12, _), (11, _), (10, _), (9, _), (8, _), (7, _), (6, _), (5, _), (4, _), (3, _), (2, _), (1, _), (0, _)] dL_garden_528 rfl (Nat.le_of_ble_eq_true rfl) rfl ?_
            refine Z_aload_n 531 12 dL_garden_530 rfl rfl ?_
            refine Z_iload_n 532 9 dL_garden_531 rfl rfl ?_
            refine Z_iload 534 7 dL_garden_532 rfl rfl ?_
            refine Z_callV 537 [_, _] 3 (v_clipC sy hK hF k8 (by omega) (by omega) hs c2) dL_garden_534 rfl qL_87 kX3_clip rfl rfl (Nat.le_of_ble_eq_true rfl) rfl rfl ⟨(Nat.le_of_ble_eq_true rfl), (Nat.le_of_ble_eq_true rfl)⟩ (Nat.le_of_ble_eq_true rfl) ⟨rfl, rfl⟩ ⟨(Nat.le_of_ble_eq_true rfl), (Nat.le_of_ble_eq_true rfl)⟩ (fun r9 w9 hp9 => ?_)
            obtain ⟨rfl, M, rfl, hA, hM⟩ := hp9
            have hk := hA.1.ok
            have g := hA.1.inv.g
            have hF : Fsv M M := Fsv.rf
            refine Z_istore 539 [(13, _), (12, _), (11, _), (10, _), (9, _), (8, _), (7, _), (6, _), (5, _), (4, _), (3, _), (2, _), (1, _), (0, _)] dL_garden_537 rfl (Nat.le_of_ble_eq_true rfl) rfl ?_
            refine Z_iload 541 0 dL_garden_539 rfl rfl ?_
            refine Z_iload 543 7 dL_garden_541 rfl rfl ?_
            refine Z_if_eq 546 550 dL_garden_543 rfl rfl (fun c543 => ?_) (fun c543 => absurd (by decide) c543)
            refine Z_iload 552 5 dL_garden_550 rfl rfl ?_
            refine Z_if_le 555 560 dL_garden_552 rfl rfl (fun c552 => ?_) (fun c552 => absurd (by decide) c552)
            refine Z_bipush 562 (nI 10) dL_garden_560 rfl rfl ?_
            refine Z_iload 564 6 dL_garden_562 rfl rfl ?_
            refine Z_iadd 565 dL_garden_564 rfl ?_
            refine Z_iload 567 8 dL_garden_565 rfl rfl ?_
            refine Z_isub 568 dL_garden_567 rfl ?_
            refine Z_icmp_ne 571 670 dL_garden_568 rfl rfl (fun c568 => absurd c568 (fun z => z rfl)) (fun c568 => ?_)
            refine Z_aload_n 572 13 dL_garden_571 rfl rfl ?_
            refine Z_bipush 574 (nI 8) dL_garden_572 rfl rfl ?_
            refine Z_callV 577 [_] 3 (v_count8 hF hk) dL_garden_574 rfl qL_13 kX3_count rfl rfl (Nat.le_of_ble_eq_true rfl) rfl rfl ⟨(Nat.le_of_ble_eq_true rfl), (Nat.le_of_ble_eq_true rfl)⟩ (Nat.le_of_ble_eq_true rfl) ⟨rfl, rfl⟩ ⟨(Nat.le_of_ble_eq_true rfl), (Nat.le_of_ble_eq_true rfl)⟩ (fun r9 w9 hp9 => ?_)
            obtain ⟨rfl, mm, rfl, hF⟩ := hp9
            refine Z_iload 579 4 dL_garden_577 rfl rfl ?_
            refine Z_iload 581 5 dL_garden_579 rfl rfl ?_
            refine Z_if_le 584 588 dL_garden_581 rfl rfl (fun c581 => ?_) (fun c581 => absurd (by decide) c581)
            refine Z_iconst 589 (nI 0) dL_garden_588 rfl rfl ?_
            refine Z_iadd 590 dL_garden_589 rfl ?_
            refine Z_icmp_ne 593 670 dL_garden_590 rfl rfl (fun c590 => absurd c590 (fun z => z (by rw [hM.1]; exact ad0 _))) (fun c590 => ?_)
            refine Z_aload_n 594 13 dL_garden_593 rfl rfl ?_
            refine Z_bipush 596 (nI 9) dL_garden_594 rfl rfl ?_
            refine Z_callV 599 [_] 3 (v_count9 hF hk) dL_garden_596 rfl qL_13 kX3_count rfl rfl (Nat.le_of_ble_eq_true rfl) rfl rfl ⟨(Nat.le_of_ble_eq_true rfl), (Nat.le_of_ble_eq_true rfl)⟩ (Nat.le_of_ble_eq_true rfl) ⟨rfl, rfl⟩ ⟨(Nat.le_of_ble_eq_true rfl), (Nat.le_of_ble_eq_true rfl)⟩ (fun r9 w9 hp9 => ?_)
            obtain ⟨rfl, mm, rfl, hF⟩ := hp9
            refine Z_iload 601 3 dL_garden_599 rfl rfl ?_
            refine Z_iload 603 1 dL_garden_601 rfl rfl ?_
            refine Z_if_eq 606 610 dL_garden_603 rfl rfl (fun c603 => absurd c603 (by decide)) (fun c603 => ?_)
            refine Z_iconst 607 (nI 1) dL_garden_606 rfl rfl ?_
            refine Z_goto 611 dL_garden_607 rfl ?_
            refine Z_iadd 612 dL_garden_611 rfl ?_
            refine Z_icmp_ne 615 670 dL_garden_612 rfl rfl (fun c612 => absurd c612 (fun z => z hM.2.1)) (fun c612 => ?_)
            refine Z_aload_n 616 13 dL_garden_615 rfl rfl ?_
            refine Z_bipush 618 (nI 10) dL_garden_616 rfl rfl ?_
            refine Z_callV 621 [_] 3 (v_count10 hF hk) dL_garden_618 rfl qL_13 kX3_count rfl rfl (Nat.le_of_ble_eq_true rfl) rfl rfl ⟨(Nat.le_of_ble_eq_true rfl), (Nat.le_of_ble_eq_true rfl)⟩ (Nat.le_of_ble_eq_true rfl) ⟨rfl, rfl⟩ ⟨(Nat.le_of_ble_eq_true rfl), (Nat.le_of_ble_eq_true rfl)⟩ (fun r9 w9 hp9 => ?_)
            obtain ⟨rfl, mm, rfl, hF⟩ := hp9
            refine Z_iload 623 2 dL_garden_621 rfl rfl ?_
            refine Z_iload 625 1 dL_garden_623 rfl rfl ?_
            refine Z_if_eq 628 633 dL_garden_625 rfl rfl (fun c625 => absurd c625 (by decide)) (fun c625 => ?_)
            refine Z_iload 630 8 dL_garden_628 rfl rfl ?_
            refine Z_goto 634 dL_garden_630 rfl ?_
            refine Z_iadd 635 dL_garden_634 rfl ?_
            refine Z_icmp_ne 638 670 dL_garden_635 rfl rfl (fun c635 => absurd c635 (fun z => z hM.2.2.1)) (fun c635 => ?_)
            refine Z_iload 640 9 dL_garden_638 rfl rfl ?_
            refine Z_if_ne 643 666 dL_garden_640 rfl rfl (fun c640 => absurd c640 (by decide)) (fun c640 => ?_)
            refine Z_aload_n 644 13 dL_garden_643 rfl rfl ?_
            refine Z_iload_n 645 10 dL_garden_644 rfl rfl ?_
            refine Z_iconst 646 (nI 0) dL_garden_645 rfl rfl ?_
            refine Z_callV 649 [_, _] 3 (v_hedge0 hF hk (by first | assumption | omega)) dL_garden_646 rfl qL_19 kX3_hedge rfl rfl (Nat.le_of_ble_eq_true rfl) rfl rfl ⟨(Nat.le_of_ble_eq_true rfl), (Nat.le_of_ble_eq_true rfl)⟩ (Nat.le_of_ble_eq_true rfl) ⟨rfl, rfl⟩ ⟨(Nat.le_of_ble_eq_true rfl), (Nat.le_of_ble_eq_true rfl)⟩ (fun r9 w9 hp9 => ?_)
            obtain ⟨rfl, mm, rfl, hF⟩ := hp9
            refine Z_iload 651 6 dL_garden_649 rfl rfl ?_
            refine Z_iload 653 1 dL_garden_651 rfl rfl ?_
            refine Z_if_eq 656 661 dL_garden_653 rfl rfl (fun c653 => absurd c653 (by decide)) (fun c653 => ?_)
            refine Z_iload 658 8 dL_garden_656 rfl rfl ?_
            refine Z_goto 662 dL_garden_658 rfl ?_
            refine Z_isub 663 dL_garden_662 rfl ?_
            refine Z_icmp_ne 666 670 dL_garden_663 rfl rfl (fun c663 => absurd c663 (fun z => z hM.2.2.2)) (fun c663 => ?_)
            refine Z_iconst 667 (nI 1) dL_garden_666 rfl rfl ?_
            refine Z_goto 671 dL_garden_667 rfl ?_
            exact Z_zret dL_garden_671 rfl (by first | exact Or.inl rfl | exact Or.inr rfl | exact bI_01) (by first | exact actOk (hA.v hF) | exact actOk (Act.noV sy hF))
    refine Z_iload_n 25 0 dL_garden_24 rfl rfl ?_
    refine Z_bipush 27 (nI 8) dL_garden_25 rfl rfl ?_
    refine Z_icmp_ne 30 34 dL_garden_27 rfl rfl (fun c27 => ?_) (fun c27 => absurd (fun z => absurd (eqN z (by omega) (by omega)) (by omega)) c27)
    refine Z_iconst 35 (nI 0) dL_garden_34 rfl rfl ?_
    refine Z_istore 37 [(4, _), (3, _), (2, _), (1, _), (0, _)] dL_garden_35 rfl (Nat.le_of_ble_eq_true rfl) rfl ?_
    refine Z_iload_n 38 3 dL_garden_37 rfl rfl ?_
    refine Z_if_ne 41 156 dL_garden_38 rfl rfl (fun c38 => ?_) (fun c38 => absurd (by decide) c38)
    refine Z_iload_n 157 3 dL_garden_156 rfl rfl ?_
    refine Z_iconst 158 (nI 1) dL_garden_157 rfl rfl ?_
    refine Z_icmp_ne 161 260 dL_garden_158 rfl rfl (fun c158 => ?_) (fun c158 => absurd (by decide) c158)
    refine Z_iload_n 261 3 dL_garden_260 rfl rfl ?_
    refine Z_iconst 262 (nI 2) dL_garden_261 rfl rfl ?_
    refine Z_icmp_ne 265 385 dL_garden_262 rfl rfl (fun c262 => ?_) (fun c262 => absurd (by decide) c262)
    refine Z_iload_n 386 2 dL_garden_385 rfl rfl ?_
    refine Z_iconst 387 (nI 3) dL_garden_386 rfl rfl ?_
    refine Z_ishr 388 dL_garden_387 rfl ?_
    refine Z_iload_n 389 2 dL_garden_388 rfl rfl ?_
    refine Z_bipush 391 (nI 9) dL_garden_389 rfl rfl ?_
    refine Z_ishr 392 dL_garden_391 rfl ?_
    refine Z_iconst 393 (nI 4) dL_garden_392 rfl rfl ?_
    refine Z_callS 396 [_, _] (zL_low _ 4 (by decide)) dL_garden_393 rfl qL_39 kL_low rfl rfl ⟨(Nat.le_of_ble_eq_true rfl), (Nat.le_of_ble_eq_true rfl)⟩ (Nat.le_of_ble_eq_true rfl) ⟨rfl, rfl⟩ ⟨(Nat.le_of_ble_eq_true rfl), (Nat.le_of_ble_eq_true rfl)⟩ (fun r9 w9 hp9 => ?_)
    obtain ⟨⟨q393, hq393, rfl⟩, rfl⟩ := hp9
    refine Z_if_ne 399 404 dL_garden_396 rfl rfl (fun c396 => ?_) (fun c396 => ?_)
    · skip
      refine Z_bipush 406 (nI 9) dL_garden_404 rfl rfl ?_
      exact KJ mm 9 _ hF (by decide)
    · skip
      refine Z_bipush 401 (nI 101) dL_garden_399 rfl rfl ?_
      refine Z_goto 406 dL_garden_401 rfl ?_
      exact KJ mm 101 _ hF (by decide)

set_option maxRecDepth 100000 in
set_option maxHeartbeats 4000000 in
theorem zL_garden3 {G : zG} {l : Launch} {h : Nat → Nat} {m : zM} {K n s : Nat} {mm : zM} (sy : Sy K h m n s) (hK : K ≤ 1000) (hF : Fsv m mm) (y : Int32) : zMet G l yL_garden mL_garden [.ref (G.1 + 0), .int (nI 3), .int y] (zw h mm) (actP K h m n s) 0 0 := by
  refine zMet_of [(0, .ref (G.1 + 0)), (1, .int (nI 3)), (2, .int y)] (by decide +kernel) rfl (Or.inl rfl) (Nat.le_of_ble_eq_true rfl) rfl ?_
  refine Z_iload_n 1 2 dL_garden_0 rfl rfl ?_
  refine Z_iload_n 2 2 dL_garden_1 rfl rfl ?_
  refine Z_bipush 4 (nI 14) dL_garden_2 rfl rfl ?_
  refine Z_ishr 5 dL_garden_4 rfl ?_
  refine Z_bipush 7 (nI 9) dL_garden_5 rfl rfl ?_
  refine Z_callS 10 [_, _] (zL_low _ 9 (by decide)) dL_garden_7 rfl qL_39 kL_low rfl rfl ⟨(Nat.le_of_ble_eq_true rfl), (Nat.le_of_ble_eq_true rfl)⟩ (Nat.le_of_ble_eq_true rfl) ⟨rfl, rfl⟩ ⟨(Nat.le_of_ble_eq_true rfl), (Nat.le_of_ble_eq_true rfl)⟩ (fun r9 w9 hp9 => ?_)
  obtain ⟨⟨q7, hq7, rfl⟩, rfl⟩ := hp9
  refine Z_if_ne 13 18 dL_garden_10 rfl rfl (fun c10 => ?_) (fun c10 => ?_)
  · skip
    refine Z_bipush 20 (nI 8) dL_garden_18 rfl rfl ?_
    refine Z_lv [2, 1, 0] rfl ?_
    exact lL_garden3 sy hK mm 8 _ hF (by decide)
  · skip
    refine Z_bipush 15 (nI 9) dL_garden_13 rfl rfl ?_
    refine Z_goto 20 dL_garden_15 rfl ?_
    refine Z_lv [2, 1, 0] rfl ?_
    exact lL_garden3 sy hK mm 9 _ hF (by decide)

