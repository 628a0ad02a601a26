/-! the model: looks -/
set_option maxRecDepth 100000 in
set_option maxHeartbeats 4000000 in
theorem zX4_count0 {G : zG} {l : Launch} {h : Nat → Nat} {m : zM} (n : Nat) (hk : sOk (vR (m 75)) 1 n) : zMet G l yX4_count mX4_count [.ref (G.1 + 74), .int (nI 0)] (zw h m) (fun r w => r = some (.int (m 75 0)) ∧ w = zw h m) 0 0 := by
  refine zMet_of [(0, .ref (G.1 + 74)), (1, .int (nI 0))] (by decide +kernel) rfl (Or.inl rfl) (Nat.le_of_ble_eq_true rfl) rfl ?_
  refine Z_iload_n 1 1 dX4_count_0 rfl rfl ?_
  refine Z_tabIn 68 (off := 67) dX4_count_1 (by decide) (by decide) (by decide) rfl ?_
  refine Z_aload_n 69 0 dX4_count_68 rfl rfl ?_
  refine Z_getR 72 dX4_count_69 rfl fX4_7 (Nat.le_of_ble_eq_true rfl) rfl rfl ?_
  refine Z_iconst 73 (nI 0) dX4_count_72 rfl rfl ?_
  refine Z_ialn 74 dX4_count_73 rfl (Nat.le_of_ble_eq_true rfl) rfl (by first | assumption | omega) (by decide) ?_
  exact Z_iret dX4_count_74 rfl ⟨rfl, rfl⟩

set_option maxRecDepth 100000 in
set_option maxHeartbeats 4000000 in
theorem zX4_count1 {G : zG} {l : Launch} {h : Nat → Nat} {m : zM} (n : Nat) (hk : sOk (vR (m 75)) 1 n) : zMet G l yX4_count mX4_count [.ref (G.1 + 74), .int (nI 1)] (zw h m) (fun r w => r = some (.int (m 75 2)) ∧ w = zw h m) 0 0 := by
  refine zMet_of [(0, .ref (G.1 + 74)), (1, .int (nI 1))] (by decide +kernel) rfl (Or.inl rfl) (Nat.le_of_ble_eq_true rfl) rfl ?_
  refine Z_iload_n 1 1 dX4_count_0 rfl rfl ?_
  refine Z_tabIn 75 (off := 74) dX4_count_1 (by decide) (by decide) (by decide) rfl ?_
  refine Z_aload_n 76 0 dX4_count_75 rfl rfl ?_
  refine Z_getR 79 dX4_count_76 rfl fX4_7 (Nat.le_of_ble_eq_true rfl) rfl rfl ?_
  refine Z_iconst 80 (nI 2) dX4_count_79 rfl rfl ?_
  refine Z_ialn 81 dX4_count_80 rfl (Nat.le_of_ble_eq_true rfl) rfl (by first | assumption | omega) (by decide) ?_
  exact Z_iret dX4_count_81 rfl ⟨rfl, rfl⟩

set_option maxRecDepth 100000 in
set_option maxHeartbeats 4000000 in
theorem zX4_count2 {G : zG} {l : Launch} {h : Nat → Nat} {m : zM} (n : Nat) (hk : sOk (vR (m 75)) 1 n) : zMet G l yX4_count mX4_count [.ref (G.1 + 74), .int (nI 2)] (zw h m) (fun r w => r = some (.int (nI (cnt (fun j => decide (sForce (vR (m 75)) 1 j)) n))) ∧ w = zw h m) 0 0 := by
  refine zMet_of [(0, .ref (G.1 + 74)), (1, .int (nI 2))] (by decide +kernel) rfl (Or.inl rfl) (Nat.le_of_ble_eq_true rfl) rfl ?_
  refine Z_iload_n 1 1 dX4_count_0 rfl rfl ?_
  refine Z_tabIn 82 (off := 81) dX4_count_1 (by decide) (by decide) (by decide) rfl ?_
  refine Z_aload_n 83 0 dX4_count_82 rfl rfl ?_
  refine Z_callV 86 [] 4 (zX4_inForce n hk) dX4_count_83 rfl qX4_194 kX4_inForce rfl rfl (Nat.le_of_ble_eq_true rfl) rfl rfl ⟨(Nat.le_of_ble_eq_true rfl), (Nat.le_of_ble_eq_true rfl)⟩ (Nat.le_of_ble_eq_true rfl) ⟨rfl, rfl⟩ ⟨(Nat.le_of_ble_eq_true rfl), (Nat.le_of_ble_eq_true rfl)⟩ (fun r9 w9 hp9 => ?_)
  obtain ⟨rfl, rfl⟩ := hp9
  exact Z_iret dX4_count_86 rfl ⟨rfl, rfl⟩

set_option maxRecDepth 100000 in
set_option maxHeartbeats 4000000 in
theorem zX4_count3 {G : zG} {l : Launch} {h : Nat → Nat} {m : zM} (n : Nat) (hk : sOk (vR (m 75)) 1 n) : zMet G l yX4_count mX4_count [.ref (G.1 + 74), .int (nI 3)] (zw h m) (fun r w => r = some (.int (nI (cnt (fun j => decide (bkV (vR (m 75)) j)) n))) ∧ w = zw h m) 0 0 := by
  refine zMet_of [(0, .ref (G.1 + 74)), (1, .int (nI 3))] (by decide +kernel) rfl (Or.inl rfl) (Nat.le_of_ble_eq_true rfl) rfl ?_
  refine Z_iload_n 1 1 dX4_count_0 rfl rfl ?_
  refine Z_tabIn 87 (off := 86) dX4_count_1 (by decide) (by decide) (by decide) rfl ?_
  refine Z_aload_n 88 0 dX4_count_87 rfl rfl ?_
  refine Z_callV 91 [] 4 (zX4_brokenOnes n hk) dX4_count_88 rfl qX4_123 kX4_brokenOnes rfl rfl (Nat.le_of_ble_eq_true rfl) rfl rfl ⟨(Nat.le_of_ble_eq_true rfl), (Nat.le_of_ble_eq_true rfl)⟩ (Nat.le_of_ble_eq_true rfl) ⟨rfl, rfl⟩ ⟨(Nat.le_of_ble_eq_true rfl), (Nat.le_of_ble_eq_true rfl)⟩ (fun r9 w9 hp9 => ?_)
  obtain ⟨rfl, rfl⟩ := hp9
  exact Z_iret dX4_count_91 rfl ⟨rfl, rfl⟩

set_option maxRecDepth 100000 in
set_option maxHeartbeats 4000000 in
theorem zX4_count4 {G : zG} {l : Launch} {h : Nat → Nat} {m : zM} (n : Nat) (hk : sOk (vR (m 75)) 1 n) : zMet G l yX4_count mX4_count [.ref (G.1 + 74), .int (nI 4)] (zw h m) (fun r w => r = some (.int (sumI ((vR (m 75)) 2) 8)) ∧ w = zw h m) 0 0 := by
  refine zMet_of [(0, .ref (G.1 + 74)), (1, .int (nI 4))] (by decide +kernel) rfl (Or.inl rfl) (Nat.le_of_ble_eq_true rfl) rfl ?_
  refine Z_iload_n 1 1 dX4_count_0 rfl rfl ?_
  refine Z_tabIn 92 (off := 91) dX4_count_1 (by decide) (by decide) (by decide) rfl ?_
  refine Z_aload_n 93 0 dX4_count_92 rfl rfl ?_
  refine Z_callV 96 [] 4 (zX4_allHeights) dX4_count_93 rfl qX4_197 kX4_allHeights rfl rfl (Nat.le_of_ble_eq_true rfl) rfl rfl ⟨(Nat.le_of_ble_eq_true rfl), (Nat.le_of_ble_eq_true rfl)⟩ (Nat.le_of_ble_eq_true rfl) ⟨rfl, rfl⟩ ⟨(Nat.le_of_ble_eq_true rfl), (Nat.le_of_ble_eq_true rfl)⟩ (fun r9 w9 hp9 => ?_)
  obtain ⟨rfl, rfl⟩ := hp9
  exact Z_iret dX4_count_96 rfl ⟨rfl, rfl⟩

set_option maxRecDepth 100000 in
set_option maxHeartbeats 4000000 in
theorem zX4_count5 {G : zG} {l : Launch} {h : Nat → Nat} {m : zM} (n : Nat) (hk : sOk (vR (m 75)) 1 n) : zMet G l yX4_count mX4_count [.ref (G.1 + 74), .int (nI 5)] (zw h m) (fun r w => r = some (.int (nI (cnt (fun j => decide (sNest (vR (m 75)) 1 j)) 8))) ∧ w = zw h m) 0 0 := by
  refine zMet_of [(0, .ref (G.1 + 74)), (1, .int (nI 5))] (by decide +kernel) rfl (Or.inl rfl) (Nat.le_of_ble_eq_true rfl) rfl ?_
  refine Z_iload_n 1 1 dX4_count_0 rfl rfl ?_
  refine Z_tabIn 97 (off := 96) dX4_count_1 (by decide) (by decide) (by decide) rfl ?_
  refine Z_aload_n 98 0 dX4_count_97 rfl rfl ?_
  refine Z_callV 101 [] 4 (zX4_nested) dX4_count_98 rfl qX4_200 kX4_nested rfl rfl (Nat.le_of_ble_eq_true rfl) rfl rfl ⟨(Nat.le_of_ble_eq_true rfl), (Nat.le_of_ble_eq_true rfl)⟩ (Nat.le_of_ble_eq_true rfl) ⟨rfl, rfl⟩ ⟨(Nat.le_of_ble_eq_true rfl), (Nat.le_of_ble_eq_true rfl)⟩ (fun r9 w9 hp9 => ?_)
  obtain ⟨rfl, rfl⟩ := hp9
  exact Z_iret dX4_count_101 rfl ⟨rfl, rfl⟩

set_option maxRecDepth 100000 in
set_option maxHeartbeats 4000000 in
theorem zX4_count6 {G : zG} {l : Launch} {h : Nat → Nat} {m : zM} (n : Nat) (hk : sOk (vR (m 75)) 1 n) : zMet G l yX4_count mX4_count [.ref (G.1 + 74), .int (nI 6)] (zw h m) (fun r w => r = some (.int (m 75 1)) ∧ w = zw h m) 0 0 := by
  refine zMet_of [(0, .ref (G.1 + 74)), (1, .int (nI 6))] (by decide +kernel) rfl (Or.inl rfl) (Nat.le_of_ble_eq_true rfl) rfl ?_
  refine Z_iload_n 1 1 dX4_count_0 rfl rfl ?_
  refine Z_tabIn 102 (off := 101) dX4_count_1 (by decide) (by decide) (by decide) rfl ?_
  refine Z_aload_n 103 0 dX4_count_102 rfl rfl ?_
  refine Z_getR 106 dX4_count_103 rfl fX4_7 (Nat.le_of_ble_eq_true rfl) rfl rfl ?_
  refine Z_iconst 107 (nI 1) dX4_count_106 rfl rfl ?_
  refine Z_ialn 108 dX4_count_107 rfl (Nat.le_of_ble_eq_true rfl) rfl (by first | assumption | omega) (by decide) ?_
  exact Z_iret dX4_count_108 rfl ⟨rfl, rfl⟩

set_option maxRecDepth 100000 in
set_option maxHeartbeats 4000000 in
theorem zX4_count7 {G : zG} {l : Launch} {h : Nat → Nat} {m : zM} (n : Nat) (hk : sOk (vR (m 75)) 1 n) : zMet G l yX4_count mX4_count [.ref (G.1 + 74), .int (nI 7)] (zw h m) (fun r w => r = some (.int (m 75 3)) ∧ w = zw h m) 0 0 := by
  refine zMet_of [(0, .ref (G.1 + 74)), (1, .int (nI 7))] (by decide +kernel) rfl (Or.inl rfl) (Nat.le_of_ble_eq_true rfl) rfl ?_
  refine Z_iload_n 1 1 dX4_count_0 rfl rfl ?_
  refine Z_tabIn 109 (off := 108) dX4_count_1 (by decide) (by decide) (by decide) rfl ?_
  refine Z_aload_n 110 0 dX4_count_109 rfl rfl ?_
  refine Z_getR 113 dX4_count_110 rfl fX4_7 (Nat.le_of_ble_eq_true rfl) rfl rfl ?_
  refine Z_iconst 114 (nI 3) dX4_count_113 rfl rfl ?_
  refine Z_iload_n 115 1 dX4_count_114 rfl rfl ?_
  refine Z_iadd 116 dX4_count_115 rfl ?_
  refine Z_bipush 118 (nI 7) dX4_count_116 rfl rfl ?_
  refine Z_isub 119 dX4_count_118 rfl ?_
  refine Z_top (v' := .int (nI 3)) (congrArg Value.int (by decide)) ?_
  refine Z_ialn 120 dX4_count_119 rfl (Nat.le_of_ble_eq_true rfl) rfl (by first | assumption | omega) (by decide) ?_
  exact Z_iret dX4_count_120 rfl ⟨rfl, rfl⟩

set_option maxRecDepth 100000 in
set_option maxHeartbeats 4000000 in
theorem zX4_count8 {G : zG} {l : Launch} {h : Nat → Nat} {m : zM} (n : Nat) (hk : sOk (vR (m 75)) 1 n) : zMet G l yX4_count mX4_count [.ref (G.1 + 74), .int (nI 8)] (zw h m) (fun r w => r = some (.int (m 75 4)) ∧ w = zw h m) 0 0 := by
  refine zMet_of [(0, .ref (G.1 + 74)), (1, .int (nI 8))] (by decide +kernel) rfl (Or.inl rfl) (Nat.le_of_ble_eq_true rfl) rfl ?_
  refine Z_iload_n 1 1 dX4_count_0 rfl rfl ?_
  refine Z_tabIn 109 (off := 108) dX4_count_1 (by decide) (by decide) (by decide) rfl ?_
  refine Z_aload_n 110 0 dX4_count_109 rfl rfl ?_
  refine Z_getR 113 dX4_count_110 rfl fX4_7 (Nat.le_of_ble_eq_true rfl) rfl rfl ?_
  refine Z_iconst 114 (nI 3) dX4_count_113 rfl rfl ?_
  refine Z_iload_n 115 1 dX4_count_114 rfl rfl ?_
  refine Z_iadd 116 dX4_count_115 rfl ?_
  refine Z_bipush 118 (nI 7) dX4_count_116 rfl rfl ?_
  refine Z_isub 119 dX4_count_118 rfl ?_
  refine Z_top (v' := .int (nI 4)) (congrArg Value.int (by decide)) ?_
  refine Z_ialn 120 dX4_count_119 rfl (Nat.le_of_ble_eq_true rfl) rfl (by first | assumption | omega) (by decide) ?_
  exact Z_iret dX4_count_120 rfl ⟨rfl, rfl⟩

set_option maxRecDepth 100000 in
set_option maxHeartbeats 4000000 in
theorem zX4_count9 {G : zG} {l : Launch} {h : Nat → Nat} {m : zM} (n : Nat) (hk : sOk (vR (m 75)) 1 n) : zMet G l yX4_count mX4_count [.ref (G.1 + 74), .int (nI 9)] (zw h m) (fun r w => r = some (.int (m 75 5)) ∧ w = zw h m) 0 0 := by
  refine zMet_of [(0, .ref (G.1 + 74)), (1, .int (nI 9))] (by decide +kernel) rfl (Or.inl rfl) (Nat.le_of_ble_eq_true rfl) rfl ?_
  refine Z_iload_n 1 1 dX4_count_0 rfl rfl ?_
  refine Z_tabIn 109 (off := 108) dX4_count_1 (by decide) (by decide) (by decide) rfl ?_
  refine Z_aload_n 110 0 dX4_count_109 rfl rfl ?_
  refine Z_getR 113 dX4_count_110 rfl fX4_7 (Nat.le_of_ble_eq_true rfl) rfl rfl ?_
  refine Z_iconst 114 (nI 3) dX4_count_113 rfl rfl ?_
  refine Z_iload_n 115 1 dX4_count_114 rfl rfl ?_
  refine Z_iadd 116 dX4_count_115 rfl ?_
  refine Z_bipush 118 (nI 7) dX4_count_116 rfl rfl ?_
  refine Z_isub 119 dX4_count_118 rfl ?_
  refine Z_top (v' := .int (nI 5)) (congrArg Value.int (by decide)) ?_
  refine Z_ialn 120 dX4_count_119 rfl (Nat.le_of_ble_eq_true rfl) rfl (by first | assumption | omega) (by decide) ?_
  exact Z_iret dX4_count_120 rfl ⟨rfl, rfl⟩

set_option maxRecDepth 100000 in
set_option maxHeartbeats 4000000 in
theorem zX4_count10 {G : zG} {l : Launch} {h : Nat → Nat} {m : zM} (n : Nat) (hk : sOk (vR (m 75)) 1 n) : zMet G l yX4_count mX4_count [.ref (G.1 + 74), .int (nI 10)] (zw h m) (fun r w => r = some (.int (m 75 6)) ∧ w = zw h m) 0 0 := by
  refine zMet_of [(0, .ref (G.1 + 74)), (1, .int (nI 10))] (by decide +kernel) rfl (Or.inl rfl) (Nat.le_of_ble_eq_true rfl) rfl ?_
  refine Z_iload_n 1 1 dX4_count_0 rfl rfl ?_
  refine Z_tabIn 109 (off := 108) dX4_count_1 (by decide) (by decide) (by decide) rfl ?_
  refine Z_aload_n 110 0 dX4_count_109 rfl rfl ?_
  refine Z_getR 113 dX4_count_110 rfl fX4_7 (Nat.le_of_ble_eq_true rfl) rfl rfl ?_
  refine Z_iconst 114 (nI 3) dX4_count_113 rfl rfl ?_
  refine Z_iload_n 115 1 dX4_count_114 rfl rfl ?_
  refine Z_iadd 116 dX4_count_115 rfl ?_
  refine Z_bipush 118 (nI 7) dX4_count_116 rfl rfl ?_
  refine Z_isub 119 dX4_count_118 rfl ?_
  refine Z_top (v' := .int (nI 6)) (congrArg Value.int (by decide)) ?_
  refine Z_ialn 120 dX4_count_119 rfl (Nat.le_of_ble_eq_true rfl) rfl (by first | assumption | omega) (by decide) ?_
  exact Z_iret dX4_count_120 rfl ⟨rfl, rfl⟩

set_option maxRecDepth 100000 in
set_option maxHeartbeats 4000000 in
theorem zX4_count11 {G : zG} {l : Launch} {h : Nat → Nat} {m : zM} (n : Nat) (hk : sOk (vR (m 75)) 1 n) : zMet G l yX4_count mX4_count [.ref (G.1 + 74), .int (nI 11)] (zw h m) (fun r w => r = some (.int (m 74 7)) ∧ w = zw h m) 0 0 := by
  refine zMet_of [(0, .ref (G.1 + 74)), (1, .int (nI 11))] (by decide +kernel) rfl (Or.inl rfl) (Nat.le_of_ble_eq_true rfl) rfl ?_
  refine Z_iload_n 1 1 dX4_count_0 rfl rfl ?_
  refine Z_tabIn 121 (off := 120) dX4_count_1 (by decide) (by decide) (by decide) rfl ?_
  refine Z_aload_n 122 0 dX4_count_121 rfl rfl ?_
  refine Z_getI 125 dX4_count_122 rfl fX4_135 (Nat.le_of_ble_eq_true rfl) rfl rfl ?_
  exact Z_iret dX4_count_125 rfl ⟨rfl, rfl⟩

set_option maxRecDepth 100000 in
set_option maxHeartbeats 4000000 in
theorem zX4_count12 {G : zG} {l : Launch} {h : Nat → Nat} {m : zM} (n : Nat) (hk : sOk (vR (m 75)) 1 n) : zMet G l yX4_count mX4_count [.ref (G.1 + 74), .int (nI 12)] (zw h m) (fun r w => r = some (.int (m 74 3)) ∧ w = zw h m) 0 0 := by
  refine zMet_of [(0, .ref (G.1 + 74)), (1, .int (nI 12))] (by decide +kernel) rfl (Or.inl rfl) (Nat.le_of_ble_eq_true rfl) rfl ?_
  refine Z_iload_n 1 1 dX4_count_0 rfl rfl ?_
  refine Z_tabIn 126 (off := 125) dX4_count_1 (by decide) (by decide) (by decide) rfl ?_
  refine Z_aload_n 127 0 dX4_count_126 rfl rfl ?_
  refine Z_getI 130 dX4_count_127 rfl fX4_38 (Nat.le_of_ble_eq_true rfl) rfl rfl ?_
  exact Z_iret dX4_count_130 rfl ⟨rfl, rfl⟩

set_option maxRecDepth 100000 in
set_option maxHeartbeats 4000000 in
theorem eX4_count {G : zG} {l : Launch} {h : Nat → Nat} {m : zM} (x : Int32) (hne : x.toInt < 0 ∨ 12 < x.toInt) : zMet G l yX4_count mX4_count [.ref (G.1 + 74), .int x] (zw h m) (fun r w => r = some (.int (-1)) ∧ w = zw h m) 0 0 := by
  refine zMet_of [(0, .ref (G.1 + 74)), (1, .int x)] (by decide +kernel) rfl (Or.inl rfl) (Nat.le_of_ble_eq_true rfl) rfl ?_
  refine Z_iload_n 1 1 dX4_count_0 rfl rfl ?_
  refine Z_tabOut 131 dX4_count_1 hne rfl ?_
  refine Z_iconst 132 (-1) dX4_count_131 rfl rfl ?_
  exact Z_iret dX4_count_132 rfl ⟨rfl, rfl⟩

set_option maxRecDepth 100000 in
set_option maxHeartbeats 4000000 in
theorem zX4_hedge0 {G : zG} {l : Launch} {h : Nat → Nat} {m : zM} (n : Nat) (hk : sOk (vR (m 75)) 1 n) (i : Nat) (hi : i < 8) : zMet G l yX4_hedge mX4_hedge [.ref (G.1 + 74), .int (nI i), .int (nI 0)] (zw h m) (fun r w => r = some (.int ((vR (m 75)) 2 i)) ∧ w = zw h m) 0 0 := by
  refine zMet_of [(0, .ref (G.1 + 74)), (1, .int (nI i)), (2, .int (nI 0))] (by decide +kernel) rfl (Or.inl rfl) (Nat.le_of_ble_eq_true rfl) rfl ?_
  refine Z_iload_n 1 1 dX4_hedge_0 rfl rfl ?_
  refine Z_callS 4 [_] (zX4_isHedge _) dX4_hedge_1 rfl qX4_87 kX4_isHedge rfl rfl ⟨(Nat.le_of_ble_eq_true rfl), (Nat.le_of_ble_eq_true rfl)⟩ (Nat.le_of_ble_eq_true rfl) ⟨rfl, rfl⟩ ⟨(Nat.le_of_ble_eq_true rfl), (Nat.le_of_ble_eq_true rfl)⟩ (fun r9 w9 hp9 => ?_)
  obtain ⟨rfl, rfl⟩ := hp9
  refine Z_if_ne 7 9 dX4_hedge_4 rfl rfl (fun c4 => ?_) (fun c4 => absurd (bI_ne (hdgN hi)) c4)
  refine Z_iload_n 10 2 dX4_hedge_9 rfl rfl ?_
  refine Z_tabIn 56 (off := 46) dX4_hedge_10 (by decide) (by decide) (by decide) rfl ?_
  refine Z_aload_n 57 0 dX4_hedge_56 rfl rfl ?_
  refine Z_iload_n 58 1 dX4_hedge_57 rfl rfl ?_
  refine Z_iload_n 59 2 dX4_hedge_58 rfl rfl ?_
  refine Z_callV 62 [_, _] 4 (zX4_of i 0 hi (by decide)) dX4_hedge_59 rfl qX4_50 kX4_of rfl rfl (Nat.le_of_ble_eq_true rfl) rfl rfl ⟨(Nat.le_of_ble_eq_true rfl), (Nat.le_of_ble_eq_true rfl)⟩ (Nat.le_of_ble_eq_true rfl) ⟨rfl, rfl⟩ ⟨(Nat.le_of_ble_eq_true rfl), (Nat.le_of_ble_eq_true rfl)⟩ (fun r9 w9 hp9 => ?_)
  obtain ⟨rfl, rfl⟩ := hp9
  exact Z_iret dX4_hedge_62 rfl ⟨rfl, rfl⟩

set_option maxRecDepth 100000 in
set_option maxHeartbeats 4000000 in
theorem zX4_hedge1 {G : zG} {l : Launch} {h : Nat → Nat} {m : zM} (n : Nat) (hk : sOk (vR (m 75)) 1 n) (i : Nat) (hi : i < 8) : zMet G l yX4_hedge mX4_hedge [.ref (G.1 + 74), .int (nI i), .int (nI 1)] (zw h m) (fun r w => r = some (.int ((vR (m 75)) 3 i)) ∧ w = zw h m) 0 0 := by
  refine zMet_of [(0, .ref (G.1 + 74)), (1, .int (nI i)), (2, .int (nI 1))] (by decide +kernel) rfl (Or.inl rfl) (Nat.le_of_ble_eq_true rfl) rfl ?_
  refine Z_iload_n 1 1 dX4_hedge_0 rfl rfl ?_
  refine Z_callS 4 [_] (zX4_isHedge _) dX4_hedge_1 rfl qX4_87 kX4_isHedge rfl rfl ⟨(Nat.le_of_ble_eq_true rfl), (Nat.le_of_ble_eq_true rfl)⟩ (Nat.le_of_ble_eq_true rfl) ⟨rfl, rfl⟩ ⟨(Nat.le_of_ble_eq_true rfl), (Nat.le_of_ble_eq_true rfl)⟩ (fun r9 w9 hp9 => ?_)
  obtain ⟨rfl, rfl⟩ := hp9
  refine Z_if_ne 7 9 dX4_hedge_4 rfl rfl (fun c4 => ?_) (fun c4 => absurd (bI_ne (hdgN hi)) c4)
  refine Z_iload_n 10 2 dX4_hedge_9 rfl rfl ?_
  refine Z_tabIn 56 (off := 46) dX4_hedge_10 (by decide) (by decide) (by decide) rfl ?_
  refine Z_aload_n 57 0 dX4_hedge_56 rfl rfl ?_
  refine Z_iload_n 58 1 dX4_hedge_57 rfl rfl ?_
  refine Z_iload_n 59 2 dX4_hedge_58 rfl rfl ?_
  refine Z_callV 62 [_, _] 4 (zX4_of i 1 hi (by decide)) dX4_hedge_59 rfl qX4_50 kX4_of rfl rfl (Nat.le_of_ble_eq_true rfl) rfl rfl ⟨(Nat.le_of_ble_eq_true rfl), (Nat.le_of_ble_eq_true rfl)⟩ (Nat.le_of_ble_eq_true rfl) ⟨rfl, rfl⟩ ⟨(Nat.le_of_ble_eq_true rfl), (Nat.le_of_ble_eq_true rfl)⟩ (fun r9 w9 hp9 => ?_)
  obtain ⟨rfl, rfl⟩ := hp9
  exact Z_iret dX4_hedge_62 rfl ⟨rfl, rfl⟩

set_option maxRecDepth 100000 in
set_option maxHeartbeats 4000000 in
theorem zX4_hedge2 {G : zG} {l : Launch} {h : Nat → Nat} {m : zM} (n : Nat) (hk : sOk (vR (m 75)) 1 n) (i : Nat) (hi : i < 8) : zMet G l yX4_hedge mX4_hedge [.ref (G.1 + 74), .int (nI i), .int (nI 2)] (zw h m) (fun r w => r = some (.int (bI (sNest (vR (m 75)) 1 i))) ∧ w = zw h m) 0 0 := by
  refine zMet_of [(0, .ref (G.1 + 74)), (1, .int (nI i)), (2, .int (nI 2))] (by decide +kernel) rfl (Or.inl rfl) (Nat.le_of_ble_eq_true rfl) rfl ?_
  refine Z_iload_n 1 1 dX4_hedge_0 rfl rfl ?_
  refine Z_callS 4 [_] (zX4_isHedge _) dX4_hedge_1 rfl qX4_87 kX4_isHedge rfl rfl ⟨(Nat.le_of_ble_eq_true rfl), (Nat.le_of_ble_eq_true rfl)⟩ (Nat.le_of_ble_eq_true rfl) ⟨rfl, rfl⟩ ⟨(Nat.le_of_ble_eq_true rfl), (Nat.le_of_ble_eq_true rfl)⟩ (fun r9 w9 hp9 => ?_)
  obtain ⟨rfl, rfl⟩ := hp9
  refine Z_if_ne 7 9 dX4_hedge_4 rfl rfl (fun c4 => ?_) (fun c4 => absurd (bI_ne (hdgN hi)) c4)
  refine Z_iload_n 10 2 dX4_hedge_9 rfl rfl ?_
  refine Z_tabIn 63 (off := 53) dX4_hedge_10 (by decide) (by decide) (by decide) rfl ?_
  refine Z_aload_n 64 0 dX4_hedge_63 rfl rfl ?_
  refine Z_iload_n 65 1 dX4_hedge_64 rfl rfl ?_
  refine Z_callV 68 [_] 4 (zX4_isNested i hi) dX4_hedge_65 rfl qX4_106 kX4_isNested rfl rfl (Nat.le_of_ble_eq_true rfl) rfl rfl ⟨(Nat.le_of_ble_eq_true rfl), (Nat.le_of_ble_eq_true rfl)⟩ (Nat.le_of_ble_eq_true rfl) ⟨rfl, rfl⟩ ⟨(Nat.le_of_ble_eq_true rfl), (Nat.le_of_ble_eq_true rfl)⟩ (fun r9 w9 hp9 => ?_)
  obtain ⟨rfl, rfl⟩ := hp9
  refine Z_if_eq 71 75 dX4_hedge_68 rfl rfl (fun c68 => ?_) (fun c68 => ?_)
  · skip
    refine Z_iconst 76 (nI 0) dX4_hedge_75 rfl rfl ?_
    exact Z_iret dX4_hedge_76 rfl (by first | exact ⟨bRt (bI_1 c68), rfl⟩ | exact ⟨bRf (bI_0 c68), rfl⟩)
  · skip
    refine Z_iconst 72 (nI 1) dX4_hedge_71 rfl rfl ?_
    refine Z_goto 76 dX4_hedge_72 rfl ?_
    exact Z_iret dX4_hedge_76 rfl (by first | exact ⟨bRt (bI_1 c68), rfl⟩ | exact ⟨bRf (bI_0 c68), rfl⟩)

set_option maxRecDepth 100000 in
set_option maxHeartbeats 4000000 in
theorem zX4_hedge3 {G : zG} {l : Launch} {h : Nat → Nat} {m : zM} (n : Nat) (hk : sOk (vR (m 75)) 1 n) (i : Nat) (hi : i < 8) : zMet G l yX4_hedge mX4_hedge [.ref (G.1 + 74), .int (nI i), .int (nI 3)] (zw h m) (fun r w => r = some (.int ((vR (m 75)) 4 i)) ∧ w = zw h m) 0 0 := by
  refine zMet_of [(0, .ref (G.1 + 74)), (1, .int (nI i)), (2, .int (nI 3))] (by decide +kernel) rfl (Or.inl rfl) (Nat.le_of_ble_eq_true rfl) rfl ?_
  refine Z_iload_n 1 1 dX4_hedge_0 rfl rfl ?_
  refine Z_callS 4 [_] (zX4_isHedge _) dX4_hedge_1 rfl qX4_87 kX4_isHedge rfl rfl ⟨(Nat.le_of_ble_eq_true rfl), (Nat.le_of_ble_eq_true rfl)⟩ (Nat.le_of_ble_eq_true rfl) ⟨rfl, rfl⟩ ⟨(Nat.le_of_ble_eq_true rfl), (Nat.le_of_ble_eq_true rfl)⟩ (fun r9 w9 hp9 => ?_)
  obtain ⟨rfl, rfl⟩ := hp9
  refine Z_if_ne 7 9 dX4_hedge_4 rfl rfl (fun c4 => ?_) (fun c4 => absurd (bI_ne (hdgN hi)) c4)
  refine Z_iload_n 10 2 dX4_hedge_9 rfl rfl ?_
  refine Z_tabIn 77 (off := 67) dX4_hedge_10 (by decide) (by decide) (by decide) rfl ?_
  refine Z_aload_n 78 0 dX4_hedge_77 rfl rfl ?_
  refine Z_iload_n 79 1 dX4_hedge_78 rfl rfl ?_
  refine Z_iconst 80 (nI 2) dX4_hedge_79 rfl rfl ?_
  refine Z_callV 83 [_, _] 4 (zX4_of i 2 hi (by decide)) dX4_hedge_80 rfl qX4_50 kX4_of rfl rfl (Nat.le_of_ble_eq_true rfl) rfl rfl ⟨(Nat.le_of_ble_eq_true rfl), (Nat.le_of_ble_eq_true rfl)⟩ (Nat.le_of_ble_eq_true rfl) ⟨rfl, rfl⟩ ⟨(Nat.le_of_ble_eq_true rfl), (Nat.le_of_ble_eq_true rfl)⟩ (fun r9 w9 hp9 => ?_)
  obtain ⟨rfl, rfl⟩ := hp9
  exact Z_iret dX4_hedge_83 rfl ⟨rfl, rfl⟩

set_option maxRecDepth 100000 in
set_option maxHeartbeats 4000000 in
theorem zX4_hedge5 {G : zG} {l : Launch} {h : Nat → Nat} {m : zM} (n : Nat) (hk : sOk (vR (m 75)) 1 n) (i : Nat) (hi : i < 8) : zMet G l yX4_hedge mX4_hedge [.ref (G.1 + 74), .int (nI i), .int (nI 5)] (zw h m) (fun r w => r = some (.int (nI (cnt (fun j => decide (((vR (m 75)) (1 + 5) j = nI i ∨ (vR (m 75)) (1 + 6) j = nI i) ∧ bkV (vR (m 75)) j)) n))) ∧ w = zw h m) 0 0 := by
  refine zMet_of [(0, .ref (G.1 + 74)), (1, .int (nI i)), (2, .int (nI 5))] (by decide +kernel) rfl (Or.inl rfl) (Nat.le_of_ble_eq_true rfl) rfl ?_
  refine Z_iload_n 1 1 dX4_hedge_0 rfl rfl ?_
  refine Z_callS 4 [_] (zX4_isHedge _) dX4_hedge_1 rfl qX4_87 kX4_isHedge rfl rfl ⟨(Nat.le_of_ble_eq_true rfl), (Nat.le_of_ble_eq_true rfl)⟩ (Nat.le_of_ble_eq_true rfl) ⟨rfl, rfl⟩ ⟨(Nat.le_of_ble_eq_true rfl), (Nat.le_of_ble_eq_true rfl)⟩ (fun r9 w9 hp9 => ?_)
  obtain ⟨rfl, rfl⟩ := hp9
  refine Z_if_ne 7 9 dX4_hedge_4 rfl rfl (fun c4 => ?_) (fun c4 => absurd (bI_ne (hdgN hi)) c4)
  refine Z_iload_n 10 2 dX4_hedge_9 rfl rfl ?_
  refine Z_tabIn 103 (off := 93) dX4_hedge_10 (by decide) (by decide) (by decide) rfl ?_
  refine Z_aload_n 104 0 dX4_hedge_103 rfl rfl ?_
  refine Z_iload_n 105 1 dX4_hedge_104 rfl rfl ?_
  refine Z_callV 108 [_] 4 (zX4_brokenAbout n hk _) dX4_hedge_105 rfl qX4_179 kX4_brokenAbout rfl rfl (Nat.le_of_ble_eq_true rfl) rfl rfl ⟨(Nat.le_of_ble_eq_true rfl), (Nat.le_of_ble_eq_true rfl)⟩ (Nat.le_of_ble_eq_true rfl) ⟨rfl, rfl⟩ ⟨(Nat.le_of_ble_eq_true rfl), (Nat.le_of_ble_eq_true rfl)⟩ (fun r9 w9 hp9 => ?_)
  obtain ⟨rfl, rfl⟩ := hp9
  exact Z_iret dX4_hedge_108 rfl ⟨rfl, rfl⟩

set_option maxRecDepth 100000 in
set_option maxHeartbeats 4000000 in
theorem zX4_hedge6 {G : zG} {l : Launch} {h : Nat → Nat} {m : zM} (n : Nat) (hk : sOk (vR (m 75)) 1 n) (i : Nat) (hi : i < 8) : zMet G l yX4_hedge mX4_hedge [.ref (G.1 + 74), .int (nI i), .int (nI 6)] (zw h m) (fun r w => r = some (.int (nI (cnt (fun j => decide (((vR (m 75)) (1 + 5) j = nI i ∨ (vR (m 75)) (1 + 6) j = nI i) ∧ sForce (vR (m 75)) 1 j)) n))) ∧ w = zw h m) 0 0 := by
  refine zMet_of [(0, .ref (G.1 + 74)), (1, .int (nI i)), (2, .int (nI 6))] (by decide +kernel) rfl (Or.inl rfl) (Nat.le_of_ble_eq_true rfl) rfl ?_
  refine Z_iload_n 1 1 dX4_hedge_0 rfl rfl ?_
  refine Z_callS 4 [_] (zX4_isHedge _) dX4_hedge_1 rfl qX4_87 kX4_isHedge rfl rfl ⟨(Nat.le_of_ble_eq_true rfl), (Nat.le_of_ble_eq_true rfl)⟩ (Nat.le_of_ble_eq_true rfl) ⟨rfl, rfl⟩ ⟨(Nat.le_of_ble_eq_true rfl), (Nat.le_of_ble_eq_true rfl)⟩ (fun r9 w9 hp9 => ?_)
  obtain ⟨rfl, rfl⟩ := hp9
  refine Z_if_ne 7 9 dX4_hedge_4 rfl rfl (fun c4 => ?_) (fun c4 => absurd (bI_ne (hdgN hi)) c4)
  refine Z_iload_n 10 2 dX4_hedge_9 rfl rfl ?_
  refine Z_tabIn 109 (off := 99) dX4_hedge_10 (by decide) (by decide) (by decide) rfl ?_
  refine Z_aload_n 110 0 dX4_hedge_109 rfl rfl ?_
  refine Z_iload_n 111 1 dX4_hedge_110 rfl rfl ?_
  refine Z_callV 114 [_] 4 (zX4_forceAbout n hk _) dX4_hedge_111 rfl qX4_182 kX4_forceAbout rfl rfl (Nat.le_of_ble_eq_true rfl) rfl rfl ⟨(Nat.le_of_ble_eq_true rfl), (Nat.le_of_ble_eq_true rfl)⟩ (Nat.le_of_ble_eq_true rfl) ⟨rfl, rfl⟩ ⟨(Nat.le_of_ble_eq_true rfl), (Nat.le_of_ble_eq_true rfl)⟩ (fun r9 w9 hp9 => ?_)
  obtain ⟨rfl, rfl⟩ := hp9
  exact Z_iret dX4_hedge_114 rfl ⟨rfl, rfl⟩

set_option maxRecDepth 100000 in
set_option maxHeartbeats 4000000 in
theorem zX4_hedge7 {G : zG} {l : Launch} {h : Nat → Nat} {m : zM} (n : Nat) (hk : sOk (vR (m 75)) 1 n) (i : Nat) (hi : i < 8) : zMet G l yX4_hedge mX4_hedge [.ref (G.1 + 74), .int (nI i), .int (nI 7)] (zw h m) (fun r w => r = some (.int ((vR (m 75)) 5 i)) ∧ w = zw h m) 0 0 := by
  refine zMet_of [(0, .ref (G.1 + 74)), (1, .int (nI i)), (2, .int (nI 7))] (by decide +kernel) rfl (Or.inl rfl) (Nat.le_of_ble_eq_true rfl) rfl ?_
  refine Z_iload_n 1 1 dX4_hedge_0 rfl rfl ?_
  refine Z_callS 4 [_] (zX4_isHedge _) dX4_hedge_1 rfl qX4_87 kX4_isHedge rfl rfl ⟨(Nat.le_of_ble_eq_true rfl), (Nat.le_of_ble_eq_true rfl)⟩ (Nat.le_of_ble_eq_true rfl) ⟨rfl, rfl⟩ ⟨(Nat.le_of_ble_eq_true rfl), (Nat.le_of_ble_eq_true rfl)⟩ (fun r9 w9 hp9 => ?_)
  obtain ⟨rfl, rfl⟩ := hp9
  refine Z_if_ne 7 9 dX4_hedge_4 rfl rfl (fun c4 => ?_) (fun c4 => absurd (bI_ne (hdgN hi)) c4)
  refine Z_iload_n 10 2 dX4_hedge_9 rfl rfl ?_
  refine Z_tabIn 115 (off := 105) dX4_hedge_10 (by decide) (by decide) (by decide) rfl ?_
  refine Z_aload_n 116 0 dX4_hedge_115 rfl rfl ?_
  refine Z_iload_n 117 1 dX4_hedge_116 rfl rfl ?_
  refine Z_iconst 118 (nI 3) dX4_hedge_117 rfl rfl ?_
  refine Z_callV 121 [_, _] 4 (zX4_of i 3 hi (by decide)) dX4_hedge_118 rfl qX4_50 kX4_of rfl rfl (Nat.le_of_ble_eq_true rfl) rfl rfl ⟨(Nat.le_of_ble_eq_true rfl), (Nat.le_of_ble_eq_true rfl)⟩ (Nat.le_of_ble_eq_true rfl) ⟨rfl, rfl⟩ ⟨(Nat.le_of_ble_eq_true rfl), (Nat.le_of_ble_eq_true rfl)⟩ (fun r9 w9 hp9 => ?_)
  obtain ⟨rfl, rfl⟩ := hp9
  exact Z_iret dX4_hedge_121 rfl ⟨rfl, rfl⟩

set_option maxRecDepth 100000 in
set_option maxHeartbeats 4000000 in
theorem eX4_hedgeA {G : zG} {l : Launch} {h : Nat → Nat} {m : zM} (x y : Int32) (hx : ¬ hdg x) : zMet G l yX4_hedge mX4_hedge [.ref (G.1 + 74), .int x, .int y] (zw h m) (fun r w => r = some (.int (-1)) ∧ w = zw h m) 0 0 := by
  refine zMet_of [(0, .ref (G.1 + 74)), (1, .int x), (2, .int y)] (by decide +kernel) rfl (Or.inl rfl) (Nat.le_of_ble_eq_true rfl) rfl ?_
  refine Z_iload_n 1 1 dX4_hedge_0 rfl rfl ?_
  refine Z_callS 4 [_] (zX4_isHedge _) dX4_hedge_1 rfl qX4_87 kX4_isHedge rfl rfl ⟨(Nat.le_of_ble_eq_true rfl), (Nat.le_of_ble_eq_true rfl)⟩ (Nat.le_of_ble_eq_true rfl) ⟨rfl, rfl⟩ ⟨(Nat.le_of_ble_eq_true rfl), (Nat.le_of_ble_eq_true rfl)⟩ (fun r9 w9 hp9 => ?_)
  obtain ⟨rfl, rfl⟩ := hp9
  refine Z_if_ne 7 9 dX4_hedge_4 rfl rfl (fun c4 => absurd c4 (fun q => hx (bI_1 q))) (fun c4 => ?_)
  refine Z_iconst 8 (-1) dX4_hedge_7 rfl rfl ?_
  exact Z_iret dX4_hedge_8 rfl ⟨rfl, rfl⟩

set_option maxRecDepth 100000 in
set_option maxHeartbeats 4000000 in
theorem eX4_hedgeB {G : zG} {l : Launch} {h : Nat → Nat} {m : zM} (i : Nat) (hi : i < 8) (y : Int32) (hne : y.toInt < 0 ∨ 7 < y.toInt) : zMet G l yX4_hedge mX4_hedge [.ref (G.1 + 74), .int (nI i), .int y] (zw h m) (fun r w => r = some (.int (-1)) ∧ w = zw h m) 0 0 := by
  refine zMet_of [(0, .ref (G.1 + 74)), (1, .int (nI i)), (2, .int y)] (by decide +kernel) rfl (Or.inl rfl) (Nat.le_of_ble_eq_true rfl) rfl ?_
  refine Z_iload_n 1 1 dX4_hedge_0 rfl rfl ?_
  refine Z_callS 4 [_] (zX4_isHedge _) dX4_hedge_1 rfl qX4_87 kX4_isHedge rfl rfl ⟨(Nat.le_of_ble_eq_true rfl), (Nat.le_of_ble_eq_true rfl)⟩ (Nat.le_of_ble_eq_true rfl) ⟨rfl, rfl⟩ ⟨(Nat.le_of_ble_eq_true rfl), (Nat.le_of_ble_eq_true rfl)⟩ (fun r9 w9 hp9 => ?_)
  obtain ⟨rfl, rfl⟩ := hp9
  refine Z_if_ne 7 9 dX4_hedge_4 rfl rfl (fun c4 => ?_) (fun c4 => absurd (bI_ne (hdgN hi)) c4)
  refine Z_iload_n 10 2 dX4_hedge_9 rfl rfl ?_
  refine Z_tabOut 122 dX4_hedge_10 hne rfl ?_
  refine Z_iconst 123 (-1) dX4_hedge_122 rfl rfl ?_
  exact Z_iret dX4_hedge_123 rfl ⟨rfl, rfl⟩

set_option maxRecDepth 100000 in
set_option maxHeartbeats 4000000 in
theorem zX4_hedge4 {G : zG} {l : Launch} {h : Nat → Nat} {m : zM} (n : Nat) (g9 : gOk (vR (m 75)) n) (i : Nat) (hi : i < 8) : zMet G l yX4_hedge mX4_hedge [.ref (G.1 + 74), .int (nI i), .int (nI 4)] (zw h m) (fun r w => ∃ m', w = zw h m' ∧ Fm m m' ∧ ((∃ y, Top (HgtY ((vR (m 75)) 2)) (eL (vR (m 75)) (pFo (vR (m 75)))) n y ∧ (∀ q, q < 8 → 0 ≤ y q) ∧ r = some (.int (Int32.ofInt (y i)))) ∨ ((∀ y9, Top (HgtY ((vR (m 75)) 2)) (eL (vR (m 75)) (pFo (vR (m 75)))) n y9 → ∃ q, q < 8 ∧ y9 q < 0) ∧ r = some (.int (-4))))) 0 0 := by
  refine zMet_of [(0, .ref (G.1 + 74)), (1, .int (nI i)), (2, .int (nI 4))] (by decide +kernel) rfl (Or.inl rfl) (Nat.le_of_ble_eq_true rfl) rfl ?_
  refine Z_iload_n 1 1 dX4_hedge_0 rfl rfl ?_
  refine Z_callS 4 [_] (zX4_isHedge _) dX4_hedge_1 rfl qX4_87 kX4_isHedge rfl rfl ⟨(Nat.le_of_ble_eq_true rfl), (Nat.le_of_ble_eq_true rfl)⟩ (Nat.le_of_ble_eq_true rfl) ⟨rfl, rfl⟩ ⟨(Nat.le_of_ble_eq_true rfl), (Nat.le_of_ble_eq_true rfl)⟩ (fun r9 w9 hp9 => ?_)
  obtain ⟨rfl, rfl⟩ := hp9
  refine Z_if_ne 7 9 dX4_hedge_4 rfl rfl (fun c4 => ?_) (fun c4 => absurd (bI_ne (hdgN hi)) c4)
  refine Z_iload_n 10 2 dX4_hedge_9 rfl rfl ?_
  refine Z_tabIn 84 (off := 74) dX4_hedge_10 (by decide) (by decide) (by decide) rfl ?_
  refine Z_aload_n 85 0 dX4_hedge_84 rfl rfl ?_
  refine Z_callV 88 [] 4 (zX4_hasLeast n g9) dX4_hedge_85 rfl qX4_103 kX4_hasLeast rfl rfl (Nat.le_of_ble_eq_true rfl) rfl rfl ⟨(Nat.le_of_ble_eq_true rfl), (Nat.le_of_ble_eq_true rfl)⟩ (Nat.le_of_ble_eq_true rfl) ⟨rfl, rfl⟩ ⟨(Nat.le_of_ble_eq_true rfl), (Nat.le_of_ble_eq_true rfl)⟩ (fun r9 w9 hp9 => ?_)
  obtain ⟨m2, y, rfl, hF2, hL2, hr9⟩ := hp9
  rcases hr9 with ⟨hr8, hpos, hT⟩ | ⟨hr8, hneg⟩
  · cases hr8
    refine Z_if_eq 91 100 dX4_hedge_88 rfl rfl (fun c88 => absurd c88 (by decide)) (fun c88 => ?_)
    refine Z_aload_n 92 0 dX4_hedge_91 rfl rfl ?_
    refine Z_getR 95 dX4_hedge_92 rfl fX4_25 (Nat.le_of_ble_eq_true rfl) rfl rfl ?_
    refine Z_iload_n 96 1 dX4_hedge_95 rfl rfl ?_
    refine Z_ialn 97 dX4_hedge_96 rfl (Nat.le_of_ble_eq_true rfl) rfl hi (by decide) ?_
    refine Z_top (v' := .int (Int32.ofInt (y i))) (congrArg Value.int (ofI (hL2 i hi).1)) ?_
    refine Z_goto 102 dX4_hedge_97 rfl ?_
    exact Z_iret dX4_hedge_102 rfl ⟨m2, rfl, hF2.m0, Or.inl ⟨y, hT, hpos, rfl⟩⟩
  · cases hr8
    refine Z_if_eq 91 100 dX4_hedge_88 rfl rfl (fun c88 => ?_) (fun c88 => absurd (rfl) c88)
    refine Z_bipush 102 (-4) dX4_hedge_100 rfl rfl ?_
    exact Z_iret dX4_hedge_102 rfl ⟨m2, rfl, hF2.m0, Or.inr ⟨hneg, rfl⟩⟩

set_option maxRecDepth 100000 in
set_option maxHeartbeats 4000000 in
theorem zX4_treaty0 {G : zG} {l : Launch} {h : Nat → Nat} {m : zM} (n : Nat) (hk : sOk (vR (m 75)) 1 n) (t : Nat) (ht : t < n) : zMet G l yX4_treaty mX4_treaty [.ref (G.1 + 74), .int (nI t), .int (nI 0)] (zw h m) (fun r w => r = some (.int ((vR (m 75)) 6 t)) ∧ w = zw h m) 0 0 := by
  refine zMet_of [(0, .ref (G.1 + 74)), (1, .int (nI t)), (2, .int (nI 0))] (by decide +kernel) rfl (Or.inl rfl) (Nat.le_of_ble_eq_true rfl) rfl ?_
  have hn14 := hk.2.1
  have ht9 : t < 14 := by omega
  refine Z_aload_n 1 0 dX4_treaty_0 rfl rfl ?_
  refine Z_iload_n 2 1 dX4_treaty_1 rfl rfl ?_
  refine Z_callV 5 [_] 4 (zX4_isTreaty n hk.1 hk.2.1 _) dX4_treaty_2 rfl qX4_132 kX4_isTreaty rfl rfl (Nat.le_of_ble_eq_true rfl) rfl rfl ⟨(Nat.le_of_ble_eq_true rfl), (Nat.le_of_ble_eq_true rfl)⟩ (Nat.le_of_ble_eq_true rfl) ⟨rfl, rfl⟩ ⟨(Nat.le_of_ble_eq_true rfl), (Nat.le_of_ble_eq_true rfl)⟩ (fun r9 w9 hp9 => ?_)
  obtain ⟨rfl, rfl⟩ := hp9
  refine Z_if_ne 8 10 dX4_treaty_5 rfl rfl (fun c5 => ?_) (fun c5 => absurd (bI_ne (rngN ht (by omega))) c5)
  refine Z_iload_n 11 2 dX4_treaty_10 rfl rfl ?_
  refine Z_tabIn 56 (off := 45) dX4_treaty_11 (by decide) (by decide) (by decide) rfl ?_
  refine Z_aload_n 57 0 dX4_treaty_56 rfl rfl ?_
  refine Z_iload_n 58 1 dX4_treaty_57 rfl rfl ?_
  refine Z_iload_n 59 2 dX4_treaty_58 rfl rfl ?_
  refine Z_callV 62 [_, _] 4 (zX4_ofTreaty t 0 ht9 (by decide)) dX4_treaty_59 rfl qX4_54 kX4_ofTreaty rfl rfl (Nat.le_of_ble_eq_true rfl) rfl rfl ⟨(Nat.le_of_ble_eq_true rfl), (Nat.le_of_ble_eq_true rfl)⟩ (Nat.le_of_ble_eq_true rfl) ⟨rfl, rfl⟩ ⟨(Nat.le_of_ble_eq_true rfl), (Nat.le_of_ble_eq_true rfl)⟩ (fun r9 w9 hp9 => ?_)
  obtain ⟨rfl, rfl⟩ := hp9
  exact Z_iret dX4_treaty_62 rfl ⟨rfl, rfl⟩

set_option maxRecDepth 100000 in
set_option maxHeartbeats 4000000 in
theorem zX4_treaty1 {G : zG} {l : Launch} {h : Nat → Nat} {m : zM} (n : Nat) (hk : sOk (vR (m 75)) 1 n) (t : Nat) (ht : t < n) : zMet G l yX4_treaty mX4_treaty [.ref (G.1 + 74), .int (nI t), .int (nI 1)] (zw h m) (fun r w => r = some (.int ((vR (m 75)) 7 t)) ∧ w = zw h m) 0 0 := by
  refine zMet_of [(0, .ref (G.1 + 74)), (1, .int (nI t)), (2, .int (nI 1))] (by decide +kernel) rfl (Or.inl rfl) (Nat.le_of_ble_eq_true rfl) rfl ?_
  have hn14 := hk.2.1
  have ht9 : t < 14 := by omega
  refine Z_aload_n 1 0 dX4_treaty_0 rfl rfl ?_
  refine Z_iload_n 2 1 dX4_treaty_1 rfl rfl ?_
  refine Z_callV 5 [_] 4 (zX4_isTreaty n hk.1 hk.2.1 _) dX4_treaty_2 rfl qX4_132 kX4_isTreaty rfl rfl (Nat.le_of_ble_eq_true rfl) rfl rfl ⟨(Nat.le_of_ble_eq_true rfl), (Nat.le_of_ble_eq_true rfl)⟩ (Nat.le_of_ble_eq_true rfl) ⟨rfl, rfl⟩ ⟨(Nat.le_of_ble_eq_true rfl), (Nat.le_of_ble_eq_true rfl)⟩ (fun r9 w9 hp9 => ?_)
  obtain ⟨rfl, rfl⟩ := hp9
  refine Z_if_ne 8 10 dX4_treaty_5 rfl rfl (fun c5 => ?_) (fun c5 => absurd (bI_ne (rngN ht (by omega))) c5)
  refine Z_iload_n 11 2 dX4_treaty_10 rfl rfl ?_
  refine Z_tabIn 56 (off := 45) dX4_treaty_11 (by decide) (by decide) (by decide) rfl ?_
  refine Z_aload_n 57 0 dX4_treaty_56 rfl rfl ?_
  refine Z_iload_n 58 1 dX4_treaty_57 rfl rfl ?_
  refine Z_iload_n 59 2 dX4_treaty_58 rfl rfl ?_
  refine Z_callV 62 [_, _] 4 (zX4_ofTreaty t 1 ht9 (by decide)) dX4_treaty_59 rfl qX4_54 kX4_ofTreaty rfl rfl (Nat.le_of_ble_eq_true rfl) rfl rfl ⟨(Nat.le_of_ble_eq_true rfl), (Nat.le_of_ble_eq_true rfl)⟩ (Nat.le_of_ble_eq_true rfl) ⟨rfl, rfl⟩ ⟨(Nat.le_of_ble_eq_true rfl), (Nat.le_of_ble_eq_true rfl)⟩ (fun r9 w9 hp9 => ?_)
  obtain ⟨rfl, rfl⟩ := hp9
  exact Z_iret dX4_treaty_62 rfl ⟨rfl, rfl⟩

set_option maxRecDepth 100000 in
set_option maxHeartbeats 4000000 in
theorem zX4_treaty2 {G : zG} {l : Launch} {h : Nat → Nat} {m : zM} (n : Nat) (hk : sOk (vR (m 75)) 1 n) (t : Nat) (ht : t < n) : zMet G l yX4_treaty mX4_treaty [.ref (G.1 + 74), .int (nI t), .int (nI 2)] (zw h m) (fun r w => r = some (.int ((vR (m 75)) 8 t + nI 100)) ∧ w = zw h m) 0 0 := by
  refine zMet_of [(0, .ref (G.1 + 74)), (1, .int (nI t)), (2, .int (nI 2))] (by decide +kernel) rfl (Or.inl rfl) (Nat.le_of_ble_eq_true rfl) rfl ?_
  have hn14 := hk.2.1
  have ht9 : t < 14 := by omega
  refine Z_aload_n 1 0 dX4_treaty_0 rfl rfl ?_
  refine Z_iload_n 2 1 dX4_treaty_1 rfl rfl ?_
  refine Z_callV 5 [_] 4 (zX4_isTreaty n hk.1 hk.2.1 _) dX4_treaty_2 rfl qX4_132 kX4_isTreaty rfl rfl (Nat.le_of_ble_eq_true rfl) rfl rfl ⟨(Nat.le_of_ble_eq_true rfl), (Nat.le_of_ble_eq_true rfl)⟩ (Nat.le_of_ble_eq_true rfl) ⟨rfl, rfl⟩ ⟨(Nat.le_of_ble_eq_true rfl), (Nat.le_of_ble_eq_true rfl)⟩ (fun r9 w9 hp9 => ?_)
  obtain ⟨rfl, rfl⟩ := hp9
  refine Z_if_ne 8 10 dX4_treaty_5 rfl rfl (fun c5 => ?_) (fun c5 => absurd (bI_ne (rngN ht (by omega))) c5)
  refine Z_iload_n 11 2 dX4_treaty_10 rfl rfl ?_
  refine Z_tabIn 63 (off := 52) dX4_treaty_11 (by decide) (by decide) (by decide) rfl ?_
  refine Z_aload_n 64 0 dX4_treaty_63 rfl rfl ?_
  refine Z_iload_n 65 1 dX4_treaty_64 rfl rfl ?_
  refine Z_iconst 66 (nI 2) dX4_treaty_65 rfl rfl ?_
  refine Z_callV 69 [_, _] 4 (zX4_ofTreaty t 2 ht9 (by decide)) dX4_treaty_66 rfl qX4_54 kX4_ofTreaty rfl rfl (Nat.le_of_ble_eq_true rfl) rfl rfl ⟨(Nat.le_of_ble_eq_true rfl), (Nat.le_of_ble_eq_true rfl)⟩ (Nat.le_of_ble_eq_true rfl) ⟨rfl, rfl⟩ ⟨(Nat.le_of_ble_eq_true rfl), (Nat.le_of_ble_eq_true rfl)⟩ (fun r9 w9 hp9 => ?_)
  obtain ⟨rfl, rfl⟩ := hp9
  refine Z_bipush 71 (nI 100) dX4_treaty_69 rfl rfl ?_
  refine Z_iadd 72 dX4_treaty_71 rfl ?_
  exact Z_iret dX4_treaty_72 rfl ⟨rfl, rfl⟩

set_option maxRecDepth 100000 in
set_option maxHeartbeats 4000000 in
theorem zX4_treaty3 {G : zG} {l : Launch} {h : Nat → Nat} {m : zM} (n : Nat) (hk : sOk (vR (m 75)) 1 n) (t : Nat) (ht : t < n) : zMet G l yX4_treaty mX4_treaty [.ref (G.1 + 74), .int (nI t), .int (nI 3)] (zw h m) (fun r w => r = some (.int (bI (sForce (vR (m 75)) 1 t))) ∧ w = zw h m) 0 0 := by
  refine zMet_of [(0, .ref (G.1 + 74)), (1, .int (nI t)), (2, .int (nI 3))] (by decide +kernel) rfl (Or.inl rfl) (Nat.le_of_ble_eq_true rfl) rfl ?_
  have hn14 := hk.2.1
  have ht9 : t < 14 := by omega
  refine Z_aload_n 1 0 dX4_treaty_0 rfl rfl ?_
  refine Z_iload_n 2 1 dX4_treaty_1 rfl rfl ?_
  refine Z_callV 5 [_] 4 (zX4_isTreaty n hk.1 hk.2.1 _) dX4_treaty_2 rfl qX4_132 kX4_isTreaty rfl rfl (Nat.le_of_ble_eq_true rfl) rfl rfl ⟨(Nat.le_of_ble_eq_true rfl), (Nat.le_of_ble_eq_true rfl)⟩ (Nat.le_of_ble_eq_true rfl) ⟨rfl, rfl⟩ ⟨(Nat.le_of_ble_eq_true rfl), (Nat.le_of_ble_eq_true rfl)⟩ (fun r9 w9 hp9 => ?_)
  obtain ⟨rfl, rfl⟩ := hp9
  refine Z_if_ne 8 10 dX4_treaty_5 rfl rfl (fun c5 => ?_) (fun c5 => absurd (bI_ne (rngN ht (by omega))) c5)
  refine Z_iload_n 11 2 dX4_treaty_10 rfl rfl ?_
  refine Z_tabIn 73 (off := 62) dX4_treaty_11 (by decide) (by decide) (by decide) rfl ?_
  refine Z_aload_n 74 0 dX4_treaty_73 rfl rfl ?_
  refine Z_iload_n 75 1 dX4_treaty_74 rfl rfl ?_
  refine Z_callV 78 [_] 4 (zX4_isForce t ht9) dX4_treaty_75 rfl qX4_57 kX4_isForce rfl rfl (Nat.le_of_ble_eq_true rfl) rfl rfl ⟨(Nat.le_of_ble_eq_true rfl), (Nat.le_of_ble_eq_true rfl)⟩ (Nat.le_of_ble_eq_true rfl) ⟨rfl, rfl⟩ ⟨(Nat.le_of_ble_eq_true rfl), (Nat.le_of_ble_eq_true rfl)⟩ (fun r9 w9 hp9 => ?_)
  obtain ⟨rfl, rfl⟩ := hp9
  refine Z_if_eq 81 85 dX4_treaty_78 rfl rfl (fun c78 => ?_) (fun c78 => ?_)
  · skip
    refine Z_iconst 86 (nI 0) dX4_treaty_85 rfl rfl ?_
    exact Z_iret dX4_treaty_86 rfl (by first | exact ⟨bRt (bI_1 c78), rfl⟩ | exact ⟨bRf (bI_0 c78), rfl⟩)
  · skip
    refine Z_iconst 82 (nI 1) dX4_treaty_81 rfl rfl ?_
    refine Z_goto 86 dX4_treaty_82 rfl ?_
    exact Z_iret dX4_treaty_86 rfl (by first | exact ⟨bRt (bI_1 c78), rfl⟩ | exact ⟨bRf (bI_0 c78), rfl⟩)

set_option maxRecDepth 100000 in
set_option maxHeartbeats 4000000 in
theorem zX4_treaty4 {G : zG} {l : Launch} {h : Nat → Nat} {m : zM} (n : Nat) (hk : sOk (vR (m 75)) 1 n) (t : Nat) (ht : t < n) : zMet G l yX4_treaty mX4_treaty [.ref (G.1 + 74), .int (nI t), .int (nI 4)] (zw h m) (fun r w => r = some (.int (bI (bkV (vR (m 75)) t))) ∧ w = zw h m) 0 0 := by
  refine zMet_of [(0, .ref (G.1 + 74)), (1, .int (nI t)), (2, .int (nI 4))] (by decide +kernel) rfl (Or.inl rfl) (Nat.le_of_ble_eq_true rfl) rfl ?_
  have hn14 := hk.2.1
  have ht9 : t < 14 := by omega
  refine Z_aload_n 1 0 dX4_treaty_0 rfl rfl ?_
  refine Z_iload_n 2 1 dX4_treaty_1 rfl rfl ?_
  refine Z_callV 5 [_] 4 (zX4_isTreaty n hk.1 hk.2.1 _) dX4_treaty_2 rfl qX4_132 kX4_isTreaty rfl rfl (Nat.le_of_ble_eq_true rfl) rfl rfl ⟨(Nat.le_of_ble_eq_true rfl), (Nat.le_of_ble_eq_true rfl)⟩ (Nat.le_of_ble_eq_true rfl) ⟨rfl, rfl⟩ ⟨(Nat.le_of_ble_eq_true rfl), (Nat.le_of_ble_eq_true rfl)⟩ (fun r9 w9 hp9 => ?_)
  obtain ⟨rfl, rfl⟩ := hp9
  refine Z_if_ne 8 10 dX4_treaty_5 rfl rfl (fun c5 => ?_) (fun c5 => absurd (bI_ne (rngN ht (by omega))) c5)
  refine Z_iload_n 11 2 dX4_treaty_10 rfl rfl ?_
  refine Z_tabIn 87 (off := 76) dX4_treaty_11 (by decide) (by decide) (by decide) rfl ?_
  refine Z_aload_n 88 0 dX4_treaty_87 rfl rfl ?_
  refine Z_iload_n 89 1 dX4_treaty_88 rfl rfl ?_
  refine Z_callV 92 [_] 4 (zX4_isBroken n hk t ht) dX4_treaty_89 rfl qX4_65 kX4_isBroken rfl rfl (Nat.le_of_ble_eq_true rfl) rfl rfl ⟨(Nat.le_of_ble_eq_true rfl), (Nat.le_of_ble_eq_true rfl)⟩ (Nat.le_of_ble_eq_true rfl) ⟨rfl, rfl⟩ ⟨(Nat.le_of_ble_eq_true rfl), (Nat.le_of_ble_eq_true rfl)⟩ (fun r9 w9 hp9 => ?_)
  obtain ⟨rfl, rfl⟩ := hp9
  refine Z_if_eq 95 99 dX4_treaty_92 rfl rfl (fun c92 => ?_) (fun c92 => ?_)
  · skip
    refine Z_iconst 100 (nI 0) dX4_treaty_99 rfl rfl ?_
    exact Z_iret dX4_treaty_100 rfl (by first | exact ⟨bRt (bI_1 c92), rfl⟩ | exact ⟨bRf (bI_0 c92), rfl⟩)
  · skip
    refine Z_iconst 96 (nI 1) dX4_treaty_95 rfl rfl ?_
    refine Z_goto 100 dX4_treaty_96 rfl ?_
    exact Z_iret dX4_treaty_100 rfl (by first | exact ⟨bRt (bI_1 c92), rfl⟩ | exact ⟨bRf (bI_0 c92), rfl⟩)

set_option maxRecDepth 100000 in
set_option maxHeartbeats 4000000 in
theorem zX4_treaty5 {G : zG} {l : Launch} {h : Nat → Nat} {m : zM} (n : Nat) (hk : sOk (vR (m 75)) 1 n) (t : Nat) (ht : t < n) : zMet G l yX4_treaty mX4_treaty [.ref (G.1 + 74), .int (nI t), .int (nI 5)] (zw h m) (fun r w => r = some (.int (nI 1000 + slk (vR (m 75)) t)) ∧ w = zw h m) 0 0 := by
  refine zMet_of [(0, .ref (G.1 + 74)), (1, .int (nI t)), (2, .int (nI 5))] (by decide +kernel) rfl (Or.inl rfl) (Nat.le_of_ble_eq_true rfl) rfl ?_
  have hn14 := hk.2.1
  have ht9 : t < 14 := by omega
  refine Z_aload_n 1 0 dX4_treaty_0 rfl rfl ?_
  refine Z_iload_n 2 1 dX4_treaty_1 rfl rfl ?_
  refine Z_callV 5 [_] 4 (zX4_isTreaty n hk.1 hk.2.1 _) dX4_treaty_2 rfl qX4_132 kX4_isTreaty rfl rfl (Nat.le_of_ble_eq_true rfl) rfl rfl ⟨(Nat.le_of_ble_eq_true rfl), (Nat.le_of_ble_eq_true rfl)⟩ (Nat.le_of_ble_eq_true rfl) ⟨rfl, rfl⟩ ⟨(Nat.le_of_ble_eq_true rfl), (Nat.le_of_ble_eq_true rfl)⟩ (fun r9 w9 hp9 => ?_)
  obtain ⟨rfl, rfl⟩ := hp9
  refine Z_if_ne 8 10 dX4_treaty_5 rfl rfl (fun c5 => ?_) (fun c5 => absurd (bI_ne (rngN ht (by omega))) c5)
  refine Z_iload_n 11 2 dX4_treaty_10 rfl rfl ?_
  refine Z_tabIn 101 (off := 90) dX4_treaty_11 (by decide) (by decide) (by decide) rfl ?_
  refine Z_sipush 104 (nI 1000) dX4_treaty_101 rfl rfl ?_
  refine Z_aload_n 105 0 dX4_treaty_104 rfl rfl ?_
  refine Z_iload_n 106 1 dX4_treaty_105 rfl rfl ?_
  refine Z_callV 109 [_] 4 (zX4_slackOf n hk t ht) dX4_treaty_106 rfl qX4_61 kX4_slackOf rfl rfl (Nat.le_of_ble_eq_true rfl) rfl rfl ⟨(Nat.le_of_ble_eq_true rfl), (Nat.le_of_ble_eq_true rfl)⟩ (Nat.le_of_ble_eq_true rfl) ⟨rfl, rfl⟩ ⟨(Nat.le_of_ble_eq_true rfl), (Nat.le_of_ble_eq_true rfl)⟩ (fun r9 w9 hp9 => ?_)
  obtain ⟨rfl, rfl⟩ := hp9
  refine Z_iadd 110 dX4_treaty_109 rfl ?_
  exact Z_iret dX4_treaty_110 rfl ⟨rfl, rfl⟩

set_option maxRecDepth 100000 in
set_option maxHeartbeats 4000000 in
theorem zX4_treaty6 {G : zG} {l : Launch} {h : Nat → Nat} {m : zM} (n : Nat) (hk : sOk (vR (m 75)) 1 n) (t : Nat) (ht : t < n) : zMet G l yX4_treaty mX4_treaty [.ref (G.1 + 74), .int (nI t), .int (nI 6)] (zw h m) (fun r w => r = some (.int ((vR (m 75)) 9 t)) ∧ w = zw h m) 0 0 := by
  refine zMet_of [(0, .ref (G.1 + 74)), (1, .int (nI t)), (2, .int (nI 6))] (by decide +kernel) rfl (Or.inl rfl) (Nat.le_of_ble_eq_true rfl) rfl ?_
  have hn14 := hk.2.1
  have ht9 : t < 14 := by omega
  refine Z_aload_n 1 0 dX4_treaty_0 rfl rfl ?_
  refine Z_iload_n 2 1 dX4_treaty_1 rfl rfl ?_
  refine Z_callV 5 [_] 4 (zX4_isTreaty n hk.1 hk.2.1 _) dX4_treaty_2 rfl qX4_132 kX4_isTreaty rfl rfl (Nat.le_of_ble_eq_true rfl) rfl rfl ⟨(Nat.le_of_ble_eq_true rfl), (Nat.le_of_ble_eq_true rfl)⟩ (Nat.le_of_ble_eq_true rfl) ⟨rfl, rfl⟩ ⟨(Nat.le_of_ble_eq_true rfl), (Nat.le_of_ble_eq_true rfl)⟩ (fun r9 w9 hp9 => ?_)
  obtain ⟨rfl, rfl⟩ := hp9
  refine Z_if_ne 8 10 dX4_treaty_5 rfl rfl (fun c5 => ?_) (fun c5 => absurd (bI_ne (rngN ht (by omega))) c5)
  refine Z_iload_n 11 2 dX4_treaty_10 rfl rfl ?_
  refine Z_tabIn 111 (off := 100) dX4_treaty_11 (by decide) (by decide) (by decide) rfl ?_
  refine Z_aload_n 112 0 dX4_treaty_111 rfl rfl ?_
  refine Z_iload_n 113 1 dX4_treaty_112 rfl rfl ?_
  refine Z_iconst 114 (nI 3) dX4_treaty_113 rfl rfl ?_
  refine Z_callV 117 [_, _] 4 (zX4_ofTreaty t 3 ht9 (by decide)) dX4_treaty_114 rfl qX4_54 kX4_ofTreaty rfl rfl (Nat.le_of_ble_eq_true rfl) rfl rfl ⟨(Nat.le_of_ble_eq_true rfl), (Nat.le_of_ble_eq_true rfl)⟩ (Nat.le_of_ble_eq_true rfl) ⟨rfl, rfl⟩ ⟨(Nat.le_of_ble_eq_true rfl), (Nat.le_of_ble_eq_true rfl)⟩ (fun r9 w9 hp9 => ?_)
  obtain ⟨rfl, rfl⟩ := hp9
  exact Z_iret dX4_treaty_117 rfl ⟨rfl, rfl⟩

set_option maxRecDepth 100000 in
set_option maxHeartbeats 4000000 in
theorem eX4_treatyA {G : zG} {l : Launch} {h : Nat → Nat} {m : zM} (n : Nat) (hk : m 75 2 = nI n) (hn : n ≤ 14) (x y : Int32) (hx : ¬ (¬ x < 0 ∧ x < nI n)) : zMet G l yX4_treaty mX4_treaty [.ref (G.1 + 74), .int x, .int y] (zw h m) (fun r w => r = some (.int (-1)) ∧ w = zw h m) 0 0 := by
  refine zMet_of [(0, .ref (G.1 + 74)), (1, .int x), (2, .int y)] (by decide +kernel) rfl (Or.inl rfl) (Nat.le_of_ble_eq_true rfl) rfl ?_
  refine Z_aload_n 1 0 dX4_treaty_0 rfl rfl ?_
  refine Z_iload_n 2 1 dX4_treaty_1 rfl rfl ?_
  refine Z_callV 5 [_] 4 (zX4_isTreaty n hk hn _) dX4_treaty_2 rfl qX4_132 kX4_isTreaty rfl rfl (Nat.le_of_ble_eq_true rfl) rfl rfl ⟨(Nat.le_of_ble_eq_true rfl), (Nat.le_of_ble_eq_true rfl)⟩ (Nat.le_of_ble_eq_true rfl) ⟨rfl, rfl⟩ ⟨(Nat.le_of_ble_eq_true rfl), (Nat.le_of_ble_eq_true rfl)⟩ (fun r9 w9 hp9 => ?_)
  obtain ⟨rfl, rfl⟩ := hp9
  refine Z_if_ne 8 10 dX4_treaty_5 rfl rfl (fun c5 => absurd c5 (fun q => hx (bI_1 q))) (fun c5 => ?_)
  refine Z_iconst 9 (-1) dX4_treaty_8 rfl rfl ?_
  exact Z_iret dX4_treaty_9 rfl ⟨rfl, rfl⟩

set_option maxRecDepth 100000 in
set_option maxHeartbeats 4000000 in
theorem eX4_treatyB {G : zG} {l : Launch} {h : Nat → Nat} {m : zM} (n : Nat) (hn : n ≤ 14) (hk : m 75 2 = nI n) (t : Nat) (ht : t < n) (y : Int32) (hne : y.toInt < 0 ∨ 7 < y.toInt) : zMet G l yX4_treaty mX4_treaty [.ref (G.1 + 74), .int (nI t), .int y] (zw h m) (fun r w => r = some (.int (-1)) ∧ w = zw h m) 0 0 := by
  refine zMet_of [(0, .ref (G.1 + 74)), (1, .int (nI t)), (2, .int y)] (by decide +kernel) rfl (Or.inl rfl) (Nat.le_of_ble_eq_true rfl) rfl ?_
  refine Z_aload_n 1 0 dX4_treaty_0 rfl rfl ?_
  refine Z_iload_n 2 1 dX4_treaty_1 rfl rfl ?_
  refine Z_callV 5 [_] 4 (zX4_isTreaty n hk hn _) dX4_treaty_2 rfl qX4_132 kX4_isTreaty rfl rfl (Nat.le_of_ble_eq_true rfl) rfl rfl ⟨(Nat.le_of_ble_eq_true rfl), (Nat.le_of_ble_eq_true rfl)⟩ (Nat.le_of_ble_eq_true rfl) ⟨rfl, rfl⟩ ⟨(Nat.le_of_ble_eq_true rfl), (Nat.le_of_ble_eq_true rfl)⟩ (fun r9 w9 hp9 => ?_)
  obtain ⟨rfl, rfl⟩ := hp9
  refine Z_if_ne 8 10 dX4_treaty_5 rfl rfl (fun c5 => ?_) (fun c5 => absurd (bI_ne (rngN ht (by omega))) c5)
  refine Z_iload_n 11 2 dX4_treaty_10 rfl rfl ?_
  refine Z_tabOut 132 dX4_treaty_11 hne rfl ?_
  refine Z_iconst 133 (-1) dX4_treaty_132 rfl rfl ?_
  exact Z_iret dX4_treaty_133 rfl ⟨rfl, rfl⟩

set_option maxRecDepth 100000 in
set_option maxHeartbeats 4000000 in
theorem zX4_treaty7 {G : zG} {l : Launch} {h : Nat → Nat} {m : zM} (n : Nat) (g9 : gOk (vR (m 75)) n) (t : Nat) (ht : t < n) : zMet G l yX4_treaty mX4_treaty [.ref (G.1 + 74), .int (nI t), .int (nI 7)] (zw h m) (fun r w => ∃ m' y, w = zw h m' ∧ Fm m m' ∧ Top (Yb (sF (vR (m 75)) 1 t)) (eB (vR (m 75)) (fun t9 => decide (¬ nI t9 = nI t ∧ sForce (vR (m 75)) 1 t9))) n y ∧ Fin8 y ∧ r = some (.int (bI (y (sO (vR (m 75)) 1 t) ≤ ((vR (m 75)) 8 t).toInt)))) 0 0 := by
  refine zMet_of [(0, .ref (G.1 + 74)), (1, .int (nI t)), (2, .int (nI 7))] (by decide +kernel) rfl (Or.inl rfl) (Nat.le_of_ble_eq_true rfl) rfl ?_
  have hn := g9.1.2.1
  refine Z_aload_n 1 0 dX4_treaty_0 rfl rfl ?_
  refine Z_iload_n 2 1 dX4_treaty_1 rfl rfl ?_
  refine Z_callV 5 [_] 4 (zX4_isTreaty n g9.1.1 hn _) dX4_treaty_2 rfl qX4_132 kX4_isTreaty rfl rfl (Nat.le_of_ble_eq_true rfl) rfl rfl ⟨(Nat.le_of_ble_eq_true rfl), (Nat.le_of_ble_eq_true rfl)⟩ (Nat.le_of_ble_eq_true rfl) ⟨rfl, rfl⟩ ⟨(Nat.le_of_ble_eq_true rfl), (Nat.le_of_ble_eq_true rfl)⟩ (fun r9 w9 hp9 => ?_)
  obtain ⟨rfl, rfl⟩ := hp9
  refine Z_if_ne 8 10 dX4_treaty_5 rfl rfl (fun c5 => ?_) (fun c5 => absurd (bI_ne (rngN ht (by omega))) c5)
  refine Z_iload_n 11 2 dX4_treaty_10 rfl rfl ?_
  refine Z_tabIn 118 (off := 107) dX4_treaty_11 (by decide) (by decide) (by decide) rfl ?_
  refine Z_aload_n 119 0 dX4_treaty_118 rfl rfl ?_
  refine Z_iload_n 120 1 dX4_treaty_119 rfl rfl ?_
  refine Z_callV 123 [_] 4 (zX4_saysNothing n g9 t ht) dX4_treaty_120 rfl qX4_185 kX4_saysNothing rfl rfl (Nat.le_of_ble_eq_true rfl) rfl rfl ⟨(Nat.le_of_ble_eq_true rfl), (Nat.le_of_ble_eq_true rfl)⟩ (Nat.le_of_ble_eq_true rfl) ⟨rfl, rfl⟩ ⟨(Nat.le_of_ble_eq_true rfl), (Nat.le_of_ble_eq_true rfl)⟩ (fun r9 w9 hp9 => ?_)
  obtain ⟨m2, y, rfl, hF2, hT, hY, hr9⟩ := hp9
  cases hr9
  refine Z_if_eq 126 130 dX4_treaty_123 rfl rfl (fun c123 => ?_) (fun c123 => ?_)
  · skip
    refine Z_iconst 131 (nI 0) dX4_treaty_130 rfl rfl ?_
    exact Z_iret dX4_treaty_131 rfl (by first | exact ⟨m2, y, rfl, hF2, hT, hY, bRt (bI_1 c123)⟩ | exact ⟨m2, y, rfl, hF2, hT, hY, bRf (bI_0 c123)⟩)
  · skip
    refine Z_iconst 127 (nI 1) dX4_treaty_126 rfl rfl ?_
    refine Z_goto 131 dX4_treaty_127 rfl ?_
    exact Z_iret dX4_treaty_131 rfl (by first | exact ⟨m2, y, rfl, hF2, hT, hY, bRt (bI_1 c123)⟩ | exact ⟨m2, y, rfl, hF2, hT, hY, bRf (bI_0 c123)⟩)

set_option maxRecDepth 100000 in
set_option maxHeartbeats 4000000 in
theorem eX4_bound {G : zG} {l : Launch} {h : Nat → Nat} {m : zM} (x1 x2 x : Int32) (hne : ¬ (hdg x1 ∧ hdg x2 ∧ ¬ x < 0 ∧ ¬ nI 1 < x)) : zMet G l yX4_bound mX4_bound [.ref (G.1 + 74), .int x1, .int x2, .int x] (zw h m) (fun r w => r = some (.int (-1)) ∧ w = zw h m) 0 0 := by
  refine zMet_of [(0, .ref (G.1 + 74)), (1, .int x1), (2, .int x2), (3, .int x)] (by decide +kernel) rfl (Or.inl rfl) (Nat.le_of_ble_eq_true rfl) rfl ?_
  refine Z_iload_n 1 1 dX4_bound_0 rfl rfl ?_
  refine Z_callS 4 [_] (zX4_isHedge _) dX4_bound_1 rfl qX4_87 kX4_isHedge rfl rfl ⟨(Nat.le_of_ble_eq_true rfl), (Nat.le_of_ble_eq_true rfl)⟩ (Nat.le_of_ble_eq_true rfl) ⟨rfl, rfl⟩ ⟨(Nat.le_of_ble_eq_true rfl), (Nat.le_of_ble_eq_true rfl)⟩ (fun r9 w9 hp9 => ?_)
  obtain ⟨rfl, rfl⟩ := hp9
  refine Z_if_eq 7 32 dX4_bound_4 rfl rfl (fun c4 => ?_) (fun c4 => ?_)
  · skip
    refine Z_iconst 33 (-1) dX4_bound_32 rfl rfl ?_
    exact Z_iret dX4_bound_33 rfl ⟨rfl, rfl⟩
  · skip
    refine Z_iload_n 8 2 dX4_bound_7 rfl rfl ?_
    refine Z_callS 11 [_] (zX4_isHedge _) dX4_bound_8 rfl qX4_87 kX4_isHedge rfl rfl ⟨(Nat.le_of_ble_eq_true rfl), (Nat.le_of_ble_eq_true rfl)⟩ (Nat.le_of_ble_eq_true rfl) ⟨rfl, rfl⟩ ⟨(Nat.le_of_ble_eq_true rfl), (Nat.le_of_ble_eq_true rfl)⟩ (fun r9 w9 hp9 => ?_)
    obtain ⟨rfl, rfl⟩ := hp9
    refine Z_if_eq 14 32 dX4_bound_11 rfl rfl (fun c11 => ?_) (fun c11 => ?_)
    · skip
      refine Z_iconst 33 (-1) dX4_bound_32 rfl rfl ?_
      exact Z_iret dX4_bound_33 rfl ⟨rfl, rfl⟩
    · skip
      refine Z_iload_n 15 3 dX4_bound_14 rfl rfl ?_
      refine Z_iconst 16 (nI 0) dX4_bound_15 rfl rfl ?_
      refine Z_iconst 17 (nI 1) dX4_bound_16 rfl rfl ?_
      refine Z_callS 20 [_, _, _] (zX4_in _ _ _) dX4_bound_17 rfl qX4_46 kX4_in rfl rfl ⟨(Nat.le_of_ble_eq_true rfl), (Nat.le_of_ble_eq_true rfl)⟩ (Nat.le_of_ble_eq_true rfl) ⟨rfl, rfl⟩ ⟨(Nat.le_of_ble_eq_true rfl), (Nat.le_of_ble_eq_true rfl)⟩ (fun r9 w9 hp9 => ?_)
      obtain ⟨rfl, rfl⟩ := hp9
      refine Z_if_eq 23 32 dX4_bound_20 rfl rfl (fun c20 => ?_) (fun c20 => absurd (bI_z (fun q => hne ⟨bI_1 c4, bI_1 c11, q⟩)) c20)
      refine Z_iconst 33 (-1) dX4_bound_32 rfl rfl ?_
      exact Z_iret dX4_bound_33 rfl ⟨rfl, rfl⟩

set_option maxRecDepth 100000 in
set_option maxHeartbeats 4000000 in
theorem zX4_bound {G : zG} {l : Launch} {h : Nat → Nat} {m : zM} (n : Nat) (g9 : gOk (vR (m 75)) n) (f o : Nat) (hf : f < 8) (ho : o < 8) (x : Int32) (hx0 : ¬ x < 0) (hx1 : ¬ nI 1 < x) : zMet G l yX4_bound mX4_bound [.ref (G.1 + 74), .int (nI f), .int (nI o), .int x] (zw h m) (fun r w => ∃ m' y v, w = zw h m' ∧ Fm m m' ∧ Top (Yb f) (eB (vR (m 75)) (pFo (vR (m 75)))) n y ∧ Fin8 y ∧ r = some (.int v) ∧ ((y o = zK9 ∧ v = -4) ∨ (¬ y o = zK9 ∧ v.toInt = y o + 1000))) 0 0 := by
  refine zMet_of [(0, .ref (G.1 + 74)), (1, .int (nI f)), (2, .int (nI o)), (3, .int x)] (by decide +kernel) rfl (Or.inl rfl) (Nat.le_of_ble_eq_true rfl) rfl ?_
  refine Z_iload_n 1 1 dX4_bound_0 rfl rfl ?_
  refine Z_callS 4 [_] (zX4_isHedge _) dX4_bound_1 rfl qX4_87 kX4_isHedge rfl rfl ⟨(Nat.le_of_ble_eq_true rfl), (Nat.le_of_ble_eq_true rfl)⟩ (Nat.le_of_ble_eq_true rfl) ⟨rfl, rfl⟩ ⟨(Nat.le_of_ble_eq_true rfl), (Nat.le_of_ble_eq_true rfl)⟩ (fun r9 w9 hp9 => ?_)
  obtain ⟨rfl, rfl⟩ := hp9
  refine Z_if_eq 7 32 dX4_bound_4 rfl rfl (fun c4 => absurd c4 (bI_ne (hdgN hf))) (fun c4 => ?_)
  refine Z_iload_n 8 2 dX4_bound_7 rfl rfl ?_
  refine Z_callS 11 [_] (zX4_isHedge _) dX4_bound_8 rfl qX4_87 kX4_isHedge rfl rfl ⟨(Nat.le_of_ble_eq_true rfl), (Nat.le_of_ble_eq_true rfl)⟩ (Nat.le_of_ble_eq_true rfl) ⟨rfl, rfl⟩ ⟨(Nat.le_of_ble_eq_true rfl), (Nat.le_of_ble_eq_true rfl)⟩ (fun r9 w9 hp9 => ?_)
  obtain ⟨rfl, rfl⟩ := hp9
  refine Z_if_eq 14 32 dX4_bound_11 rfl rfl (fun c11 => absurd c11 (bI_ne (hdgN ho))) (fun c11 => ?_)
  refine Z_iload_n 15 3 dX4_bound_14 rfl rfl ?_
  refine Z_iconst 16 (nI 0) dX4_bound_15 rfl rfl ?_
  refine Z_iconst 17 (nI 1) dX4_bound_16 rfl rfl ?_
  refine Z_callS 20 [_, _, _] (zX4_in _ _ _) dX4_bound_17 rfl qX4_46 kX4_in rfl rfl ⟨(Nat.le_of_ble_eq_true rfl), (Nat.le_of_ble_eq_true rfl)⟩ (Nat.le_of_ble_eq_true rfl) ⟨rfl, rfl⟩ ⟨(Nat.le_of_ble_eq_true rfl), (Nat.le_of_ble_eq_true rfl)⟩ (fun r9 w9 hp9 => ?_)
  obtain ⟨rfl, rfl⟩ := hp9
  refine Z_if_eq 23 32 dX4_bound_20 rfl rfl (fun c20 => absurd c20 (bI_ne ⟨hx0, hx1⟩)) (fun c20 => ?_)
  refine Z_aload_n 24 0 dX4_bound_23 rfl rfl ?_
  refine Z_iload_n 25 1 dX4_bound_24 rfl rfl ?_
  refine Z_iload_n 26 2 dX4_bound_25 rfl rfl ?_
  refine Z_callV 29 [_, _] 4 (zX4_boundOf n g9 f o hf ho) dX4_bound_26 rfl qX4_188 kX4_boundOf rfl rfl (Nat.le_of_ble_eq_true rfl) rfl rfl ⟨(Nat.le_of_ble_eq_true rfl), (Nat.le_of_ble_eq_true rfl)⟩ (Nat.le_of_ble_eq_true rfl) ⟨rfl, rfl⟩ ⟨(Nat.le_of_ble_eq_true rfl), (Nat.le_of_ble_eq_true rfl)⟩ (fun r9 w9 hp9 => ?_)
  obtain ⟨m2, y, v, rfl, hF2, hT, hY, hr9, hv⟩ := hp9
  cases hr9
  refine Z_goto 33 dX4_bound_29 rfl ?_
  exact Z_iret dX4_bound_33 rfl ⟨m2, y, v, rfl, hF2, hT, hY, rfl, hv⟩

set_option maxRecDepth 100000 in
set_option maxHeartbeats 4000000 in
theorem eX4_whyNot {G : zG} {l : Launch} {h : Nat → Nat} {m : zM} (x1 x2 d : Int32) (hne : ¬ agr x1 x2 d) : zMet G l yX4_whyNot mX4_whyNot [.ref (G.1 + 74), .int x1, .int x2, .int d] (zw h m) (fun r w => r = some (.int (-1)) ∧ w = zw h m) 0 0 := by
  refine zMet_of [(0, .ref (G.1 + 74)), (1, .int x1), (2, .int x2), (3, .int d)] (by decide +kernel) rfl (Or.inl rfl) (Nat.le_of_ble_eq_true rfl) rfl ?_
  refine Z_iload_n 1 1 dX4_whyNot_0 rfl rfl ?_
  refine Z_iload_n 2 2 dX4_whyNot_1 rfl rfl ?_
  refine Z_callS 5 [_, _] (zX4_isPair _ _) dX4_whyNot_2 rfl qX4_90 kX4_isPair rfl rfl ⟨(Nat.le_of_ble_eq_true rfl), (Nat.le_of_ble_eq_true rfl)⟩ (Nat.le_of_ble_eq_true rfl) ⟨rfl, rfl⟩ ⟨(Nat.le_of_ble_eq_true rfl), (Nat.le_of_ble_eq_true rfl)⟩ (fun r9 w9 hp9 => ?_)
  obtain ⟨rfl, rfl⟩ := hp9
  refine Z_if_eq 8 29 dX4_whyNot_5 rfl rfl (fun c5 => ?_) (fun c5 => ?_)
  · skip
    refine Z_iconst 30 (-1) dX4_whyNot_29 rfl rfl ?_
    exact Z_iret dX4_whyNot_30 rfl ⟨rfl, rfl⟩
  · skip
    refine Z_iload_n 9 3 dX4_whyNot_8 rfl rfl ?_
    refine Z_bipush 11 (-30) dX4_whyNot_9 rfl rfl ?_
    refine Z_bipush 13 (nI 60) dX4_whyNot_11 rfl rfl ?_
    refine Z_callS 16 [_, _, _] (zX4_in _ _ _) dX4_whyNot_13 rfl qX4_46 kX4_in rfl rfl ⟨(Nat.le_of_ble_eq_true rfl), (Nat.le_of_ble_eq_true rfl)⟩ (Nat.le_of_ble_eq_true rfl) ⟨rfl, rfl⟩ ⟨(Nat.le_of_ble_eq_true rfl), (Nat.le_of_ble_eq_true rfl)⟩ (fun r9 w9 hp9 => ?_)
    obtain ⟨rfl, rfl⟩ := hp9
    refine Z_if_eq 19 29 dX4_whyNot_16 rfl rfl (fun c16 => ?_) (fun c16 => absurd (bI_z (fun q => hne ⟨(bI_1 c5).1, (bI_1 c5).2.1, (bI_1 c5).2.2, q.1, q.2⟩)) c16)
    refine Z_iconst 30 (-1) dX4_whyNot_29 rfl rfl ?_
    exact Z_iret dX4_whyNot_30 rfl ⟨rfl, rfl⟩

set_option maxRecDepth 100000 in
set_option maxHeartbeats 4000000 in
theorem zX4_whyNot {G : zG} {l : Launch} {h : Nat → Nat} {m : zM} (n : Nat) (g9 : gOk (vR (m 75)) n) (f o : Nat) (hf : f < 8) (ho : o < 8) (d : Int32) (hd : -60 ≤ d.toInt ∧ d.toInt ≤ 60) (hag : agr (nI f) (nI o) d) : zMet G l yX4_whyNot mX4_whyNot [.ref (G.1 + 74), .int (nI f), .int (nI o), .int d] (zw h m) (fun r w => ∃ m' y v, w = zw h m' ∧ Fm m m' ∧ Top (Yb f) (eB (vR (m 75)) (pFo (vR (m 75)))) n y ∧ Fin8 y ∧ r = some (.int v) ∧ rsn (Fea (eN (vR (m 75)) f o d) (n + 1)) (y o) d.toInt v) 0 0 := by
  refine zMet_of [(0, .ref (G.1 + 74)), (1, .int (nI f)), (2, .int (nI o)), (3, .int d)] (by decide +kernel) rfl (Or.inl rfl) (Nat.le_of_ble_eq_true rfl) rfl ?_
  refine Z_iload_n 1 1 dX4_whyNot_0 rfl rfl ?_
  refine Z_iload_n 2 2 dX4_whyNot_1 rfl rfl ?_
  refine Z_callS 5 [_, _] (zX4_isPair _ _) dX4_whyNot_2 rfl qX4_90 kX4_isPair rfl rfl ⟨(Nat.le_of_ble_eq_true rfl), (Nat.le_of_ble_eq_true rfl)⟩ (Nat.le_of_ble_eq_true rfl) ⟨rfl, rfl⟩ ⟨(Nat.le_of_ble_eq_true rfl), (Nat.le_of_ble_eq_true rfl)⟩ (fun r9 w9 hp9 => ?_)
  obtain ⟨rfl, rfl⟩ := hp9
  refine Z_if_eq 8 29 dX4_whyNot_5 rfl rfl (fun c5 => absurd c5 (bI_ne ⟨hag.1, hag.2.1, hag.2.2.1⟩)) (fun c5 => ?_)
  refine Z_iload_n 9 3 dX4_whyNot_8 rfl rfl ?_
  refine Z_bipush 11 (-30) dX4_whyNot_9 rfl rfl ?_
  refine Z_bipush 13 (nI 60) dX4_whyNot_11 rfl rfl ?_
  refine Z_callS 16 [_, _, _] (zX4_in _ _ _) dX4_whyNot_13 rfl qX4_46 kX4_in rfl rfl ⟨(Nat.le_of_ble_eq_true rfl), (Nat.le_of_ble_eq_true rfl)⟩ (Nat.le_of_ble_eq_true rfl) ⟨rfl, rfl⟩ ⟨(Nat.le_of_ble_eq_true rfl), (Nat.le_of_ble_eq_true rfl)⟩ (fun r9 w9 hp9 => ?_)
  obtain ⟨rfl, rfl⟩ := hp9
  refine Z_if_eq 19 29 dX4_whyNot_16 rfl rfl (fun c16 => absurd c16 (bI_ne ⟨hag.2.2.2.1, hag.2.2.2.2⟩)) (fun c16 => ?_)
  refine Z_aload_n 20 0 dX4_whyNot_19 rfl rfl ?_
  refine Z_iload_n 21 1 dX4_whyNot_20 rfl rfl ?_
  refine Z_iload_n 22 2 dX4_whyNot_21 rfl rfl ?_
  refine Z_iload_n 23 3 dX4_whyNot_22 rfl rfl ?_
  refine Z_callV 26 [_, _, _] 4 (zX4_reasonToSign n g9 f o hf ho d hd) dX4_whyNot_23 rfl qX4_94 kX4_reasonToSign rfl rfl (Nat.le_of_ble_eq_true rfl) rfl rfl ⟨(Nat.le_of_ble_eq_true rfl), (Nat.le_of_ble_eq_true rfl)⟩ (Nat.le_of_ble_eq_true rfl) ⟨rfl, rfl⟩ ⟨(Nat.le_of_ble_eq_true rfl), (Nat.le_of_ble_eq_true rfl)⟩ (fun r9 w9 hp9 => ?_)
  obtain ⟨m2, y, v, rfl, hF2, hT, hY, hr9, hv⟩ := hp9
  cases hr9
  refine Z_goto 30 dX4_whyNot_26 rfl ?_
  exact Z_iret dX4_whyNot_30 rfl ⟨m2, y, v, rfl, hF2, hT, hY, rfl, hv⟩

set_option maxRecDepth 100000 in
set_option maxHeartbeats 4000000 in
theorem eX4_clipping {G : zG} {l : Launch} {h : Nat → Nat} {m : zM} (x : Int32) (hne : ¬ (¬ x < 0 ∧ ¬ nI 1 < x)) : zMet G l yX4_clipping mX4_clipping [.ref (G.1 + 74), .int x] (zw h m) (fun r w => r = some (.int (-1)) ∧ w = zw h m) 0 0 := by
  refine zMet_of [(0, .ref (G.1 + 74)), (1, .int x)] (by decide +kernel) rfl (Or.inl rfl) (Nat.le_of_ble_eq_true rfl) rfl ?_
  refine Z_iload_n 1 1 dX4_clipping_0 rfl rfl ?_
  refine Z_iconst 2 (nI 0) dX4_clipping_1 rfl rfl ?_
  refine Z_iconst 3 (nI 1) dX4_clipping_2 rfl rfl ?_
  refine Z_callS 6 [_, _, _] (zX4_in _ _ _) dX4_clipping_3 rfl qX4_46 kX4_in rfl rfl ⟨(Nat.le_of_ble_eq_true rfl), (Nat.le_of_ble_eq_true rfl)⟩ (Nat.le_of_ble_eq_true rfl) ⟨rfl, rfl⟩ ⟨(Nat.le_of_ble_eq_true rfl), (Nat.le_of_ble_eq_true rfl)⟩ (fun r9 w9 hp9 => ?_)
  obtain ⟨rfl, rfl⟩ := hp9
  refine Z_if_eq 9 16 dX4_clipping_6 rfl rfl (fun c6 => ?_) (fun c6 => absurd (bI_z hne) c6)
  refine Z_iconst 17 (-1) dX4_clipping_16 rfl rfl ?_
  exact Z_iret dX4_clipping_17 rfl ⟨rfl, rfl⟩

set_option maxRecDepth 100000 in
set_option maxHeartbeats 4000000 in
theorem zX4_clipping {G : zG} {l : Launch} {h : Nat → Nat} {m : zM} (n : Nat) (g9 : gOk (vR (m 75)) n) (x : Int32) (hx0 : ¬ x < 0) (hx1 : ¬ nI 1 < x) : zMet G l yX4_clipping mX4_clipping [.ref (G.1 + 74), .int x] (zw h m) (fun r w => ∃ m', w = zw h m' ∧ Fm m m' ∧ ((∃ y, Top (HgtY ((vR (m 75)) 2)) (eL (vR (m 75)) (pFo (vR (m 75)))) n y ∧ (∀ q, q < 8 → 0 ≤ y q) ∧ r = some (.int (sumI (fun q => (vR (m 75)) 2 q - Int32.ofInt (y q)) 8))) ∨ ((∀ y9, Top (HgtY ((vR (m 75)) 2)) (eL (vR (m 75)) (pFo (vR (m 75)))) n y9 → ∃ q, q < 8 ∧ y9 q < 0) ∧ r = some (.int (-4))))) 0 0 := by
  refine zMet_of [(0, .ref (G.1 + 74)), (1, .int x)] (by decide +kernel) rfl (Or.inl rfl) (Nat.le_of_ble_eq_true rfl) rfl ?_
  refine Z_iload_n 1 1 dX4_clipping_0 rfl rfl ?_
  refine Z_iconst 2 (nI 0) dX4_clipping_1 rfl rfl ?_
  refine Z_iconst 3 (nI 1) dX4_clipping_2 rfl rfl ?_
  refine Z_callS 6 [_, _, _] (zX4_in _ _ _) dX4_clipping_3 rfl qX4_46 kX4_in rfl rfl ⟨(Nat.le_of_ble_eq_true rfl), (Nat.le_of_ble_eq_true rfl)⟩ (Nat.le_of_ble_eq_true rfl) ⟨rfl, rfl⟩ ⟨(Nat.le_of_ble_eq_true rfl), (Nat.le_of_ble_eq_true rfl)⟩ (fun r9 w9 hp9 => ?_)
  obtain ⟨rfl, rfl⟩ := hp9
  refine Z_if_eq 9 16 dX4_clipping_6 rfl rfl (fun c6 => absurd c6 (bI_ne ⟨hx0, hx1⟩)) (fun c6 => ?_)
  refine Z_aload_n 10 0 dX4_clipping_9 rfl rfl ?_
  refine Z_callV 13 [] 4 (zX4_clippingNow n g9) dX4_clipping_10 rfl qX4_191 kX4_clippingNow rfl rfl (Nat.le_of_ble_eq_true rfl) rfl rfl ⟨(Nat.le_of_ble_eq_true rfl), (Nat.le_of_ble_eq_true rfl)⟩ (Nat.le_of_ble_eq_true rfl) ⟨rfl, rfl⟩ ⟨(Nat.le_of_ble_eq_true rfl), (Nat.le_of_ble_eq_true rfl)⟩ (fun r9 w9 hp9 => ?_)
  obtain ⟨m2, rfl, hF2, hr9⟩ := hp9
  rcases hr9 with ⟨y, h1, h2, rfl⟩ | ⟨h1, rfl⟩
  · refine Z_goto 17 dX4_clipping_13 rfl ?_
    exact Z_iret dX4_clipping_17 rfl ⟨m2, rfl, hF2, Or.inl ⟨y, h1, h2, rfl⟩⟩
  · refine Z_goto 17 dX4_clipping_13 rfl ?_
    exact Z_iret dX4_clipping_17 rfl ⟨m2, rfl, hF2, Or.inr ⟨h1, rfl⟩⟩

set_option maxRecDepth 100000 in
set_option maxHeartbeats 4000000 in
theorem zX4_peace {G : zG} {l : Launch} {h : Nat → Nat} {m : zM} (n : Nat) (hk : sOk (vR (m 75)) 1 n) : zMet G l yX4_peace mX4_peace [.ref (G.1 + 74)] (zw h m) (fun r w => r = some (.double (pcV (cnt (fun j => decide (sForce (vR (m 75)) 1 j)) n) (cnt (fun j => decide (bkV (vR (m 75)) j)) n))) ∧ w = zw h m) 0 0 := by
  refine zMet_of [(0, .ref (G.1 + 74))] (by decide +kernel) rfl (Or.inl rfl) (Nat.le_of_ble_eq_true rfl) rfl ?_
  have hn := hk.2.1
  have h1 := cnt_le (fun j => decide (sForce (vR (m 75)) 1 j)) n
  have h2 := cnt_le (fun j => decide (bkV (vR (m 75)) j)) n
  refine Z_aload_n 1 0 dX4_peace_0 rfl rfl ?_
  refine Z_callV 4 [] 4 (zX4_inForce n hk) dX4_peace_1 rfl qX4_194 kX4_inForce rfl rfl (Nat.le_of_ble_eq_true rfl) rfl rfl ⟨(Nat.le_of_ble_eq_true rfl), (Nat.le_of_ble_eq_true rfl)⟩ (Nat.le_of_ble_eq_true rfl) ⟨rfl, rfl⟩ ⟨(Nat.le_of_ble_eq_true rfl), (Nat.le_of_ble_eq_true rfl)⟩ (fun r9 w9 hp9 => ?_)
  obtain ⟨rfl, rfl⟩ := hp9
  refine Z_if_ne 7 11 dX4_peace_4 rfl rfl (fun c4 => ?_) (fun c4 => ?_)
  · skip
    have e0 : ¬ cnt (fun j => decide (sForce (vR (m 75)) 1 j)) n = 0 := fun q => by
      rw [q] at c4
      exact c4 rfl
    refine Z_aload_n 12 0 dX4_peace_11 rfl rfl ?_
    refine Z_callV 15 [] 4 (zX4_inForce n hk) dX4_peace_12 rfl qX4_194 kX4_inForce rfl rfl (Nat.le_of_ble_eq_true rfl) rfl rfl ⟨(Nat.le_of_ble_eq_true rfl), (Nat.le_of_ble_eq_true rfl)⟩ (Nat.le_of_ble_eq_true rfl) ⟨rfl, rfl⟩ ⟨(Nat.le_of_ble_eq_true rfl), (Nat.le_of_ble_eq_true rfl)⟩ (fun r9 w9 hp9 => ?_)
    obtain ⟨rfl, rfl⟩ := hp9
    refine Z_aload_n 16 0 dX4_peace_15 rfl rfl ?_
    refine Z_callV 19 [] 4 (zX4_brokenOnes n hk) dX4_peace_16 rfl qX4_123 kX4_brokenOnes rfl rfl (Nat.le_of_ble_eq_true rfl) rfl rfl ⟨(Nat.le_of_ble_eq_true rfl), (Nat.le_of_ble_eq_true rfl)⟩ (Nat.le_of_ble_eq_true rfl) ⟨rfl, rfl⟩ ⟨(Nat.le_of_ble_eq_true rfl), (Nat.le_of_ble_eq_true rfl)⟩ (fun r9 w9 hp9 => ?_)
    obtain ⟨rfl, rfl⟩ := hp9
    refine Z_isub 20 dX4_peace_19 rfl ?_
    refine Z_i2d 21 dX4_peace_20 rfl ?_
    refine Z_aload_n 22 0 dX4_peace_21 rfl rfl ?_
    refine Z_callV 25 [] 4 (zX4_inForce n hk) dX4_peace_22 rfl qX4_194 kX4_inForce rfl rfl (Nat.le_of_ble_eq_true rfl) rfl rfl ⟨(Nat.le_of_ble_eq_true rfl), (Nat.le_of_ble_eq_true rfl)⟩ (Nat.le_of_ble_eq_true rfl) ⟨rfl, rfl⟩ ⟨(Nat.le_of_ble_eq_true rfl), (Nat.le_of_ble_eq_true rfl)⟩ (fun r9 w9 hp9 => ?_)
    obtain ⟨rfl, rfl⟩ := hp9
    refine Z_i2d 26 dX4_peace_25 rfl ?_
    refine Z_ddiv 27 dX4_peace_26 rfl (pc_num _ (by omega) _ (by omega) e0) ?_
    exact Z_dret dX4_peace_27 rfl (by first | exact ⟨by unfold pcV; rw [if_pos e0], rfl⟩ | exact ⟨by unfold pcV; rw [if_neg e0], rfl⟩)
  · skip
    have e0 : cnt (fun j => decide (sForce (vR (m 75)) 1 j)) n = 0 := by
      rcases Nat.eq_zero_or_pos (cnt (fun j => decide (sForce (vR (m 75)) 1 j)) n) with q | q
      · exact q
      · exact absurd (nI_ne0 q (by omega)) c4
    refine Z_dconst1 8 dX4_peace_7 rfl ?_
    refine Z_goto 27 dX4_peace_8 rfl ?_
    exact Z_dret dX4_peace_27 rfl (by first | exact ⟨by unfold pcV; rw [if_pos e0], rfl⟩ | exact ⟨by unfold pcV; rw [if_neg e0], rfl⟩)

def mapM (m : zM) (L : Nat) (x : Int32) : zM := if ¬ x < nI 33 ∧ ¬ nI 126 < x then (if nI L < nI 60 then up2 (up2 m 79 L x) 74 7 (nI (L + 1)) else m) else m
theorem map_1 {m : zM} {L : Nat} {x : Int32} (h : ¬ (¬ x < nI 33 ∧ ¬ nI 126 < x)) : -1 = apR L x ∧ m = mapM m L x := ⟨(if_neg h).symm, (if_neg h).symm⟩
theorem map_2 {m : zM} {L : Nat} {x : Int32} (h : ¬ x < nI 33 ∧ ¬ nI 126 < x) (h2 : nI L = nI 60) : -3 = apR L x ∧ m = mapM m L x := by
  have h3 : ¬ nI L < nI 60 := by
    rw [h2]
    decide
  exact ⟨((if_pos h).trans (if_neg h3)).symm, ((if_pos h).trans (if_neg h3)).symm⟩
theorem map_3 {m : zM} {L : Nat} {x : Int32} (h : ¬ x < nI 33 ∧ ¬ nI 126 < x) (h2 : nI L < nI 60) : nI (L + 1) = apR L x ∧ up2 (up2 m 79 L x) 74 7 (nI (L + 1)) = mapM m L x := ⟨((if_pos h).trans (if_pos h2)).symm, ((if_pos h).trans (if_pos h2)).symm⟩
set_option maxRecDepth 100000 in
set_option maxHeartbeats 4000000 in
theorem zX4_append {G : zG} {l : Launch} {h : Nat → Nat} {m : zM} (L : Nat) (hL : L ≤ 60) (hl : m 74 7 = nI L) (x : Int32) : zMet G l yX4_append mX4_append [.ref (G.1 + 74), .int x] (zw h m) (fun r w => r = some (.int (apR L x)) ∧ w = zw h (mapM m L x)) 0 0 := by
  refine zMet_of [(0, .ref (G.1 + 74)), (1, .int x)] (by decide +kernel) rfl (Or.inl rfl) (Nat.le_of_ble_eq_true rfl) rfl ?_
  refine Z_iload_n 1 1 dX4_append_0 rfl rfl ?_
  refine Z_bipush 3 (nI 33) dX4_append_1 rfl rfl ?_
  refine Z_bipush 5 (nI 126) dX4_append_3 rfl rfl ?_
  refine Z_callS 8 [_, _, _] (zX4_in _ _ _) dX4_append_5 rfl qX4_46 kX4_in rfl rfl ⟨(Nat.le_of_ble_eq_true rfl), (Nat.le_of_ble_eq_true rfl)⟩ (Nat.le_of_ble_eq_true rfl) ⟨rfl, rfl⟩ ⟨(Nat.le_of_ble_eq_true rfl), (Nat.le_of_ble_eq_true rfl)⟩ (fun r9 w9 hp9 => ?_)
  obtain ⟨rfl, rfl⟩ := hp9
  refine Z_if_ne 11 13 dX4_append_8 rfl rfl (fun c8 => ?_) (fun c8 => ?_)
  · skip
    refine Z_aload_n 14 0 dX4_append_13 rfl rfl ?_
    refine Z_getI 17 dX4_append_14 rfl fX4_135 (Nat.le_of_ble_eq_true rfl) rfl rfl ?_
    refine Z_top (v' := .int (nI L)) (congrArg Value.int (hl)) ?_
    refine Z_bipush 19 (nI 60) dX4_append_17 rfl rfl ?_
    refine Z_icmp_ne 22 25 dX4_append_19 rfl rfl (fun c19 => ?_) (fun c19 => ?_)
    · skip
      have hL6 : L < 60 := by
        rcases Nat.lt_or_ge L 60 with q | q
        · exact q
        · exact absurd (congrArg nI (show L = 60 by omega)) c19
      refine Z_aload_n 26 0 dX4_append_25 rfl rfl ?_
      refine Z_getR 29 dX4_append_26 rfl fX4_22 (Nat.le_of_ble_eq_true rfl) rfl rfl ?_
      refine Z_aload_n 30 0 dX4_append_29 rfl rfl ?_
      refine Z_getI 33 dX4_append_30 rfl fX4_135 (Nat.le_of_ble_eq_true rfl) rfl rfl ?_
      refine Z_top (v' := .int (nI L)) (congrArg Value.int (hl)) ?_
      refine Z_iload_n 34 1 dX4_append_33 rfl rfl ?_
      refine Z_iasn 35 dX4_append_34 rfl (Nat.le_of_ble_eq_true rfl) rfl hL6 (by decide) ?_
      refine Z_aload_n 36 0 dX4_append_35 rfl rfl ?_
      refine Z_dup 37 dX4_append_36 rfl rfl ?_
      refine Z_getI 40 dX4_append_37 rfl fX4_135 (Nat.le_of_ble_eq_true rfl) rfl rfl ?_
      refine Z_top (v' := .int (nI L)) (congrArg Value.int (by rw [up2_na _ _ _ (by decide)]; exact hl)) ?_
      refine Z_iconst 41 (nI 1) dX4_append_40 rfl rfl ?_
      refine Z_iadd 42 dX4_append_41 rfl ?_
      refine Z_top (v' := .int (nI (L + 1))) (congrArg Value.int (nI_1 L)) ?_
      refine Z_putI 45 .int dX4_append_42 rfl fX4_135 ft_4_7 (Nat.le_of_ble_eq_true rfl) rfl rfl rfl rfl ?_
      refine Z_aload_n 46 0 dX4_append_45 rfl rfl ?_
      refine Z_getI 49 dX4_append_46 rfl fX4_135 (Nat.le_of_ble_eq_true rfl) rfl rfl ?_
      refine Z_top (v' := .int (nI (L + 1))) (congrArg Value.int (up2_eq _ _ _ _)) ?_
      exact Z_iret dX4_append_49 rfl ⟨congrArg (fun q => some (Value.int q)) (map_3 (m := m) (bI_1 c8) (nI_lt hL6 (by decide))).1, congrArg (zw h) (map_3 (bI_1 c8) (nI_lt hL6 (by decide))).2⟩
    · skip
      refine Z_bipush 24 (-3) dX4_append_22 rfl rfl ?_
      exact Z_iret dX4_append_24 rfl ⟨congrArg (fun q => some (Value.int q)) (map_2 (m := m) (bI_1 c8) (Decidable.not_not.mp c19)).1, congrArg (zw h) (map_2 (bI_1 c8) (Decidable.not_not.mp c19)).2⟩
  · skip
    refine Z_iconst 12 (-1) dX4_append_11 rfl rfl ?_
    exact Z_iret dX4_append_12 rfl ⟨congrArg (fun q => some (Value.int q)) (map_1 (m := m) (bI_0 (Decidable.not_not.mp c8))).1, congrArg (zw h) (map_1 (bI_0 (Decidable.not_not.mp c8))).2⟩

set_option maxRecDepth 100000 in
set_option maxHeartbeats 4000000 in
theorem zX4_clear {G : zG} {l : Launch} {h : Nat → Nat} {m : zM}  : zMet G l yX4_clear mX4_clear [.ref (G.1 + 74)] (zw h m) (fun r w => r = some (.int (m 74 7)) ∧ w = zw h (up2 m 74 7 (nI 0))) 0 0 := by
  refine zMet_of [(0, .ref (G.1 + 74))] (by decide +kernel) rfl (Or.inl rfl) (Nat.le_of_ble_eq_true rfl) rfl ?_
  refine Z_aload_n 1 0 dX4_clear_0 rfl rfl ?_
  refine Z_getI 4 dX4_clear_1 rfl fX4_135 (Nat.le_of_ble_eq_true rfl) rfl rfl ?_
  refine Z_istore_n 5 [(1, _), (0, _)] dX4_clear_4 rfl (Nat.le_of_ble_eq_true rfl) rfl ?_
  refine Z_aload_n 6 1 dX4_clear_5 rfl rfl ?_
  refine Z_iconst 7 (nI 0) dX4_clear_6 rfl rfl ?_
  refine Z_putI 10 .int dX4_clear_7 rfl fX4_135 ft_4_7 (Nat.le_of_ble_eq_true rfl) rfl rfl rfl rfl ?_
  refine Z_iload_n 11 0 dX4_clear_10 rfl rfl ?_
  exact Z_iret dX4_clear_11 rfl ⟨rfl, rfl⟩

set_option maxRecDepth 100000 in
set_option maxHeartbeats 4000000 in
theorem eX4_why {G : zG} {l : Launch} {h : Nat → Nat} {m : zM} (x : Int32) (hne : ¬ (¬ x < 0 ∧ ¬ nI 2 < x)) : zMet G l yX4_why mX4_why [.ref (G.1 + 74), .int x] (zw h m) (fun r w => r = some (.int (-1)) ∧ w = zw h m) 0 0 := by
  refine zMet_of [(0, .ref (G.1 + 74)), (1, .int x)] (by decide +kernel) rfl (Or.inl rfl) (Nat.le_of_ble_eq_true rfl) rfl ?_
  refine Z_iload_n 1 1 dX4_why_0 rfl rfl ?_
  refine Z_iconst 2 (nI 0) dX4_why_1 rfl rfl ?_
  refine Z_iconst 3 (nI 2) dX4_why_2 rfl rfl ?_
  refine Z_callS 6 [_, _, _] (zX4_in _ _ _) dX4_why_3 rfl qX4_46 kX4_in rfl rfl ⟨(Nat.le_of_ble_eq_true rfl), (Nat.le_of_ble_eq_true rfl)⟩ (Nat.le_of_ble_eq_true rfl) ⟨rfl, rfl⟩ ⟨(Nat.le_of_ble_eq_true rfl), (Nat.le_of_ble_eq_true rfl)⟩ (fun r9 w9 hp9 => ?_)
  obtain ⟨rfl, rfl⟩ := hp9
  refine Z_if_ne 9 11 dX4_why_6 rfl rfl (fun c6 => absurd c6 (fun q => hne (bI_1 q))) (fun c6 => ?_)
  refine Z_iconst 10 (-1) dX4_why_9 rfl rfl ?_
  exact Z_iret dX4_why_10 rfl ⟨rfl, rfl⟩

set_option maxRecDepth 100000 in
set_option maxHeartbeats 4000000 in
theorem zX4_why0 {G : zG} {l : Launch} {h : Nat → Nat} {m : zM}  : zMet G l yX4_why mX4_why [.ref (G.1 + 74), .int (nI 0)] (zw h m) (fun r w => r = some (.int (if m 74 15 = 0 then -4 else m 82 0)) ∧ w = zw h m) 0 0 := by
  refine zMet_of [(0, .ref (G.1 + 74)), (1, .int (nI 0))] (by decide +kernel) rfl (Or.inl rfl) (Nat.le_of_ble_eq_true rfl) rfl ?_
  refine Z_iload_n 1 1 dX4_why_0 rfl rfl ?_
  refine Z_iconst 2 (nI 0) dX4_why_1 rfl rfl ?_
  refine Z_iconst 3 (nI 2) dX4_why_2 rfl rfl ?_
  refine Z_callS 6 [_, _, _] (zX4_in _ _ _) dX4_why_3 rfl qX4_46 kX4_in rfl rfl ⟨(Nat.le_of_ble_eq_true rfl), (Nat.le_of_ble_eq_true rfl)⟩ (Nat.le_of_ble_eq_true rfl) ⟨rfl, rfl⟩ ⟨(Nat.le_of_ble_eq_true rfl), (Nat.le_of_ble_eq_true rfl)⟩ (fun r9 w9 hp9 => ?_)
  obtain ⟨rfl, rfl⟩ := hp9
  refine Z_if_ne 9 11 dX4_why_6 rfl rfl (fun c6 => ?_) (fun c6 => absurd (bI_ne (by decide)) c6)
  refine Z_aload_n 12 0 dX4_why_11 rfl rfl ?_
  refine Z_getI 15 dX4_why_12 rfl fX4_173 (Nat.le_of_ble_eq_true rfl) rfl rfl ?_
  refine Z_if_eq 18 27 dX4_why_15 rfl rfl (fun c15 => ?_) (fun c15 => ?_)
  · skip
    refine Z_bipush 29 (-4) dX4_why_27 rfl rfl ?_
    exact Z_iret dX4_why_29 rfl (by first | exact ⟨by rw [if_pos c15], rfl⟩ | exact ⟨by rw [if_neg c15], rfl⟩)
  · skip
    refine Z_aload_n 19 0 dX4_why_18 rfl rfl ?_
    refine Z_getR 22 dX4_why_19 rfl fX4_31 (Nat.le_of_ble_eq_true rfl) rfl rfl ?_
    refine Z_iload_n 23 1 dX4_why_22 rfl rfl ?_
    refine Z_ialn 24 dX4_why_23 rfl (Nat.le_of_ble_eq_true rfl) rfl (by first | assumption | omega) (by decide) ?_
    refine Z_goto 29 dX4_why_24 rfl ?_
    exact Z_iret dX4_why_29 rfl (by first | exact ⟨by rw [if_pos c15], rfl⟩ | exact ⟨by rw [if_neg c15], rfl⟩)

set_option maxRecDepth 100000 in
set_option maxHeartbeats 4000000 in
theorem zX4_why1 {G : zG} {l : Launch} {h : Nat → Nat} {m : zM}  : zMet G l yX4_why mX4_why [.ref (G.1 + 74), .int (nI 1)] (zw h m) (fun r w => r = some (.int (if m 74 15 = 0 then -4 else m 82 1)) ∧ w = zw h m) 0 0 := by
  refine zMet_of [(0, .ref (G.1 + 74)), (1, .int (nI 1))] (by decide +kernel) rfl (Or.inl rfl) (Nat.le_of_ble_eq_true rfl) rfl ?_
  refine Z_iload_n 1 1 dX4_why_0 rfl rfl ?_
  refine Z_iconst 2 (nI 0) dX4_why_1 rfl rfl ?_
  refine Z_iconst 3 (nI 2) dX4_why_2 rfl rfl ?_
  refine Z_callS 6 [_, _, _] (zX4_in _ _ _) dX4_why_3 rfl qX4_46 kX4_in rfl rfl ⟨(Nat.le_of_ble_eq_true rfl), (Nat.le_of_ble_eq_true rfl)⟩ (Nat.le_of_ble_eq_true rfl) ⟨rfl, rfl⟩ ⟨(Nat.le_of_ble_eq_true rfl), (Nat.le_of_ble_eq_true rfl)⟩ (fun r9 w9 hp9 => ?_)
  obtain ⟨rfl, rfl⟩ := hp9
  refine Z_if_ne 9 11 dX4_why_6 rfl rfl (fun c6 => ?_) (fun c6 => absurd (bI_ne (by decide)) c6)
  refine Z_aload_n 12 0 dX4_why_11 rfl rfl ?_
  refine Z_getI 15 dX4_why_12 rfl fX4_173 (Nat.le_of_ble_eq_true rfl) rfl rfl ?_
  refine Z_if_eq 18 27 dX4_why_15 rfl rfl (fun c15 => ?_) (fun c15 => ?_)
  · skip
    refine Z_bipush 29 (-4) dX4_why_27 rfl rfl ?_
    exact Z_iret dX4_why_29 rfl (by first | exact ⟨by rw [if_pos c15], rfl⟩ | exact ⟨by rw [if_neg c15], rfl⟩)
  · skip
    refine Z_aload_n 19 0 dX4_why_18 rfl rfl ?_
    refine Z_getR 22 dX4_why_19 rfl fX4_31 (Nat.le_of_ble_eq_true rfl) rfl rfl ?_
    refine Z_iload_n 23 1 dX4_why_22 rfl rfl ?_
    refine Z_ialn 24 dX4_why_23 rfl (Nat.le_of_ble_eq_true rfl) rfl (by first | assumption | omega) (by decide) ?_
    refine Z_goto 29 dX4_why_24 rfl ?_
    exact Z_iret dX4_why_29 rfl (by first | exact ⟨by rw [if_pos c15], rfl⟩ | exact ⟨by rw [if_neg c15], rfl⟩)

set_option maxRecDepth 100000 in
set_option maxHeartbeats 4000000 in
theorem zX4_why2 {G : zG} {l : Launch} {h : Nat → Nat} {m : zM}  : zMet G l yX4_why mX4_why [.ref (G.1 + 74), .int (nI 2)] (zw h m) (fun r w => r = some (.int (if m 74 15 = 0 then -4 else m 82 2)) ∧ w = zw h m) 0 0 := by
  refine zMet_of [(0, .ref (G.1 + 74)), (1, .int (nI 2))] (by decide +kernel) rfl (Or.inl rfl) (Nat.le_of_ble_eq_true rfl) rfl ?_
  refine Z_iload_n 1 1 dX4_why_0 rfl rfl ?_
  refine Z_iconst 2 (nI 0) dX4_why_1 rfl rfl ?_
  refine Z_iconst 3 (nI 2) dX4_why_2 rfl rfl ?_
  refine Z_callS 6 [_, _, _] (zX4_in _ _ _) dX4_why_3 rfl qX4_46 kX4_in rfl rfl ⟨(Nat.le_of_ble_eq_true rfl), (Nat.le_of_ble_eq_true rfl)⟩ (Nat.le_of_ble_eq_true rfl) ⟨rfl, rfl⟩ ⟨(Nat.le_of_ble_eq_true rfl), (Nat.le_of_ble_eq_true rfl)⟩ (fun r9 w9 hp9 => ?_)
  obtain ⟨rfl, rfl⟩ := hp9
  refine Z_if_ne 9 11 dX4_why_6 rfl rfl (fun c6 => ?_) (fun c6 => absurd (bI_ne (by decide)) c6)
  refine Z_aload_n 12 0 dX4_why_11 rfl rfl ?_
  refine Z_getI 15 dX4_why_12 rfl fX4_173 (Nat.le_of_ble_eq_true rfl) rfl rfl ?_
  refine Z_if_eq 18 27 dX4_why_15 rfl rfl (fun c15 => ?_) (fun c15 => ?_)
  · skip
    refine Z_bipush 29 (-4) dX4_why_27 rfl rfl ?_
    exact Z_iret dX4_why_29 rfl (by first | exact ⟨by rw [if_pos c15], rfl⟩ | exact ⟨by rw [if_neg c15], rfl⟩)
  · skip
    refine Z_aload_n 19 0 dX4_why_18 rfl rfl ?_
    refine Z_getR 22 dX4_why_19 rfl fX4_31 (Nat.le_of_ble_eq_true rfl) rfl rfl ?_
    refine Z_iload_n 23 1 dX4_why_22 rfl rfl ?_
    refine Z_ialn 24 dX4_why_23 rfl (Nat.le_of_ble_eq_true rfl) rfl (by first | assumption | omega) (by decide) ?_
    refine Z_goto 29 dX4_why_24 rfl ?_
    exact Z_iret dX4_why_29 rfl (by first | exact ⟨by rw [if_pos c15], rfl⟩ | exact ⟨by rw [if_neg c15], rfl⟩)
