set_option maxRecDepth 100000 in
set_option maxHeartbeats 4000000 in
theorem zX3_count0 {G : zG} {l : Launch} {h : Nat → Nat} {m : zM} (n : Nat) (hk : sOk m 1 n) : zMet G l yX3_count mX3_count [.ref (G.1 + 0), .int (nI 0)] (zw h m) (fun r w => r = some (.int (m 1 9)) ∧ w = zw h m) 0 0 := by
  refine zMet_of [(0, .ref (G.1 + 0)), (1, .int (nI 0))] (by decide +kernel) rfl (Or.inl rfl) (Nat.le_of_ble_eq_true rfl) rfl ?_
  refine Z_iload_n 1 1 dX3_count_0 rfl rfl ?_
  refine Z_tabIn 68 (off := 67) dX3_count_1 (by decide) (by decide) (by decide) rfl ?_
  refine Z_aload_n 69 0 dX3_count_68 rfl rfl ?_
  refine Z_getR 72 dX3_count_69 rfl fX3_10 (Nat.le_of_ble_eq_true rfl) rfl rfl ?_
  refine Z_getI 75 dX3_count_72 rfl fX3_54 (Nat.le_of_ble_eq_true rfl) rfl rfl ?_
  exact Z_iret dX3_count_75 rfl ⟨rfl, rfl⟩

set_option maxRecDepth 100000 in
set_option maxHeartbeats 4000000 in
theorem zX3_count1 {G : zG} {l : Launch} {h : Nat → Nat} {m : zM} (n : Nat) (hk : sOk m 1 n) : zMet G l yX3_count mX3_count [.ref (G.1 + 0), .int (nI 1)] (zw h m) (fun r w => r = some (.int (m 1 8)) ∧ w = zw h m) 0 0 := by
  refine zMet_of [(0, .ref (G.1 + 0)), (1, .int (nI 1))] (by decide +kernel) rfl (Or.inl rfl) (Nat.le_of_ble_eq_true rfl) rfl ?_
  refine Z_iload_n 1 1 dX3_count_0 rfl rfl ?_
  refine Z_tabIn 76 (off := 75) dX3_count_1 (by decide) (by decide) (by decide) rfl ?_
  refine Z_aload_n 77 0 dX3_count_76 rfl rfl ?_
  refine Z_getR 80 dX3_count_77 rfl fX3_10 (Nat.le_of_ble_eq_true rfl) rfl rfl ?_
  refine Z_getI 83 dX3_count_80 rfl fX3_101 (Nat.le_of_ble_eq_true rfl) rfl rfl ?_
  exact Z_iret dX3_count_83 rfl ⟨rfl, rfl⟩

set_option maxRecDepth 100000 in
set_option maxHeartbeats 4000000 in
theorem zX3_count2 {G : zG} {l : Launch} {h : Nat → Nat} {m : zM} (n : Nat) (hk : sOk m 1 n) : zMet G l yX3_count mX3_count [.ref (G.1 + 0), .int (nI 2)] (zw h m) (fun r w => r = some (.int (nI (cnt (fun j => decide (sForce (m) 1 j)) n))) ∧ w = zw h m) 0 0 := by
  refine zMet_of [(0, .ref (G.1 + 0)), (1, .int (nI 2))] (by decide +kernel) rfl (Or.inl rfl) (Nat.le_of_ble_eq_true rfl) rfl ?_
  refine Z_iload_n 1 1 dX3_count_0 rfl rfl ?_
  refine Z_tabIn 84 (off := 83) dX3_count_1 (by decide) (by decide) (by decide) rfl ?_
  refine Z_aload_n 85 0 dX3_count_84 rfl rfl ?_
  refine Z_getR 88 dX3_count_85 rfl fX3_10 (Nat.le_of_ble_eq_true rfl) rfl rfl ?_
  refine Z_iconst 89 (-1) dX3_count_88 rfl rfl ?_
  refine Z_callV 92 [_] 1 (zX1_countInForce 1 (Or.inl rfl) n hk (-1)) dX3_count_89 rfl qX3_144 kX1_countInForce rfl rfl (Nat.le_of_ble_eq_true rfl) rfl rfl ⟨(Nat.le_of_ble_eq_true rfl), (Nat.le_of_ble_eq_true rfl)⟩ (Nat.le_of_ble_eq_true rfl) ⟨rfl, rfl⟩ ⟨(Nat.le_of_ble_eq_true rfl), (Nat.le_of_ble_eq_true rfl)⟩ (fun r9 w9 hp9 => ?_)
  obtain ⟨rfl, rfl⟩ := hp9
  exact Z_iret dX3_count_92 rfl ⟨congrArg (fun z => some (Value.int (nI z))) brk_0, rfl⟩

set_option maxRecDepth 100000 in
set_option maxHeartbeats 4000000 in
theorem zX3_count3 {G : zG} {l : Launch} {h : Nat → Nat} {m : zM} (n : Nat) (hk : sOk m 1 n) : zMet G l yX3_count mX3_count [.ref (G.1 + 0), .int (nI 3)] (zw h m) (fun r w => r = some (.int (nI (cnt (fun j => decide (sBrk (m) 1 j (nI 0))) n))) ∧ w = zw h m) 0 0 := by
  refine zMet_of [(0, .ref (G.1 + 0)), (1, .int (nI 3))] (by decide +kernel) rfl (Or.inl rfl) (Nat.le_of_ble_eq_true rfl) rfl ?_
  refine Z_iload_n 1 1 dX3_count_0 rfl rfl ?_
  refine Z_tabIn 93 (off := 92) dX3_count_1 (by decide) (by decide) (by decide) rfl ?_
  refine Z_aload_n 94 0 dX3_count_93 rfl rfl ?_
  refine Z_getR 97 dX3_count_94 rfl fX3_10 (Nat.le_of_ble_eq_true rfl) rfl rfl ?_
  refine Z_iconst 98 (-1) dX3_count_97 rfl rfl ?_
  refine Z_iconst 99 (nI 0) dX3_count_98 rfl rfl ?_
  refine Z_callV 102 [_, _] 1 (zX1_countBroken 1 (Or.inl rfl) n hk (-1) (nI 0)) dX3_count_99 rfl qX3_83 kX1_countBroken rfl rfl (Nat.le_of_ble_eq_true rfl) rfl rfl ⟨(Nat.le_of_ble_eq_true rfl), (Nat.le_of_ble_eq_true rfl)⟩ (Nat.le_of_ble_eq_true rfl) ⟨rfl, rfl⟩ ⟨(Nat.le_of_ble_eq_true rfl), (Nat.le_of_ble_eq_true rfl)⟩ (fun r9 w9 hp9 => ?_)
  obtain ⟨rfl, rfl⟩ := hp9
  exact Z_iret dX3_count_102 rfl ⟨congrArg (fun z => some (Value.int (nI z))) brk_0, rfl⟩

set_option maxRecDepth 100000 in
set_option maxHeartbeats 4000000 in
theorem zX3_count4 {G : zG} {l : Launch} {h : Nat → Nat} {m : zM} (n : Nat) (hk : sOk m 1 n) : zMet G l yX3_count mX3_count [.ref (G.1 + 0), .int (nI 4)] (zw h m) (fun r w => r = some (.int (sumI (m 2) 8)) ∧ w = zw h m) 0 0 := by
  refine zMet_of [(0, .ref (G.1 + 0)), (1, .int (nI 4))] (by decide +kernel) rfl (Or.inl rfl) (Nat.le_of_ble_eq_true rfl) rfl ?_
  refine Z_iload_n 1 1 dX3_count_0 rfl rfl ?_
  refine Z_tabIn 103 (off := 102) dX3_count_1 (by decide) (by decide) (by decide) rfl ?_
  refine Z_aload_n 104 0 dX3_count_103 rfl rfl ?_
  refine Z_getR 107 dX3_count_104 rfl fX3_10 (Nat.le_of_ble_eq_true rfl) rfl rfl ?_
  refine Z_getR 110 dX3_count_107 rfl fX3_44 (Nat.le_of_ble_eq_true rfl) rfl rfl ?_
  refine Z_callS 113 [_] (zX3_sum 2 (by decide) rfl) dX3_count_110 rfl qX3_184 kX3_sum rfl rfl ⟨(Nat.le_of_ble_eq_true rfl), (Nat.le_of_ble_eq_true rfl)⟩ (Nat.le_of_ble_eq_true rfl) ⟨rfl, rfl⟩ ⟨(Nat.le_of_ble_eq_true rfl), (Nat.le_of_ble_eq_true rfl)⟩ (fun r9 w9 hp9 => ?_)
  obtain ⟨rfl, rfl⟩ := hp9
  exact Z_iret dX3_count_113 rfl ⟨rfl, rfl⟩

set_option maxRecDepth 100000 in
set_option maxHeartbeats 4000000 in
theorem zX3_count5 {G : zG} {l : Launch} {h : Nat → Nat} {m : zM} (n : Nat) (hk : sOk m 1 n) : zMet G l yX3_count mX3_count [.ref (G.1 + 0), .int (nI 5)] (zw h m) (fun r w => r = some (.int (nI (cnt (fun j => decide (sNest m 1 j)) 8))) ∧ w = zw h m) 0 0 := by
  refine zMet_of [(0, .ref (G.1 + 0)), (1, .int (nI 5))] (by decide +kernel) rfl (Or.inl rfl) (Nat.le_of_ble_eq_true rfl) rfl ?_
  refine Z_iload_n 1 1 dX3_count_0 rfl rfl ?_
  refine Z_tabIn 114 (off := 113) dX3_count_1 (by decide) (by decide) (by decide) rfl ?_
  refine Z_aload_n 115 0 dX3_count_114 rfl rfl ?_
  refine Z_getR 118 dX3_count_115 rfl fX3_10 (Nat.le_of_ble_eq_true rfl) rfl rfl ?_
  refine Z_callV 121 [] 1 (zX1_countNested 1 (Or.inl rfl)) dX3_count_118 rfl qX3_188 kX1_countNested rfl rfl (Nat.le_of_ble_eq_true rfl) rfl rfl ⟨(Nat.le_of_ble_eq_true rfl), (Nat.le_of_ble_eq_true rfl)⟩ (Nat.le_of_ble_eq_true rfl) ⟨rfl, rfl⟩ ⟨(Nat.le_of_ble_eq_true rfl), (Nat.le_of_ble_eq_true rfl)⟩ (fun r9 w9 hp9 => ?_)
  obtain ⟨rfl, rfl⟩ := hp9
  exact Z_iret dX3_count_121 rfl ⟨rfl, rfl⟩

set_option maxRecDepth 100000 in
set_option maxHeartbeats 4000000 in
theorem zX3_count6 {G : zG} {l : Launch} {h : Nat → Nat} {m : zM} (n : Nat) (hk : sOk m 1 n) : zMet G l yX3_count mX3_count [.ref (G.1 + 0), .int (nI 6)] (zw h m) (fun r w => r = some (.int (m 1 10)) ∧ w = zw h m) 0 0 := by
  refine zMet_of [(0, .ref (G.1 + 0)), (1, .int (nI 6))] (by decide +kernel) rfl (Or.inl rfl) (Nat.le_of_ble_eq_true rfl) rfl ?_
  refine Z_iload_n 1 1 dX3_count_0 rfl rfl ?_
  refine Z_tabIn 122 (off := 121) dX3_count_1 (by decide) (by decide) (by decide) rfl ?_
  refine Z_aload_n 123 0 dX3_count_122 rfl rfl ?_
  refine Z_getR 126 dX3_count_123 rfl fX3_10 (Nat.le_of_ble_eq_true rfl) rfl rfl ?_
  refine Z_getI 129 dX3_count_126 rfl fX3_107 (Nat.le_of_ble_eq_true rfl) rfl rfl ?_
  exact Z_iret dX3_count_129 rfl ⟨rfl, rfl⟩

set_option maxRecDepth 100000 in
set_option maxHeartbeats 4000000 in
theorem zX3_count7 {G : zG} {l : Launch} {h : Nat → Nat} {m : zM} (n : Nat) (hk : sOk m 1 n) : zMet G l yX3_count mX3_count [.ref (G.1 + 0), .int (nI 7)] (zw h m) (fun r w => r = some (.int (m 1 11)) ∧ w = zw h m) 0 0 := by
  refine zMet_of [(0, .ref (G.1 + 0)), (1, .int (nI 7))] (by decide +kernel) rfl (Or.inl rfl) (Nat.le_of_ble_eq_true rfl) rfl ?_
  refine Z_iload_n 1 1 dX3_count_0 rfl rfl ?_
  refine Z_tabIn 130 (off := 129) dX3_count_1 (by decide) (by decide) (by decide) rfl ?_
  refine Z_aload_n 131 0 dX3_count_130 rfl rfl ?_
  refine Z_getR 134 dX3_count_131 rfl fX3_10 (Nat.le_of_ble_eq_true rfl) rfl rfl ?_
  refine Z_getI 137 dX3_count_134 rfl fX3_191 (Nat.le_of_ble_eq_true rfl) rfl rfl ?_
  exact Z_iret dX3_count_137 rfl ⟨rfl, rfl⟩

set_option maxRecDepth 100000 in
set_option maxHeartbeats 4000000 in
theorem zX3_count8 {G : zG} {l : Launch} {h : Nat → Nat} {m : zM} (n : Nat) (hk : sOk m 1 n) : zMet G l yX3_count mX3_count [.ref (G.1 + 0), .int (nI 8)] (zw h m) (fun r w => r = some (.int (m 1 12)) ∧ w = zw h m) 0 0 := by
  refine zMet_of [(0, .ref (G.1 + 0)), (1, .int (nI 8))] (by decide +kernel) rfl (Or.inl rfl) (Nat.le_of_ble_eq_true rfl) rfl ?_
  refine Z_iload_n 1 1 dX3_count_0 rfl rfl ?_
  refine Z_tabIn 138 (off := 137) dX3_count_1 (by decide) (by decide) (by decide) rfl ?_
  refine Z_aload_n 139 0 dX3_count_138 rfl rfl ?_
  refine Z_getR 142 dX3_count_139 rfl fX3_10 (Nat.le_of_ble_eq_true rfl) rfl rfl ?_
  refine Z_getI 145 dX3_count_142 rfl fX3_194 (Nat.le_of_ble_eq_true rfl) rfl rfl ?_
  exact Z_iret dX3_count_145 rfl ⟨rfl, rfl⟩

set_option maxRecDepth 100000 in
set_option maxHeartbeats 4000000 in
theorem zX3_count9 {G : zG} {l : Launch} {h : Nat → Nat} {m : zM} (n : Nat) (hk : sOk m 1 n) : zMet G l yX3_count mX3_count [.ref (G.1 + 0), .int (nI 9)] (zw h m) (fun r w => r = some (.int (m 1 13)) ∧ w = zw h m) 0 0 := by
  refine zMet_of [(0, .ref (G.1 + 0)), (1, .int (nI 9))] (by decide +kernel) rfl (Or.inl rfl) (Nat.le_of_ble_eq_true rfl) rfl ?_
  refine Z_iload_n 1 1 dX3_count_0 rfl rfl ?_
  refine Z_tabIn 146 (off := 145) dX3_count_1 (by decide) (by decide) (by decide) rfl ?_
  refine Z_aload_n 147 0 dX3_count_146 rfl rfl ?_
  refine Z_getR 150 dX3_count_147 rfl fX3_10 (Nat.le_of_ble_eq_true rfl) rfl rfl ?_
  refine Z_getI 153 dX3_count_150 rfl fX3_197 (Nat.le_of_ble_eq_true rfl) rfl rfl ?_
  exact Z_iret dX3_count_153 rfl ⟨rfl, rfl⟩

set_option maxRecDepth 100000 in
set_option maxHeartbeats 4000000 in
theorem zX3_count10 {G : zG} {l : Launch} {h : Nat → Nat} {m : zM} (n : Nat) (hk : sOk m 1 n) : zMet G l yX3_count mX3_count [.ref (G.1 + 0), .int (nI 10)] (zw h m) (fun r w => r = some (.int (sumI (m 5) 8)) ∧ w = zw h m) 0 0 := by
  refine zMet_of [(0, .ref (G.1 + 0)), (1, .int (nI 10))] (by decide +kernel) rfl (Or.inl rfl) (Nat.le_of_ble_eq_true rfl) rfl ?_
  refine Z_iload_n 1 1 dX3_count_0 rfl rfl ?_
  refine Z_tabIn 154 (off := 153) dX3_count_1 (by decide) (by decide) (by decide) rfl ?_
  refine Z_aload_n 155 0 dX3_count_154 rfl rfl ?_
  refine Z_getR 158 dX3_count_155 rfl fX3_10 (Nat.le_of_ble_eq_true rfl) rfl rfl ?_
  refine Z_getR 161 dX3_count_158 rfl fX3_147 (Nat.le_of_ble_eq_true rfl) rfl rfl ?_
  refine Z_callS 164 [_] (zX3_sum 5 (by decide) rfl) dX3_count_161 rfl qX3_184 kX3_sum rfl rfl ⟨(Nat.le_of_ble_eq_true rfl), (Nat.le_of_ble_eq_true rfl)⟩ (Nat.le_of_ble_eq_true rfl) ⟨rfl, rfl⟩ ⟨(Nat.le_of_ble_eq_true rfl), (Nat.le_of_ble_eq_true rfl)⟩ (fun r9 w9 hp9 => ?_)
  obtain ⟨rfl, rfl⟩ := hp9
  exact Z_iret dX3_count_164 rfl ⟨rfl, rfl⟩

set_option maxRecDepth 100000 in
set_option maxHeartbeats 4000000 in
theorem zX3_count11 {G : zG} {l : Launch} {h : Nat → Nat} {m : zM} (n : Nat) (hk : sOk m 1 n) : zMet G l yX3_count mX3_count [.ref (G.1 + 0), .int (nI 11)] (zw h m) (fun r w => r = some (.int (m 68 1)) ∧ w = zw h m) 0 0 := by
  refine zMet_of [(0, .ref (G.1 + 0)), (1, .int (nI 11))] (by decide +kernel) rfl (Or.inl rfl) (Nat.le_of_ble_eq_true rfl) rfl ?_
  refine Z_iload_n 1 1 dX3_count_0 rfl rfl ?_
  refine Z_tabIn 165 (off := 164) dX3_count_1 (by decide) (by decide) (by decide) rfl ?_
  refine Z_aload_n 166 0 dX3_count_165 rfl rfl ?_
  refine Z_getR 169 dX3_count_166 rfl fX3_33 (Nat.le_of_ble_eq_true rfl) rfl rfl ?_
  refine Z_getI 172 dX3_count_169 rfl fX3_116 (Nat.le_of_ble_eq_true rfl) rfl rfl ?_
  exact Z_iret dX3_count_172 rfl ⟨rfl, rfl⟩

set_option maxRecDepth 100000 in
set_option maxHeartbeats 4000000 in
theorem zX3_count12 {G : zG} {l : Launch} {h : Nat → Nat} {m : zM} (n : Nat) (hk : sOk m 1 n) : zMet G l yX3_count mX3_count [.ref (G.1 + 0), .int (nI 12)] (zw h m) (fun r w => r = some (.int (m 0 5)) ∧ w = zw h m) 0 0 := by
  refine zMet_of [(0, .ref (G.1 + 0)), (1, .int (nI 12))] (by decide +kernel) rfl (Or.inl rfl) (Nat.le_of_ble_eq_true rfl) rfl ?_
  refine Z_iload_n 1 1 dX3_count_0 rfl rfl ?_
  refine Z_tabIn 173 (off := 172) dX3_count_1 (by decide) (by decide) (by decide) rfl ?_
  refine Z_aload_n 174 0 dX3_count_173 rfl rfl ?_
  refine Z_getI 177 dX3_count_174 rfl fX3_200 (Nat.le_of_ble_eq_true rfl) rfl rfl ?_
  exact Z_iret dX3_count_177 rfl ⟨rfl, rfl⟩

set_option maxRecDepth 100000 in
set_option maxHeartbeats 4000000 in
theorem eX3_count {G : zG} {l : Launch} {h : Nat → Nat} {m : zM} (x : Int32) (hne : x.toInt < 0 ∨ 12 < x.toInt) : zMet G l yX3_count mX3_count [.ref (G.1 + 0), .int x] (zw h m) (fun r w => r = some (.int (-1)) ∧ w = zw h m) 0 0 := by
  refine zMet_of [(0, .ref (G.1 + 0)), (1, .int x)] (by decide +kernel) rfl (Or.inl rfl) (Nat.le_of_ble_eq_true rfl) rfl ?_
  refine Z_iload_n 1 1 dX3_count_0 rfl rfl ?_
  refine Z_tabOut 178 dX3_count_1 hne rfl ?_
  refine Z_iconst 179 (-1) dX3_count_178 rfl rfl ?_
  exact Z_iret dX3_count_179 rfl ⟨rfl, rfl⟩

theorem bI_if {p : Prop} [Decidable p] (h : ¬ bI p = 0) : some (Value.int (nI 1)) = some (Value.int (bI p)) := bRt (bI_1 h)
theorem bI_if0 {p : Prop} [Decidable p] (h : bI p = 0) : some (Value.int (nI 0)) = some (Value.int (bI p)) := bRf (bI_0 h)
set_option maxRecDepth 100000 in
set_option maxHeartbeats 4000000 in
theorem zX3_hedge0 {G : zG} {l : Launch} {h : Nat → Nat} {m : zM} (n : Nat) (hk : sOk m 1 n) (i : Nat) (hi : i < 8) : zMet G l yX3_hedge mX3_hedge [.ref (G.1 + 0), .int (nI i), .int (nI 0)] (zw h m) (fun r w => r = some (.int (m 2 i)) ∧ w = zw h m) 0 0 := by
  refine zMet_of [(0, .ref (G.1 + 0)), (1, .int (nI i)), (2, .int (nI 0))] (by decide +kernel) rfl (Or.inl rfl) (Nat.le_of_ble_eq_true rfl) rfl ?_
  refine Z_iload_n 1 1 dX3_hedge_0 rfl rfl ?_
  refine Z_callS 4 [_] (zX3_isHedge _) dX3_hedge_1 rfl qX3_37 kX3_isHedge rfl rfl ⟨(Nat.le_of_ble_eq_true rfl), (Nat.le_of_ble_eq_true rfl)⟩ (Nat.le_of_ble_eq_true rfl) ⟨rfl, rfl⟩ ⟨(Nat.le_of_ble_eq_true rfl), (Nat.le_of_ble_eq_true rfl)⟩ (fun r9 w9 hp9 => ?_)
  obtain ⟨rfl, rfl⟩ := hp9
  refine Z_if_ne 7 9 dX3_hedge_4 rfl rfl (fun c4 => ?_) (fun c4 => absurd (bI_ne (hdgN hi)) c4)
  refine Z_iload_n 10 2 dX3_hedge_9 rfl rfl ?_
  refine Z_tabIn 56 (off := 46) dX3_hedge_10 (by decide) (by decide) (by decide) rfl ?_
  refine Z_aload_n 57 0 dX3_hedge_56 rfl rfl ?_
  refine Z_getR 60 dX3_hedge_57 rfl fX3_10 (Nat.le_of_ble_eq_true rfl) rfl rfl ?_
  refine Z_getR 63 dX3_hedge_60 rfl fX3_44 (Nat.le_of_ble_eq_true rfl) rfl rfl ?_
  refine Z_iload_n 64 1 dX3_hedge_63 rfl rfl ?_
  refine Z_ialn 65 dX3_hedge_64 rfl (Nat.le_of_ble_eq_true rfl) rfl (by first | assumption | omega) (by decide) ?_
  exact Z_iret dX3_hedge_65 rfl ⟨rfl, rfl⟩

set_option maxRecDepth 100000 in
set_option maxHeartbeats 4000000 in
theorem zX3_hedge1 {G : zG} {l : Launch} {h : Nat → Nat} {m : zM} (n : Nat) (hk : sOk m 1 n) (i : Nat) (hi : i < 8) : zMet G l yX3_hedge mX3_hedge [.ref (G.1 + 0), .int (nI i), .int (nI 1)] (zw h m) (fun r w => r = some (.int (m 3 i)) ∧ w = zw h m) 0 0 := by
  refine zMet_of [(0, .ref (G.1 + 0)), (1, .int (nI i)), (2, .int (nI 1))] (by decide +kernel) rfl (Or.inl rfl) (Nat.le_of_ble_eq_true rfl) rfl ?_
  refine Z_iload_n 1 1 dX3_hedge_0 rfl rfl ?_
  refine Z_callS 4 [_] (zX3_isHedge _) dX3_hedge_1 rfl qX3_37 kX3_isHedge rfl rfl ⟨(Nat.le_of_ble_eq_true rfl), (Nat.le_of_ble_eq_true rfl)⟩ (Nat.le_of_ble_eq_true rfl) ⟨rfl, rfl⟩ ⟨(Nat.le_of_ble_eq_true rfl), (Nat.le_of_ble_eq_true rfl)⟩ (fun r9 w9 hp9 => ?_)
  obtain ⟨rfl, rfl⟩ := hp9
  refine Z_if_ne 7 9 dX3_hedge_4 rfl rfl (fun c4 => ?_) (fun c4 => absurd (bI_ne (hdgN hi)) c4)
  refine Z_iload_n 10 2 dX3_hedge_9 rfl rfl ?_
  refine Z_tabIn 66 (off := 56) dX3_hedge_10 (by decide) (by decide) (by decide) rfl ?_
  refine Z_aload_n 67 0 dX3_hedge_66 rfl rfl ?_
  refine Z_getR 70 dX3_hedge_67 rfl fX3_10 (Nat.le_of_ble_eq_true rfl) rfl rfl ?_
  refine Z_getR 73 dX3_hedge_70 rfl fX3_48 (Nat.le_of_ble_eq_true rfl) rfl rfl ?_
  refine Z_iload_n 74 1 dX3_hedge_73 rfl rfl ?_
  refine Z_ialn 75 dX3_hedge_74 rfl (Nat.le_of_ble_eq_true rfl) rfl (by first | assumption | omega) (by decide) ?_
  exact Z_iret dX3_hedge_75 rfl ⟨rfl, rfl⟩

set_option maxRecDepth 100000 in
set_option maxHeartbeats 4000000 in
theorem zX3_hedge2 {G : zG} {l : Launch} {h : Nat → Nat} {m : zM} (n : Nat) (hk : sOk m 1 n) (i : Nat) (hi : i < 8) : zMet G l yX3_hedge mX3_hedge [.ref (G.1 + 0), .int (nI i), .int (nI 2)] (zw h m) (fun r w => r = some (.int (bI (sNest m 1 i))) ∧ w = zw h m) 0 0 := by
  refine zMet_of [(0, .ref (G.1 + 0)), (1, .int (nI i)), (2, .int (nI 2))] (by decide +kernel) rfl (Or.inl rfl) (Nat.le_of_ble_eq_true rfl) rfl ?_
  refine Z_iload_n 1 1 dX3_hedge_0 rfl rfl ?_
  refine Z_callS 4 [_] (zX3_isHedge _) dX3_hedge_1 rfl qX3_37 kX3_isHedge rfl rfl ⟨(Nat.le_of_ble_eq_true rfl), (Nat.le_of_ble_eq_true rfl)⟩ (Nat.le_of_ble_eq_true rfl) ⟨rfl, rfl⟩ ⟨(Nat.le_of_ble_eq_true rfl), (Nat.le_of_ble_eq_true rfl)⟩ (fun r9 w9 hp9 => ?_)
  obtain ⟨rfl, rfl⟩ := hp9
  refine Z_if_ne 7 9 dX3_hedge_4 rfl rfl (fun c4 => ?_) (fun c4 => absurd (bI_ne (hdgN hi)) c4)
  refine Z_iload_n 10 2 dX3_hedge_9 rfl rfl ?_
  refine Z_tabIn 76 (off := 66) dX3_hedge_10 (by decide) (by decide) (by decide) rfl ?_
  refine Z_aload_n 77 0 dX3_hedge_76 rfl rfl ?_
  refine Z_getR 80 dX3_hedge_77 rfl fX3_10 (Nat.le_of_ble_eq_true rfl) rfl rfl ?_
  refine Z_iload_n 81 1 dX3_hedge_80 rfl rfl ?_
  refine Z_callV 84 [_] 1 (zX1_isNested 1 (Or.inl rfl) i hi) dX3_hedge_81 rfl qX3_58 kX1_isNested rfl rfl (Nat.le_of_ble_eq_true rfl) rfl rfl ⟨(Nat.le_of_ble_eq_true rfl), (Nat.le_of_ble_eq_true rfl)⟩ (Nat.le_of_ble_eq_true rfl) ⟨rfl, rfl⟩ ⟨(Nat.le_of_ble_eq_true rfl), (Nat.le_of_ble_eq_true rfl)⟩ (fun r9 w9 hp9 => ?_)
  obtain ⟨rfl, rfl⟩ := hp9
  refine Z_if_eq 87 91 dX3_hedge_84 rfl rfl (fun c84 => ?_) (fun c84 => ?_)
  · skip
    refine Z_iconst 92 (nI 0) dX3_hedge_91 rfl rfl ?_
    exact Z_iret dX3_hedge_92 rfl (by first | exact ⟨bI_if c84, rfl⟩ | exact ⟨bI_if0 c84, rfl⟩)
  · skip
    refine Z_iconst 88 (nI 1) dX3_hedge_87 rfl rfl ?_
    refine Z_goto 92 dX3_hedge_88 rfl ?_
    exact Z_iret dX3_hedge_92 rfl (by first | exact ⟨bI_if c84, rfl⟩ | exact ⟨bI_if0 c84, rfl⟩)

set_option maxRecDepth 100000 in
set_option maxHeartbeats 4000000 in
theorem zX3_hedge3 {G : zG} {l : Launch} {h : Nat → Nat} {m : zM} (n : Nat) (hk : sOk m 1 n) (i : Nat) (hi : i < 8) : zMet G l yX3_hedge mX3_hedge [.ref (G.1 + 0), .int (nI i), .int (nI 3)] (zw h m) (fun r w => r = some (.int (m 4 i)) ∧ w = zw h m) 0 0 := by
  refine zMet_of [(0, .ref (G.1 + 0)), (1, .int (nI i)), (2, .int (nI 3))] (by decide +kernel) rfl (Or.inl rfl) (Nat.le_of_ble_eq_true rfl) rfl ?_
  refine Z_iload_n 1 1 dX3_hedge_0 rfl rfl ?_
  refine Z_callS 4 [_] (zX3_isHedge _) dX3_hedge_1 rfl qX3_37 kX3_isHedge rfl rfl ⟨(Nat.le_of_ble_eq_true rfl), (Nat.le_of_ble_eq_true rfl)⟩ (Nat.le_of_ble_eq_true rfl) ⟨rfl, rfl⟩ ⟨(Nat.le_of_ble_eq_true rfl), (Nat.le_of_ble_eq_true rfl)⟩ (fun r9 w9 hp9 => ?_)
  obtain ⟨rfl, rfl⟩ := hp9
  refine Z_if_ne 7 9 dX3_hedge_4 rfl rfl (fun c4 => ?_) (fun c4 => absurd (bI_ne (hdgN hi)) c4)
  refine Z_iload_n 10 2 dX3_hedge_9 rfl rfl ?_
  refine Z_tabIn 93 (off := 83) dX3_hedge_10 (by decide) (by decide) (by decide) rfl ?_
  refine Z_aload_n 94 0 dX3_hedge_93 rfl rfl ?_
  refine Z_getR 97 dX3_hedge_94 rfl fX3_10 (Nat.le_of_ble_eq_true rfl) rfl rfl ?_
  refine Z_getR 100 dX3_hedge_97 rfl fX3_51 (Nat.le_of_ble_eq_true rfl) rfl rfl ?_
  refine Z_iload_n 101 1 dX3_hedge_100 rfl rfl ?_
  refine Z_ialn 102 dX3_hedge_101 rfl (Nat.le_of_ble_eq_true rfl) rfl (by first | assumption | omega) (by decide) ?_
  exact Z_iret dX3_hedge_102 rfl ⟨rfl, rfl⟩

set_option maxRecDepth 100000 in
set_option maxHeartbeats 4000000 in
theorem zX3_hedge5 {G : zG} {l : Launch} {h : Nat → Nat} {m : zM} (n : Nat) (hk : sOk m 1 n) (i : Nat) (hi : i < 8) : zMet G l yX3_hedge mX3_hedge [.ref (G.1 + 0), .int (nI i), .int (nI 5)] (zw h m) (fun r w => r = some (.int (nI (cnt (fun j => decide (sAbout m 1 j (nI i) ∧ sBrk m 1 j (nI 0))) n))) ∧ w = zw h m) 0 0 := by
  refine zMet_of [(0, .ref (G.1 + 0)), (1, .int (nI i)), (2, .int (nI 5))] (by decide +kernel) rfl (Or.inl rfl) (Nat.le_of_ble_eq_true rfl) rfl ?_
  refine Z_iload_n 1 1 dX3_hedge_0 rfl rfl ?_
  refine Z_callS 4 [_] (zX3_isHedge _) dX3_hedge_1 rfl qX3_37 kX3_isHedge rfl rfl ⟨(Nat.le_of_ble_eq_true rfl), (Nat.le_of_ble_eq_true rfl)⟩ (Nat.le_of_ble_eq_true rfl) ⟨rfl, rfl⟩ ⟨(Nat.le_of_ble_eq_true rfl), (Nat.le_of_ble_eq_true rfl)⟩ (fun r9 w9 hp9 => ?_)
  obtain ⟨rfl, rfl⟩ := hp9
  refine Z_if_ne 7 9 dX3_hedge_4 rfl rfl (fun c4 => ?_) (fun c4 => absurd (bI_ne (hdgN hi)) c4)
  refine Z_iload_n 10 2 dX3_hedge_9 rfl rfl ?_
  refine Z_tabIn 132 (off := 122) dX3_hedge_10 (by decide) (by decide) (by decide) rfl ?_
  refine Z_aload_n 133 0 dX3_hedge_132 rfl rfl ?_
  refine Z_getR 136 dX3_hedge_133 rfl fX3_10 (Nat.le_of_ble_eq_true rfl) rfl rfl ?_
  refine Z_iload_n 137 1 dX3_hedge_136 rfl rfl ?_
  refine Z_iconst 138 (nI 0) dX3_hedge_137 rfl rfl ?_
  refine Z_callV 141 [_, _] 1 (zX1_countBroken 1 (Or.inl rfl) n hk (nI i) (nI 0)) dX3_hedge_138 rfl qX3_83 kX1_countBroken rfl rfl (Nat.le_of_ble_eq_true rfl) rfl rfl ⟨(Nat.le_of_ble_eq_true rfl), (Nat.le_of_ble_eq_true rfl)⟩ (Nat.le_of_ble_eq_true rfl) ⟨rfl, rfl⟩ ⟨(Nat.le_of_ble_eq_true rfl), (Nat.le_of_ble_eq_true rfl)⟩ (fun r9 w9 hp9 => ?_)
  obtain ⟨rfl, rfl⟩ := hp9
  exact Z_iret dX3_hedge_141 rfl ⟨rfl, rfl⟩

set_option maxRecDepth 100000 in
set_option maxHeartbeats 4000000 in
theorem zX3_hedge6 {G : zG} {l : Launch} {h : Nat → Nat} {m : zM} (n : Nat) (hk : sOk m 1 n) (i : Nat) (hi : i < 8) : zMet G l yX3_hedge mX3_hedge [.ref (G.1 + 0), .int (nI i), .int (nI 6)] (zw h m) (fun r w => r = some (.int (nI (cnt (fun j => decide (sAbout m 1 j (nI i) ∧ sForce m 1 j)) n))) ∧ w = zw h m) 0 0 := by
  refine zMet_of [(0, .ref (G.1 + 0)), (1, .int (nI i)), (2, .int (nI 6))] (by decide +kernel) rfl (Or.inl rfl) (Nat.le_of_ble_eq_true rfl) rfl ?_
  refine Z_iload_n 1 1 dX3_hedge_0 rfl rfl ?_
  refine Z_callS 4 [_] (zX3_isHedge _) dX3_hedge_1 rfl qX3_37 kX3_isHedge rfl rfl ⟨(Nat.le_of_ble_eq_true rfl), (Nat.le_of_ble_eq_true rfl)⟩ (Nat.le_of_ble_eq_true rfl) ⟨rfl, rfl⟩ ⟨(Nat.le_of_ble_eq_true rfl), (Nat.le_of_ble_eq_true rfl)⟩ (fun r9 w9 hp9 => ?_)
  obtain ⟨rfl, rfl⟩ := hp9
  refine Z_if_ne 7 9 dX3_hedge_4 rfl rfl (fun c4 => ?_) (fun c4 => absurd (bI_ne (hdgN hi)) c4)
  refine Z_iload_n 10 2 dX3_hedge_9 rfl rfl ?_
  refine Z_tabIn 142 (off := 132) dX3_hedge_10 (by decide) (by decide) (by decide) rfl ?_
  refine Z_aload_n 143 0 dX3_hedge_142 rfl rfl ?_
  refine Z_getR 146 dX3_hedge_143 rfl fX3_10 (Nat.le_of_ble_eq_true rfl) rfl rfl ?_
  refine Z_iload_n 147 1 dX3_hedge_146 rfl rfl ?_
  refine Z_callV 150 [_] 1 (zX1_countInForce 1 (Or.inl rfl) n hk (nI i)) dX3_hedge_147 rfl qX3_144 kX1_countInForce rfl rfl (Nat.le_of_ble_eq_true rfl) rfl rfl ⟨(Nat.le_of_ble_eq_true rfl), (Nat.le_of_ble_eq_true rfl)⟩ (Nat.le_of_ble_eq_true rfl) ⟨rfl, rfl⟩ ⟨(Nat.le_of_ble_eq_true rfl), (Nat.le_of_ble_eq_true rfl)⟩ (fun r9 w9 hp9 => ?_)
  obtain ⟨rfl, rfl⟩ := hp9
  exact Z_iret dX3_hedge_150 rfl ⟨rfl, rfl⟩

set_option maxRecDepth 100000 in
set_option maxHeartbeats 4000000 in
theorem zX3_hedge7 {G : zG} {l : Launch} {h : Nat → Nat} {m : zM} (n : Nat) (hk : sOk m 1 n) (i : Nat) (hi : i < 8) : zMet G l yX3_hedge mX3_hedge [.ref (G.1 + 0), .int (nI i), .int (nI 7)] (zw h m) (fun r w => r = some (.int (m 5 i)) ∧ w = zw h m) 0 0 := by
  refine zMet_of [(0, .ref (G.1 + 0)), (1, .int (nI i)), (2, .int (nI 7))] (by decide +kernel) rfl (Or.inl rfl) (Nat.le_of_ble_eq_true rfl) rfl ?_
  refine Z_iload_n 1 1 dX3_hedge_0 rfl rfl ?_
  refine Z_callS 4 [_] (zX3_isHedge _) dX3_hedge_1 rfl qX3_37 kX3_isHedge rfl rfl ⟨(Nat.le_of_ble_eq_true rfl), (Nat.le_of_ble_eq_true rfl)⟩ (Nat.le_of_ble_eq_true rfl) ⟨rfl, rfl⟩ ⟨(Nat.le_of_ble_eq_true rfl), (Nat.le_of_ble_eq_true rfl)⟩ (fun r9 w9 hp9 => ?_)
  obtain ⟨rfl, rfl⟩ := hp9
  refine Z_if_ne 7 9 dX3_hedge_4 rfl rfl (fun c4 => ?_) (fun c4 => absurd (bI_ne (hdgN hi)) c4)
  refine Z_iload_n 10 2 dX3_hedge_9 rfl rfl ?_
  refine Z_tabIn 151 (off := 141) dX3_hedge_10 (by decide) (by decide) (by decide) rfl ?_
  refine Z_aload_n 152 0 dX3_hedge_151 rfl rfl ?_
  refine Z_getR 155 dX3_hedge_152 rfl fX3_10 (Nat.le_of_ble_eq_true rfl) rfl rfl ?_
  refine Z_getR 158 dX3_hedge_155 rfl fX3_147 (Nat.le_of_ble_eq_true rfl) rfl rfl ?_
  refine Z_iload_n 159 1 dX3_hedge_158 rfl rfl ?_
  refine Z_ialn 160 dX3_hedge_159 rfl (Nat.le_of_ble_eq_true rfl) rfl (by first | assumption | omega) (by decide) ?_
  exact Z_iret dX3_hedge_160 rfl ⟨rfl, rfl⟩

set_option maxRecDepth 100000 in
set_option maxHeartbeats 4000000 in
theorem eX3_hedgeA {G : zG} {l : Launch} {h : Nat → Nat} {m : zM} (x y : Int32) (hx : ¬ hdg x) : zMet G l yX3_hedge mX3_hedge [.ref (G.1 + 0), .int x, .int y] (zw h m) (fun r w => r = some (.int (-1)) ∧ w = zw h m) 0 0 := by
  refine zMet_of [(0, .ref (G.1 + 0)), (1, .int x), (2, .int y)] (by decide +kernel) rfl (Or.inl rfl) (Nat.le_of_ble_eq_true rfl) rfl ?_
  refine Z_iload_n 1 1 dX3_hedge_0 rfl rfl ?_
  refine Z_callS 4 [_] (zX3_isHedge _) dX3_hedge_1 rfl qX3_37 kX3_isHedge rfl rfl ⟨(Nat.le_of_ble_eq_true rfl), (Nat.le_of_ble_eq_true rfl)⟩ (Nat.le_of_ble_eq_true rfl) ⟨rfl, rfl⟩ ⟨(Nat.le_of_ble_eq_true rfl), (Nat.le_of_ble_eq_true rfl)⟩ (fun r9 w9 hp9 => ?_)
  obtain ⟨rfl, rfl⟩ := hp9
  refine Z_if_ne 7 9 dX3_hedge_4 rfl rfl (fun c4 => absurd c4 (fun q => q (bI_z hx))) (fun c4 => ?_)
  refine Z_iconst 8 (-1) dX3_hedge_7 rfl rfl ?_
  exact Z_iret dX3_hedge_8 rfl ⟨rfl, rfl⟩

set_option maxRecDepth 100000 in
set_option maxHeartbeats 4000000 in
theorem eX3_hedgeB {G : zG} {l : Launch} {h : Nat → Nat} {m : zM} (i : Nat) (hi : i < 8) (y : Int32) (hne : y.toInt < 0 ∨ 7 < y.toInt) : zMet G l yX3_hedge mX3_hedge [.ref (G.1 + 0), .int (nI i), .int y] (zw h m) (fun r w => r = some (.int (-1)) ∧ w = zw h m) 0 0 := by
  refine zMet_of [(0, .ref (G.1 + 0)), (1, .int (nI i)), (2, .int y)] (by decide +kernel) rfl (Or.inl rfl) (Nat.le_of_ble_eq_true rfl) rfl ?_
  refine Z_iload_n 1 1 dX3_hedge_0 rfl rfl ?_
  refine Z_callS 4 [_] (zX3_isHedge _) dX3_hedge_1 rfl qX3_37 kX3_isHedge rfl rfl ⟨(Nat.le_of_ble_eq_true rfl), (Nat.le_of_ble_eq_true rfl)⟩ (Nat.le_of_ble_eq_true rfl) ⟨rfl, rfl⟩ ⟨(Nat.le_of_ble_eq_true rfl), (Nat.le_of_ble_eq_true rfl)⟩ (fun r9 w9 hp9 => ?_)
  obtain ⟨rfl, rfl⟩ := hp9
  refine Z_if_ne 7 9 dX3_hedge_4 rfl rfl (fun c4 => ?_) (fun c4 => absurd (bI_ne (hdgN hi)) c4)
  refine Z_iload_n 10 2 dX3_hedge_9 rfl rfl ?_
  refine Z_tabOut 161 dX3_hedge_10 hne rfl ?_
  refine Z_iconst 162 (-1) dX3_hedge_161 rfl rfl ?_
  exact Z_iret dX3_hedge_162 rfl ⟨rfl, rfl⟩

set_option maxRecDepth 100000 in
set_option maxHeartbeats 4000000 in
theorem zX3_treaty0 {G : zG} {l : Launch} {h : Nat → Nat} {m : zM} (n : Nat) (hk : sOk m 1 n) (t : Nat) (ht : t < n) : zMet G l yX3_treaty mX3_treaty [.ref (G.1 + 0), .int (nI t), .int (nI 0)] (zw h m) (fun r w => r = some (.int (m 6 t)) ∧ w = zw h m) 0 0 := by
  refine zMet_of [(0, .ref (G.1 + 0)), (1, .int (nI t)), (2, .int (nI 0))] (by decide +kernel) rfl (Or.inl rfl) (Nat.le_of_ble_eq_true rfl) rfl ?_
  have hn := hk.2.1
  have ht14 : t < 14 := by omega
  refine Z_aload_n 1 0 dX3_treaty_0 rfl rfl ?_
  refine Z_iload_n 2 1 dX3_treaty_1 rfl rfl ?_
  refine Z_callV 5 [_] 3 (zX3_isTreaty n hk.1 _) dX3_treaty_2 rfl qX3_94 kX3_isTreaty rfl rfl (Nat.le_of_ble_eq_true rfl) rfl rfl ⟨(Nat.le_of_ble_eq_true rfl), (Nat.le_of_ble_eq_true rfl)⟩ (Nat.le_of_ble_eq_true rfl) ⟨rfl, rfl⟩ ⟨(Nat.le_of_ble_eq_true rfl), (Nat.le_of_ble_eq_true rfl)⟩ (fun r9 w9 hp9 => ?_)
  obtain ⟨rfl, rfl⟩ := hp9
  refine Z_if_ne 8 10 dX3_treaty_5 rfl rfl (fun c5 => ?_) (fun c5 => absurd (bI_ne (rngN ht (by omega))) c5)
  refine Z_iload_n 11 2 dX3_treaty_10 rfl rfl ?_
  refine Z_tabIn 56 (off := 45) dX3_treaty_11 (by decide) (by decide) (by decide) rfl ?_
  refine Z_aload_n 57 0 dX3_treaty_56 rfl rfl ?_
  refine Z_getR 60 dX3_treaty_57 rfl fX3_10 (Nat.le_of_ble_eq_true rfl) rfl rfl ?_
  refine Z_getR 63 dX3_treaty_60 rfl fX3_150 (Nat.le_of_ble_eq_true rfl) rfl rfl ?_
  refine Z_iload_n 64 1 dX3_treaty_63 rfl rfl ?_
  refine Z_ialn 65 dX3_treaty_64 rfl (Nat.le_of_ble_eq_true rfl) rfl (by first | assumption | omega) (by decide) ?_
  exact Z_iret dX3_treaty_65 rfl ⟨rfl, rfl⟩

set_option maxRecDepth 100000 in
set_option maxHeartbeats 4000000 in
theorem zX3_treaty1 {G : zG} {l : Launch} {h : Nat → Nat} {m : zM} (n : Nat) (hk : sOk m 1 n) (t : Nat) (ht : t < n) : zMet G l yX3_treaty mX3_treaty [.ref (G.1 + 0), .int (nI t), .int (nI 1)] (zw h m) (fun r w => r = some (.int (m 7 t)) ∧ w = zw h m) 0 0 := by
  refine zMet_of [(0, .ref (G.1 + 0)), (1, .int (nI t)), (2, .int (nI 1))] (by decide +kernel) rfl (Or.inl rfl) (Nat.le_of_ble_eq_true rfl) rfl ?_
  have hn := hk.2.1
  have ht14 : t < 14 := by omega
  refine Z_aload_n 1 0 dX3_treaty_0 rfl rfl ?_
  refine Z_iload_n 2 1 dX3_treaty_1 rfl rfl ?_
  refine Z_callV 5 [_] 3 (zX3_isTreaty n hk.1 _) dX3_treaty_2 rfl qX3_94 kX3_isTreaty rfl rfl (Nat.le_of_ble_eq_true rfl) rfl rfl ⟨(Nat.le_of_ble_eq_true rfl), (Nat.le_of_ble_eq_true rfl)⟩ (Nat.le_of_ble_eq_true rfl) ⟨rfl, rfl⟩ ⟨(Nat.le_of_ble_eq_true rfl), (Nat.le_of_ble_eq_true rfl)⟩ (fun r9 w9 hp9 => ?_)
  obtain ⟨rfl, rfl⟩ := hp9
  refine Z_if_ne 8 10 dX3_treaty_5 rfl rfl (fun c5 => ?_) (fun c5 => absurd (bI_ne (rngN ht (by omega))) c5)
  refine Z_iload_n 11 2 dX3_treaty_10 rfl rfl ?_
  refine Z_tabIn 66 (off := 55) dX3_treaty_11 (by decide) (by decide) (by decide) rfl ?_
  refine Z_aload_n 67 0 dX3_treaty_66 rfl rfl ?_
  refine Z_getR 70 dX3_treaty_67 rfl fX3_10 (Nat.le_of_ble_eq_true rfl) rfl rfl ?_
  refine Z_getR 73 dX3_treaty_70 rfl fX3_153 (Nat.le_of_ble_eq_true rfl) rfl rfl ?_
  refine Z_iload_n 74 1 dX3_treaty_73 rfl rfl ?_
  refine Z_ialn 75 dX3_treaty_74 rfl (Nat.le_of_ble_eq_true rfl) rfl (by first | assumption | omega) (by decide) ?_
  exact Z_iret dX3_treaty_75 rfl ⟨rfl, rfl⟩

set_option maxRecDepth 100000 in
set_option maxHeartbeats 4000000 in
theorem zX3_treaty2 {G : zG} {l : Launch} {h : Nat → Nat} {m : zM} (n : Nat) (hk : sOk m 1 n) (t : Nat) (ht : t < n) : zMet G l yX3_treaty mX3_treaty [.ref (G.1 + 0), .int (nI t), .int (nI 2)] (zw h m) (fun r w => r = some (.int (m 8 t + nI 100)) ∧ w = zw h m) 0 0 := by
  refine zMet_of [(0, .ref (G.1 + 0)), (1, .int (nI t)), (2, .int (nI 2))] (by decide +kernel) rfl (Or.inl rfl) (Nat.le_of_ble_eq_true rfl) rfl ?_
  have hn := hk.2.1
  have ht14 : t < 14 := by omega
  refine Z_aload_n 1 0 dX3_treaty_0 rfl rfl ?_
  refine Z_iload_n 2 1 dX3_treaty_1 rfl rfl ?_
  refine Z_callV 5 [_] 3 (zX3_isTreaty n hk.1 _) dX3_treaty_2 rfl qX3_94 kX3_isTreaty rfl rfl (Nat.le_of_ble_eq_true rfl) rfl rfl ⟨(Nat.le_of_ble_eq_true rfl), (Nat.le_of_ble_eq_true rfl)⟩ (Nat.le_of_ble_eq_true rfl) ⟨rfl, rfl⟩ ⟨(Nat.le_of_ble_eq_true rfl), (Nat.le_of_ble_eq_true rfl)⟩ (fun r9 w9 hp9 => ?_)
  obtain ⟨rfl, rfl⟩ := hp9
  refine Z_if_ne 8 10 dX3_treaty_5 rfl rfl (fun c5 => ?_) (fun c5 => absurd (bI_ne (rngN ht (by omega))) c5)
  refine Z_iload_n 11 2 dX3_treaty_10 rfl rfl ?_
  refine Z_tabIn 76 (off := 65) dX3_treaty_11 (by decide) (by decide) (by decide) rfl ?_
  refine Z_aload_n 77 0 dX3_treaty_76 rfl rfl ?_
  refine Z_getR 80 dX3_treaty_77 rfl fX3_10 (Nat.le_of_ble_eq_true rfl) rfl rfl ?_
  refine Z_getR 83 dX3_treaty_80 rfl fX3_156 (Nat.le_of_ble_eq_true rfl) rfl rfl ?_
  refine Z_iload_n 84 1 dX3_treaty_83 rfl rfl ?_
  refine Z_ialn 85 dX3_treaty_84 rfl (Nat.le_of_ble_eq_true rfl) rfl (by first | assumption | omega) (by decide) ?_
  refine Z_bipush 87 (nI 100) dX3_treaty_85 rfl rfl ?_
  refine Z_iadd 88 dX3_treaty_87 rfl ?_
  exact Z_iret dX3_treaty_88 rfl ⟨rfl, rfl⟩

set_option maxRecDepth 100000 in
set_option maxHeartbeats 4000000 in
theorem zX3_treaty3 {G : zG} {l : Launch} {h : Nat → Nat} {m : zM} (n : Nat) (hk : sOk m 1 n) (t : Nat) (ht : t < n) : zMet G l yX3_treaty mX3_treaty [.ref (G.1 + 0), .int (nI t), .int (nI 3)] (zw h m) (fun r w => r = some (.int (bI (sForce m 1 t))) ∧ w = zw h m) 0 0 := by
  refine zMet_of [(0, .ref (G.1 + 0)), (1, .int (nI t)), (2, .int (nI 3))] (by decide +kernel) rfl (Or.inl rfl) (Nat.le_of_ble_eq_true rfl) rfl ?_
  have hn := hk.2.1
  have ht14 : t < 14 := by omega
  refine Z_aload_n 1 0 dX3_treaty_0 rfl rfl ?_
  refine Z_iload_n 2 1 dX3_treaty_1 rfl rfl ?_
  refine Z_callV 5 [_] 3 (zX3_isTreaty n hk.1 _) dX3_treaty_2 rfl qX3_94 kX3_isTreaty rfl rfl (Nat.le_of_ble_eq_true rfl) rfl rfl ⟨(Nat.le_of_ble_eq_true rfl), (Nat.le_of_ble_eq_true rfl)⟩ (Nat.le_of_ble_eq_true rfl) ⟨rfl, rfl⟩ ⟨(Nat.le_of_ble_eq_true rfl), (Nat.le_of_ble_eq_true rfl)⟩ (fun r9 w9 hp9 => ?_)
  obtain ⟨rfl, rfl⟩ := hp9
  refine Z_if_ne 8 10 dX3_treaty_5 rfl rfl (fun c5 => ?_) (fun c5 => absurd (bI_ne (rngN ht (by omega))) c5)
  refine Z_iload_n 11 2 dX3_treaty_10 rfl rfl ?_
  refine Z_tabIn 89 (off := 78) dX3_treaty_11 (by decide) (by decide) (by decide) rfl ?_
  refine Z_aload_n 90 0 dX3_treaty_89 rfl rfl ?_
  refine Z_getR 93 dX3_treaty_90 rfl fX3_10 (Nat.le_of_ble_eq_true rfl) rfl rfl ?_
  refine Z_iload_n 94 1 dX3_treaty_93 rfl rfl ?_
  refine Z_callV 97 [_] 1 (zX1_isInForce 1 (Or.inl rfl) t ht14) dX3_treaty_94 rfl qX3_113 kX1_isInForce rfl rfl (Nat.le_of_ble_eq_true rfl) rfl rfl ⟨(Nat.le_of_ble_eq_true rfl), (Nat.le_of_ble_eq_true rfl)⟩ (Nat.le_of_ble_eq_true rfl) ⟨rfl, rfl⟩ ⟨(Nat.le_of_ble_eq_true rfl), (Nat.le_of_ble_eq_true rfl)⟩ (fun r9 w9 hp9 => ?_)
  obtain ⟨rfl, rfl⟩ := hp9
  refine Z_if_eq 100 104 dX3_treaty_97 rfl rfl (fun c97 => ?_) (fun c97 => ?_)
  · skip
    refine Z_iconst 105 (nI 0) dX3_treaty_104 rfl rfl ?_
    exact Z_iret dX3_treaty_105 rfl (by first | exact ⟨bI_if c97, rfl⟩ | exact ⟨bI_if0 c97, rfl⟩)
  · skip
    refine Z_iconst 101 (nI 1) dX3_treaty_100 rfl rfl ?_
    refine Z_goto 105 dX3_treaty_101 rfl ?_
    exact Z_iret dX3_treaty_105 rfl (by first | exact ⟨bI_if c97, rfl⟩ | exact ⟨bI_if0 c97, rfl⟩)

set_option maxRecDepth 100000 in
set_option maxHeartbeats 4000000 in
theorem zX3_treaty4 {G : zG} {l : Launch} {h : Nat → Nat} {m : zM} (n : Nat) (hk : sOk m 1 n) (t : Nat) (ht : t < n) : zMet G l yX3_treaty mX3_treaty [.ref (G.1 + 0), .int (nI t), .int (nI 4)] (zw h m) (fun r w => r = some (.int (bI (sBrk m 1 t (nI 0)))) ∧ w = zw h m) 0 0 := by
  refine zMet_of [(0, .ref (G.1 + 0)), (1, .int (nI t)), (2, .int (nI 4))] (by decide +kernel) rfl (Or.inl rfl) (Nat.le_of_ble_eq_true rfl) rfl ?_
  have hn := hk.2.1
  have ht14 : t < 14 := by omega
  refine Z_aload_n 1 0 dX3_treaty_0 rfl rfl ?_
  refine Z_iload_n 2 1 dX3_treaty_1 rfl rfl ?_
  refine Z_callV 5 [_] 3 (zX3_isTreaty n hk.1 _) dX3_treaty_2 rfl qX3_94 kX3_isTreaty rfl rfl (Nat.le_of_ble_eq_true rfl) rfl rfl ⟨(Nat.le_of_ble_eq_true rfl), (Nat.le_of_ble_eq_true rfl)⟩ (Nat.le_of_ble_eq_true rfl) ⟨rfl, rfl⟩ ⟨(Nat.le_of_ble_eq_true rfl), (Nat.le_of_ble_eq_true rfl)⟩ (fun r9 w9 hp9 => ?_)
  obtain ⟨rfl, rfl⟩ := hp9
  refine Z_if_ne 8 10 dX3_treaty_5 rfl rfl (fun c5 => ?_) (fun c5 => absurd (bI_ne (rngN ht (by omega))) c5)
  refine Z_iload_n 11 2 dX3_treaty_10 rfl rfl ?_
  refine Z_tabIn 106 (off := 95) dX3_treaty_11 (by decide) (by decide) (by decide) rfl ?_
  refine Z_aload_n 107 0 dX3_treaty_106 rfl rfl ?_
  refine Z_getR 110 dX3_treaty_107 rfl fX3_10 (Nat.le_of_ble_eq_true rfl) rfl rfl ?_
  refine Z_iload_n 111 1 dX3_treaty_110 rfl rfl ?_
  refine Z_callV 114 [_] 1 (zX1_isBroken 1 (Or.inl rfl) n hk t ht) dX3_treaty_111 rfl qX3_104 kX1_isBroken rfl rfl (Nat.le_of_ble_eq_true rfl) rfl rfl ⟨(Nat.le_of_ble_eq_true rfl), (Nat.le_of_ble_eq_true rfl)⟩ (Nat.le_of_ble_eq_true rfl) ⟨rfl, rfl⟩ ⟨(Nat.le_of_ble_eq_true rfl), (Nat.le_of_ble_eq_true rfl)⟩ (fun r9 w9 hp9 => ?_)
  obtain ⟨rfl, rfl⟩ := hp9
  refine Z_if_eq 117 121 dX3_treaty_114 rfl rfl (fun c114 => ?_) (fun c114 => ?_)
  · skip
    refine Z_iconst 122 (nI 0) dX3_treaty_121 rfl rfl ?_
    exact Z_iret dX3_treaty_122 rfl (by first | exact ⟨bI_if c114, rfl⟩ | exact ⟨bI_if0 c114, rfl⟩)
  · skip
    refine Z_iconst 118 (nI 1) dX3_treaty_117 rfl rfl ?_
    refine Z_goto 122 dX3_treaty_118 rfl ?_
    exact Z_iret dX3_treaty_122 rfl (by first | exact ⟨bI_if c114, rfl⟩ | exact ⟨bI_if0 c114, rfl⟩)

set_option maxRecDepth 100000 in
set_option maxHeartbeats 4000000 in
theorem zX3_treaty5 {G : zG} {l : Launch} {h : Nat → Nat} {m : zM} (n : Nat) (hk : sOk m 1 n) (t : Nat) (ht : t < n) : zMet G l yX3_treaty mX3_treaty [.ref (G.1 + 0), .int (nI t), .int (nI 5)] (zw h m) (fun r w => r = some (.int (slackA m 1 t (nI 0) + nI 1000)) ∧ w = zw h m) 0 0 := by
  refine zMet_of [(0, .ref (G.1 + 0)), (1, .int (nI t)), (2, .int (nI 5))] (by decide +kernel) rfl (Or.inl rfl) (Nat.le_of_ble_eq_true rfl) rfl ?_
  have hn := hk.2.1
  have ht14 : t < 14 := by omega
  refine Z_aload_n 1 0 dX3_treaty_0 rfl rfl ?_
  refine Z_iload_n 2 1 dX3_treaty_1 rfl rfl ?_
  refine Z_callV 5 [_] 3 (zX3_isTreaty n hk.1 _) dX3_treaty_2 rfl qX3_94 kX3_isTreaty rfl rfl (Nat.le_of_ble_eq_true rfl) rfl rfl ⟨(Nat.le_of_ble_eq_true rfl), (Nat.le_of_ble_eq_true rfl)⟩ (Nat.le_of_ble_eq_true rfl) ⟨rfl, rfl⟩ ⟨(Nat.le_of_ble_eq_true rfl), (Nat.le_of_ble_eq_true rfl)⟩ (fun r9 w9 hp9 => ?_)
  obtain ⟨rfl, rfl⟩ := hp9
  refine Z_if_ne 8 10 dX3_treaty_5 rfl rfl (fun c5 => ?_) (fun c5 => absurd (bI_ne (rngN ht (by omega))) c5)
  refine Z_iload_n 11 2 dX3_treaty_10 rfl rfl ?_
  refine Z_tabIn 123 (off := 112) dX3_treaty_11 (by decide) (by decide) (by decide) rfl ?_
  refine Z_aload_n 124 0 dX3_treaty_123 rfl rfl ?_
  refine Z_getR 127 dX3_treaty_124 rfl fX3_10 (Nat.le_of_ble_eq_true rfl) rfl rfl ?_
  refine Z_iload_n 128 1 dX3_treaty_127 rfl rfl ?_
  refine Z_iconst 129 (nI 0) dX3_treaty_128 rfl rfl ?_
  refine Z_callV 132 [_, _] 1 (zX1_slackAfter 1 (Or.inl rfl) n hk t ht (nI 0)) dX3_treaty_129 rfl qX3_159 kX1_slackAfter rfl rfl (Nat.le_of_ble_eq_true rfl) rfl rfl ⟨(Nat.le_of_ble_eq_true rfl), (Nat.le_of_ble_eq_true rfl)⟩ (Nat.le_of_ble_eq_true rfl) ⟨rfl, rfl⟩ ⟨(Nat.le_of_ble_eq_true rfl), (Nat.le_of_ble_eq_true rfl)⟩ (fun r9 w9 hp9 => ?_)
  obtain ⟨rfl, rfl⟩ := hp9
  refine Z_sipush 135 (nI 1000) dX3_treaty_132 rfl rfl ?_
  refine Z_iadd 136 dX3_treaty_135 rfl ?_
  exact Z_iret dX3_treaty_136 rfl ⟨rfl, rfl⟩

set_option maxRecDepth 100000 in
set_option maxHeartbeats 4000000 in
theorem zX3_treaty6 {G : zG} {l : Launch} {h : Nat → Nat} {m : zM} (n : Nat) (hk : sOk m 1 n) (t : Nat) (ht : t < n) : zMet G l yX3_treaty mX3_treaty [.ref (G.1 + 0), .int (nI t), .int (nI 6)] (zw h m) (fun r w => r = some (.int (m 9 t)) ∧ w = zw h m) 0 0 := by
  refine zMet_of [(0, .ref (G.1 + 0)), (1, .int (nI t)), (2, .int (nI 6))] (by decide +kernel) rfl (Or.inl rfl) (Nat.le_of_ble_eq_true rfl) rfl ?_
  have hn := hk.2.1
  have ht14 : t < 14 := by omega
  refine Z_aload_n 1 0 dX3_treaty_0 rfl rfl ?_
  refine Z_iload_n 2 1 dX3_treaty_1 rfl rfl ?_
  refine Z_callV 5 [_] 3 (zX3_isTreaty n hk.1 _) dX3_treaty_2 rfl qX3_94 kX3_isTreaty rfl rfl (Nat.le_of_ble_eq_true rfl) rfl rfl ⟨(Nat.le_of_ble_eq_true rfl), (Nat.le_of_ble_eq_true rfl)⟩ (Nat.le_of_ble_eq_true rfl) ⟨rfl, rfl⟩ ⟨(Nat.le_of_ble_eq_true rfl), (Nat.le_of_ble_eq_true rfl)⟩ (fun r9 w9 hp9 => ?_)
  obtain ⟨rfl, rfl⟩ := hp9
  refine Z_if_ne 8 10 dX3_treaty_5 rfl rfl (fun c5 => ?_) (fun c5 => absurd (bI_ne (rngN ht (by omega))) c5)
  refine Z_iload_n 11 2 dX3_treaty_10 rfl rfl ?_
  refine Z_tabIn 137 (off := 126) dX3_treaty_11 (by decide) (by decide) (by decide) rfl ?_
  refine Z_aload_n 138 0 dX3_treaty_137 rfl rfl ?_
  refine Z_getR 141 dX3_treaty_138 rfl fX3_10 (Nat.le_of_ble_eq_true rfl) rfl rfl ?_
  refine Z_getR 144 dX3_treaty_141 rfl fX3_110 (Nat.le_of_ble_eq_true rfl) rfl rfl ?_
  refine Z_iload_n 145 1 dX3_treaty_144 rfl rfl ?_
  refine Z_ialn 146 dX3_treaty_145 rfl (Nat.le_of_ble_eq_true rfl) rfl (by first | assumption | omega) (by decide) ?_
  exact Z_iret dX3_treaty_146 rfl ⟨rfl, rfl⟩

set_option maxRecDepth 100000 in
set_option maxHeartbeats 4000000 in
theorem eX3_treatyA {G : zG} {l : Launch} {h : Nat → Nat} {m : zM} (n : Nat) (hk : m 1 8 = nI n) (x y : Int32) (hx : ¬ (¬ x < 0 ∧ x < nI n)) : zMet G l yX3_treaty mX3_treaty [.ref (G.1 + 0), .int x, .int y] (zw h m) (fun r w => r = some (.int (-1)) ∧ w = zw h m) 0 0 := by
  refine zMet_of [(0, .ref (G.1 + 0)), (1, .int x), (2, .int y)] (by decide +kernel) rfl (Or.inl rfl) (Nat.le_of_ble_eq_true rfl) rfl ?_
  refine Z_aload_n 1 0 dX3_treaty_0 rfl rfl ?_
  refine Z_iload_n 2 1 dX3_treaty_1 rfl rfl ?_
  refine Z_callV 5 [_] 3 (zX3_isTreaty n hk _) dX3_treaty_2 rfl qX3_94 kX3_isTreaty rfl rfl (Nat.le_of_ble_eq_true rfl) rfl rfl ⟨(Nat.le_of_ble_eq_true rfl), (Nat.le_of_ble_eq_true rfl)⟩ (Nat.le_of_ble_eq_true rfl) ⟨rfl, rfl⟩ ⟨(Nat.le_of_ble_eq_true rfl), (Nat.le_of_ble_eq_true rfl)⟩ (fun r9 w9 hp9 => ?_)
  obtain ⟨rfl, rfl⟩ := hp9
  refine Z_if_ne 8 10 dX3_treaty_5 rfl rfl (fun c5 => absurd c5 (fun q => q (bI_z hx))) (fun c5 => ?_)
  refine Z_iconst 9 (-1) dX3_treaty_8 rfl rfl ?_
  exact Z_iret dX3_treaty_9 rfl ⟨rfl, rfl⟩

set_option maxRecDepth 100000 in
set_option maxHeartbeats 4000000 in
theorem eX3_treatyB {G : zG} {l : Launch} {h : Nat → Nat} {m : zM} (n : Nat) (hn : n ≤ 14) (hk : m 1 8 = nI n) (t : Nat) (ht : t < n) (y : Int32) (hne : y.toInt < 0 ∨ 7 < y.toInt) : zMet G l yX3_treaty mX3_treaty [.ref (G.1 + 0), .int (nI t), .int y] (zw h m) (fun r w => r = some (.int (-1)) ∧ w = zw h m) 0 0 := by
  refine zMet_of [(0, .ref (G.1 + 0)), (1, .int (nI t)), (2, .int y)] (by decide +kernel) rfl (Or.inl rfl) (Nat.le_of_ble_eq_true rfl) rfl ?_
  refine Z_aload_n 1 0 dX3_treaty_0 rfl rfl ?_
  refine Z_iload_n 2 1 dX3_treaty_1 rfl rfl ?_
  refine Z_callV 5 [_] 3 (zX3_isTreaty n hk _) dX3_treaty_2 rfl qX3_94 kX3_isTreaty rfl rfl (Nat.le_of_ble_eq_true rfl) rfl rfl ⟨(Nat.le_of_ble_eq_true rfl), (Nat.le_of_ble_eq_true rfl)⟩ (Nat.le_of_ble_eq_true rfl) ⟨rfl, rfl⟩ ⟨(Nat.le_of_ble_eq_true rfl), (Nat.le_of_ble_eq_true rfl)⟩ (fun r9 w9 hp9 => ?_)
  obtain ⟨rfl, rfl⟩ := hp9
  refine Z_if_ne 8 10 dX3_treaty_5 rfl rfl (fun c5 => ?_) (fun c5 => absurd (bI_ne (rngN ht (by omega))) c5)
  refine Z_iload_n 11 2 dX3_treaty_10 rfl rfl ?_
  refine Z_tabOut 161 dX3_treaty_11 hne rfl ?_
  refine Z_iconst 162 (-1) dX3_treaty_161 rfl rfl ?_
  exact Z_iret dX3_treaty_162 rfl ⟨rfl, rfl⟩

set_option maxRecDepth 100000 in
set_option maxHeartbeats 4000000 in
theorem eX3_ifDaysA {G : zG} {l : Launch} {h : Nat → Nat} {m : zM} (x y : Int32) (hne : ¬ (¬ x < nI 1 ∧ ¬ nI 30 < x)) : zMet G l yX3_ifDays mX3_ifDays [.ref (G.1 + 0), .int x, .int y] (zw h m) (fun r w => r = some (.int (-1)) ∧ w = zw h m) 0 0 := by
  refine zMet_of [(0, .ref (G.1 + 0)), (1, .int x), (2, .int y)] (by decide +kernel) rfl (Or.inl rfl) (Nat.le_of_ble_eq_true rfl) rfl ?_
  refine Z_iload_n 1 1 dX3_ifDays_0 rfl rfl ?_
  refine Z_iconst 2 (nI 1) dX3_ifDays_1 rfl rfl ?_
  refine Z_icmp_lt 5 11 dX3_ifDays_2 rfl rfl (fun c2 => ?_) (fun c2 => ?_)
  · skip
    refine Z_iconst 12 (-1) dX3_ifDays_11 rfl rfl ?_
    exact Z_iret dX3_ifDays_12 rfl ⟨rfl, rfl⟩
  · skip
    refine Z_iload_n 6 1 dX3_ifDays_5 rfl rfl ?_
    refine Z_bipush 8 (nI 30) dX3_ifDays_6 rfl rfl ?_
    refine Z_icmp_le 11 13 dX3_ifDays_8 rfl rfl (fun c8 => ?_) (fun c8 => ?_)
    · skip
      exact absurd ⟨c2, Int32.not_lt.mpr c8⟩ hne
    · skip
      refine Z_iconst 12 (-1) dX3_ifDays_11 rfl rfl ?_
      exact Z_iret dX3_ifDays_12 rfl ⟨rfl, rfl⟩

theorem look2 (x : Int32) (a b d : Int) (h0 : ¬ x = nI 0) (h1 : ¬ x = nI 1) : Op.lookupswitch.offset [(0, a), (1, b)] d x.toInt = d := by
  have e0 : ¬ x.toInt = 0 := fun q => h0 (i32_eq.mpr (q.trans (by decide)))
  have e1 : ¬ x.toInt = 1 := fun q => h1 (i32_eq.mpr (q.trans (by decide)))
  simp [Op.lookupswitch.offset, e0, e1, Ne.symm e0, Ne.symm e1]
set_option maxRecDepth 100000 in
set_option maxHeartbeats 4000000 in
theorem eX3_ifDaysB {G : zG} {l : Launch} {h : Nat → Nat} {m : zM} (x : Int32) (hx0 : ¬ x < nI 1) (hx1 : ¬ nI 30 < x) (y : Int32) (h0 : ¬ y = nI 0) (h1 : ¬ y = nI 1) : zMet G l yX3_ifDays mX3_ifDays [.ref (G.1 + 0), .int x, .int y] (zw h m) (fun r w => r = some (.int (-1)) ∧ w = zw h m) 0 0 := by
  refine zMet_of [(0, .ref (G.1 + 0)), (1, .int x), (2, .int y)] (by decide +kernel) rfl (Or.inl rfl) (Nat.le_of_ble_eq_true rfl) rfl ?_
  refine Z_iload_n 1 1 dX3_ifDays_0 rfl rfl ?_
  refine Z_iconst 2 (nI 1) dX3_ifDays_1 rfl rfl ?_
  refine Z_icmp_lt 5 11 dX3_ifDays_2 rfl rfl (fun c2 => absurd c2 (hx0)) (fun c2 => ?_)
  refine Z_iload_n 6 1 dX3_ifDays_5 rfl rfl ?_
  refine Z_bipush 8 (nI 30) dX3_ifDays_6 rfl rfl ?_
  refine Z_icmp_le 11 13 dX3_ifDays_8 rfl rfl (fun c8 => ?_) (fun c8 => absurd (Int32.not_lt.mp hx1) c8)
  refine Z_iload_n 14 2 dX3_ifDays_13 rfl rfl ?_
  refine Z_look 59 (off := 45) dX3_ifDays_14 (by decide) (look2 y _ _ _ h0 h1) rfl ?_
  refine Z_iconst 60 (-1) dX3_ifDays_59 rfl rfl ?_
  exact Z_iret dX3_ifDays_60 rfl ⟨rfl, rfl⟩

set_option maxRecDepth 100000 in
set_option maxHeartbeats 4000000 in
theorem zX3_ifDays0 {G : zG} {l : Launch} {h : Nat → Nat} {m : zM} (n : Nat) (hk : sOk m 1 n) (x : Int32) (hx0 : ¬ x < nI 1) (hx1 : ¬ nI 30 < x) : zMet G l yX3_ifDays mX3_ifDays [.ref (G.1 + 0), .int x, .int (nI 0)] (zw h m) (fun r w => r = some (.int (nI (cnt (fun j => decide (sBrk (m) 1 j (x))) n))) ∧ w = zw h m) 0 0 := by
  refine zMet_of [(0, .ref (G.1 + 0)), (1, .int x), (2, .int (nI 0))] (by decide +kernel) rfl (Or.inl rfl) (Nat.le_of_ble_eq_true rfl) rfl ?_
  refine Z_iload_n 1 1 dX3_ifDays_0 rfl rfl ?_
  refine Z_iconst 2 (nI 1) dX3_ifDays_1 rfl rfl ?_
  refine Z_icmp_lt 5 11 dX3_ifDays_2 rfl rfl (fun c2 => absurd c2 (hx0)) (fun c2 => ?_)
  refine Z_iload_n 6 1 dX3_ifDays_5 rfl rfl ?_
  refine Z_bipush 8 (nI 30) dX3_ifDays_6 rfl rfl ?_
  refine Z_icmp_le 11 13 dX3_ifDays_8 rfl rfl (fun c8 => ?_) (fun c8 => absurd (Int32.not_lt.mp hx1) c8)
  refine Z_iload_n 14 2 dX3_ifDays_13 rfl rfl ?_
  refine Z_look 40 (off := 26) dX3_ifDays_14 (by decide) (by decide) rfl ?_
  refine Z_aload_n 41 0 dX3_ifDays_40 rfl rfl ?_
  refine Z_getR 44 dX3_ifDays_41 rfl fX3_10 (Nat.le_of_ble_eq_true rfl) rfl rfl ?_
  refine Z_iconst 45 (-1) dX3_ifDays_44 rfl rfl ?_
  refine Z_iload_n 46 1 dX3_ifDays_45 rfl rfl ?_
  refine Z_callV 49 [_, _] 1 (zX1_countBroken 1 (Or.inl rfl) n hk (-1) x) dX3_ifDays_46 rfl qX3_83 kX1_countBroken rfl rfl (Nat.le_of_ble_eq_true rfl) rfl rfl ⟨(Nat.le_of_ble_eq_true rfl), (Nat.le_of_ble_eq_true rfl)⟩ (Nat.le_of_ble_eq_true rfl) ⟨rfl, rfl⟩ ⟨(Nat.le_of_ble_eq_true rfl), (Nat.le_of_ble_eq_true rfl)⟩ (fun r9 w9 hp9 => ?_)
  obtain ⟨rfl, rfl⟩ := hp9
  exact Z_iret dX3_ifDays_49 rfl ⟨congrArg (fun z => some (Value.int (nI z))) brk_0, rfl⟩

set_option maxRecDepth 100000 in
set_option maxHeartbeats 4000000 in
theorem zX3_ifDays1 {G : zG} {l : Launch} {h : Nat → Nat} {m : zM} (n : Nat) (hk : sOk m 1 n) (x : Int32) (hx0 : ¬ x < nI 1) (hx1 : ¬ nI 30 < x) : zMet G l yX3_ifDays mX3_ifDays [.ref (G.1 + 0), .int x, .int (nI 1)] (zw h m) (fun r w => r = some (.int (sumI (fun i => hAft m 1 i x) 8)) ∧ w = zw h m) 0 0 := by
  refine zMet_of [(0, .ref (G.1 + 0)), (1, .int x), (2, .int (nI 1))] (by decide +kernel) rfl (Or.inl rfl) (Nat.le_of_ble_eq_true rfl) rfl ?_
  refine Z_iload_n 1 1 dX3_ifDays_0 rfl rfl ?_
  refine Z_iconst 2 (nI 1) dX3_ifDays_1 rfl rfl ?_
  refine Z_icmp_lt 5 11 dX3_ifDays_2 rfl rfl (fun c2 => absurd c2 (hx0)) (fun c2 => ?_)
  refine Z_iload_n 6 1 dX3_ifDays_5 rfl rfl ?_
  refine Z_bipush 8 (nI 30) dX3_ifDays_6 rfl rfl ?_
  refine Z_icmp_le 11 13 dX3_ifDays_8 rfl rfl (fun c8 => ?_) (fun c8 => absurd (Int32.not_lt.mp hx1) c8)
  refine Z_iload_n 14 2 dX3_ifDays_13 rfl rfl ?_
  refine Z_look 50 (off := 36) dX3_ifDays_14 (by decide) (by decide) rfl ?_
  refine Z_aload_n 51 0 dX3_ifDays_50 rfl rfl ?_
  refine Z_getR 54 dX3_ifDays_51 rfl fX3_10 (Nat.le_of_ble_eq_true rfl) rfl rfl ?_
  refine Z_iload_n 55 1 dX3_ifDays_54 rfl rfl ?_
  refine Z_callV 58 [_] 1 (zX1_heightsAfter 1 (Or.inl rfl) x) dX3_ifDays_55 rfl qX3_203 kX1_heightsAfter rfl rfl (Nat.le_of_ble_eq_true rfl) rfl rfl ⟨(Nat.le_of_ble_eq_true rfl), (Nat.le_of_ble_eq_true rfl)⟩ (Nat.le_of_ble_eq_true rfl) ⟨rfl, rfl⟩ ⟨(Nat.le_of_ble_eq_true rfl), (Nat.le_of_ble_eq_true rfl)⟩ (fun r9 w9 hp9 => ?_)
  obtain ⟨rfl, rfl⟩ := hp9
  exact Z_iret dX3_ifDays_58 rfl ⟨rfl, rfl⟩

abbrev bcA (m : zM) (n k : Nat) : Nat := cnt (fun j => decide (sBrk m 1 j (nI k))) n
def brkIn (f : Nat → Nat) (r : Int32) : Prop := (∃ k, k ≤ 60 ∧ (∀ j, j < k → f j = 0) ∧ 0 < f k ∧ r = nI k) ∨ ((∀ j, j ≤ 60 → f j = 0) ∧ r = -4)
theorem brkIn_1 {f g : Nat → Nat} {r r' : Int32} (hfg : ∀ k, k ≤ 60 → (f k = 0 ↔ g k = 0)) (h1 : brkIn f r) (h2 : brkIn g r') : r = r' := by
  rcases h1 with ⟨k, a1, a2, a3, rfl⟩ | ⟨a2, rfl⟩
  · rcases h2 with ⟨k', b1, b2, b3, rfl⟩ | ⟨b2, rfl⟩
    · have e : k = k' := by
        rcases Nat.lt_trichotomy k k' with q | q | q
        · have := (hfg k a1).mpr (b2 k q)
          omega
        · exact q
        · have := (hfg k' b1).mp (a2 k' q)
          omega
      rw [e]
    · have := (hfg k a1).mpr (b2 k a1)
      omega
  · rcases h2 with ⟨k', b1, b2, b3, rfl⟩ | ⟨b2, rfl⟩
    · have := (hfg k' b1).mp (a2 k' b1)
      omega
    · rfl
set_option maxRecDepth 100000 in
set_option maxHeartbeats 4000000 in
theorem lX3_breaksIn {G : zG} {l : Launch} {h : Nat → Nat} {m : zM} (n : Nat) (hk : sOk m 1 n) : ∀ (t i : Nat), i + t = 61 → (∀ j, j < i → bcA m n j = 0) → Z G mX3_breaksIn (fun _ => True) (zN G (fun r w => (∃ v, r = some (.int v) ∧ brkIn (bcA m n) v) ∧ w = zw h m) 0 0) l 0 0 (zw h m) 2 [(1, .int (nI i)), (0, .ref (G.1 + 0))] [] := by
  intro t
  induction t with
  | zero =>
    intro i hi hy
    have e9 : i = 61 := by omega
    subst e9
    refine Z_iload_n 3 0 dX3_breaksIn_2 rfl rfl ?_
    refine Z_bipush 5 (nI 60) dX3_breaksIn_3 rfl rfl ?_
    refine Z_icmp_gt 8 28 dX3_breaksIn_5 rfl rfl (fun c5 => ?_) (fun c5 => absurd (nI_lt (show 60 < 61 by decide) (by decide)) c5)
    refine Z_bipush 30 (-4) dX3_breaksIn_28 rfl rfl ?_
    exact Z_iret dX3_breaksIn_30 rfl ⟨⟨_, rfl, Or.inr ⟨fun j hj => hy j (by omega), rfl⟩⟩, rfl⟩
  | succ t ih =>
    intro i hi hy
    have hlt : i < 61 := by omega
    refine Z_iload_n 3 0 dX3_breaksIn_2 rfl rfl ?_
    refine Z_bipush 5 (nI 60) dX3_breaksIn_3 rfl rfl ?_
    refine Z_icmp_gt 8 28 dX3_breaksIn_5 rfl rfl (fun c5 => absurd c5 (nI_nlt (show i ≤ 60 by omega) (by decide))) (fun c5 => ?_)
    refine Z_aload_n 9 1 dX3_breaksIn_8 rfl rfl ?_
    refine Z_getR 12 dX3_breaksIn_9 rfl fX3_10 (Nat.le_of_ble_eq_true rfl) rfl rfl ?_
    refine Z_iconst 13 (-1) dX3_breaksIn_12 rfl rfl ?_
    refine Z_iload_n 14 0 dX3_breaksIn_13 rfl rfl ?_
    refine Z_callV 17 [_, _] 1 (zX1_countBroken 1 (Or.inl rfl) n hk (-1) (nI i)) dX3_breaksIn_14 rfl qX3_83 kX1_countBroken rfl rfl (Nat.le_of_ble_eq_true rfl) rfl rfl ⟨(Nat.le_of_ble_eq_true rfl), (Nat.le_of_ble_eq_true rfl)⟩ (Nat.le_of_ble_eq_true rfl) ⟨rfl, rfl⟩ ⟨(Nat.le_of_ble_eq_true rfl), (Nat.le_of_ble_eq_true rfl)⟩ (fun r9 w9 hp9 => ?_)
    obtain ⟨rfl, rfl⟩ := hp9
    refine Z_top (v' := .int (nI (bcA m n i))) (congrArg (fun z => Value.int (nI z)) brk_0) ?_
    refine Z_if_le 20 22 dX3_breaksIn_17 rfl rfl (fun c17 => ?_) (fun c17 => ?_)
    · skip
      refine Z_iinc 25 [(1, _), (0, _)] 0 _ dX3_breaksIn_22 rfl (Nat.le_of_ble_eq_true rfl) rfl (nI_1 _) rfl ?_
      refine Z_goto 2 dX3_breaksIn_25 rfl ?_
      exact ih (i + 1) (by omega) (fun j hj => by
        rcases Nat.lt_succ_iff_lt_or_eq.mp hj with q | q
        · exact hy j q
        · subst q
          have := (nI_leI (a := bcA m n j) (b := 0) (by have := cnt_le (fun j9 => decide (sBrk m 1 j9 (nI j))) n; have := hk.2.1; unfold bcA; omega) (by decide)).mp c17
          omega)
    · skip
      refine Z_iload_n 21 0 dX3_breaksIn_20 rfl rfl ?_
      exact Z_iret dX3_breaksIn_21 rfl ⟨⟨_, rfl, Or.inl ⟨i, by omega, hy, by have := (nI_leI (a := bcA m n i) (b := 0) (by have := cnt_le (fun j => decide (sBrk m 1 j (nI i))) n; have := hk.2.1; unfold bcA; omega) (by decide)); have h0 : ¬ bcA m n i ≤ 0 := fun q => c17 (this.mpr q); omega, rfl⟩⟩, rfl⟩

set_option maxRecDepth 100000 in
set_option maxHeartbeats 4000000 in
theorem zX3_breaksIn {G : zG} {l : Launch} {h : Nat → Nat} {m : zM} (n : Nat) (hk : sOk m 1 n) : zMet G l yX3_breaksIn mX3_breaksIn [.ref (G.1 + 0)] (zw h m) (fun r w => (∃ v, r = some (.int v) ∧ brkIn (bcA m n) v) ∧ w = zw h m) 0 0 := by
  refine zMet_of [(0, .ref (G.1 + 0))] (by decide +kernel) rfl (Or.inl rfl) (Nat.le_of_ble_eq_true rfl) rfl ?_
  refine Z_iconst 1 (nI 0) dX3_breaksIn_0 rfl rfl ?_
  refine Z_istore_n 2 [(1, _), (0, _)] dX3_breaksIn_1 rfl (Nat.le_of_ble_eq_true rfl) rfl ?_
  exact lX3_breaksIn n hk 61 0 (by omega) (fun j hj => absurd hj (Nat.not_lt_zero j))

set_option maxRecDepth 100000 in
set_option maxHeartbeats 4000000 in
theorem eX3_undo {G : zG} {l : Launch} {h : Nat → Nat} {m : zM} (hst : m 0 5 = nI 0) : zMet G l yX3_undo mX3_undo [.ref (G.1 + 0)] (zw h m) (fun r w => r = some (.int (-2)) ∧ w = zw h m) 0 0 := by
  refine zMet_of [(0, .ref (G.1 + 0))] (by decide +kernel) rfl (Or.inl rfl) (Nat.le_of_ble_eq_true rfl) rfl ?_
  refine Z_aload_n 1 0 dX3_undo_0 rfl rfl ?_
  refine Z_getI 4 dX3_undo_1 rfl fX3_200 (Nat.le_of_ble_eq_true rfl) rfl rfl ?_
  refine Z_top (congrArg Value.int hst) ?_
  refine Z_if_gt 7 10 dX3_undo_4 rfl rfl (fun c4 => absurd c4 (by decide)) (fun c4 => ?_)
  refine Z_bipush 9 (-2) dX3_undo_7 rfl rfl ?_
  exact Z_iret dX3_undo_9 rfl ⟨rfl, rfl⟩

theorem cpM_1 {m : zM} {a k : Nat} (ha : IsH a) : cpM m 1 a 0 k = m 0 k := by
  unfold cpM
  rw [if_neg (by omega)]
set_option maxRecDepth 100000 in
set_option maxHeartbeats 4000000 in
theorem zX3_undo {G : zG} {l : Launch} {h : Nat → Nat} {m : zM} (s : Nat) (hs : s < 4) (hst : m 0 5 = nI (s + 1)) (hh : hOk h) : zMet G l yX3_undo mX3_undo [.ref (G.1 + 0)] (zw h m) (fun r w => r = some (.int (nI s)) ∧ w = zw h (cpM (up2 m 0 5 (nI s)) 1 (h s))) 0 0 := by
  refine zMet_of [(0, .ref (G.1 + 0))] (by decide +kernel) rfl (Or.inl rfl) (Nat.le_of_ble_eq_true rfl) rfl ?_
  have hH := hh.1 s hs
  refine Z_aload_n 1 0 dX3_undo_0 rfl rfl ?_
  refine Z_getI 4 dX3_undo_1 rfl fX3_200 (Nat.le_of_ble_eq_true rfl) rfl rfl ?_
  refine Z_top (congrArg Value.int hst) ?_
  refine Z_if_gt 7 10 dX3_undo_4 rfl rfl (fun c4 => ?_) (fun c4 => absurd (nI_lt (Nat.succ_pos s) (by omega)) c4)
  refine Z_aload_n 11 0 dX3_undo_10 rfl rfl ?_
  refine Z_dup 12 dX3_undo_11 rfl rfl ?_
  refine Z_getI 15 dX3_undo_12 rfl fX3_200 (Nat.le_of_ble_eq_true rfl) rfl rfl ?_
  refine Z_top (congrArg Value.int hst) ?_
  refine Z_iconst 16 (nI 1) dX3_undo_15 rfl rfl ?_
  refine Z_isub 17 dX3_undo_16 rfl ?_
  refine Z_top (v' := .int (nI s)) (congrArg Value.int (nI_pred s)) ?_
  refine Z_putI 20 .int dX3_undo_17 rfl fX3_200 ft_3_5 (Nat.le_of_ble_eq_true rfl) rfl rfl rfl rfl ?_
  refine Z_aload_n 21 0 dX3_undo_20 rfl rfl ?_
  refine Z_getR 24 dX3_undo_21 rfl fX3_10 (Nat.le_of_ble_eq_true rfl) rfl rfl ?_
  refine Z_aload_n 25 0 dX3_undo_24 rfl rfl ?_
  refine Z_getR 28 dX3_undo_25 rfl fX3_19 (Nat.le_of_ble_eq_true rfl) rfl rfl ?_
  refine Z_aload_n 29 0 dX3_undo_28 rfl rfl ?_
  refine Z_getI 32 dX3_undo_29 rfl fX3_200 (Nat.le_of_ble_eq_true rfl) rfl rfl ?_
  refine Z_top (v' := .int (nI s)) (congrArg Value.int (up2_eq _ _ _ _)) ?_
  refine Z_aaln (r := h s) 33 dX3_undo_32 rfl (Nat.le_of_ble_eq_true rfl) rfl hs (by decide) rfl ?_
  refine Z_callV 36 [_] 1 (zX1_copyFrom 1 (h s) (Or.inl rfl) hH.st (Or.inl (by have := hH; unfold IsH at this; omega))) dX3_undo_33 rfl qX3_210 kX1_copyFrom rfl rfl (Nat.le_of_ble_eq_true rfl) rfl rfl ⟨(Nat.le_of_ble_eq_true rfl), (Nat.le_of_ble_eq_true rfl)⟩ (Nat.le_of_ble_eq_true rfl) ⟨rfl, rfl⟩ ⟨(Nat.le_of_ble_eq_true rfl), (Nat.le_of_ble_eq_true rfl)⟩ (fun r9 w9 hp9 => ?_)
  obtain ⟨rfl, rfl⟩ := hp9
  refine Z_aload_n 37 0 dX3_undo_36 rfl rfl ?_
  refine Z_getI 40 dX3_undo_37 rfl fX3_200 (Nat.le_of_ble_eq_true rfl) rfl rfl ?_
  refine Z_top (v' := .int (nI s)) (congrArg Value.int ((cpM_1 hH).trans (up2_eq _ _ _ _))) ?_
  exact Z_iret dX3_undo_40 rfl ⟨rfl, rfl⟩

set_option maxRecDepth 100000 in
set_option maxHeartbeats 4000000 in
theorem zX3_save {G : zG} {l : Launch} {h : Nat → Nat} {m : zM}  : zMet G l yX3_save mX3_save [.ref (G.1 + 0)] (zw h m) (fun r w => r = some (.int (m 1 8)) ∧ w = zw h (up2 (cpM m 10 1) 0 6 (nI 1))) 0 0 := by
  refine zMet_of [(0, .ref (G.1 + 0))] (by decide +kernel) rfl (Or.inl rfl) (Nat.le_of_ble_eq_true rfl) rfl ?_
  refine Z_aload_n 1 0 dX3_save_0 rfl rfl ?_
  refine Z_getR 4 dX3_save_1 rfl fX3_16 (Nat.le_of_ble_eq_true rfl) rfl rfl ?_
  refine Z_aload_n 5 0 dX3_save_4 rfl rfl ?_
  refine Z_getR 8 dX3_save_5 rfl fX3_10 (Nat.le_of_ble_eq_true rfl) rfl rfl ?_
  refine Z_callV 11 [_] 1 (zX1_copyFrom 10 1 (Or.inr (Or.inl rfl)) (Or.inl rfl) (Or.inr (by decide))) dX3_save_8 rfl qX3_210 kX1_copyFrom rfl rfl (Nat.le_of_ble_eq_true rfl) rfl rfl ⟨(Nat.le_of_ble_eq_true rfl), (Nat.le_of_ble_eq_true rfl)⟩ (Nat.le_of_ble_eq_true rfl) ⟨rfl, rfl⟩ ⟨(Nat.le_of_ble_eq_true rfl), (Nat.le_of_ble_eq_true rfl)⟩ (fun r9 w9 hp9 => ?_)
  obtain ⟨rfl, rfl⟩ := hp9
  refine Z_aload_n 12 0 dX3_save_11 rfl rfl ?_
  refine Z_iconst 13 (nI 1) dX3_save_12 rfl rfl ?_
  refine Z_putI 16 .boolean dX3_save_13 rfl fX3_214 ft_3_6 (Nat.le_of_ble_eq_true rfl) rfl rfl rfl rfl ?_
  refine Z_aload_n 17 0 dX3_save_16 rfl rfl ?_
  refine Z_getR 20 dX3_save_17 rfl fX3_10 (Nat.le_of_ble_eq_true rfl) rfl rfl ?_
  refine Z_getI 23 dX3_save_20 rfl fX3_101 (Nat.le_of_ble_eq_true rfl) rfl rfl ?_
  refine Z_top (v' := .int (m 1 8)) (congrArg Value.int (by simp [up2, cpM])) ?_
  exact Z_iret dX3_save_23 rfl ⟨rfl, rfl⟩

set_option maxRecDepth 100000 in
set_option maxHeartbeats 4000000 in
theorem eX3_restore {G : zG} {l : Launch} {h : Nat → Nat} {m : zM} (hst : m 0 6 = nI 0) : zMet G l yX3_restore mX3_restore [.ref (G.1 + 0)] (zw h m) (fun r w => r = some (.int (-2)) ∧ w = zw h m) 0 0 := by
  refine zMet_of [(0, .ref (G.1 + 0))] (by decide +kernel) rfl (Or.inl rfl) (Nat.le_of_ble_eq_true rfl) rfl ?_
  refine Z_aload_n 1 0 dX3_restore_0 rfl rfl ?_
  refine Z_getI 4 dX3_restore_1 rfl fX3_214 (Nat.le_of_ble_eq_true rfl) rfl rfl ?_
  refine Z_top (congrArg Value.int hst) ?_
  refine Z_if_ne 7 10 dX3_restore_4 rfl rfl (fun c4 => absurd c4 (fun q => q rfl)) (fun c4 => ?_)
  refine Z_bipush 9 (-2) dX3_restore_7 rfl rfl ?_
  exact Z_iret dX3_restore_9 rfl ⟨rfl, rfl⟩

set_option maxRecDepth 100000 in
set_option maxHeartbeats 4000000 in
theorem zX3_restore {G : zG} {l : Launch} {h : Nat → Nat} {m : zM} (s : Nat) (hs : s ≤ 4) (hst : m 0 5 = nI s) (hh : hOk h) (hsv : m 0 6 = nI 1) : zMet G l yX3_restore mX3_restore [.ref (G.1 + 0)] (zw h m) (fun r w => r = some (.int (m 10 8)) ∧ w = zw (hRem h s) (cpM (mRem h m s) 1 10)) 0 0 := by
  refine zMet_of [(0, .ref (G.1 + 0))] (by decide +kernel) rfl (Or.inl rfl) (Nat.le_of_ble_eq_true rfl) rfl ?_
  refine Z_aload_n 1 0 dX3_restore_0 rfl rfl ?_
  refine Z_getI 4 dX3_restore_1 rfl fX3_214 (Nat.le_of_ble_eq_true rfl) rfl rfl ?_
  refine Z_top (congrArg Value.int hsv) ?_
  refine Z_if_ne 7 10 dX3_restore_4 rfl rfl (fun c4 => ?_) (fun c4 => absurd (by decide) c4)
  refine Z_aload_n 11 0 dX3_restore_10 rfl rfl ?_
  refine Z_callV 14 [] 3 (zX3_remember s hs hst hh) dX3_restore_11 rfl qX3_41 kX3_remember rfl rfl (Nat.le_of_ble_eq_true rfl) rfl rfl ⟨(Nat.le_of_ble_eq_true rfl), (Nat.le_of_ble_eq_true rfl)⟩ (Nat.le_of_ble_eq_true rfl) ⟨rfl, rfl⟩ ⟨(Nat.le_of_ble_eq_true rfl), (Nat.le_of_ble_eq_true rfl)⟩ (fun r9 w9 hp9 => ?_)
  obtain ⟨rfl, rfl⟩ := hp9
  refine Z_aload_n 15 0 dX3_restore_14 rfl rfl ?_
  refine Z_getR 18 dX3_restore_15 rfl fX3_10 (Nat.le_of_ble_eq_true rfl) rfl rfl ?_
  refine Z_aload_n 19 0 dX3_restore_18 rfl rfl ?_
  refine Z_getR 22 dX3_restore_19 rfl fX3_16 (Nat.le_of_ble_eq_true rfl) rfl rfl ?_
  refine Z_callV 25 [_] 1 (zX1_copyFrom 1 10 (Or.inl rfl) (Or.inr (Or.inl rfl)) (Or.inl (by decide))) dX3_restore_22 rfl qX3_210 kX1_copyFrom rfl rfl (Nat.le_of_ble_eq_true rfl) rfl rfl ⟨(Nat.le_of_ble_eq_true rfl), (Nat.le_of_ble_eq_true rfl)⟩ (Nat.le_of_ble_eq_true rfl) ⟨rfl, rfl⟩ ⟨(Nat.le_of_ble_eq_true rfl), (Nat.le_of_ble_eq_true rfl)⟩ (fun r9 w9 hp9 => ?_)
  obtain ⟨rfl, rfl⟩ := hp9
  refine Z_aload_n 26 0 dX3_restore_25 rfl rfl ?_
  refine Z_getR 29 dX3_restore_26 rfl fX3_10 (Nat.le_of_ble_eq_true rfl) rfl rfl ?_
  refine Z_getI 32 dX3_restore_29 rfl fX3_101 (Nat.le_of_ble_eq_true rfl) rfl rfl ?_
  refine Z_top (v' := .int (m 10 8)) (congrArg Value.int (by have := congrFun (mRem_o (m := m) (s := s) hh (q := 10) (by decide) (by decide)) 8; simp [cpM, this])) ?_
  exact Z_iret dX3_restore_32 rfl ⟨rfl, rfl⟩

def pcV (a b : Nat) : UInt64 := if a = 0 then FP.dconst1 else FP.ddiv (FP.i2d (nI a - nI b)) (FP.i2d (nI a))
theorem pc_num : ∀ a, a < 15 → ∀ b, b < 15 → ¬ a = 0 → (FP.ddiv (FP.i2d (nI a - nI b)) (FP.i2d (nI a))) &&& 0x7fffffffffffffff ≤ 0x7ff0000000000000 := by decide +kernel
set_option maxRecDepth 100000 in
set_option maxHeartbeats 4000000 in
theorem zX3_peace {G : zG} {l : Launch} {h : Nat → Nat} {m : zM} (n : Nat) (hk : sOk m 1 n) : zMet G l yX3_peace mX3_peace [.ref (G.1 + 0)] (zw h m) (fun r w => r = some (.double (pcV (cnt (fun j => decide (sForce m 1 j)) n) (cnt (fun j => decide (sBrk m 1 j (nI 0))) n))) ∧ w = zw h m) 0 0 := by
  refine zMet_of [(0, .ref (G.1 + 0))] (by decide +kernel) rfl (Or.inl rfl) (Nat.le_of_ble_eq_true rfl) rfl ?_
  have hn := hk.2.1
  have h1 := cnt_le (fun j => decide (sForce m 1 j)) n
  have h2 := cnt_le (fun j => decide (sBrk m 1 j (nI 0))) n
  refine Z_aload_n 1 0 dX3_peace_0 rfl rfl ?_
  refine Z_getR 4 dX3_peace_1 rfl fX3_10 (Nat.le_of_ble_eq_true rfl) rfl rfl ?_
  refine Z_iconst 5 (-1) dX3_peace_4 rfl rfl ?_
  refine Z_callV 8 [_] 1 (zX1_countInForce 1 (Or.inl rfl) n hk (-1)) dX3_peace_5 rfl qX3_144 kX1_countInForce rfl rfl (Nat.le_of_ble_eq_true rfl) rfl rfl ⟨(Nat.le_of_ble_eq_true rfl), (Nat.le_of_ble_eq_true rfl)⟩ (Nat.le_of_ble_eq_true rfl) ⟨rfl, rfl⟩ ⟨(Nat.le_of_ble_eq_true rfl), (Nat.le_of_ble_eq_true rfl)⟩ (fun r9 w9 hp9 => ?_)
  obtain ⟨rfl, rfl⟩ := hp9
  refine Z_top (v' := .int (nI (cnt (fun j => decide (sForce m 1 j)) n))) (congrArg (fun z => Value.int (nI z)) brk_0) ?_
  refine Z_istore_n 9 [(1, _), (0, _)] dX3_peace_8 rfl (Nat.le_of_ble_eq_true rfl) rfl ?_
  refine Z_iload_n 10 0 dX3_peace_9 rfl rfl ?_
  refine Z_if_gt 13 15 dX3_peace_10 rfl rfl (fun c10 => ?_) (fun c10 => ?_)
  · skip
    have e0 : ¬ cnt (fun j => decide (sForce m 1 j)) n = 0 := fun q => by
      rw [q] at c10
      exact absurd c10 (by decide)
    refine Z_iload_n 16 0 dX3_peace_15 rfl rfl ?_
    refine Z_aload_n 17 1 dX3_peace_16 rfl rfl ?_
    refine Z_getR 20 dX3_peace_17 rfl fX3_10 (Nat.le_of_ble_eq_true rfl) rfl rfl ?_
    refine Z_iconst 21 (-1) dX3_peace_20 rfl rfl ?_
    refine Z_iconst 22 (nI 0) dX3_peace_21 rfl rfl ?_
    refine Z_callV 25 [_, _] 1 (zX1_countBroken 1 (Or.inl rfl) n hk (-1) (nI 0)) dX3_peace_22 rfl qX3_83 kX1_countBroken rfl rfl (Nat.le_of_ble_eq_true rfl) rfl rfl ⟨(Nat.le_of_ble_eq_true rfl), (Nat.le_of_ble_eq_true rfl)⟩ (Nat.le_of_ble_eq_true rfl) ⟨rfl, rfl⟩ ⟨(Nat.le_of_ble_eq_true rfl), (Nat.le_of_ble_eq_true rfl)⟩ (fun r9 w9 hp9 => ?_)
    obtain ⟨rfl, rfl⟩ := hp9
    refine Z_top (v' := .int (nI (cnt (fun j => decide (sBrk m 1 j (nI 0))) n))) (congrArg (fun z => Value.int (nI z)) brk_0) ?_
    refine Z_isub 26 dX3_peace_25 rfl ?_
    refine Z_i2d 27 dX3_peace_26 rfl ?_
    refine Z_iload_n 28 0 dX3_peace_27 rfl rfl ?_
    refine Z_i2d 29 dX3_peace_28 rfl ?_
    refine Z_ddiv 30 dX3_peace_29 rfl (pc_num _ (by omega) _ (by omega) e0) ?_
    exact Z_dret dX3_peace_30 rfl ⟨by unfold pcV; rw [if_neg e0], rfl⟩
  · skip
    have e0 : cnt (fun j => decide (sForce m 1 j)) n = 0 := by
      rcases Nat.eq_zero_or_pos (cnt (fun j => decide (sForce m 1 j)) n) with q | q
      · exact q
      · exact absurd (nI_lt q (by omega)) c10
    refine Z_dconst1 14 dX3_peace_13 rfl ?_
    exact Z_dret dX3_peace_14 rfl ⟨by unfold pcV; rw [if_pos e0], rfl⟩
