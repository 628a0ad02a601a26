/-! look: one number for all that is seen in the street -/
def cntV (m : zM) (n k : Nat) : Int32 := match k with
  | 0 => m 1 9
  | 1 => nI n
  | 2 => nI (cF m n)
  | 3 => nI (cB m n)
  | 4 => sumI (m 2) 8
  | 5 => nI (cN m)
  | 6 => m 1 10
  | 7 => m 1 11
  | 8 => m 1 12
  | 9 => m 1 13
  | _ => sumI (m 5) 8
theorem v_countK {G : zG} {l : Launch} {h : Nat → Nat} {m mm : zM} {n : Nat} (hF : Fsv m mm) (hk : sOk m 1 n) {k : Nat} (hk11 : k < 11) : zMet G l yX3_count mX3_count [.ref (G.1 + 0), .int (nI k)] (zw h mm) (VP h m (cntV m n k)) 0 0 := by
  have e : k = 0 ∨ k = 1 ∨ k = 2 ∨ k = 3 ∨ k = 4 ∨ k = 5 ∨ k = 6 ∨ k = 7 ∨ k = 8 ∨ k = 9 ∨ k = 10 := by omega
  rcases e with rfl | rfl | rfl | rfl | rfl | rfl | rfl | rfl | rfl | rfl | rfl
  · exact v_count0 hF hk
  · exact v_count1 hF hk
  · exact v_count2 hF hk
  · exact v_count3 hF hk
  · exact v_count4 hF hk
  · exact v_count5 hF hk
  · exact v_count6 hF hk
  · exact v_count7 hF hk
  · exact v_count8 hF hk
  · exact v_count9 hF hk
  · exact v_count10 hF hk
def lkC (m : zM) (n : Nat) : Nat → Int64
  | 0 => 487
  | k + 1 => 31 * lkC m n k + (cntV m n k).toInt64
def lkH (m : zM) (n : Nat) : Nat → Int64
  | 0 => lkC m n 11
  | k + 1 => 31 * (31 * (31 * (31 * lkH m n k + (m 2 k).toInt64) + (m 3 k).toInt64) + (m 4 k).toInt64) + (m 5 k).toInt64
def lkT (m : zM) (n : Nat) : Nat → Int64
  | 0 => lkH m n 8
  | t + 1 => 31 * (31 * (31 * (31 * lkT m n t + (nI (sF m 1 t)).toInt64) + (nI (sO m 1 t)).toInt64) + (m 8 t + nI 100).toInt64) + (m 9 t).toInt64
/-- what look answers -/
def lkV (m : zM) (n : Nat) : Int64 := lkT m n n
theorem cntV_eq {m m' : zM} {n k : Nat} (e : EqS n m m') (hk : sOk m 1 n) : cntV m n k = cntV m' n k := by
  unfold cntV
  split
  · exact e.day
  · rfl
  · exact congrArg nI (cnt_congr n (fun j hj => decide_eq_decide.mpr (e.force hj)))
  · exact congrArg nI (cnt_congr n (fun j hj => decide_eq_decide.mpr (e.brk hk hj (nI 0))))
  · exact sumI_congr 8 (fun j hj => e.h2 hj)
  · exact congrArg nI (cnt_congr 8 (fun j hj => decide_eq_decide.mpr (e.nest hj)))
  · exact e.1 10 (by decide) (by decide)
  · exact e.1 11 (by decide) (by decide)
  · exact e.1 12 (by decide) (by decide)
  · exact e.1 13 (by decide) (by decide)
  · exact sumI_congr 8 (fun j hj => e.2.1 5 (by decide) (by decide) j hj)
theorem lkC_eq {m m' : zM} {n : Nat} (e : EqS n m m') (hk : sOk m 1 n) : ∀ k, lkC m n k = lkC m' n k
  | 0 => rfl
  | k + 1 => by
    unfold lkC
    rw [lkC_eq e hk k, cntV_eq e hk]
theorem lkH_eq {m m' : zM} {n : Nat} (e : EqS n m m') (hk : sOk m 1 n) : ∀ k, k ≤ 8 → lkH m n k = lkH m' n k
  | 0, _ => lkC_eq e hk 11
  | k + 1, h => by
    unfold lkH
    rw [lkH_eq e hk k (by omega), e.2.1 2 (by decide) (by decide) k (by omega), e.2.1 3 (by decide) (by decide) k (by omega), e.2.1 4 (by decide) (by decide) k (by omega), e.2.1 5 (by decide) (by decide) k (by omega)]
theorem lkT_eq {m m' : zM} {n : Nat} (e : EqS n m m') (hk : sOk m 1 n) : ∀ t, t ≤ n → lkT m n t = lkT m' n t
  | 0, _ => lkH_eq e hk 8 (Nat.le_refl 8)
  | t + 1, h => by
    unfold lkT
    rw [lkT_eq e hk t (by omega), e.F (t := t) (by omega), e.O (t := t) (by omega), e.2.2 8 (by decide) (by decide) t (by omega), e.2.2 9 (by decide) (by decide) t (by omega)]
theorem lkV_eq {m m' : zM} {n : Nat} (e : EqS n m m') (hk : sOk m 1 n) : lkV m n = lkV m' n := lkT_eq e hk n (Nat.le_refl n)
set_option maxRecDepth 100000 in
set_option maxHeartbeats 4000000 in
theorem lL_look3 {G : zG} {l : Launch} {h : Nat → Nat} {m : zM} {n : Nat} (hk : sOk m 1 n) : ∀ (t i : Nat), i + t = n → ∀ mm : zM, Fsv m mm → Z G mL_look (fun _ => True) (zN G (fun r w => r = some (.long (lkV m n)) ∧ ∃ m', w = zw h m' ∧ Fsv m m') 0 0) l 0 0 (zw h mm) 98 [(3, .int (nI i)), (1, .long (lkT m n i)), (0, .ref (G.1 + 0))] [] := by
  intro t
  induction t with
  | zero =>
    intro i hi mm hF
    have e9 : i = n := by omega
    subst e9
    have hn := hk.2.1
    refine Z_iload_n 99 0 dL_look_98 rfl rfl ?_
    refine Z_aload_n 100 2 dL_look_99 rfl rfl ?_
    refine Z_iconst 101 (nI 1) dL_look_100 rfl rfl ?_
    refine Z_callV 104 [_] 3 (v_count1 hF hk) dL_look_101 rfl qL_13 kX3_count rfl rfl (Nat.le_of_ble_eq_true rfl) rfl rfl ⟨(Nat.le_of_ble_eq_true rfl), (Nat.le_of_ble_eq_true rfl)⟩ (Nat.le_of_ble_eq_true rfl) ⟨rfl, rfl⟩ ⟨(Nat.le_of_ble_eq_true rfl), (Nat.le_of_ble_eq_true rfl)⟩ (fun r9 w9 hp9 => ?_)
    obtain ⟨rfl, mm, rfl, hF⟩ := hp9
    refine Z_icmp_ge 107 164 dL_look_104 rfl rfl (fun c104 => ?_) (fun c104 => absurd (nI_le (Nat.le_refl _) (by omega)) c104)
    refine Z_lload_n 165 1 dL_look_164 rfl rfl ?_
    exact Z_lret dL_look_165 rfl ⟨rfl, mm, rfl, hF⟩
  | succ t ih =>
    intro i hi mm hF
    have hlt : i < n := by omega
    have hn := hk.2.1
    refine Z_iload_n 99 0 dL_look_98 rfl rfl ?_
    refine Z_aload_n 100 2 dL_look_99 rfl rfl ?_
    refine Z_iconst 101 (nI 1) dL_look_100 rfl rfl ?_
    refine Z_callV 104 [_] 3 (v_count1 hF hk) dL_look_101 rfl qL_13 kX3_count rfl rfl (Nat.le_of_ble_eq_true rfl) rfl rfl ⟨(Nat.le_of_ble_eq_true rfl), (Nat.le_of_ble_eq_true rfl)⟩ (Nat.le_of_ble_eq_true rfl) ⟨rfl, rfl⟩ ⟨(Nat.le_of_ble_eq_true rfl), (Nat.le_of_ble_eq_true rfl)⟩ (fun r9 w9 hp9 => ?_)
    obtain ⟨rfl, mm, rfl, hF⟩ := hp9
    refine Z_icmp_ge 107 164 dL_look_104 rfl rfl (fun c104 => absurd c104 (nI_ge hlt (by omega))) (fun c104 => ?_)
    refine Z_ldc2 110 31 dL_look_107 rfl kJ_11 ?_
    refine Z_ldc2 113 31 dL_look_110 rfl kJ_11 ?_
    refine Z_ldc2 116 31 dL_look_113 rfl kJ_11 ?_
    refine Z_ldc2 119 31 dL_look_116 rfl kJ_11 ?_
    refine Z_lload_n 120 1 dL_look_119 rfl rfl ?_
    refine Z_lmul 121 dL_look_120 rfl ?_
    refine Z_aload_n 122 2 dL_look_121 rfl rfl ?_
    refine Z_iload_n 123 0 dL_look_122 rfl rfl ?_
    refine Z_iconst 124 (nI 0) dL_look_123 rfl rfl ?_
    refine Z_callV 127 [_, _] 3 (v_treaty0 hF hk (by first | assumption | omega)) dL_look_124 rfl qL_23 kX3_treaty rfl rfl (Nat.le_of_ble_eq_true rfl) rfl rfl ⟨(Nat.le_of_ble_eq_true rfl), (Nat.le_of_ble_eq_true rfl)⟩ (Nat.le_of_ble_eq_true rfl) ⟨rfl, rfl⟩ ⟨(Nat.le_of_ble_eq_true rfl), (Nat.le_of_ble_eq_true rfl)⟩ (fun r9 w9 hp9 => ?_)
    obtain ⟨rfl, mm, rfl, hF⟩ := hp9
    refine Z_i2l 128 dL_look_127 rfl ?_
    refine Z_ladd 129 dL_look_128 rfl ?_
    refine Z_lmul 130 dL_look_129 rfl ?_
    refine Z_aload_n 131 2 dL_look_130 rfl rfl ?_
    refine Z_iload_n 132 0 dL_look_131 rfl rfl ?_
    refine Z_iconst 133 (nI 1) dL_look_132 rfl rfl ?_
    refine Z_callV 136 [_, _] 3 (v_treaty1 hF hk (by first | assumption | omega)) dL_look_133 rfl qL_23 kX3_treaty rfl rfl (Nat.le_of_ble_eq_true rfl) rfl rfl ⟨(Nat.le_of_ble_eq_true rfl), (Nat.le_of_ble_eq_true rfl)⟩ (Nat.le_of_ble_eq_true rfl) ⟨rfl, rfl⟩ ⟨(Nat.le_of_ble_eq_true rfl), (Nat.le_of_ble_eq_true rfl)⟩ (fun r9 w9 hp9 => ?_)
    obtain ⟨rfl, mm, rfl, hF⟩ := hp9
    refine Z_i2l 137 dL_look_136 rfl ?_
    refine Z_ladd 138 dL_look_137 rfl ?_
    refine Z_lmul 139 dL_look_138 rfl ?_
    refine Z_aload_n 140 2 dL_look_139 rfl rfl ?_
    refine Z_iload_n 141 0 dL_look_140 rfl rfl ?_
    refine Z_iconst 142 (nI 2) dL_look_141 rfl rfl ?_
    refine Z_callV 145 [_, _] 3 (v_treaty2 hF hk (by first | assumption | omega)) dL_look_142 rfl qL_23 kX3_treaty rfl rfl (Nat.le_of_ble_eq_true rfl) rfl rfl ⟨(Nat.le_of_ble_eq_true rfl), (Nat.le_of_ble_eq_true rfl)⟩ (Nat.le_of_ble_eq_true rfl) ⟨rfl, rfl⟩ ⟨(Nat.le_of_ble_eq_true rfl), (Nat.le_of_ble_eq_true rfl)⟩ (fun r9 w9 hp9 => ?_)
    obtain ⟨rfl, mm, rfl, hF⟩ := hp9
    refine Z_i2l 146 dL_look_145 rfl ?_
    refine Z_ladd 147 dL_look_146 rfl ?_
    refine Z_lmul 148 dL_look_147 rfl ?_
    refine Z_aload_n 149 2 dL_look_148 rfl rfl ?_
    refine Z_iload_n 150 0 dL_look_149 rfl rfl ?_
    refine Z_bipush 152 (nI 6) dL_look_150 rfl rfl ?_
    refine Z_callV 155 [_, _] 3 (v_treaty6 hF hk (by first | assumption | omega)) dL_look_152 rfl qL_23 kX3_treaty rfl rfl (Nat.le_of_ble_eq_true rfl) rfl rfl ⟨(Nat.le_of_ble_eq_true rfl), (Nat.le_of_ble_eq_true rfl)⟩ (Nat.le_of_ble_eq_true rfl) ⟨rfl, rfl⟩ ⟨(Nat.le_of_ble_eq_true rfl), (Nat.le_of_ble_eq_true rfl)⟩ (fun r9 w9 hp9 => ?_)
    obtain ⟨rfl, mm, rfl, hF⟩ := hp9
    refine Z_i2l 156 dL_look_155 rfl ?_
    refine Z_ladd 157 dL_look_156 rfl ?_
    refine Z_lstore_n 158 [(1, _), (3, _), (0, _)] dL_look_157 rfl (Nat.le_of_ble_eq_true rfl) rfl ?_
    refine Z_iinc 161 [(3, _), (1, _), (0, _)] 1 _ dL_look_158 rfl (Nat.le_of_ble_eq_true rfl) rfl (nI_1 _) rfl ?_
    refine Z_goto 98 dL_look_161 rfl ?_
    exact ih (i + 1) (by omega) _ hF

set_option maxRecDepth 100000 in
set_option maxHeartbeats 4000000 in
theorem lL_look2 {G : zG} {l : Launch} {h : Nat → Nat} {m : zM} {n : Nat} (hk : sOk m 1 n) : ∀ (t i : Nat), i + t = 8 → ∀ mm : zM, Fsv m mm → Z G mL_look (fun _ => True) (zN G (fun r w => r = some (.long (lkV m n)) ∧ ∃ m', w = zw h m' ∧ Fsv m m') 0 0) l 0 0 (zw h mm) 33 [(3, .int (nI i)), (1, .long (lkH m n i)), (0, .ref (G.1 + 0))] [] := by
  intro t
  induction t with
  | zero =>
    intro i hi mm hF
    have e9 : i = 8 := by omega
    subst e9
    refine Z_iload_n 34 0 dL_look_33 rfl rfl ?_
    refine Z_bipush 36 (nI 8) dL_look_34 rfl rfl ?_
    refine Z_icmp_ge 39 96 dL_look_36 rfl rfl (fun c36 => ?_) (fun c36 => absurd (nI_le (Nat.le_refl _) (by omega)) c36)
    refine Z_iconst 97 (nI 0) dL_look_96 rfl rfl ?_
    refine Z_istore_n 98 [(3, _), (1, _), (0, _)] dL_look_97 rfl (Nat.le_of_ble_eq_true rfl) rfl ?_
    refine Z_lv [0, 1, 2] rfl ?_
    exact lL_look3 hk n 0 (by omega) mm hF
  | succ t ih =>
    intro i hi mm hF
    have hlt : i < 8 := by omega
    refine Z_iload_n 34 0 dL_look_33 rfl rfl ?_
    refine Z_bipush 36 (nI 8) dL_look_34 rfl rfl ?_
    refine Z_icmp_ge 39 96 dL_look_36 rfl rfl (fun c36 => absurd c36 (nI_ge hlt (by omega))) (fun c36 => ?_)
    refine Z_ldc2 42 31 dL_look_39 rfl kJ_11 ?_
    refine Z_ldc2 45 31 dL_look_42 rfl kJ_11 ?_
    refine Z_ldc2 48 31 dL_look_45 rfl kJ_11 ?_
    refine Z_ldc2 51 31 dL_look_48 rfl kJ_11 ?_
    refine Z_lload_n 52 1 dL_look_51 rfl rfl ?_
    refine Z_lmul 53 dL_look_52 rfl ?_
    refine Z_aload_n 54 2 dL_look_53 rfl rfl ?_
    refine Z_iload_n 55 0 dL_look_54 rfl rfl ?_
    refine Z_iconst 56 (nI 0) dL_look_55 rfl rfl ?_
    refine Z_callV 59 [_, _] 3 (v_hedge0 hF hk (by first | assumption | omega)) dL_look_56 rfl qL_19 kX3_hedge rfl rfl (Nat.le_of_ble_eq_true rfl) rfl rfl ⟨(Nat.le_of_ble_eq_true rfl), (Nat.le_of_ble_eq_true rfl)⟩ (Nat.le_of_ble_eq_true rfl) ⟨rfl, rfl⟩ ⟨(Nat.le_of_ble_eq_true rfl), (Nat.le_of_ble_eq_true rfl)⟩ (fun r9 w9 hp9 => ?_)
    obtain ⟨rfl, mm, rfl, hF⟩ := hp9
    refine Z_i2l 60 dL_look_59 rfl ?_
    refine Z_ladd 61 dL_look_60 rfl ?_
    refine Z_lmul 62 dL_look_61 rfl ?_
    refine Z_aload_n 63 2 dL_look_62 rfl rfl ?_
    refine Z_iload_n 64 0 dL_look_63 rfl rfl ?_
    refine Z_iconst 65 (nI 1) dL_look_64 rfl rfl ?_
    refine Z_callV 68 [_, _] 3 (v_hedge1 hF hk (by first | assumption | omega)) dL_look_65 rfl qL_19 kX3_hedge rfl rfl (Nat.le_of_ble_eq_true rfl) rfl rfl ⟨(Nat.le_of_ble_eq_true rfl), (Nat.le_of_ble_eq_true rfl)⟩ (Nat.le_of_ble_eq_true rfl) ⟨rfl, rfl⟩ ⟨(Nat.le_of_ble_eq_true rfl), (Nat.le_of_ble_eq_true rfl)⟩ (fun r9 w9 hp9 => ?_)
    obtain ⟨rfl, mm, rfl, hF⟩ := hp9
    refine Z_i2l 69 dL_look_68 rfl ?_
    refine Z_ladd 70 dL_look_69 rfl ?_
    refine Z_lmul 71 dL_look_70 rfl ?_
    refine Z_aload_n 72 2 dL_look_71 rfl rfl ?_
    refine Z_iload_n 73 0 dL_look_72 rfl rfl ?_
    refine Z_iconst 74 (nI 3) dL_look_73 rfl rfl ?_
    refine Z_callV 77 [_, _] 3 (v_hedge3 hF hk (by first | assumption | omega)) dL_look_74 rfl qL_19 kX3_hedge rfl rfl (Nat.le_of_ble_eq_true rfl) rfl rfl ⟨(Nat.le_of_ble_eq_true rfl), (Nat.le_of_ble_eq_true rfl)⟩ (Nat.le_of_ble_eq_true rfl) ⟨rfl, rfl⟩ ⟨(Nat.le_of_ble_eq_true rfl), (Nat.le_of_ble_eq_true rfl)⟩ (fun r9 w9 hp9 => ?_)
    obtain ⟨rfl, mm, rfl, hF⟩ := hp9
    refine Z_i2l 78 dL_look_77 rfl ?_
    refine Z_ladd 79 dL_look_78 rfl ?_
    refine Z_lmul 80 dL_look_79 rfl ?_
    refine Z_aload_n 81 2 dL_look_80 rfl rfl ?_
    refine Z_iload_n 82 0 dL_look_81 rfl rfl ?_
    refine Z_bipush 84 (nI 7) dL_look_82 rfl rfl ?_
    refine Z_callV 87 [_, _] 3 (v_hedge7 hF hk (by first | assumption | omega)) dL_look_84 rfl qL_19 kX3_hedge rfl rfl (Nat.le_of_ble_eq_true rfl) rfl rfl ⟨(Nat.le_of_ble_eq_true rfl), (Nat.le_of_ble_eq_true rfl)⟩ (Nat.le_of_ble_eq_true rfl) ⟨rfl, rfl⟩ ⟨(Nat.le_of_ble_eq_true rfl), (Nat.le_of_ble_eq_true rfl)⟩ (fun r9 w9 hp9 => ?_)
    obtain ⟨rfl, mm, rfl, hF⟩ := hp9
    refine Z_i2l 88 dL_look_87 rfl ?_
    refine Z_ladd 89 dL_look_88 rfl ?_
    refine Z_lstore_n 90 [(1, _), (3, _), (0, _)] dL_look_89 rfl (Nat.le_of_ble_eq_true rfl) rfl ?_
    refine Z_iinc 93 [(3, _), (1, _), (0, _)] 1 _ dL_look_90 rfl (Nat.le_of_ble_eq_true rfl) rfl (nI_1 _) rfl ?_
    refine Z_goto 33 dL_look_93 rfl ?_
    exact ih (i + 1) (by omega) _ hF

set_option maxRecDepth 100000 in
set_option maxHeartbeats 4000000 in
theorem lL_look1 {G : zG} {l : Launch} {h : Nat → Nat} {m : zM} {n : Nat} (hk : sOk m 1 n) : ∀ (t i : Nat), i + t = 11 → ∀ mm : zM, Fsv m mm → Z G mL_look (fun _ => True) (zN G (fun r w => r = some (.long (lkV m n)) ∧ ∃ m', w = zw h m' ∧ Fsv m m') 0 0) l 0 0 (zw h mm) 6 [(3, .int (nI i)), (1, .long (lkC m n i)), (0, .ref (G.1 + 0))] [] := by
  intro t
  induction t with
  | zero =>
    intro i hi mm hF
    have e9 : i = 11 := by omega
    subst e9
    refine Z_iload_n 7 0 dL_look_6 rfl rfl ?_
    refine Z_bipush 9 (nI 11) dL_look_7 rfl rfl ?_
    refine Z_icmp_ge 12 31 dL_look_9 rfl rfl (fun c9 => ?_) (fun c9 => absurd (nI_le (Nat.le_refl _) (by omega)) c9)
    refine Z_iconst 32 (nI 0) dL_look_31 rfl rfl ?_
    refine Z_istore_n 33 [(3, _), (1, _), (0, _)] dL_look_32 rfl (Nat.le_of_ble_eq_true rfl) rfl ?_
    refine Z_lv [0, 1, 2] rfl ?_
    exact lL_look2 hk 8 0 (by omega) mm hF
  | succ t ih =>
    intro i hi mm hF
    have hlt : i < 11 := by omega
    refine Z_iload_n 7 0 dL_look_6 rfl rfl ?_
    refine Z_bipush 9 (nI 11) dL_look_7 rfl rfl ?_
    refine Z_icmp_ge 12 31 dL_look_9 rfl rfl (fun c9 => absurd c9 (nI_ge hlt (by omega))) (fun c9 => ?_)
    refine Z_ldc2 15 31 dL_look_12 rfl kJ_11 ?_
    refine Z_lload_n 16 1 dL_look_15 rfl rfl ?_
    refine Z_lmul 17 dL_look_16 rfl ?_
    refine Z_aload_n 18 2 dL_look_17 rfl rfl ?_
    refine Z_iload_n 19 0 dL_look_18 rfl rfl ?_
    refine Z_callV 22 [_] 3 (v_countK hF hk (by first | assumption | omega)) dL_look_19 rfl qL_13 kX3_count rfl rfl (Nat.le_of_ble_eq_true rfl) rfl rfl ⟨(Nat.le_of_ble_eq_true rfl), (Nat.le_of_ble_eq_true rfl)⟩ (Nat.le_of_ble_eq_true rfl) ⟨rfl, rfl⟩ ⟨(Nat.le_of_ble_eq_true rfl), (Nat.le_of_ble_eq_true rfl)⟩ (fun r9 w9 hp9 => ?_)
    obtain ⟨rfl, mm, rfl, hF⟩ := hp9
    refine Z_i2l 23 dL_look_22 rfl ?_
    refine Z_ladd 24 dL_look_23 rfl ?_
    refine Z_lstore_n 25 [(1, _), (3, _), (0, _)] dL_look_24 rfl (Nat.le_of_ble_eq_true rfl) rfl ?_
    refine Z_iinc 28 [(3, _), (1, _), (0, _)] 1 _ dL_look_25 rfl (Nat.le_of_ble_eq_true rfl) rfl (nI_1 _) rfl ?_
    refine Z_goto 6 dL_look_28 rfl ?_
    exact ih (i + 1) (by omega) _ hF

set_option maxRecDepth 100000 in
set_option maxHeartbeats 4000000 in
theorem zL_look {G : zG} {l : Launch} {h : Nat → Nat} {m : zM} {n : Nat} {mm : zM} (hF : Fsv m mm) (hk : sOk m 1 n) : zMet G l yL_look mL_look [.ref (G.1 + 0)] (zw h mm) (fun r w => r = some (.long (lkV m n)) ∧ ∃ m', w = zw h m' ∧ Fsv m m') 0 0 := by
  refine zMet_of [(0, .ref (G.1 + 0))] (by decide +kernel) rfl (Or.inl rfl) (Nat.le_of_ble_eq_true rfl) rfl ?_
  refine Z_ldc2 3 487 dL_look_0 rfl kJ_9 ?_
  refine Z_lstore_n 4 [(1, _), (0, _)] dL_look_3 rfl (Nat.le_of_ble_eq_true rfl) rfl ?_
  refine Z_iconst 5 (nI 0) dL_look_4 rfl rfl ?_
  refine Z_istore_n 6 [(3, _), (1, _), (0, _)] dL_look_5 rfl (Nat.le_of_ble_eq_true rfl) rfl ?_
  refine Z_lv [0, 1, 2] rfl ?_
  exact lL_look1 hk 11 0 (by omega) mm hF

