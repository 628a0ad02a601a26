/-! the methods of HedgeTreaties$Street: what they read and write, in places of the cells from a on -/
abbrev sF (m : zM) (a t : Nat) : Nat := (m (a + 5) t).toNatClampNeg
abbrev sO (m : zM) (a t : Nat) : Nat := (m (a + 6) t).toNatClampNeg
/-- the street at a has n treaties about hedges -/
def sOk (m : zM) (a n : Nat) : Prop := m a 8 = nI n ∧ n ≤ 14 ∧ ∀ t, t < n → (m (a + 5) t = nI (sF m a t) ∧ sF m a t < 8) ∧ (m (a + 6) t = nI (sO m a t) ∧ sO m a t < 8)
abbrev sNest (m : zM) (a i : Nat) : Prop := m a 9 < m (a + 3) i
def hAft (m : zM) (a i : Nat) (d : Int32) : Int32 := if m (a + 1) i + m (a + 2) i * d < nI 99 then m (a + 1) i + m (a + 2) i * d else nI 99
abbrev sForce (m : zM) (a t : Nat) : Prop := m (a + 8) t ≤ m a 9
abbrev sAbout (m : zM) (a t : Nat) (g : Int32) : Prop := g = -1 ∨ m (a + 5) t = g ∨ m (a + 6) t = g
def slackA (m : zM) (a t : Nat) (d : Int32) : Int32 := hAft m a (sO m a t) d + m (a + 7) t - hAft m a (sF m a t) d
abbrev sBrk (m : zM) (a t : Nat) (d : Int32) : Prop := m (a + 8) t ≤ m a 9 + d ∧ slackA m a t d < 0
set_option maxRecDepth 100000 in
set_option maxHeartbeats 4000000 in
theorem zX1_isNested {G : zG} {l : Launch} {h : Nat → Nat} {m : zM} (a : Nat) (hs : IsSt a) (i : Nat) (hi : i < 8) : zMet G l yX1_isNested mX1_isNested [.ref (G.1 + a), .int (nI i)] (zw h m) (fun r w => r = some (.int (bI (sNest m a i))) ∧ w = zw h m) 0 0 := by
  refine zMet_of [(0, .ref (G.1 + a)), (1, .int (nI i))] (by decide +kernel) rfl (Or.inl rfl) (Nat.le_of_ble_eq_true rfl) rfl ?_
  refine Z_aload_n 1 0 dX1_isNested_0 rfl rfl ?_
  refine Z_getI 4 dX1_isNested_1 rfl fX1_43 (Nat.lt_of_le_of_lt hs.lt (Nat.le_of_ble_eq_true rfl)) (shS hs) rfl ?_
  refine Z_aload_n 5 0 dX1_isNested_4 rfl rfl ?_
  refine Z_getR 8 dX1_isNested_5 rfl fX1_18 (Nat.lt_of_le_of_lt hs.lt (Nat.le_of_ble_eq_true rfl)) (shS hs) rfl ?_
  refine Z_iload_n 9 1 dX1_isNested_8 rfl rfl ?_
  refine Z_ialn 10 dX1_isNested_9 rfl (Nat.lt_of_le_of_lt (Nat.add_le_add_right hs.lt _) (Nat.le_of_ble_eq_true rfl)) (shS2 hs) (by first | assumption | omega) (by decide) ?_
  refine Z_icmp_ge 13 17 dX1_isNested_10 rfl rfl (fun c10 => ?_) (fun c10 => ?_)
  · skip
    refine Z_iconst 18 (nI 0) dX1_isNested_17 rfl rfl ?_
    exact Z_zret dX1_isNested_18 rfl (by first | exact Or.inl rfl | exact Or.inr rfl | exact bI_01) (by first | exact ⟨rfl, rfl⟩ | exact ⟨by rw [bI_t (by first | assumption | (simp only [i32_le, i32_lt, i32_eq] at *; omega))], rfl⟩ | exact ⟨by rw [bI_f (by first | assumption | (simp only [i32_le, i32_lt, i32_eq] at *; omega))], rfl⟩)
  · skip
    refine Z_iconst 14 (nI 1) dX1_isNested_13 rfl rfl ?_
    refine Z_goto 18 dX1_isNested_14 rfl ?_
    exact Z_zret dX1_isNested_18 rfl (by first | exact Or.inl rfl | exact Or.inr rfl | exact bI_01) (by first | exact ⟨rfl, rfl⟩ | exact ⟨by rw [bI_t (by first | assumption | (simp only [i32_le, i32_lt, i32_eq] at *; omega))], rfl⟩ | exact ⟨by rw [bI_f (by first | assumption | (simp only [i32_le, i32_lt, i32_eq] at *; omega))], rfl⟩)

set_option maxRecDepth 100000 in
set_option maxHeartbeats 4000000 in
theorem zX1_isInForce {G : zG} {l : Launch} {h : Nat → Nat} {m : zM} (a : Nat) (hs : IsSt a) (t : Nat) (ht : t < 14) : zMet G l yX1_isInForce mX1_isInForce [.ref (G.1 + a), .int (nI t)] (zw h m) (fun r w => r = some (.int (bI (sForce m a t))) ∧ w = zw h m) 0 0 := by
  refine zMet_of [(0, .ref (G.1 + a)), (1, .int (nI t))] (by decide +kernel) rfl (Or.inl rfl) (Nat.le_of_ble_eq_true rfl) rfl ?_
  refine Z_aload_n 1 0 dX1_isInForce_0 rfl rfl ?_
  refine Z_getR 4 dX1_isInForce_1 rfl fX1_33 (Nat.lt_of_le_of_lt hs.lt (Nat.le_of_ble_eq_true rfl)) (shS hs) rfl ?_
  refine Z_iload_n 5 1 dX1_isInForce_4 rfl rfl ?_
  refine Z_ialn 6 dX1_isInForce_5 rfl (Nat.lt_of_le_of_lt (Nat.add_le_add_right hs.lt _) (Nat.le_of_ble_eq_true rfl)) (shS7 hs) (by first | assumption | omega) (by decide) ?_
  refine Z_aload_n 7 0 dX1_isInForce_6 rfl rfl ?_
  refine Z_getI 10 dX1_isInForce_7 rfl fX1_43 (Nat.lt_of_le_of_lt hs.lt (Nat.le_of_ble_eq_true rfl)) (shS hs) rfl ?_
  refine Z_icmp_gt 13 17 dX1_isInForce_10 rfl rfl (fun c10 => ?_) (fun c10 => ?_)
  · skip
    refine Z_iconst 18 (nI 0) dX1_isInForce_17 rfl rfl ?_
    exact Z_zret dX1_isInForce_18 rfl (by first | exact Or.inl rfl | exact Or.inr rfl | exact bI_01) (by first | exact ⟨rfl, rfl⟩ | exact ⟨by rw [bI_t (by first | assumption | (simp only [i32_le, i32_lt, i32_eq] at *; omega))], rfl⟩ | exact ⟨by rw [bI_f (by first | assumption | (simp only [i32_le, i32_lt, i32_eq] at *; omega))], rfl⟩)
  · skip
    refine Z_iconst 14 (nI 1) dX1_isInForce_13 rfl rfl ?_
    refine Z_goto 18 dX1_isInForce_14 rfl ?_
    exact Z_zret dX1_isInForce_18 rfl (by first | exact Or.inl rfl | exact Or.inr rfl | exact bI_01) (by first | exact ⟨rfl, rfl⟩ | exact ⟨by rw [bI_t (by first | assumption | (simp only [i32_le, i32_lt, i32_eq] at *; omega))], rfl⟩ | exact ⟨by rw [bI_f (by first | assumption | (simp only [i32_le, i32_lt, i32_eq] at *; omega))], rfl⟩)

set_option maxRecDepth 100000 in
set_option maxHeartbeats 4000000 in
theorem zX1_isAbout {G : zG} {l : Launch} {h : Nat → Nat} {m : zM} (a : Nat) (hs : IsSt a) (t : Nat) (ht : t < 14) (g : Int32) : zMet G l yX1_isAbout mX1_isAbout [.ref (G.1 + a), .int (nI t), .int g] (zw h m) (fun r w => r = some (.int (bI (sAbout m a t g))) ∧ w = zw h m) 0 0 := by
  refine zMet_of [(0, .ref (G.1 + a)), (1, .int (nI t)), (2, .int g)] (by decide +kernel) rfl (Or.inl rfl) (Nat.le_of_ble_eq_true rfl) rfl ?_
  refine Z_iload_n 1 2 dX1_isAbout_0 rfl rfl ?_
  refine Z_iconst 2 (-1) dX1_isAbout_1 rfl rfl ?_
  refine Z_icmp_eq 5 25 dX1_isAbout_2 rfl rfl (fun c2 => ?_) (fun c2 => ?_)
  · skip
    refine Z_iconst 26 (nI 1) dX1_isAbout_25 rfl rfl ?_
    refine Z_goto 30 dX1_isAbout_26 rfl ?_
    exact Z_zret dX1_isAbout_30 rfl (by first | exact Or.inl rfl | exact Or.inr rfl | exact bI_01) (by first | exact ⟨by rw [bI_t (Or.inl (by assumption))], rfl⟩ | exact ⟨by rw [bI_t (Or.inr (Or.inl (by assumption)))], rfl⟩ | exact ⟨by rw [bI_t (Or.inr (Or.inr (by simpa using c22)))], rfl⟩ | exact ⟨by rw [bI_f (fun q => by rcases q with q | q | q <;> contradiction)], rfl⟩)
  · skip
    refine Z_aload_n 6 0 dX1_isAbout_5 rfl rfl ?_
    refine Z_getR 9 dX1_isAbout_6 rfl fX1_24 (Nat.lt_of_le_of_lt hs.lt (Nat.le_of_ble_eq_true rfl)) (shS hs) rfl ?_
    refine Z_iload_n 10 1 dX1_isAbout_9 rfl rfl ?_
    refine Z_ialn 11 dX1_isAbout_10 rfl (Nat.lt_of_le_of_lt (Nat.add_le_add_right hs.lt _) (Nat.le_of_ble_eq_true rfl)) (shS4 hs) (by first | assumption | omega) (by decide) ?_
    refine Z_iload_n 12 2 dX1_isAbout_11 rfl rfl ?_
    refine Z_icmp_eq 15 25 dX1_isAbout_12 rfl rfl (fun c12 => ?_) (fun c12 => ?_)
    · skip
      refine Z_iconst 26 (nI 1) dX1_isAbout_25 rfl rfl ?_
      refine Z_goto 30 dX1_isAbout_26 rfl ?_
      exact Z_zret dX1_isAbout_30 rfl (by first | exact Or.inl rfl | exact Or.inr rfl | exact bI_01) (by first | exact ⟨by rw [bI_t (Or.inl (by assumption))], rfl⟩ | exact ⟨by rw [bI_t (Or.inr (Or.inl (by assumption)))], rfl⟩ | exact ⟨by rw [bI_t (Or.inr (Or.inr (by simpa using c22)))], rfl⟩ | exact ⟨by rw [bI_f (fun q => by rcases q with q | q | q <;> contradiction)], rfl⟩)
    · skip
      refine Z_aload_n 16 0 dX1_isAbout_15 rfl rfl ?_
      refine Z_getR 19 dX1_isAbout_16 rfl fX1_27 (Nat.lt_of_le_of_lt hs.lt (Nat.le_of_ble_eq_true rfl)) (shS hs) rfl ?_
      refine Z_iload_n 20 1 dX1_isAbout_19 rfl rfl ?_
      refine Z_ialn 21 dX1_isAbout_20 rfl (Nat.lt_of_le_of_lt (Nat.add_le_add_right hs.lt _) (Nat.le_of_ble_eq_true rfl)) (shS5 hs) (by first | assumption | omega) (by decide) ?_
      refine Z_iload_n 22 2 dX1_isAbout_21 rfl rfl ?_
      refine Z_icmp_ne 25 29 dX1_isAbout_22 rfl rfl (fun c22 => ?_) (fun c22 => ?_)
      · skip
        refine Z_iconst 30 (nI 0) dX1_isAbout_29 rfl rfl ?_
        exact Z_zret dX1_isAbout_30 rfl (by first | exact Or.inl rfl | exact Or.inr rfl | exact bI_01) (by first | exact ⟨by rw [bI_t (Or.inl (by assumption))], rfl⟩ | exact ⟨by rw [bI_t (Or.inr (Or.inl (by assumption)))], rfl⟩ | exact ⟨by rw [bI_t (Or.inr (Or.inr (by simpa using c22)))], rfl⟩ | exact ⟨by rw [bI_f (fun q => by rcases q with q | q | q <;> contradiction)], rfl⟩)
      · skip
        refine Z_iconst 26 (nI 1) dX1_isAbout_25 rfl rfl ?_
        refine Z_goto 30 dX1_isAbout_26 rfl ?_
        exact Z_zret dX1_isAbout_30 rfl (by first | exact Or.inl rfl | exact Or.inr rfl | exact bI_01) (by first | exact ⟨by rw [bI_t (Or.inl (by assumption))], rfl⟩ | exact ⟨by rw [bI_t (Or.inr (Or.inl (by assumption)))], rfl⟩ | exact ⟨by rw [bI_t (Or.inr (Or.inr (by simpa using c22)))], rfl⟩ | exact ⟨by rw [bI_f (fun q => by rcases q with q | q | q <;> contradiction)], rfl⟩)

set_option maxRecDepth 100000 in
set_option maxHeartbeats 4000000 in
theorem zX1_heightAfter {G : zG} {l : Launch} {h : Nat → Nat} {m : zM} (a : Nat) (hs : IsSt a) (i : Nat) (hi : i < 8) (d : Int32) : zMet G l yX1_heightAfter mX1_heightAfter [.ref (G.1 + a), .int (nI i), .int d] (zw h m) (fun r w => r = some (.int (hAft m a i d)) ∧ w = zw h m) 0 0 := by
  refine zMet_of [(0, .ref (G.1 + a)), (1, .int (nI i)), (2, .int d)] (by decide +kernel) rfl (Or.inl rfl) (Nat.le_of_ble_eq_true rfl) rfl ?_
  refine Z_bipush 2 (nI 99) dX1_heightAfter_0 rfl rfl ?_
  refine Z_aload_n 3 0 dX1_heightAfter_2 rfl rfl ?_
  refine Z_getR 6 dX1_heightAfter_3 rfl fX1_9 (Nat.lt_of_le_of_lt hs.lt (Nat.le_of_ble_eq_true rfl)) (shS hs) rfl ?_
  refine Z_iload_n 7 1 dX1_heightAfter_6 rfl rfl ?_
  refine Z_ialn 8 dX1_heightAfter_7 rfl (Nat.lt_of_le_of_lt (Nat.add_le_add_right hs.lt _) (Nat.le_of_ble_eq_true rfl)) (shS0 hs) (by first | assumption | omega) (by decide) ?_
  refine Z_aload_n 9 0 dX1_heightAfter_8 rfl rfl ?_
  refine Z_getR 12 dX1_heightAfter_9 rfl fX1_15 (Nat.lt_of_le_of_lt hs.lt (Nat.le_of_ble_eq_true rfl)) (shS hs) rfl ?_
  refine Z_iload_n 13 1 dX1_heightAfter_12 rfl rfl ?_
  refine Z_ialn 14 dX1_heightAfter_13 rfl (Nat.lt_of_le_of_lt (Nat.add_le_add_right hs.lt _) (Nat.le_of_ble_eq_true rfl)) (shS1 hs) (by first | assumption | omega) (by decide) ?_
  refine Z_iload_n 15 2 dX1_heightAfter_14 rfl rfl ?_
  refine Z_imul 16 dX1_heightAfter_15 rfl ?_
  refine Z_iadd 17 dX1_heightAfter_16 rfl ?_
  refine Z_min 20 dX1_heightAfter_17 rfl qX1_59 kmin ⟨(Nat.le_of_ble_eq_true rfl), (Nat.le_of_ble_eq_true rfl), (Nat.le_of_ble_eq_true rfl), (Nat.le_of_ble_eq_true rfl)⟩ ?_
  exact Z_iret dX1_heightAfter_20 rfl ⟨rfl, rfl⟩

set_option maxRecDepth 100000 in
set_option maxHeartbeats 4000000 in
theorem zX1_slackAfter {G : zG} {l : Launch} {h : Nat → Nat} {m : zM} (a : Nat) (hs : IsSt a) (n : Nat) (hk : sOk m a n) (t : Nat) (ht : t < n) (d : Int32) : zMet G l yX1_slackAfter mX1_slackAfter [.ref (G.1 + a), .int (nI t), .int d] (zw h m) (fun r w => r = some (.int (slackA m a t d)) ∧ w = zw h m) 0 0 := by
  refine zMet_of [(0, .ref (G.1 + a)), (1, .int (nI t)), (2, .int d)] (by decide +kernel) rfl (Or.inl rfl) (Nat.le_of_ble_eq_true rfl) rfl ?_
  obtain ⟨-, hn, hk⟩ := hk
  obtain ⟨⟨ef, hf⟩, ⟨eo, ho⟩⟩ := hk t ht
  have ht9 : t < 14 := by omega
  refine Z_aload_n 1 0 dX1_slackAfter_0 rfl rfl ?_
  refine Z_aload_n 2 0 dX1_slackAfter_1 rfl rfl ?_
  refine Z_getR 5 dX1_slackAfter_2 rfl fX1_27 (Nat.lt_of_le_of_lt hs.lt (Nat.le_of_ble_eq_true rfl)) (shS hs) rfl ?_
  refine Z_iload_n 6 1 dX1_slackAfter_5 rfl rfl ?_
  refine Z_ialn 7 dX1_slackAfter_6 rfl (Nat.lt_of_le_of_lt (Nat.add_le_add_right hs.lt _) (Nat.le_of_ble_eq_true rfl)) (shS5 hs) (by first | assumption | omega) (by decide) ?_
  refine Z_top (congrArg Value.int eo) ?_
  refine Z_iload_n 8 2 dX1_slackAfter_7 rfl rfl ?_
  refine Z_callV 11 [_, _] 1 (zX1_heightAfter a hs _ (by assumption) d) dX1_slackAfter_8 rfl qX1_65 kX1_heightAfter rfl rfl (Nat.lt_of_le_of_lt hs.lt (Nat.le_of_ble_eq_true rfl)) (shS hs) rfl ⟨(Nat.le_of_ble_eq_true rfl), (Nat.le_of_ble_eq_true rfl)⟩ (Nat.le_of_ble_eq_true rfl) ⟨rfl, rfl⟩ ⟨(Nat.le_of_ble_eq_true rfl), (Nat.le_of_ble_eq_true rfl)⟩ (fun r9 w9 hp9 => ?_)
  obtain ⟨rfl, rfl⟩ := hp9
  refine Z_aload_n 12 0 dX1_slackAfter_11 rfl rfl ?_
  refine Z_getR 15 dX1_slackAfter_12 rfl fX1_30 (Nat.lt_of_le_of_lt hs.lt (Nat.le_of_ble_eq_true rfl)) (shS hs) rfl ?_
  refine Z_iload_n 16 1 dX1_slackAfter_15 rfl rfl ?_
  refine Z_ialn 17 dX1_slackAfter_16 rfl (Nat.lt_of_le_of_lt (Nat.add_le_add_right hs.lt _) (Nat.le_of_ble_eq_true rfl)) (shS6 hs) (by first | assumption | omega) (by decide) ?_
  refine Z_iadd 18 dX1_slackAfter_17 rfl ?_
  refine Z_istore_n 19 [(3, _), (0, _), (1, _), (2, _)] dX1_slackAfter_18 rfl (Nat.le_of_ble_eq_true rfl) rfl ?_
  refine Z_iload_n 20 0 dX1_slackAfter_19 rfl rfl ?_
  refine Z_aload_n 21 1 dX1_slackAfter_20 rfl rfl ?_
  refine Z_aload_n 22 1 dX1_slackAfter_21 rfl rfl ?_
  refine Z_getR 25 dX1_slackAfter_22 rfl fX1_24 (Nat.lt_of_le_of_lt hs.lt (Nat.le_of_ble_eq_true rfl)) (shS hs) rfl ?_
  refine Z_iload_n 26 2 dX1_slackAfter_25 rfl rfl ?_
  refine Z_ialn 27 dX1_slackAfter_26 rfl (Nat.lt_of_le_of_lt (Nat.add_le_add_right hs.lt _) (Nat.le_of_ble_eq_true rfl)) (shS4 hs) (by first | assumption | omega) (by decide) ?_
  refine Z_top (congrArg Value.int ef) ?_
  refine Z_iload_n 28 3 dX1_slackAfter_27 rfl rfl ?_
  refine Z_callV 31 [_, _] 1 (zX1_heightAfter a hs _ (by assumption) d) dX1_slackAfter_28 rfl qX1_65 kX1_heightAfter rfl rfl (Nat.lt_of_le_of_lt hs.lt (Nat.le_of_ble_eq_true rfl)) (shS hs) rfl ⟨(Nat.le_of_ble_eq_true rfl), (Nat.le_of_ble_eq_true rfl)⟩ (Nat.le_of_ble_eq_true rfl) ⟨rfl, rfl⟩ ⟨(Nat.le_of_ble_eq_true rfl), (Nat.le_of_ble_eq_true rfl)⟩ (fun r9 w9 hp9 => ?_)
  obtain ⟨rfl, rfl⟩ := hp9
  refine Z_isub 32 dX1_slackAfter_31 rfl ?_
  exact Z_iret dX1_slackAfter_32 rfl ⟨rfl, rfl⟩

set_option maxRecDepth 100000 in
set_option maxHeartbeats 4000000 in
theorem zX1_isBrokenAfter {G : zG} {l : Launch} {h : Nat → Nat} {m : zM} (a : Nat) (hs : IsSt a) (n : Nat) (hk : sOk m a n) (t : Nat) (ht : t < n) (d : Int32) : zMet G l yX1_isBrokenAfter mX1_isBrokenAfter [.ref (G.1 + a), .int (nI t), .int d] (zw h m) (fun r w => r = some (.int (bI (sBrk m a t d))) ∧ w = zw h m) 0 0 := by
  refine zMet_of [(0, .ref (G.1 + a)), (1, .int (nI t)), (2, .int d)] (by decide +kernel) rfl (Or.inl rfl) (Nat.le_of_ble_eq_true rfl) rfl ?_
  have hn := hk.2.1
  have ht9 : t < 14 := by omega
  refine Z_aload_n 1 0 dX1_isBrokenAfter_0 rfl rfl ?_
  refine Z_getR 4 dX1_isBrokenAfter_1 rfl fX1_33 (Nat.lt_of_le_of_lt hs.lt (Nat.le_of_ble_eq_true rfl)) (shS hs) rfl ?_
  refine Z_iload_n 5 1 dX1_isBrokenAfter_4 rfl rfl ?_
  refine Z_ialn 6 dX1_isBrokenAfter_5 rfl (Nat.lt_of_le_of_lt (Nat.add_le_add_right hs.lt _) (Nat.le_of_ble_eq_true rfl)) (shS7 hs) (by first | assumption | omega) (by decide) ?_
  refine Z_aload_n 7 0 dX1_isBrokenAfter_6 rfl rfl ?_
  refine Z_getI 10 dX1_isBrokenAfter_7 rfl fX1_43 (Nat.lt_of_le_of_lt hs.lt (Nat.le_of_ble_eq_true rfl)) (shS hs) rfl ?_
  refine Z_iload_n 11 2 dX1_isBrokenAfter_10 rfl rfl ?_
  refine Z_iadd 12 dX1_isBrokenAfter_11 rfl ?_
  refine Z_icmp_gt 15 28 dX1_isBrokenAfter_12 rfl rfl (fun c12 => ?_) (fun c12 => ?_)
  · skip
    refine Z_iconst 29 (nI 0) dX1_isBrokenAfter_28 rfl rfl ?_
    exact Z_zret dX1_isBrokenAfter_29 rfl (by first | exact Or.inl rfl | exact Or.inr rfl | exact bI_01) (by first | exact ⟨by rw [bI_f (fun q => absurd q.1 (by rw [i32_le]; rw [i32_lt] at c12; omega))], rfl⟩ | exact ⟨by rw [bI_f (fun q => absurd q.2 (by rw [i32_lt]; rw [i32_le] at c21; omega))], rfl⟩ | exact ⟨by rw [bI_t ⟨by rw [i32_le]; rw [i32_lt] at c12; omega, by rw [i32_lt]; rw [i32_le] at c21; omega⟩], rfl⟩)
  · skip
    refine Z_aload_n 16 0 dX1_isBrokenAfter_15 rfl rfl ?_
    refine Z_iload_n 17 1 dX1_isBrokenAfter_16 rfl rfl ?_
    refine Z_iload_n 18 2 dX1_isBrokenAfter_17 rfl rfl ?_
    refine Z_callV 21 [_, _] 1 (zX1_slackAfter a hs n hk t ht d) dX1_isBrokenAfter_18 rfl qX1_75 kX1_slackAfter rfl rfl (Nat.lt_of_le_of_lt hs.lt (Nat.le_of_ble_eq_true rfl)) (shS hs) rfl ⟨(Nat.le_of_ble_eq_true rfl), (Nat.le_of_ble_eq_true rfl)⟩ (Nat.le_of_ble_eq_true rfl) ⟨rfl, rfl⟩ ⟨(Nat.le_of_ble_eq_true rfl), (Nat.le_of_ble_eq_true rfl)⟩ (fun r9 w9 hp9 => ?_)
    obtain ⟨rfl, rfl⟩ := hp9
    refine Z_if_ge 24 28 dX1_isBrokenAfter_21 rfl rfl (fun c21 => ?_) (fun c21 => ?_)
    · skip
      refine Z_iconst 29 (nI 0) dX1_isBrokenAfter_28 rfl rfl ?_
      exact Z_zret dX1_isBrokenAfter_29 rfl (by first | exact Or.inl rfl | exact Or.inr rfl | exact bI_01) (by first | exact ⟨by rw [bI_f (fun q => absurd q.1 (by rw [i32_le]; rw [i32_lt] at c12; omega))], rfl⟩ | exact ⟨by rw [bI_f (fun q => absurd q.2 (by rw [i32_lt]; rw [i32_le] at c21; omega))], rfl⟩ | exact ⟨by rw [bI_t ⟨by rw [i32_le]; rw [i32_lt] at c12; omega, by rw [i32_lt]; rw [i32_le] at c21; omega⟩], rfl⟩)
    · skip
      refine Z_iconst 25 (nI 1) dX1_isBrokenAfter_24 rfl rfl ?_
      refine Z_goto 29 dX1_isBrokenAfter_25 rfl ?_
      exact Z_zret dX1_isBrokenAfter_29 rfl (by first | exact Or.inl rfl | exact Or.inr rfl | exact bI_01) (by first | exact ⟨by rw [bI_f (fun q => absurd q.1 (by rw [i32_le]; rw [i32_lt] at c12; omega))], rfl⟩ | exact ⟨by rw [bI_f (fun q => absurd q.2 (by rw [i32_lt]; rw [i32_le] at c21; omega))], rfl⟩ | exact ⟨by rw [bI_t ⟨by rw [i32_le]; rw [i32_lt] at c12; omega, by rw [i32_lt]; rw [i32_le] at c21; omega⟩], rfl⟩)

set_option maxRecDepth 100000 in
set_option maxHeartbeats 4000000 in
theorem zX1_isBroken {G : zG} {l : Launch} {h : Nat → Nat} {m : zM} (a : Nat) (hs : IsSt a) (n : Nat) (hk : sOk m a n) (t : Nat) (ht : t < n) : zMet G l yX1_isBroken mX1_isBroken [.ref (G.1 + a), .int (nI t)] (zw h m) (fun r w => r = some (.int (bI (sBrk m a t (nI 0)))) ∧ w = zw h m) 0 0 := by
  refine zMet_of [(0, .ref (G.1 + a)), (1, .int (nI t))] (by decide +kernel) rfl (Or.inl rfl) (Nat.le_of_ble_eq_true rfl) rfl ?_
  refine Z_aload_n 1 0 dX1_isBroken_0 rfl rfl ?_
  refine Z_iload_n 2 1 dX1_isBroken_1 rfl rfl ?_
  refine Z_iconst 3 (nI 0) dX1_isBroken_2 rfl rfl ?_
  refine Z_callV 6 [_, _] 1 (zX1_isBrokenAfter a hs n hk t ht (nI 0)) dX1_isBroken_3 rfl qX1_78 kX1_isBrokenAfter rfl rfl (Nat.lt_of_le_of_lt hs.lt (Nat.le_of_ble_eq_true rfl)) (shS hs) rfl ⟨(Nat.le_of_ble_eq_true rfl), (Nat.le_of_ble_eq_true rfl)⟩ (Nat.le_of_ble_eq_true rfl) ⟨rfl, rfl⟩ ⟨(Nat.le_of_ble_eq_true rfl), (Nat.le_of_ble_eq_true rfl)⟩ (fun r9 w9 hp9 => ?_)
  obtain ⟨rfl, rfl⟩ := hp9
  exact Z_zret dX1_isBroken_6 rfl (by first | exact Or.inl rfl | exact Or.inr rfl | exact bI_01) ⟨rfl, rfl⟩

theorem cnt_t {p : Nat → Bool} {i : Nat} (hp : p i = true) : nI (cnt p i) + nI 1 = nI (cnt p (i + 1)) := by
  rw [nI_add]
  unfold cnt
  rw [if_pos hp]
  cases i <;> rfl
theorem cnt_f {p : Nat → Bool} {i : Nat} (hp : p i = false) : nI (cnt p i) + nI 0 = nI (cnt p (i + 1)) := by
  rw [nI_add]
  unfold cnt
  rw [if_neg (by rw [hp]; decide)]
  cases i <;> rfl
set_option maxRecDepth 100000 in
set_option maxHeartbeats 4000000 in
theorem lX1_countNested {G : zG} {l : Launch} {h : Nat → Nat} {m : zM} (a : Nat) (hs : IsSt a) : ∀ (t i : Nat), i + t = 8 → Z G mX1_countNested (fun _ => True) (zN G (fun r w => r = some (.int (nI (cnt (fun j => decide (sNest m a j)) 8))) ∧ w = zw h m) 0 0) l 0 0 (zw h m) 4 [(2, .int (nI i)), (1, .int (nI (cnt (fun j => decide (sNest m a j)) i))), (0, .ref (G.1 + a))] [] := by
  intro t
  induction t with
  | zero =>
    intro i hi
    have e9 : i = 8 := by omega
    subst e9
    refine Z_iload_n 5 0 dX1_countNested_4 rfl rfl ?_
    refine Z_bipush 7 (nI 8) dX1_countNested_5 rfl rfl ?_
    refine Z_icmp_ge 10 32 dX1_countNested_7 rfl rfl (fun c7 => ?_) (fun c7 => absurd (nI_le (Nat.le_refl _) (by omega)) c7)
    refine Z_iload_n 33 1 dX1_countNested_32 rfl rfl ?_
    exact Z_iret dX1_countNested_33 rfl ⟨rfl, rfl⟩
  | succ t ih =>
    intro i hi
    have hlt : i < 8 := by omega
    refine Z_iload_n 5 0 dX1_countNested_4 rfl rfl ?_
    refine Z_bipush 7 (nI 8) dX1_countNested_5 rfl rfl ?_
    refine Z_icmp_ge 10 32 dX1_countNested_7 rfl rfl (fun c7 => absurd c7 (nI_ge hlt (by omega))) (fun c7 => ?_)
    refine Z_iload_n 11 1 dX1_countNested_10 rfl rfl ?_
    refine Z_aload_n 12 2 dX1_countNested_11 rfl rfl ?_
    refine Z_iload_n 13 0 dX1_countNested_12 rfl rfl ?_
    refine Z_callV 16 [_] 1 (zX1_isNested a hs i hlt) dX1_countNested_13 rfl qX1_55 kX1_isNested rfl rfl (Nat.lt_of_le_of_lt hs.lt (Nat.le_of_ble_eq_true rfl)) (shS hs) rfl ⟨(Nat.le_of_ble_eq_true rfl), (Nat.le_of_ble_eq_true rfl)⟩ (Nat.le_of_ble_eq_true rfl) ⟨rfl, rfl⟩ ⟨(Nat.le_of_ble_eq_true rfl), (Nat.le_of_ble_eq_true rfl)⟩ (fun r9 w9 hp9 => ?_)
    obtain ⟨rfl, rfl⟩ := hp9
    refine Z_if_eq 19 23 dX1_countNested_16 rfl rfl (fun c16 => ?_) (fun c16 => ?_)
    · skip
      refine Z_iconst 24 (nI 0) dX1_countNested_23 rfl rfl ?_
      refine Z_iadd 25 dX1_countNested_24 rfl ?_
      refine Z_top (v' := .int (nI (cnt (fun j => decide (sNest m a j)) (i + 1)))) (by first | exact congrArg Value.int (cnt_t (decide_eq_true (bI_1 c16))) | exact congrArg Value.int (cnt_f (decide_eq_false (bI_0 c16)))) ?_
      refine Z_istore_n 26 [(1, _), (2, _), (0, _)] dX1_countNested_25 rfl (Nat.le_of_ble_eq_true rfl) rfl ?_
      refine Z_iinc 29 [(2, _), (1, _), (0, _)] 1 _ dX1_countNested_26 rfl (Nat.le_of_ble_eq_true rfl) rfl (nI_1 _) rfl ?_
      refine Z_goto 4 dX1_countNested_29 rfl ?_
      exact ih (i + 1) (by omega)
    · skip
      refine Z_iconst 20 (nI 1) dX1_countNested_19 rfl rfl ?_
      refine Z_goto 24 dX1_countNested_20 rfl ?_
      refine Z_iadd 25 dX1_countNested_24 rfl ?_
      refine Z_top (v' := .int (nI (cnt (fun j => decide (sNest m a j)) (i + 1)))) (by first | exact congrArg Value.int (cnt_t (decide_eq_true (bI_1 c16))) | exact congrArg Value.int (cnt_f (decide_eq_false (bI_0 c16)))) ?_
      refine Z_istore_n 26 [(1, _), (2, _), (0, _)] dX1_countNested_25 rfl (Nat.le_of_ble_eq_true rfl) rfl ?_
      refine Z_iinc 29 [(2, _), (1, _), (0, _)] 1 _ dX1_countNested_26 rfl (Nat.le_of_ble_eq_true rfl) rfl (nI_1 _) rfl ?_
      refine Z_goto 4 dX1_countNested_29 rfl ?_
      exact ih (i + 1) (by omega)
set_option maxRecDepth 100000 in
set_option maxHeartbeats 4000000 in
theorem zX1_countNested {G : zG} {l : Launch} {h : Nat → Nat} {m : zM} (a : Nat) (hs : IsSt a) : zMet G l yX1_countNested mX1_countNested [.ref (G.1 + a)] (zw h m) (fun r w => r = some (.int (nI (cnt (fun j => decide (sNest m a j)) 8))) ∧ w = zw h m) 0 0 := by
  refine zMet_of [(0, .ref (G.1 + a))] (by decide +kernel) rfl (Or.inl rfl) (Nat.le_of_ble_eq_true rfl) rfl ?_
  refine Z_iconst 1 (nI 0) dX1_countNested_0 rfl rfl ?_
  refine Z_istore_n 2 [(1, _), (0, _)] dX1_countNested_1 rfl (Nat.le_of_ble_eq_true rfl) rfl ?_
  refine Z_iconst 3 (nI 0) dX1_countNested_2 rfl rfl ?_
  refine Z_istore_n 4 [(2, _), (1, _), (0, _)] dX1_countNested_3 rfl (Nat.le_of_ble_eq_true rfl) rfl ?_
  exact lX1_countNested a hs 8 0 (by omega)

set_option maxRecDepth 100000 in
set_option maxHeartbeats 4000000 in
theorem lX1_countInForce {G : zG} {l : Launch} {h : Nat → Nat} {m : zM} (a : Nat) (hs : IsSt a) (n : Nat) (hk : sOk m a n) (g : Int32) : ∀ (t i : Nat), i + t = n → Z G mX1_countInForce (fun _ => True) (zN G (fun r w => r = some (.int (nI (cnt (fun j => decide (sAbout m a j g ∧ sForce m a j)) n))) ∧ w = zw h m) 0 0) l 0 0 (zw h m) 4 [(3, .int (nI i)), (2, .int (nI (cnt (fun j => decide (sAbout m a j g ∧ sForce m a j)) i))), (0, .ref (G.1 + a)), (1, .int g)] [] := by
  intro t
  induction t with
  | zero =>
    intro i hi
    have e9 : i = n := by omega
    subst e9
    have hn14 := hk.2.1
    refine Z_iload_n 5 0 dX1_countInForce_4 rfl rfl ?_
    refine Z_aload_n 6 2 dX1_countInForce_5 rfl rfl ?_
    refine Z_getI 9 dX1_countInForce_6 rfl fX1_40 (Nat.lt_of_le_of_lt hs.lt (Nat.le_of_ble_eq_true rfl)) (shS hs) rfl ?_
    refine Z_top (congrArg Value.int hk.1) ?_
    refine Z_icmp_ge 12 43 dX1_countInForce_9 rfl rfl (fun c9 => ?_) (fun c9 => absurd (nI_le (Nat.le_refl _) (by omega)) c9)
    refine Z_iload_n 44 1 dX1_countInForce_43 rfl rfl ?_
    exact Z_iret dX1_countInForce_44 rfl ⟨rfl, rfl⟩
  | succ t ih =>
    intro i hi
    have hlt : i < n := by omega
    have hn14 := hk.2.1
    refine Z_iload_n 5 0 dX1_countInForce_4 rfl rfl ?_
    refine Z_aload_n 6 2 dX1_countInForce_5 rfl rfl ?_
    refine Z_getI 9 dX1_countInForce_6 rfl fX1_40 (Nat.lt_of_le_of_lt hs.lt (Nat.le_of_ble_eq_true rfl)) (shS hs) rfl ?_
    refine Z_top (congrArg Value.int hk.1) ?_
    refine Z_icmp_ge 12 43 dX1_countInForce_9 rfl rfl (fun c9 => absurd c9 (nI_ge hlt (by omega))) (fun c9 => ?_)
    refine Z_iload_n 13 1 dX1_countInForce_12 rfl rfl ?_
    refine Z_aload_n 14 2 dX1_countInForce_13 rfl rfl ?_
    refine Z_iload_n 15 0 dX1_countInForce_14 rfl rfl ?_
    refine Z_iload_n 16 3 dX1_countInForce_15 rfl rfl ?_
    refine Z_callV 19 [_, _] 1 (zX1_isAbout a hs i (by omega) g) dX1_countInForce_16 rfl qX1_68 kX1_isAbout rfl rfl (Nat.lt_of_le_of_lt hs.lt (Nat.le_of_ble_eq_true rfl)) (shS hs) rfl ⟨(Nat.le_of_ble_eq_true rfl), (Nat.le_of_ble_eq_true rfl)⟩ (Nat.le_of_ble_eq_true rfl) ⟨rfl, rfl⟩ ⟨(Nat.le_of_ble_eq_true rfl), (Nat.le_of_ble_eq_true rfl)⟩ (fun r9 w9 hp9 => ?_)
    obtain ⟨rfl, rfl⟩ := hp9
    refine Z_if_eq 22 34 dX1_countInForce_19 rfl rfl (fun c19 => ?_) (fun c19 => ?_)
    · skip
      refine Z_iconst 35 (nI 0) dX1_countInForce_34 rfl rfl ?_
      refine Z_iadd 36 dX1_countInForce_35 rfl ?_
      refine Z_top (v' := .int (nI (cnt (fun j => decide (sAbout m a j g ∧ sForce m a j)) (i + 1)))) (by first | exact congrArg Value.int (cnt_t (decide_eq_true ⟨bI_1 c19, bI_1 c27⟩)) | exact congrArg Value.int (cnt_f (decide_eq_false (fun q => bI_0 c19 q.1))) | exact congrArg Value.int (cnt_f (decide_eq_false (fun q => bI_0 c27 q.2)))) ?_
      refine Z_istore_n 37 [(2, _), (3, _), (0, _), (1, _)] dX1_countInForce_36 rfl (Nat.le_of_ble_eq_true rfl) rfl ?_
      refine Z_iinc 40 [(3, _), (2, _), (0, _), (1, _)] 1 _ dX1_countInForce_37 rfl (Nat.le_of_ble_eq_true rfl) rfl (nI_1 _) rfl ?_
      refine Z_goto 4 dX1_countInForce_40 rfl ?_
      exact ih (i + 1) (by omega)
    · skip
      refine Z_aload_n 23 2 dX1_countInForce_22 rfl rfl ?_
      refine Z_iload_n 24 0 dX1_countInForce_23 rfl rfl ?_
      refine Z_callV 27 [_] 1 (zX1_isInForce a hs i (by omega)) dX1_countInForce_24 rfl qX1_72 kX1_isInForce rfl rfl (Nat.lt_of_le_of_lt hs.lt (Nat.le_of_ble_eq_true rfl)) (shS hs) rfl ⟨(Nat.le_of_ble_eq_true rfl), (Nat.le_of_ble_eq_true rfl)⟩ (Nat.le_of_ble_eq_true rfl) ⟨rfl, rfl⟩ ⟨(Nat.le_of_ble_eq_true rfl), (Nat.le_of_ble_eq_true rfl)⟩ (fun r9 w9 hp9 => ?_)
      obtain ⟨rfl, rfl⟩ := hp9
      refine Z_if_eq 30 34 dX1_countInForce_27 rfl rfl (fun c27 => ?_) (fun c27 => ?_)
      · skip
        refine Z_iconst 35 (nI 0) dX1_countInForce_34 rfl rfl ?_
        refine Z_iadd 36 dX1_countInForce_35 rfl ?_
        refine Z_top (v' := .int (nI (cnt (fun j => decide (sAbout m a j g ∧ sForce m a j)) (i + 1)))) (by first | exact congrArg Value.int (cnt_t (decide_eq_true ⟨bI_1 c19, bI_1 c27⟩)) | exact congrArg Value.int (cnt_f (decide_eq_false (fun q => bI_0 c19 q.1))) | exact congrArg Value.int (cnt_f (decide_eq_false (fun q => bI_0 c27 q.2)))) ?_
        refine Z_istore_n 37 [(2, _), (3, _), (0, _), (1, _)] dX1_countInForce_36 rfl (Nat.le_of_ble_eq_true rfl) rfl ?_
        refine Z_iinc 40 [(3, _), (2, _), (0, _), (1, _)] 1 _ dX1_countInForce_37 rfl (Nat.le_of_ble_eq_true rfl) rfl (nI_1 _) rfl ?_
        refine Z_goto 4 dX1_countInForce_40 rfl ?_
        exact ih (i + 1) (by omega)
      · skip
        refine Z_iconst 31 (nI 1) dX1_countInForce_30 rfl rfl ?_
        refine Z_goto 35 dX1_countInForce_31 rfl ?_
        refine Z_iadd 36 dX1_countInForce_35 rfl ?_
        refine Z_top (v' := .int (nI (cnt (fun j => decide (sAbout m a j g ∧ sForce m a j)) (i + 1)))) (by first | exact congrArg Value.int (cnt_t (decide_eq_true ⟨bI_1 c19, bI_1 c27⟩)) | exact congrArg Value.int (cnt_f (decide_eq_false (fun q => bI_0 c19 q.1))) | exact congrArg Value.int (cnt_f (decide_eq_false (fun q => bI_0 c27 q.2)))) ?_
        refine Z_istore_n 37 [(2, _), (3, _), (0, _), (1, _)] dX1_countInForce_36 rfl (Nat.le_of_ble_eq_true rfl) rfl ?_
        refine Z_iinc 40 [(3, _), (2, _), (0, _), (1, _)] 1 _ dX1_countInForce_37 rfl (Nat.le_of_ble_eq_true rfl) rfl (nI_1 _) rfl ?_
        refine Z_goto 4 dX1_countInForce_40 rfl ?_
        exact ih (i + 1) (by omega)
set_option maxRecDepth 100000 in
set_option maxHeartbeats 4000000 in
theorem zX1_countInForce {G : zG} {l : Launch} {h : Nat → Nat} {m : zM} (a : Nat) (hs : IsSt a) (n : Nat) (hk : sOk m a n) (g : Int32) : zMet G l yX1_countInForce mX1_countInForce [.ref (G.1 + a), .int g] (zw h m) (fun r w => r = some (.int (nI (cnt (fun j => decide (sAbout m a j g ∧ sForce m a j)) n))) ∧ w = zw h m) 0 0 := by
  refine zMet_of [(0, .ref (G.1 + a)), (1, .int g)] (by decide +kernel) rfl (Or.inl rfl) (Nat.le_of_ble_eq_true rfl) rfl ?_
  have hn14 := hk.2.1
  refine Z_iconst 1 (nI 0) dX1_countInForce_0 rfl rfl ?_
  refine Z_istore_n 2 [(2, _), (0, _), (1, _)] dX1_countInForce_1 rfl (Nat.le_of_ble_eq_true rfl) rfl ?_
  refine Z_iconst 3 (nI 0) dX1_countInForce_2 rfl rfl ?_
  refine Z_istore_n 4 [(3, _), (2, _), (0, _), (1, _)] dX1_countInForce_3 rfl (Nat.le_of_ble_eq_true rfl) rfl ?_
  exact lX1_countInForce a hs n hk g n 0 (by omega)

set_option maxRecDepth 100000 in
set_option maxHeartbeats 4000000 in
theorem lX1_countBroken {G : zG} {l : Launch} {h : Nat → Nat} {m : zM} (a : Nat) (hs : IsSt a) (n : Nat) (hk : sOk m a n) (g d : Int32) : ∀ (t i : Nat), i + t = n → Z G mX1_countBroken (fun _ => True) (zN G (fun r w => r = some (.int (nI (cnt (fun j => decide (sAbout m a j g ∧ sBrk m a j d)) n))) ∧ w = zw h m) 0 0) l 0 0 (zw h m) 5 [(4, .int (nI i)), (3, .int (nI (cnt (fun j => decide (sAbout m a j g ∧ sBrk m a j d)) i))), (0, .ref (G.1 + a)), (1, .int g), (2, .int d)] [] := by
  intro t
  induction t with
  | zero =>
    intro i hi
    have e9 : i = n := by omega
    subst e9
    have hn14 := hk.2.1
    refine Z_iload 7 0 dX1_countBroken_5 rfl rfl ?_
    refine Z_aload_n 8 2 dX1_countBroken_7 rfl rfl ?_
    refine Z_getI 11 dX1_countBroken_8 rfl fX1_40 (Nat.lt_of_le_of_lt hs.lt (Nat.le_of_ble_eq_true rfl)) (shS hs) rfl ?_
    refine Z_top (congrArg Value.int hk.1) ?_
    refine Z_icmp_ge 14 48 dX1_countBroken_11 rfl rfl (fun c11 => ?_) (fun c11 => absurd (nI_le (Nat.le_refl _) (by omega)) c11)
    refine Z_iload_n 49 1 dX1_countBroken_48 rfl rfl ?_
    exact Z_iret dX1_countBroken_49 rfl ⟨rfl, rfl⟩
  | succ t ih =>
    intro i hi
    have hlt : i < n := by omega
    have hn14 := hk.2.1
    refine Z_iload 7 0 dX1_countBroken_5 rfl rfl ?_
    refine Z_aload_n 8 2 dX1_countBroken_7 rfl rfl ?_
    refine Z_getI 11 dX1_countBroken_8 rfl fX1_40 (Nat.lt_of_le_of_lt hs.lt (Nat.le_of_ble_eq_true rfl)) (shS hs) rfl ?_
    refine Z_top (congrArg Value.int hk.1) ?_
    refine Z_icmp_ge 14 48 dX1_countBroken_11 rfl rfl (fun c11 => absurd c11 (nI_ge hlt (by omega))) (fun c11 => ?_)
    refine Z_iload_n 15 1 dX1_countBroken_14 rfl rfl ?_
    refine Z_aload_n 16 2 dX1_countBroken_15 rfl rfl ?_
    refine Z_iload 18 0 dX1_countBroken_16 rfl rfl ?_
    refine Z_iload_n 19 3 dX1_countBroken_18 rfl rfl ?_
    refine Z_callV 22 [_, _] 1 (zX1_isAbout a hs i (by omega) g) dX1_countBroken_19 rfl qX1_68 kX1_isAbout rfl rfl (Nat.lt_of_le_of_lt hs.lt (Nat.le_of_ble_eq_true rfl)) (shS hs) rfl ⟨(Nat.le_of_ble_eq_true rfl), (Nat.le_of_ble_eq_true rfl)⟩ (Nat.le_of_ble_eq_true rfl) ⟨rfl, rfl⟩ ⟨(Nat.le_of_ble_eq_true rfl), (Nat.le_of_ble_eq_true rfl)⟩ (fun r9 w9 hp9 => ?_)
    obtain ⟨rfl, rfl⟩ := hp9
    refine Z_if_eq 25 39 dX1_countBroken_22 rfl rfl (fun c22 => ?_) (fun c22 => ?_)
    · skip
      refine Z_iconst 40 (nI 0) dX1_countBroken_39 rfl rfl ?_
      refine Z_iadd 41 dX1_countBroken_40 rfl ?_
      refine Z_top (v' := .int (nI (cnt (fun j => decide (sAbout m a j g ∧ sBrk m a j d)) (i + 1)))) (by first | exact congrArg Value.int (cnt_t (decide_eq_true ⟨bI_1 c22, bI_1 c32⟩)) | exact congrArg Value.int (cnt_f (decide_eq_false (fun q => bI_0 c22 q.1))) | exact congrArg Value.int (cnt_f (decide_eq_false (fun q => bI_0 c32 q.2)))) ?_
      refine Z_istore_n 42 [(3, _), (4, _), (0, _), (1, _), (2, _)] dX1_countBroken_41 rfl (Nat.le_of_ble_eq_true rfl) rfl ?_
      refine Z_iinc 45 [(4, _), (3, _), (0, _), (1, _), (2, _)] 1 _ dX1_countBroken_42 rfl (Nat.le_of_ble_eq_true rfl) rfl (nI_1 _) rfl ?_
      refine Z_goto 5 dX1_countBroken_45 rfl ?_
      exact ih (i + 1) (by omega)
    · skip
      refine Z_aload_n 26 2 dX1_countBroken_25 rfl rfl ?_
      refine Z_iload 28 0 dX1_countBroken_26 rfl rfl ?_
      refine Z_iload_n 29 4 dX1_countBroken_28 rfl rfl ?_
      refine Z_callV 32 [_, _] 1 (zX1_isBrokenAfter a hs n hk i hlt d) dX1_countBroken_29 rfl qX1_78 kX1_isBrokenAfter rfl rfl (Nat.lt_of_le_of_lt hs.lt (Nat.le_of_ble_eq_true rfl)) (shS hs) rfl ⟨(Nat.le_of_ble_eq_true rfl), (Nat.le_of_ble_eq_true rfl)⟩ (Nat.le_of_ble_eq_true rfl) ⟨rfl, rfl⟩ ⟨(Nat.le_of_ble_eq_true rfl), (Nat.le_of_ble_eq_true rfl)⟩ (fun r9 w9 hp9 => ?_)
      obtain ⟨rfl, rfl⟩ := hp9
      refine Z_if_eq 35 39 dX1_countBroken_32 rfl rfl (fun c32 => ?_) (fun c32 => ?_)
      · skip
        refine Z_iconst 40 (nI 0) dX1_countBroken_39 rfl rfl ?_
        refine Z_iadd 41 dX1_countBroken_40 rfl ?_
        refine Z_top (v' := .int (nI (cnt (fun j => decide (sAbout m a j g ∧ sBrk m a j d)) (i + 1)))) (by first | exact congrArg Value.int (cnt_t (decide_eq_true ⟨bI_1 c22, bI_1 c32⟩)) | exact congrArg Value.int (cnt_f (decide_eq_false (fun q => bI_0 c22 q.1))) | exact congrArg Value.int (cnt_f (decide_eq_false (fun q => bI_0 c32 q.2)))) ?_
        refine Z_istore_n 42 [(3, _), (4, _), (0, _), (1, _), (2, _)] dX1_countBroken_41 rfl (Nat.le_of_ble_eq_true rfl) rfl ?_
        refine Z_iinc 45 [(4, _), (3, _), (0, _), (1, _), (2, _)] 1 _ dX1_countBroken_42 rfl (Nat.le_of_ble_eq_true rfl) rfl (nI_1 _) rfl ?_
        refine Z_goto 5 dX1_countBroken_45 rfl ?_
        exact ih (i + 1) (by omega)
      · skip
        refine Z_iconst 36 (nI 1) dX1_countBroken_35 rfl rfl ?_
        refine Z_goto 40 dX1_countBroken_36 rfl ?_
        refine Z_iadd 41 dX1_countBroken_40 rfl ?_
        refine Z_top (v' := .int (nI (cnt (fun j => decide (sAbout m a j g ∧ sBrk m a j d)) (i + 1)))) (by first | exact congrArg Value.int (cnt_t (decide_eq_true ⟨bI_1 c22, bI_1 c32⟩)) | exact congrArg Value.int (cnt_f (decide_eq_false (fun q => bI_0 c22 q.1))) | exact congrArg Value.int (cnt_f (decide_eq_false (fun q => bI_0 c32 q.2)))) ?_
        refine Z_istore_n 42 [(3, _), (4, _), (0, _), (1, _), (2, _)] dX1_countBroken_41 rfl (Nat.le_of_ble_eq_true rfl) rfl ?_
        refine Z_iinc 45 [(4, _), (3, _), (0, _), (1, _), (2, _)] 1 _ dX1_countBroken_42 rfl (Nat.le_of_ble_eq_true rfl) rfl (nI_1 _) rfl ?_
        refine Z_goto 5 dX1_countBroken_45 rfl ?_
        exact ih (i + 1) (by omega)
set_option maxRecDepth 100000 in
set_option maxHeartbeats 4000000 in
theorem zX1_countBroken {G : zG} {l : Launch} {h : Nat → Nat} {m : zM} (a : Nat) (hs : IsSt a) (n : Nat) (hk : sOk m a n) (g d : Int32) : zMet G l yX1_countBroken mX1_countBroken [.ref (G.1 + a), .int g, .int d] (zw h m) (fun r w => r = some (.int (nI (cnt (fun j => decide (sAbout m a j g ∧ sBrk m a j d)) n))) ∧ w = zw h m) 0 0 := by
  refine zMet_of [(0, .ref (G.1 + a)), (1, .int g), (2, .int d)] (by decide +kernel) rfl (Or.inl rfl) (Nat.le_of_ble_eq_true rfl) rfl ?_
  have hn14 := hk.2.1
  refine Z_iconst 1 (nI 0) dX1_countBroken_0 rfl rfl ?_
  refine Z_istore_n 2 [(3, _), (0, _), (1, _), (2, _)] dX1_countBroken_1 rfl (Nat.le_of_ble_eq_true rfl) rfl ?_
  refine Z_iconst 3 (nI 0) dX1_countBroken_2 rfl rfl ?_
  refine Z_istore 5 [(4, _), (3, _), (0, _), (1, _), (2, _)] dX1_countBroken_3 rfl (Nat.le_of_ble_eq_true rfl) rfl ?_
  exact lX1_countBroken a hs n hk g d n 0 (by omega)

set_option maxRecDepth 100000 in
set_option maxHeartbeats 4000000 in
theorem lX1_heightsAfter {G : zG} {l : Launch} {h : Nat → Nat} {m : zM} (a : Nat) (hs : IsSt a) (d : Int32) : ∀ (t i : Nat), i + t = 8 → Z G mX1_heightsAfter (fun _ => True) (zN G (fun r w => r = some (.int (sumI (fun i => hAft m a i d) 8)) ∧ w = zw h m) 0 0) l 0 0 (zw h m) 4 [(3, .int (nI i)), (2, .int (sumI (fun i => hAft m a i d) i)), (0, .ref (G.1 + a)), (1, .int d)] [] := by
  intro t
  induction t with
  | zero =>
    intro i hi
    have e9 : i = 8 := by omega
    subst e9
    refine Z_iload_n 5 0 dX1_heightsAfter_4 rfl rfl ?_
    refine Z_bipush 7 (nI 8) dX1_heightsAfter_5 rfl rfl ?_
    refine Z_icmp_ge 10 25 dX1_heightsAfter_7 rfl rfl (fun c7 => ?_) (fun c7 => absurd (nI_le (Nat.le_refl _) (by omega)) c7)
    refine Z_iload_n 26 1 dX1_heightsAfter_25 rfl rfl ?_
    exact Z_iret dX1_heightsAfter_26 rfl ⟨rfl, rfl⟩
  | succ t ih =>
    intro i hi
    have hlt : i < 8 := by omega
    refine Z_iload_n 5 0 dX1_heightsAfter_4 rfl rfl ?_
    refine Z_bipush 7 (nI 8) dX1_heightsAfter_5 rfl rfl ?_
    refine Z_icmp_ge 10 25 dX1_heightsAfter_7 rfl rfl (fun c7 => absurd c7 (nI_ge hlt (by omega))) (fun c7 => ?_)
    refine Z_iload_n 11 1 dX1_heightsAfter_10 rfl rfl ?_
    refine Z_aload_n 12 2 dX1_heightsAfter_11 rfl rfl ?_
    refine Z_iload_n 13 0 dX1_heightsAfter_12 rfl rfl ?_
    refine Z_iload_n 14 3 dX1_heightsAfter_13 rfl rfl ?_
    refine Z_callV 17 [_, _] 1 (zX1_heightAfter a hs i hlt d) dX1_heightsAfter_14 rfl qX1_65 kX1_heightAfter rfl rfl (Nat.lt_of_le_of_lt hs.lt (Nat.le_of_ble_eq_true rfl)) (shS hs) rfl ⟨(Nat.le_of_ble_eq_true rfl), (Nat.le_of_ble_eq_true rfl)⟩ (Nat.le_of_ble_eq_true rfl) ⟨rfl, rfl⟩ ⟨(Nat.le_of_ble_eq_true rfl), (Nat.le_of_ble_eq_true rfl)⟩ (fun r9 w9 hp9 => ?_)
    obtain ⟨rfl, rfl⟩ := hp9
    refine Z_iadd 18 dX1_heightsAfter_17 rfl ?_
    refine Z_istore_n 19 [(2, _), (3, _), (0, _), (1, _)] dX1_heightsAfter_18 rfl (Nat.le_of_ble_eq_true rfl) rfl ?_
    refine Z_iinc 22 [(3, _), (2, _), (0, _), (1, _)] 1 _ dX1_heightsAfter_19 rfl (Nat.le_of_ble_eq_true rfl) rfl (nI_1 _) rfl ?_
    refine Z_goto 4 dX1_heightsAfter_22 rfl ?_
    exact ih (i + 1) (by omega)

set_option maxRecDepth 100000 in
set_option maxHeartbeats 4000000 in
theorem zX1_heightsAfter {G : zG} {l : Launch} {h : Nat → Nat} {m : zM} (a : Nat) (hs : IsSt a) (d : Int32) : zMet G l yX1_heightsAfter mX1_heightsAfter [.ref (G.1 + a), .int d] (zw h m) (fun r w => r = some (.int (sumI (fun i => hAft m a i d) 8)) ∧ w = zw h m) 0 0 := by
  refine zMet_of [(0, .ref (G.1 + a)), (1, .int d)] (by decide +kernel) rfl (Or.inl rfl) (Nat.le_of_ble_eq_true rfl) rfl ?_
  refine Z_iconst 1 (nI 0) dX1_heightsAfter_0 rfl rfl ?_
  refine Z_istore_n 2 [(2, _), (0, _), (1, _)] dX1_heightsAfter_1 rfl (Nat.le_of_ble_eq_true rfl) rfl ?_
  refine Z_iconst 3 (nI 0) dX1_heightsAfter_2 rfl rfl ?_
  refine Z_istore_n 4 [(3, _), (2, _), (0, _), (1, _)] dX1_heightsAfter_3 rfl (Nat.le_of_ble_eq_true rfl) rfl ?_
  exact lX1_heightsAfter a hs d 8 0 (by omega)

def pdM (m : zM) (a i : Nat) : zM := fun q k => if q = a + 1 ∧ k < i then hAft m a k (nI 1) else m q k
theorem pdM_step (m : zM) (a i : Nat) : up2 (pdM m a i) (a + 1) i (hAft (pdM m a i) a i (nI 1)) = pdM m a (i + 1) := by
  have e : hAft (pdM m a i) a i (nI 1) = hAft m a i (nI 1) := by simp [hAft, pdM]
  rw [e]
  funext q k
  unfold up2 pdM
  by_cases h1 : q = a + 1
  · subst h1
    by_cases h2 : k = i
    · subst h2
      simp
    · by_cases h3 : k < i
      · simp [h2, h3, Nat.lt_succ_of_lt h3]
      · have h4 : ¬ k < i + 1 := by omega
        simp [h2, h3, h4]
  · simp [h1]
def dayM (m : zM) (a : Nat) : zM := up2 (pdM m a 8) a 9 (m a 9 + nI 1)
set_option maxRecDepth 100000 in
set_option maxHeartbeats 4000000 in
theorem lX1_passDay {G : zG} {l : Launch} {h : Nat → Nat} {m : zM} (a : Nat) (hs : IsSt a) : ∀ (t i : Nat), i + t = 8 → Z G mX1_passDay (fun _ => True) (zN G (fun r w => r = none ∧ w = zw h (dayM m a)) 0 0) l 0 0 (zw h (pdM m a i)) 2 [(1, .int (nI i)), (0, .ref (G.1 + a))] [] := by
  intro t
  induction t with
  | zero =>
    intro i hi
    have e9 : i = 8 := by omega
    subst e9
    refine Z_iload_n 3 0 dX1_passDay_2 rfl rfl ?_
    refine Z_bipush 5 (nI 8) dX1_passDay_3 rfl rfl ?_
    refine Z_icmp_ge 8 26 dX1_passDay_5 rfl rfl (fun c5 => ?_) (fun c5 => absurd (nI_le (Nat.le_refl _) (by omega)) c5)
    refine Z_aload_n 27 1 dX1_passDay_26 rfl rfl ?_
    refine Z_dup 28 dX1_passDay_27 rfl rfl ?_
    refine Z_getI 31 dX1_passDay_28 rfl fX1_43 (Nat.lt_of_le_of_lt hs.lt (Nat.le_of_ble_eq_true rfl)) (shS hs) rfl ?_
    refine Z_iconst 32 (nI 1) dX1_passDay_31 rfl rfl ?_
    refine Z_iadd 33 dX1_passDay_32 rfl ?_
    refine Z_putI 36 .int dX1_passDay_33 rfl fX1_43 ft_1_9 (Nat.lt_of_le_of_lt hs.lt (Nat.le_of_ble_eq_true rfl)) (shS hs) rfl rfl rfl ?_
    exact Z_vret dX1_passDay_36 rfl ⟨rfl, by unfold dayM; simp [pdM, up2]⟩
  | succ t ih =>
    intro i hi
    have hlt : i < 8 := by omega
    refine Z_iload_n 3 0 dX1_passDay_2 rfl rfl ?_
    refine Z_bipush 5 (nI 8) dX1_passDay_3 rfl rfl ?_
    refine Z_icmp_ge 8 26 dX1_passDay_5 rfl rfl (fun c5 => absurd c5 (nI_ge hlt (by omega))) (fun c5 => ?_)
    refine Z_aload_n 9 1 dX1_passDay_8 rfl rfl ?_
    refine Z_getR 12 dX1_passDay_9 rfl fX1_9 (Nat.lt_of_le_of_lt hs.lt (Nat.le_of_ble_eq_true rfl)) (shS hs) rfl ?_
    refine Z_iload_n 13 0 dX1_passDay_12 rfl rfl ?_
    refine Z_aload_n 14 1 dX1_passDay_13 rfl rfl ?_
    refine Z_iload_n 15 0 dX1_passDay_14 rfl rfl ?_
    refine Z_iconst 16 (nI 1) dX1_passDay_15 rfl rfl ?_
    refine Z_callV 19 [_, _] 1 (zX1_heightAfter (m := pdM m a i) a hs i hlt (nI 1)) dX1_passDay_16 rfl qX1_65 kX1_heightAfter rfl rfl (Nat.lt_of_le_of_lt hs.lt (Nat.le_of_ble_eq_true rfl)) (shS hs) rfl ⟨(Nat.le_of_ble_eq_true rfl), (Nat.le_of_ble_eq_true rfl)⟩ (Nat.le_of_ble_eq_true rfl) ⟨rfl, rfl⟩ ⟨(Nat.le_of_ble_eq_true rfl), (Nat.le_of_ble_eq_true rfl)⟩ (fun r9 w9 hp9 => ?_)
    obtain ⟨rfl, rfl⟩ := hp9
    refine Z_iasn 20 dX1_passDay_19 rfl (Nat.lt_of_le_of_lt (Nat.add_le_add_right hs.lt _) (Nat.le_of_ble_eq_true rfl)) (shS0 hs) (by first | assumption | omega) (by decide) ?_
    rw [pdM_step]
    refine Z_iinc 23 [(1, _), (0, _)] 0 _ dX1_passDay_20 rfl (Nat.le_of_ble_eq_true rfl) rfl (nI_1 _) rfl ?_
    refine Z_goto 2 dX1_passDay_23 rfl ?_
    exact ih (i + 1) (by omega)

set_option maxRecDepth 100000 in
set_option maxHeartbeats 4000000 in
theorem zX1_passDay {G : zG} {l : Launch} {h : Nat → Nat} {m : zM} (a : Nat) (hs : IsSt a) : zMet G l yX1_passDay mX1_passDay [.ref (G.1 + a)] (zw h m) (fun r w => r = none ∧ w = zw h (dayM m a)) 0 0 := by
  refine zMet_of [(0, .ref (G.1 + a))] (by decide +kernel) rfl (Or.inl rfl) (Nat.le_of_ble_eq_true rfl) rfl ?_
  refine Z_iconst 1 (nI 0) dX1_passDay_0 rfl rfl ?_
  refine Z_istore_n 2 [(1, _), (0, _)] dX1_passDay_1 rfl (Nat.le_of_ble_eq_true rfl) rfl ?_
  refine Z_w (w' := zw h (pdM m a 0)) (congrArg (zw h) (by funext q k; simp [pdM])) ?_
  exact lX1_passDay a hs 8 0 (by omega)

def cutM (m : zM) (a i : Nat) (by9 : Int32) : zM := up2 (up2 (up2 m (a + 1) i (m (a + 1) i - by9)) (a + 4) i (m (a + 4) i + by9)) a 13 (m a 13 + nI 1)
set_option maxRecDepth 100000 in
set_option maxHeartbeats 4000000 in
theorem zX1_cutOff {G : zG} {l : Launch} {h : Nat → Nat} {m : zM} (a : Nat) (hs : IsSt a) (i : Nat) (hi : i < 8) (y : Int32) : zMet G l yX1_cutOff mX1_cutOff [.ref (G.1 + a), .int (nI i), .int y] (zw h m) (fun r w => r = none ∧ w = zw h (cutM m a i y)) 0 0 := by
  refine zMet_of [(0, .ref (G.1 + a)), (1, .int (nI i)), (2, .int y)] (by decide +kernel) rfl (Or.inl rfl) (Nat.le_of_ble_eq_true rfl) rfl ?_
  refine Z_aload_n 1 0 dX1_cutOff_0 rfl rfl ?_
  refine Z_getR 4 dX1_cutOff_1 rfl fX1_9 (Nat.lt_of_le_of_lt hs.lt (Nat.le_of_ble_eq_true rfl)) (shS hs) rfl ?_
  refine Z_iload_n 5 1 dX1_cutOff_4 rfl rfl ?_
  refine Z_dup2 6 dX1_cutOff_5 rfl rfl rfl ?_
  refine Z_ialn 7 dX1_cutOff_6 rfl (Nat.lt_of_le_of_lt (Nat.add_le_add_right hs.lt _) (Nat.le_of_ble_eq_true rfl)) (shS0 hs) (by first | assumption | omega) (by decide) ?_
  refine Z_iload_n 8 2 dX1_cutOff_7 rfl rfl ?_
  refine Z_isub 9 dX1_cutOff_8 rfl ?_
  refine Z_iasn 10 dX1_cutOff_9 rfl (Nat.lt_of_le_of_lt (Nat.add_le_add_right hs.lt _) (Nat.le_of_ble_eq_true rfl)) (shS0 hs) (by first | assumption | omega) (by decide) ?_
  refine Z_aload_n 11 0 dX1_cutOff_10 rfl rfl ?_
  refine Z_getR 14 dX1_cutOff_11 rfl fX1_21 (Nat.lt_of_le_of_lt hs.lt (Nat.le_of_ble_eq_true rfl)) (shS hs) rfl ?_
  refine Z_iload_n 15 1 dX1_cutOff_14 rfl rfl ?_
  refine Z_dup2 16 dX1_cutOff_15 rfl rfl rfl ?_
  refine Z_ialn 17 dX1_cutOff_16 rfl (Nat.lt_of_le_of_lt (Nat.add_le_add_right hs.lt _) (Nat.le_of_ble_eq_true rfl)) (shS3 hs) (by first | assumption | omega) (by decide) ?_
  refine Z_iload_n 18 2 dX1_cutOff_17 rfl rfl ?_
  refine Z_iadd 19 dX1_cutOff_18 rfl ?_
  refine Z_iasn 20 dX1_cutOff_19 rfl (Nat.lt_of_le_of_lt (Nat.add_le_add_right hs.lt _) (Nat.le_of_ble_eq_true rfl)) (shS3 hs) (by first | assumption | omega) (by decide) ?_
  refine Z_aload_n 21 0 dX1_cutOff_20 rfl rfl ?_
  refine Z_dup 22 dX1_cutOff_21 rfl rfl ?_
  refine Z_getI 25 dX1_cutOff_22 rfl fX1_52 (Nat.lt_of_le_of_lt hs.lt (Nat.le_of_ble_eq_true rfl)) (shS hs) rfl ?_
  refine Z_iconst 26 (nI 1) dX1_cutOff_25 rfl rfl ?_
  refine Z_iadd 27 dX1_cutOff_26 rfl ?_
  refine Z_putI 30 .int dX1_cutOff_27 rfl fX1_52 ft_1_13 (Nat.lt_of_le_of_lt hs.lt (Nat.le_of_ble_eq_true rfl)) (shS hs) rfl rfl rfl ?_
  exact Z_vret dX1_cutOff_30 rfl ⟨rfl, by unfold cutM; simp [up2]⟩

def addM (m : zM) (a n : Nat) (f o d : Int32) : zM := up2 (up2 (up2 (up2 (up2 (up2 m (a + 5) n f) (a + 6) n o) (a + 7) n d) (a + 8) n (nI 0)) a 8 (nI (n + 1))) a 11 (m a 11 + nI 1)
set_option maxRecDepth 100000 in
set_option maxHeartbeats 4000000 in
theorem zX1_addTreaty {G : zG} {l : Launch} {h : Nat → Nat} {m : zM} (a : Nat) (hs : IsSt a) (n : Nat) (hn : n < 14) (hk : m a 8 = nI n) (f o d : Int32) : zMet G l yX1_addTreaty mX1_addTreaty [.ref (G.1 + a), .int f, .int o, .int d] (zw h m) (fun r w => r = none ∧ w = zw h (addM m a n f o d)) 0 0 := by
  refine zMet_of [(0, .ref (G.1 + a)), (1, .int f), (2, .int o), (3, .int d)] (by decide +kernel) rfl (Or.inl rfl) (Nat.le_of_ble_eq_true rfl) rfl ?_
  refine Z_aload_n 1 0 dX1_addTreaty_0 rfl rfl ?_
  refine Z_getR 4 dX1_addTreaty_1 rfl fX1_24 (Nat.lt_of_le_of_lt hs.lt (Nat.le_of_ble_eq_true rfl)) (shS hs) rfl ?_
  refine Z_aload_n 5 0 dX1_addTreaty_4 rfl rfl ?_
  refine Z_getI 8 dX1_addTreaty_5 rfl fX1_40 (Nat.lt_of_le_of_lt hs.lt (Nat.le_of_ble_eq_true rfl)) (shS hs) rfl ?_
  refine Z_top (v' := .int (nI n)) (congrArg Value.int (by simp [up2, hk])) ?_
  refine Z_iload_n 9 1 dX1_addTreaty_8 rfl rfl ?_
  refine Z_iasn 10 dX1_addTreaty_9 rfl (Nat.lt_of_le_of_lt (Nat.add_le_add_right hs.lt _) (Nat.le_of_ble_eq_true rfl)) (shS4 hs) (by first | assumption | omega) (by decide) ?_
  refine Z_aload_n 11 0 dX1_addTreaty_10 rfl rfl ?_
  refine Z_getR 14 dX1_addTreaty_11 rfl fX1_27 (Nat.lt_of_le_of_lt hs.lt (Nat.le_of_ble_eq_true rfl)) (shS hs) rfl ?_
  refine Z_aload_n 15 0 dX1_addTreaty_14 rfl rfl ?_
  refine Z_getI 18 dX1_addTreaty_15 rfl fX1_40 (Nat.lt_of_le_of_lt hs.lt (Nat.le_of_ble_eq_true rfl)) (shS hs) rfl ?_
  refine Z_top (v' := .int (nI n)) (congrArg Value.int (by simp [up2, hk])) ?_
  refine Z_iload_n 19 2 dX1_addTreaty_18 rfl rfl ?_
  refine Z_iasn 20 dX1_addTreaty_19 rfl (Nat.lt_of_le_of_lt (Nat.add_le_add_right hs.lt _) (Nat.le_of_ble_eq_true rfl)) (shS5 hs) (by first | assumption | omega) (by decide) ?_
  refine Z_aload_n 21 0 dX1_addTreaty_20 rfl rfl ?_
  refine Z_getR 24 dX1_addTreaty_21 rfl fX1_30 (Nat.lt_of_le_of_lt hs.lt (Nat.le_of_ble_eq_true rfl)) (shS hs) rfl ?_
  refine Z_aload_n 25 0 dX1_addTreaty_24 rfl rfl ?_
  refine Z_getI 28 dX1_addTreaty_25 rfl fX1_40 (Nat.lt_of_le_of_lt hs.lt (Nat.le_of_ble_eq_true rfl)) (shS hs) rfl ?_
  refine Z_top (v' := .int (nI n)) (congrArg Value.int (by simp [up2, hk])) ?_
  refine Z_iload_n 29 3 dX1_addTreaty_28 rfl rfl ?_
  refine Z_iasn 30 dX1_addTreaty_29 rfl (Nat.lt_of_le_of_lt (Nat.add_le_add_right hs.lt _) (Nat.le_of_ble_eq_true rfl)) (shS6 hs) (by first | assumption | omega) (by decide) ?_
  refine Z_aload_n 31 0 dX1_addTreaty_30 rfl rfl ?_
  refine Z_getR 34 dX1_addTreaty_31 rfl fX1_33 (Nat.lt_of_le_of_lt hs.lt (Nat.le_of_ble_eq_true rfl)) (shS hs) rfl ?_
  refine Z_aload_n 35 0 dX1_addTreaty_34 rfl rfl ?_
  refine Z_getI 38 dX1_addTreaty_35 rfl fX1_40 (Nat.lt_of_le_of_lt hs.lt (Nat.le_of_ble_eq_true rfl)) (shS hs) rfl ?_
  refine Z_top (v' := .int (nI n)) (congrArg Value.int (by simp [up2, hk])) ?_
  refine Z_iconst 39 (nI 0) dX1_addTreaty_38 rfl rfl ?_
  refine Z_iasn 40 dX1_addTreaty_39 rfl (Nat.lt_of_le_of_lt (Nat.add_le_add_right hs.lt _) (Nat.le_of_ble_eq_true rfl)) (shS7 hs) (by first | assumption | omega) (by decide) ?_
  refine Z_aload_n 41 0 dX1_addTreaty_40 rfl rfl ?_
  refine Z_dup 42 dX1_addTreaty_41 rfl rfl ?_
  refine Z_getI 45 dX1_addTreaty_42 rfl fX1_40 (Nat.lt_of_le_of_lt hs.lt (Nat.le_of_ble_eq_true rfl)) (shS hs) rfl ?_
  refine Z_top (v' := .int (nI n)) (congrArg Value.int (by simp [up2, hk])) ?_
  refine Z_iconst 46 (nI 1) dX1_addTreaty_45 rfl rfl ?_
  refine Z_iadd 47 dX1_addTreaty_46 rfl ?_
  refine Z_top (v' := .int (nI (n + 1))) (congrArg Value.int (nI_1 n)) ?_
  refine Z_putI 50 .int dX1_addTreaty_47 rfl fX1_40 ft_1_8 (Nat.lt_of_le_of_lt hs.lt (Nat.le_of_ble_eq_true rfl)) (shS hs) rfl rfl rfl ?_
  refine Z_aload_n 51 0 dX1_addTreaty_50 rfl rfl ?_
  refine Z_dup 52 dX1_addTreaty_51 rfl rfl ?_
  refine Z_getI 55 dX1_addTreaty_52 rfl fX1_46 (Nat.lt_of_le_of_lt hs.lt (Nat.le_of_ble_eq_true rfl)) (shS hs) rfl ?_
  refine Z_iconst 56 (nI 1) dX1_addTreaty_55 rfl rfl ?_
  refine Z_iadd 57 dX1_addTreaty_56 rfl ?_
  refine Z_putI 60 .int dX1_addTreaty_57 rfl fX1_46 ft_1_11 (Nat.lt_of_le_of_lt hs.lt (Nat.le_of_ble_eq_true rfl)) (shS hs) rfl rfl rfl ?_
  exact Z_vret dX1_addTreaty_60 rfl ⟨rfl, by unfold addM; simp [up2]⟩

def rmM (m : zM) (a t j : Nat) : zM := fun q k => if a + 5 ≤ q ∧ q ≤ a + 8 ∧ t ≤ k ∧ k + 1 < j then m q (k + 1) else m q k
theorem rmM_step (m : zM) (a t j : Nat) (hj : t < j) : up2 (up2 (up2 (up2 (rmM m a t j) (a + 5) (j - 1) (rmM m a t j (a + 5) j)) (a + 6) (j - 1) (rmM m a t j (a + 6) j)) (a + 7) (j - 1) (rmM m a t j (a + 7) j)) (a + 8) (j - 1) (rmM m a t j (a + 8) j) = rmM m a t (j + 1) := by
  have e : ∀ q, rmM m a t j q j = m q j := fun q => by
    unfold rmM
    rw [if_neg (by omega)]
  rw [e, e, e, e]
  funext q k
  unfold up2 rmM
  by_cases h1 : k = j - 1
  · subst h1
    have e1 : j - 1 + 1 = j := by omega
    have h3 : t ≤ j - 1 := by omega
    by_cases h2 : a + 5 ≤ q ∧ q ≤ a + 8
    · have h4 : q = a + 5 ∨ q = a + 6 ∨ q = a + 7 ∨ q = a + 8 := by omega
      rcases h4 with h4 | h4 | h4 | h4 <;> subst h4 <;> simp [e1, h3]
    · have g1 : q ≠ a + 5 := by omega
      have g2 : q ≠ a + 6 := by omega
      have g3 : q ≠ a + 7 := by omega
      have g4 : q ≠ a + 8 := by omega
      simp only [g1, g2, g3, g4, false_and, if_false]
      rw [if_neg (fun z => h2 ⟨z.1, z.2.1⟩), if_neg (fun z => h2 ⟨z.1, z.2.1⟩)]
  · simp only [h1, and_false, if_false]
    by_cases h2 : a + 5 ≤ q ∧ q ≤ a + 8 ∧ t ≤ k ∧ k + 1 < j
    · rw [if_pos h2, if_pos ⟨h2.1, h2.2.1, h2.2.2.1, by omega⟩]
    · rw [if_neg h2, if_neg (fun z => h2 ⟨z.1, z.2.1, z.2.2.1, by omega⟩)]
theorem nI_sub1 {j : Nat} (h : 0 < j) : nI j - nI 1 = nI (j - 1) := by
  obtain ⟨q, rfl⟩ : ∃ q, j = q + 1 := ⟨j - 1, by omega⟩
  exact nI_pred q
set_option maxRecDepth 100000 in
set_option maxHeartbeats 4000000 in
theorem lX1_removeTreaty {G : zG} {l : Launch} {h : Nat → Nat} {m : zM} (a : Nat) (hs : IsSt a) (n t9 : Nat) (ht9 : t9 < n) (hn : n ≤ 14) (hk : m a 8 = nI n) : ∀ (t i : Nat), i + t = n → t9 < i → Z G mX1_removeTreaty (fun _ => True) (zN G (fun r w => r = none ∧ w = zw h (up2 (rmM m a t9 n) a 8 (nI (n - 1)))) 0 0) l 0 0 (zw h (rmM m a t9 i)) 4 [(2, .int (nI i)), (0, .ref (G.1 + a)), (1, .int (nI t9))] [] := by
  intro t
  induction t with
  | zero =>
    intro i hi hy
    have e9 : i = n := by omega
    subst e9
    refine Z_iload_n 5 0 dX1_removeTreaty_4 rfl rfl ?_
    refine Z_aload_n 6 1 dX1_removeTreaty_5 rfl rfl ?_
    refine Z_getI 9 dX1_removeTreaty_6 rfl fX1_40 (Nat.lt_of_le_of_lt hs.lt (Nat.le_of_ble_eq_true rfl)) (shS hs) rfl ?_
    refine Z_top (v' := .int (nI i)) (congrArg Value.int (by unfold rmM; rw [if_neg (by omega)]; exact hk)) ?_
    refine Z_icmp_ge 12 74 dX1_removeTreaty_9 rfl rfl (fun c9 => ?_) (fun c9 => absurd (nI_le (Nat.le_refl _) (by omega)) c9)
    refine Z_aload_n 75 1 dX1_removeTreaty_74 rfl rfl ?_
    refine Z_dup 76 dX1_removeTreaty_75 rfl rfl ?_
    refine Z_getI 79 dX1_removeTreaty_76 rfl fX1_40 (Nat.lt_of_le_of_lt hs.lt (Nat.le_of_ble_eq_true rfl)) (shS hs) rfl ?_
    refine Z_top (v' := .int (nI i)) (congrArg Value.int (by unfold rmM; rw [if_neg (by omega)]; exact hk)) ?_
    refine Z_iconst 80 (nI 1) dX1_removeTreaty_79 rfl rfl ?_
    refine Z_isub 81 dX1_removeTreaty_80 rfl ?_
    refine Z_top (v' := .int (nI (i - 1))) (congrArg Value.int (nI_sub1 (by omega))) ?_
    refine Z_putI 84 .int dX1_removeTreaty_81 rfl fX1_40 ft_1_8 (Nat.lt_of_le_of_lt hs.lt (Nat.le_of_ble_eq_true rfl)) (shS hs) rfl rfl rfl ?_
    exact Z_vret dX1_removeTreaty_84 rfl ⟨rfl, rfl⟩
  | succ t ih =>
    intro i hi hy
    have hlt : i < n := by omega
    refine Z_iload_n 5 0 dX1_removeTreaty_4 rfl rfl ?_
    refine Z_aload_n 6 1 dX1_removeTreaty_5 rfl rfl ?_
    refine Z_getI 9 dX1_removeTreaty_6 rfl fX1_40 (Nat.lt_of_le_of_lt hs.lt (Nat.le_of_ble_eq_true rfl)) (shS hs) rfl ?_
    refine Z_top (v' := .int (nI n)) (congrArg Value.int (by unfold rmM; rw [if_neg (by omega)]; exact hk)) ?_
    refine Z_icmp_ge 12 74 dX1_removeTreaty_9 rfl rfl (fun c9 => absurd c9 (nI_ge hlt (by omega))) (fun c9 => ?_)
    refine Z_aload_n 13 1 dX1_removeTreaty_12 rfl rfl ?_
    refine Z_getR 16 dX1_removeTreaty_13 rfl fX1_24 (Nat.lt_of_le_of_lt hs.lt (Nat.le_of_ble_eq_true rfl)) (shS hs) rfl ?_
    refine Z_iload_n 17 0 dX1_removeTreaty_16 rfl rfl ?_
    refine Z_iconst 18 (nI 1) dX1_removeTreaty_17 rfl rfl ?_
    refine Z_isub 19 dX1_removeTreaty_18 rfl ?_
    refine Z_top (v' := .int (nI (i - 1))) (congrArg Value.int (nI_sub1 (by omega))) ?_
    refine Z_aload_n 20 1 dX1_removeTreaty_19 rfl rfl ?_
    refine Z_getR 23 dX1_removeTreaty_20 rfl fX1_24 (Nat.lt_of_le_of_lt hs.lt (Nat.le_of_ble_eq_true rfl)) (shS hs) rfl ?_
    refine Z_iload_n 24 0 dX1_removeTreaty_23 rfl rfl ?_
    refine Z_ialn 25 dX1_removeTreaty_24 rfl (Nat.lt_of_le_of_lt (Nat.add_le_add_right hs.lt _) (Nat.le_of_ble_eq_true rfl)) (shS4 hs) (show i < 14 by omega) (by decide) ?_
    skip
    refine Z_iasn 26 dX1_removeTreaty_25 rfl (Nat.lt_of_le_of_lt (Nat.add_le_add_right hs.lt _) (Nat.le_of_ble_eq_true rfl)) (shS4 hs) (show i - 1 < 14 by omega) (by decide) ?_
    refine Z_aload_n 27 1 dX1_removeTreaty_26 rfl rfl ?_
    refine Z_getR 30 dX1_removeTreaty_27 rfl fX1_27 (Nat.lt_of_le_of_lt hs.lt (Nat.le_of_ble_eq_true rfl)) (shS hs) rfl ?_
    refine Z_iload_n 31 0 dX1_removeTreaty_30 rfl rfl ?_
    refine Z_iconst 32 (nI 1) dX1_removeTreaty_31 rfl rfl ?_
    refine Z_isub 33 dX1_removeTreaty_32 rfl ?_
    refine Z_top (v' := .int (nI (i - 1))) (congrArg Value.int (nI_sub1 (by omega))) ?_
    refine Z_aload_n 34 1 dX1_removeTreaty_33 rfl rfl ?_
    refine Z_getR 37 dX1_removeTreaty_34 rfl fX1_27 (Nat.lt_of_le_of_lt hs.lt (Nat.le_of_ble_eq_true rfl)) (shS hs) rfl ?_
    refine Z_iload_n 38 0 dX1_removeTreaty_37 rfl rfl ?_
    refine Z_ialn 39 dX1_removeTreaty_38 rfl (Nat.lt_of_le_of_lt (Nat.add_le_add_right hs.lt _) (Nat.le_of_ble_eq_true rfl)) (shS5 hs) (show i < 14 by omega) (by decide) ?_
    skip
    refine Z_iasn 40 dX1_removeTreaty_39 rfl (Nat.lt_of_le_of_lt (Nat.add_le_add_right hs.lt _) (Nat.le_of_ble_eq_true rfl)) (shS5 hs) (show i - 1 < 14 by omega) (by decide) ?_
    refine Z_aload_n 41 1 dX1_removeTreaty_40 rfl rfl ?_
    refine Z_getR 44 dX1_removeTreaty_41 rfl fX1_30 (Nat.lt_of_le_of_lt hs.lt (Nat.le_of_ble_eq_true rfl)) (shS hs) rfl ?_
    refine Z_iload_n 45 0 dX1_removeTreaty_44 rfl rfl ?_
    refine Z_iconst 46 (nI 1) dX1_removeTreaty_45 rfl rfl ?_
    refine Z_isub 47 dX1_removeTreaty_46 rfl ?_
    refine Z_top (v' := .int (nI (i - 1))) (congrArg Value.int (nI_sub1 (by omega))) ?_
    refine Z_aload_n 48 1 dX1_removeTreaty_47 rfl rfl ?_
    refine Z_getR 51 dX1_removeTreaty_48 rfl fX1_30 (Nat.lt_of_le_of_lt hs.lt (Nat.le_of_ble_eq_true rfl)) (shS hs) rfl ?_
    refine Z_iload_n 52 0 dX1_removeTreaty_51 rfl rfl ?_
    refine Z_ialn 53 dX1_removeTreaty_52 rfl (Nat.lt_of_le_of_lt (Nat.add_le_add_right hs.lt _) (Nat.le_of_ble_eq_true rfl)) (shS6 hs) (show i < 14 by omega) (by decide) ?_
    skip
    refine Z_iasn 54 dX1_removeTreaty_53 rfl (Nat.lt_of_le_of_lt (Nat.add_le_add_right hs.lt _) (Nat.le_of_ble_eq_true rfl)) (shS6 hs) (show i - 1 < 14 by omega) (by decide) ?_
    refine Z_aload_n 55 1 dX1_removeTreaty_54 rfl rfl ?_
    refine Z_getR 58 dX1_removeTreaty_55 rfl fX1_33 (Nat.lt_of_le_of_lt hs.lt (Nat.le_of_ble_eq_true rfl)) (shS hs) rfl ?_
    refine Z_iload_n 59 0 dX1_removeTreaty_58 rfl rfl ?_
    refine Z_iconst 60 (nI 1) dX1_removeTreaty_59 rfl rfl ?_
    refine Z_isub 61 dX1_removeTreaty_60 rfl ?_
    refine Z_top (v' := .int (nI (i - 1))) (congrArg Value.int (nI_sub1 (by omega))) ?_
    refine Z_aload_n 62 1 dX1_removeTreaty_61 rfl rfl ?_
    refine Z_getR 65 dX1_removeTreaty_62 rfl fX1_33 (Nat.lt_of_le_of_lt hs.lt (Nat.le_of_ble_eq_true rfl)) (shS hs) rfl ?_
    refine Z_iload_n 66 0 dX1_removeTreaty_65 rfl rfl ?_
    refine Z_ialn 67 dX1_removeTreaty_66 rfl (Nat.lt_of_le_of_lt (Nat.add_le_add_right hs.lt _) (Nat.le_of_ble_eq_true rfl)) (shS7 hs) (show i < 14 by omega) (by decide) ?_
    skip
    refine Z_iasn 68 dX1_removeTreaty_67 rfl (Nat.lt_of_le_of_lt (Nat.add_le_add_right hs.lt _) (Nat.le_of_ble_eq_true rfl)) (shS7 hs) (show i - 1 < 14 by omega) (by decide) ?_
    rw [show up2 (up2 (up2 (up2 (rmM m a t9 i) (a + 5) (i - 1) _) (a + 6) (i - 1) _) (a + 7) (i - 1) _) (a + 8) (i - 1) _ = rmM m a t9 (i + 1) from (by rw [← rmM_step m a t9 i hy]; simp [up2])]
    refine Z_iinc 71 [(2, _), (0, _), (1, _)] 0 _ dX1_removeTreaty_68 rfl (Nat.le_of_ble_eq_true rfl) rfl (nI_1 _) rfl ?_
    refine Z_goto 4 dX1_removeTreaty_71 rfl ?_
    exact ih (i + 1) (by omega) (by omega)

set_option maxRecDepth 100000 in
set_option maxHeartbeats 4000000 in
theorem zX1_removeTreaty {G : zG} {l : Launch} {h : Nat → Nat} {m : zM} (a : Nat) (hs : IsSt a) (n t9 : Nat) (ht9 : t9 < n) (hn : n ≤ 14) (hk : m a 8 = nI n) : zMet G l yX1_removeTreaty mX1_removeTreaty [.ref (G.1 + a), .int (nI t9)] (zw h m) (fun r w => r = none ∧ w = zw h (up2 (rmM m a t9 n) a 8 (nI (n - 1)))) 0 0 := by
  refine zMet_of [(0, .ref (G.1 + a)), (1, .int (nI t9))] (by decide +kernel) rfl (Or.inl rfl) (Nat.le_of_ble_eq_true rfl) rfl ?_
  refine Z_iload_n 1 1 dX1_removeTreaty_0 rfl rfl ?_
  refine Z_iconst 2 (nI 1) dX1_removeTreaty_1 rfl rfl ?_
  refine Z_iadd 3 dX1_removeTreaty_2 rfl ?_
  refine Z_top (v' := .int (nI (t9 + 1))) (congrArg Value.int (nI_1 t9)) ?_
  refine Z_istore_n 4 [(2, _), (0, _), (1, _)] dX1_removeTreaty_3 rfl (Nat.le_of_ble_eq_true rfl) rfl ?_
  refine Z_w (w' := zw h (rmM m a t9 (t9 + 1))) (congrArg (zw h) (by funext q k; unfold rmM; rw [if_neg (by omega)])) ?_
  exact lX1_removeTreaty a hs n t9 ht9 hn hk (n - (t9 + 1)) (t9 + 1) (by omega) (by omega)
