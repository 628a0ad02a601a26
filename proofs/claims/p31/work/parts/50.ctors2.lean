/-! the two outer constructors -/
def mz0 : zM := fun _ _ => 0
def oR (f : Nat → Option Nat) (sh : Nat → zK) : Nat → zK := fun q => if q = 19 then .inr (.inl (false, 4, f)) else sh q
theorem oR_a {f : Nat → Option Nat} {sh : Nat → zK} : oR f sh 19 = .inr (.inl (false, 4, f)) := if_pos rfl
theorem oR_n {q : Nat} {f : Nat → Option Nat} {sh : Nat → zK} (h : q ≠ 19) : oR f sh q = sh q := if_neg h
/-- the street of the history at each place, at first -/
def hh0 : Nat → Nat := fun j => if j = 0 then 20 else if j = 1 then 29 else if j = 2 then 38 else 47
def ff0 : Nat → Option Nat := fun j => if j < 4 then none else some 47
def ffS (f : Nat → Option Nat) (jj r : Nat) : Nat → Option Nat := fun j => if j = jj then some r else f j
abbrev oS (rs : List (Option (Option Nat))) (f : Nat → Option Nat) : Nat → zK := ov 0 3 rs (oR f (SH hh0))
theorem oS_n {rs : List (Option (Option Nat))} {f : Nat → Option Nat} {q : Nat} (h : q ≠ 0) (h' : q ≠ 19) : oS rs f q = SH hh0 q := (ov_n h).trans (oR_n h')
theorem oS_19 {rs : List (Option (Option Nat))} {f : Nat → Option Nat} : oS rs f 19 = .inr (.inl (false, 4, f)) := (ov_n (by decide)).trans oR_a
theorem oS_st (rs : List (Option (Option Nat))) (f : Nat → Option Nat) (jj r q : Nat) : (fun a9 => if a9 = 19 then (.inr (.inl (false, 4, fun j9 => if j9 = jj then some r else f j9)) : zK) else oS rs f a9) q = oS rs (ffS f jj r) q := by
  show (if q = 19 then _ else oS rs f q) = _
  by_cases h : q = 19
  · rw [if_pos h, h, oS_19]
    rfl
  · rw [if_neg h]
    by_cases h0 : q = 0
    · rw [h0]
      exact ov_a.trans ov_a.symm
    · rw [oS_n h0 h, oS_n h0 h]
theorem oS_end (q : Nat) : oS [rF 1, rF 10, rF 19, rF 56, rF 68, none, none, none, none, none] (ffS (ffS (ffS (ffS ff0 0 20) 1 29) 2 38) 3 47) q = SH hh0 q := by
  by_cases h0 : q = 0
  · rw [h0]
    exact ov_a.trans rfl
  · by_cases h : q = 19
    · rw [h, oS_19]
      show (Sum.inr (Sum.inl (false, 4, _)) : zK) = Sum.inr (Sum.inl (false, 4, fun j => some (hh0 j)))
      congr 4
      funext j
      unfold ffS ff0 hh0
      by_cases e3 : j = 3
      · subst e3; rfl
      · by_cases e2 : j = 2
        · subst e2; rfl
        · by_cases e1 : j = 1
          · subst e1; rfl
          · by_cases e0 : j = 0
            · subst e0; rfl
            · rw [if_neg e3, if_neg e2, if_neg e1, if_neg e0, if_neg (by omega), if_neg e0, if_neg e1, if_neg e2]
    · exact oS_n h0 h
theorem shSj {h : Nat → Nat} {a : Nat} (hs : IsSt a) : ∀ j, 1 ≤ j → j ≤ 8 → SH h (a + j) = .inl (if j ≤ 4 then 8 else 14) := by
  intro j h1 h2
  have e : j = 1 ∨ j = 2 ∨ j = 3 ∨ j = 4 ∨ j = 5 ∨ j = 6 ∨ j = 7 ∨ j = 8 := by omega
  rcases e with rfl | rfl | rfl | rfl | rfl | rfl | rfl | rfl
  · exact shS0 hs
  · exact shS1 hs
  · exact shS2 hs
  · exact shS3 hs
  · exact shS4 hs
  · exact shS5 hs
  · exact shS6 hs
  · exact shS7 hs
theorem stI_z {mm : zM} {a b : Nat} (h : ∀ q, a ≤ q → mm q = fun _ => 0) (hb : a + 9 ≤ b) : ∀ q, b ≤ q → stI mm a q = fun _ => 0 := fun q hq => (stI_hi mm (Or.inr (by omega))).trans (h q (by omega))
theorem IsSt.n0 {a : Nat} (hs : IsSt a) {j : Nat} : a + j ≠ 0 := by unfold IsSt at hs; omega
theorem IsSt.n19 {a : Nat} (hs : IsSt a) {j : Nat} (hj : j ≤ 8) : a + j ≠ 19 := by unfold IsSt at hs; omega
/-- a new street in the class's constructor: new, dup, its constructor -/
theorem zSt (G : zG) (l : Launch) {a : Nat} (hs : IsSt a) (rs : List (Option (Option Nat))) (f : Nat → Option Nat) {mm : zM} (hm : ∀ q, a ≤ q → mm q = fun _ => 0) : zMet G l yX1_init mX1_init [.ref (G.1 + a)] (a + 1, ov a 1 rN1 (oS rs f), mm) (fun r w => r = none ∧ w = (a + 9, oS rs f, stI mm a)) 8 88 :=
  zX1_init a (oS rs f) mm ((oS_n (hs.n0 (j := 0)) (hs.n19 (j := 0) (by decide))).trans (shS hs)) (fun j h1 h2 => (oS_n hs.n0 (hs.n19 h2)).trans (shSj hs j h1 h2)) hm
/-- the ints behind the class's constructor -/
def mz1 : zM := stI (stI (stI (stI (stI (stI mz0 1) 10) 20) 29) 38) 47

theorem SH60 {h : Nat → Nat} {i : Nat} (hi : i < 8) : SH h (60 + i) = .inl 8 := by
  have e : i = 0 ∨ i = 1 ∨ i = 2 ∨ i = 3 ∨ i = 4 ∨ i = 5 ∨ i = 6 ∨ i = 7 := by omega
  rcases e with rfl | rfl | rfl | rfl | rfl | rfl | rfl | rfl <;> rfl
set_option maxRecDepth 100000 in
set_option maxHeartbeats 4000000 in
theorem zX3_init (G : zG) (l : Launch) : zMet G l yX3_init mX3_init [.ref (G.1 + 0)] (1, oS rN3 ff0, mz0) (fun r w => r = none ∧ w = (74, SH hh0, mz1)) 73 837 := by
  refine zMet_of [(0, .ref (G.1 + 0))] (by decide +kernel) rfl (Or.inr rfl) (Nat.le_of_ble_eq_true rfl) rfl ?_
  have z0 : ∀ q, 1 ≤ q → mz0 q = fun _ => 0 := fun _ _ => rfl
  refine Z_aload_n 1 0 dX3_init_0 rfl rfl ?_
  refine Z_objInit 4 dX3_init_1 rfl qX3_1 ⟨(Nat.le_of_ble_eq_true rfl), (Nat.le_of_ble_eq_true rfl)⟩ rfl ⟨(Nat.le_of_ble_eq_true rfl), (Nat.le_of_ble_eq_true rfl)⟩ ?_
  refine Z_aload_n 5 0 dX3_init_4 rfl rfl ?_
  refine Z_wfr (n9 := 1) (sh' := ov 1 1 rN1 (oS [nF9, nF9, nF9, nF9, nF9, none, none, none, none, none] (ff0))) (mm' := mz0) (fun q hq => (ov_n (by omega)).symm) (fun _ _ => rfl) ?_
  refine Z_newC 8 dX3_init_5 rfl nw_RX3_7 ov_a (z0 _ (Nat.le_refl _)) ⟨(Nat.le_of_ble_eq_true rfl), (Nat.le_of_ble_eq_true rfl)⟩ ?_
  refine Z_dup 9 dX3_init_8 rfl rfl ?_
  refine Z_callI 12 [] (zSt G l (Or.inl rfl : IsSt 1) [nF9, nF9, nF9, nF9, nF9, none, none, none, none, none] (ff0) z0) rfl dX3_init_9 rfl qX3_9 kX1_init rfl rfl ⟨(Nat.le_of_ble_eq_true rfl), (Nat.le_of_ble_eq_true rfl)⟩ (Nat.le_of_ble_eq_true rfl) ⟨rfl, rfl⟩ ⟨(Nat.le_of_ble_eq_true rfl), (Nat.le_of_ble_eq_true rfl)⟩ (fun r9 w9 hp9 => ?_)
  obtain ⟨rfl, rfl⟩ := hp9
  have z1 := stI_z z0 (b := 10) (by omega)
  refine Z_putR 15 (.object "HedgeTreaties$Street") dX3_init_12 rfl fX3_10 fr_3_0 rfl (by omega) ov_a rfl (fun _ => rfl) (fun _ => rfl) ?_
  refine Z_wsh (sh' := oS [rF 1, nF9, nF9, nF9, nF9, none, none, none, none, none] (ff0)) (ov_ov 0 3 _ _ _) ?_
  refine Z_aload_n 16 0 dX3_init_15 rfl rfl ?_
  refine Z_wfr (n9 := 10) (sh' := ov 10 1 rN1 (oS [rF 1, nF9, nF9, nF9, nF9, none, none, none, none, none] (ff0))) (mm' := (stI mz0 1)) (fun q hq => (ov_n (by omega)).symm) (fun _ _ => rfl) ?_
  refine Z_newC 19 dX3_init_16 rfl nw_RX3_7 ov_a (z1 _ (Nat.le_refl _)) ⟨(Nat.le_of_ble_eq_true rfl), (Nat.le_of_ble_eq_true rfl)⟩ ?_
  refine Z_dup 20 dX3_init_19 rfl rfl ?_
  refine Z_callI 23 [] (zSt G l (Or.inr (Or.inl rfl) : IsSt 10) [rF 1, nF9, nF9, nF9, nF9, none, none, none, none, none] (ff0) z1) rfl dX3_init_20 rfl qX3_9 kX1_init rfl rfl ⟨(Nat.le_of_ble_eq_true rfl), (Nat.le_of_ble_eq_true rfl)⟩ (Nat.le_of_ble_eq_true rfl) ⟨rfl, rfl⟩ ⟨(Nat.le_of_ble_eq_true rfl), (Nat.le_of_ble_eq_true rfl)⟩ (fun r9 w9 hp9 => ?_)
  obtain ⟨rfl, rfl⟩ := hp9
  have z10 := stI_z z1 (b := 20) (by omega)
  have z10b := stI_z z1 (b := 19) (by omega)
  refine Z_putR 26 (.object "HedgeTreaties$Street") dX3_init_23 rfl fX3_16 fr_3_1 rfl (by omega) ov_a rfl (fun _ => rfl) (fun _ => rfl) ?_
  refine Z_wsh (sh' := oS [rF 1, rF 10, nF9, nF9, nF9, none, none, none, none, none] (ff0)) (ov_ov 0 3 _ _ _) ?_
  refine Z_aload_n 27 0 dX3_init_26 rfl rfl ?_
  refine Z_iconst 28 (nI 4) dX3_init_27 rfl rfl ?_
  refine Z_newR (n9 := 19) (f := ff0) 31 dX3_init_28 rfl kcX3_7 oS_19 (fun i hi => if_pos hi) (by decide) ⟨(Nat.le_of_ble_eq_true rfl), (Nat.le_of_ble_eq_true rfl)⟩ ?_
  refine Z_putR 34 (.array (.object RX1)) dX3_init_31 rfl fX3_19 fr_3_2 rfl (by omega) ov_a rfl (fun _ => rfl) (fun _ => rfl) ?_
  refine Z_wsh (sh' := oS [rF 1, rF 10, rF 19, nF9, nF9, none, none, none, none, none] (ff0)) (ov_ov 0 3 _ _ _) ?_
  refine Z_iconst 35 (nI 0) dX3_init_34 rfl rfl ?_
  refine Z_istore_n 36 [(1, _), (0, _)] dX3_init_35 rfl (Nat.le_of_ble_eq_true rfl) rfl ?_
  refine Z_iload_n 37 0 dX3_init_36 rfl rfl ?_
  refine Z_iconst 38 (nI 4) dX3_init_37 rfl rfl ?_
  refine Z_icmp_ge 41 60 dX3_init_38 rfl rfl (fun c38 => absurd c38 (by decide)) (fun _ => ?_)
  refine Z_aload_n 42 1 dX3_init_41 rfl rfl ?_
  refine Z_getR 45 dX3_init_42 rfl fX3_19 (by omega) ov_a rfl ?_
  refine Z_iload_n 46 0 dX3_init_45 rfl rfl ?_
  refine Z_wfr (n9 := 20) (sh' := ov 20 1 rN1 (oS [rF 1, rF 10, rF 19, nF9, nF9, none, none, none, none, none] (ff0))) (mm' := (stI (stI mz0 1) 10)) (fun q hq => (ov_n (by omega)).symm) (fun _ _ => rfl) ?_
  refine Z_newC 49 dX3_init_46 rfl nw_RX3_7 ov_a (z10 _ (Nat.le_refl _)) ⟨(Nat.le_of_ble_eq_true rfl), (Nat.le_of_ble_eq_true rfl)⟩ ?_
  refine Z_dup 50 dX3_init_49 rfl rfl ?_
  refine Z_callI 53 [] (zSt G l (Or.inr (Or.inr (Or.inl rfl)) : IsSt 20) [rF 1, rF 10, rF 19, nF9, nF9, none, none, none, none, none] (ff0) z10) rfl dX3_init_50 rfl qX3_9 kX1_init rfl rfl ⟨(Nat.le_of_ble_eq_true rfl), (Nat.le_of_ble_eq_true rfl)⟩ (Nat.le_of_ble_eq_true rfl) ⟨rfl, rfl⟩ ⟨(Nat.le_of_ble_eq_true rfl), (Nat.le_of_ble_eq_true rfl)⟩ (fun r9 w9 hp9 => ?_)
  obtain ⟨rfl, rfl⟩ := hp9
  have z20 := stI_z z10 (b := 29) (by omega)
  refine Z_aasn (r := 20) 54 dX3_init_53 rfl (by omega) oS_19 (by decide) (by decide) (by omega) ((oS_n (by decide) (by decide)).trans (shS (Or.inr (Or.inr (Or.inl rfl))))) ?_
  refine Z_wsh (sh' := oS [rF 1, rF 10, rF 19, nF9, nF9, none, none, none, none, none] (ffS (ff0) 0 20)) (oS_st _ _ _ _) ?_
  refine Z_iinc 57 [(1, _), (0, _)] 0 (nI 1) dX3_init_54 rfl (Nat.le_of_ble_eq_true rfl) rfl (nI_1 0) rfl ?_
  refine Z_goto 36 dX3_init_57 rfl ?_
  refine Z_iload_n 37 0 dX3_init_36 rfl rfl ?_
  refine Z_iconst 38 (nI 4) dX3_init_37 rfl rfl ?_
  refine Z_icmp_ge 41 60 dX3_init_38 rfl rfl (fun c38 => absurd c38 (by decide)) (fun _ => ?_)
  refine Z_aload_n 42 1 dX3_init_41 rfl rfl ?_
  refine Z_getR 45 dX3_init_42 rfl fX3_19 (by omega) ov_a rfl ?_
  refine Z_iload_n 46 0 dX3_init_45 rfl rfl ?_
  refine Z_wfr (n9 := 29) (sh' := ov 29 1 rN1 (oS [rF 1, rF 10, rF 19, nF9, nF9, none, none, none, none, none] (ffS (ff0) 0 20))) (mm' := (stI (stI (stI mz0 1) 10) 20)) (fun q hq => (ov_n (by omega)).symm) (fun _ _ => rfl) ?_
  refine Z_newC 49 dX3_init_46 rfl nw_RX3_7 ov_a (z20 _ (Nat.le_refl _)) ⟨(Nat.le_of_ble_eq_true rfl), (Nat.le_of_ble_eq_true rfl)⟩ ?_
  refine Z_dup 50 dX3_init_49 rfl rfl ?_
  refine Z_callI 53 [] (zSt G l (Or.inr (Or.inr (Or.inr (Or.inl rfl))) : IsSt 29) [rF 1, rF 10, rF 19, nF9, nF9, none, none, none, none, none] (ffS (ff0) 0 20) z20) rfl dX3_init_50 rfl qX3_9 kX1_init rfl rfl ⟨(Nat.le_of_ble_eq_true rfl), (Nat.le_of_ble_eq_true rfl)⟩ (Nat.le_of_ble_eq_true rfl) ⟨rfl, rfl⟩ ⟨(Nat.le_of_ble_eq_true rfl), (Nat.le_of_ble_eq_true rfl)⟩ (fun r9 w9 hp9 => ?_)
  obtain ⟨rfl, rfl⟩ := hp9
  have z29 := stI_z z20 (b := 38) (by omega)
  refine Z_aasn (r := 29) 54 dX3_init_53 rfl (by omega) oS_19 (by decide) (by decide) (by omega) ((oS_n (by decide) (by decide)).trans (shS (Or.inr (Or.inr (Or.inr (Or.inl rfl)))))) ?_
  refine Z_wsh (sh' := oS [rF 1, rF 10, rF 19, nF9, nF9, none, none, none, none, none] (ffS (ffS (ff0) 0 20) 1 29)) (oS_st _ _ _ _) ?_
  refine Z_iinc 57 [(1, _), (0, _)] 0 (nI 2) dX3_init_54 rfl (Nat.le_of_ble_eq_true rfl) rfl (nI_1 1) rfl ?_
  refine Z_goto 36 dX3_init_57 rfl ?_
  refine Z_iload_n 37 0 dX3_init_36 rfl rfl ?_
  refine Z_iconst 38 (nI 4) dX3_init_37 rfl rfl ?_
  refine Z_icmp_ge 41 60 dX3_init_38 rfl rfl (fun c38 => absurd c38 (by decide)) (fun _ => ?_)
  refine Z_aload_n 42 1 dX3_init_41 rfl rfl ?_
  refine Z_getR 45 dX3_init_42 rfl fX3_19 (by omega) ov_a rfl ?_
  refine Z_iload_n 46 0 dX3_init_45 rfl rfl ?_
  refine Z_wfr (n9 := 38) (sh' := ov 38 1 rN1 (oS [rF 1, rF 10, rF 19, nF9, nF9, none, none, none, none, none] (ffS (ffS (ff0) 0 20) 1 29))) (mm' := (stI (stI (stI (stI mz0 1) 10) 20) 29)) (fun q hq => (ov_n (by omega)).symm) (fun _ _ => rfl) ?_
  refine Z_newC 49 dX3_init_46 rfl nw_RX3_7 ov_a (z29 _ (Nat.le_refl _)) ⟨(Nat.le_of_ble_eq_true rfl), (Nat.le_of_ble_eq_true rfl)⟩ ?_
  refine Z_dup 50 dX3_init_49 rfl rfl ?_
  refine Z_callI 53 [] (zSt G l (Or.inr (Or.inr (Or.inr (Or.inr (Or.inl rfl)))) : IsSt 38) [rF 1, rF 10, rF 19, nF9, nF9, none, none, none, none, none] (ffS (ffS (ff0) 0 20) 1 29) z29) rfl dX3_init_50 rfl qX3_9 kX1_init rfl rfl ⟨(Nat.le_of_ble_eq_true rfl), (Nat.le_of_ble_eq_true rfl)⟩ (Nat.le_of_ble_eq_true rfl) ⟨rfl, rfl⟩ ⟨(Nat.le_of_ble_eq_true rfl), (Nat.le_of_ble_eq_true rfl)⟩ (fun r9 w9 hp9 => ?_)
  obtain ⟨rfl, rfl⟩ := hp9
  have z38 := stI_z z29 (b := 47) (by omega)
  refine Z_aasn (r := 38) 54 dX3_init_53 rfl (by omega) oS_19 (by decide) (by decide) (by omega) ((oS_n (by decide) (by decide)).trans (shS (Or.inr (Or.inr (Or.inr (Or.inr (Or.inl rfl))))))) ?_
  refine Z_wsh (sh' := oS [rF 1, rF 10, rF 19, nF9, nF9, none, none, none, none, none] (ffS (ffS (ffS (ff0) 0 20) 1 29) 2 38)) (oS_st _ _ _ _) ?_
  refine Z_iinc 57 [(1, _), (0, _)] 0 (nI 3) dX3_init_54 rfl (Nat.le_of_ble_eq_true rfl) rfl (nI_1 2) rfl ?_
  refine Z_goto 36 dX3_init_57 rfl ?_
  refine Z_iload_n 37 0 dX3_init_36 rfl rfl ?_
  refine Z_iconst 38 (nI 4) dX3_init_37 rfl rfl ?_
  refine Z_icmp_ge 41 60 dX3_init_38 rfl rfl (fun c38 => absurd c38 (by decide)) (fun _ => ?_)
  refine Z_aload_n 42 1 dX3_init_41 rfl rfl ?_
  refine Z_getR 45 dX3_init_42 rfl fX3_19 (by omega) ov_a rfl ?_
  refine Z_iload_n 46 0 dX3_init_45 rfl rfl ?_
  refine Z_wfr (n9 := 47) (sh' := ov 47 1 rN1 (oS [rF 1, rF 10, rF 19, nF9, nF9, none, none, none, none, none] (ffS (ffS (ffS (ff0) 0 20) 1 29) 2 38))) (mm' := (stI (stI (stI (stI (stI mz0 1) 10) 20) 29) 38)) (fun q hq => (ov_n (by omega)).symm) (fun _ _ => rfl) ?_
  refine Z_newC 49 dX3_init_46 rfl nw_RX3_7 ov_a (z38 _ (Nat.le_refl _)) ⟨(Nat.le_of_ble_eq_true rfl), (Nat.le_of_ble_eq_true rfl)⟩ ?_
  refine Z_dup 50 dX3_init_49 rfl rfl ?_
  refine Z_callI 53 [] (zSt G l (Or.inr (Or.inr (Or.inr (Or.inr (Or.inr rfl)))) : IsSt 47) [rF 1, rF 10, rF 19, nF9, nF9, none, none, none, none, none] (ffS (ffS (ffS (ff0) 0 20) 1 29) 2 38) z38) rfl dX3_init_50 rfl qX3_9 kX1_init rfl rfl ⟨(Nat.le_of_ble_eq_true rfl), (Nat.le_of_ble_eq_true rfl)⟩ (Nat.le_of_ble_eq_true rfl) ⟨rfl, rfl⟩ ⟨(Nat.le_of_ble_eq_true rfl), (Nat.le_of_ble_eq_true rfl)⟩ (fun r9 w9 hp9 => ?_)
  obtain ⟨rfl, rfl⟩ := hp9
  have z47 := stI_z z38 (b := 56) (by omega)
  refine Z_aasn (r := 47) 54 dX3_init_53 rfl (by omega) oS_19 (by decide) (by decide) (by omega) ((oS_n (by decide) (by decide)).trans (shS (Or.inr (Or.inr (Or.inr (Or.inr (Or.inr rfl))))))) ?_
  refine Z_wsh (sh' := oS [rF 1, rF 10, rF 19, nF9, nF9, none, none, none, none, none] (ffS (ffS (ffS (ffS (ff0) 0 20) 1 29) 2 38) 3 47)) (oS_st _ _ _ _) ?_
  refine Z_iinc 57 [(1, _), (0, _)] 0 (nI 4) dX3_init_54 rfl (Nat.le_of_ble_eq_true rfl) rfl (nI_1 3) rfl ?_
  refine Z_goto 36 dX3_init_57 rfl ?_
  refine Z_iload_n 37 0 dX3_init_36 rfl rfl ?_
  refine Z_iconst 38 (nI 4) dX3_init_37 rfl rfl ?_
  refine Z_icmp_ge 41 60 dX3_init_38 rfl rfl (fun _ => ?_) (fun c38 => absurd (by decide) c38)
  refine Z_aload_n 61 1 dX3_init_60 rfl rfl ?_
  refine Z_wfr (n9 := 56) (sh' := ov 56 2 rN2 (oS [rF 1, rF 10, rF 19, nF9, nF9, none, none, none, none, none] (ffS (ffS (ffS (ffS (ff0) 0 20) 1 29) 2 38) 3 47))) (mm' := (stI (stI (stI (stI (stI (stI mz0 1) 10) 20) 29) 38) 47)) (fun q hq => (ov_n (by omega)).symm) (fun _ _ => rfl) ?_
  refine Z_newC 64 dX3_init_61 rfl nw_RX3_23 ov_a (z47 _ (Nat.le_refl _)) ⟨(Nat.le_of_ble_eq_true rfl), (Nat.le_of_ble_eq_true rfl)⟩ ?_
  refine Z_dup 65 dX3_init_64 rfl rfl ?_
  refine Z_callN 68 [] (zX2_init (oS [rF 1, rF 10, rF 19, nF9, nF9, none, none, none, none, none] (ffS (ffS (ffS (ffS (ff0) 0 20) 1 29) 2 38) 3 47)) (stI (stI (stI (stI (stI (stI mz0 1) 10) 20) 29) 38) 47) ((oS_n (by decide) (by decide)).trans rfl) ⟨(oS_n (by decide) (by decide)).trans rfl, (oS_n (by decide) (by decide)).trans rfl, (oS_n (by decide) (by decide)).trans rfl, fun i hi => (oS_n (by omega) (by omega)).trans (SH60 hi)⟩ z47) rfl dX3_init_65 rfl cd_X2_init (fun U h => h.2.2.1) kX2_init rfl rfl ⟨(Nat.le_of_ble_eq_true rfl), (Nat.le_of_ble_eq_true rfl)⟩ (Nat.le_of_ble_eq_true rfl) ⟨rfl, rfl⟩ ⟨(Nat.le_of_ble_eq_true rfl), (Nat.le_of_ble_eq_true rfl)⟩ (fun r9 w9 hp9 => ?_)
  obtain ⟨rfl, rfl⟩ := hp9
  refine Z_putR 71 (.object "HedgeTreaties$Surveyor") dX3_init_68 rfl fX3_26 fr_3_3 rfl (by omega) ov_a rfl (fun _ => rfl) (fun _ => rfl) ?_
  refine Z_wsh (sh' := oS [rF 1, rF 10, rF 19, rF 56, nF9, none, none, none, none, none] (ffS (ffS (ffS (ffS (ff0) 0 20) 1 29) 2 38) 3 47)) (ov_ov 0 3 _ _ _) ?_
  refine Z_aload_n 72 1 dX3_init_71 rfl rfl ?_
  have z68 : ∀ q, 68 ≤ q → (stI (stI (stI (stI (stI (stI mz0 1) 10) 20) 29) 38) 47) q = fun _ => 0 := fun q hq => z47 q (by omega)
  refine Z_wfr (n9 := 68) (sh' := ov 68 0 rN0 (oS [rF 1, rF 10, rF 19, rF 56, nF9, none, none, none, none, none] (ffS (ffS (ffS (ffS (ff0) 0 20) 1 29) 2 38) 3 47))) (mm' := (stI (stI (stI (stI (stI (stI mz0 1) 10) 20) 29) 38) 47)) (fun q hq => (ov_n (by omega)).symm) (fun _ _ => rfl) ?_
  refine Z_newC 75 dX3_init_72 rfl nw_RX3_30 ov_a (z68 _ (Nat.le_refl _)) ⟨(Nat.le_of_ble_eq_true rfl), (Nat.le_of_ble_eq_true rfl)⟩ ?_
  refine Z_dup 76 dX3_init_75 rfl rfl ?_
  refine Z_callN 79 [] (zX0_init (oS [rF 1, rF 10, rF 19, rF 56, nF9, none, none, none, none, none] (ffS (ffS (ffS (ffS (ff0) 0 20) 1 29) 2 38) 3 47)) (stI (stI (stI (stI (stI (stI mz0 1) 10) 20) 29) 38) 47) ((oS_n (by decide) (by decide)).trans rfl) ⟨(oS_n (by decide) (by decide)).trans rfl, (oS_n (by decide) (by decide)).trans rfl, (oS_n (by decide) (by decide)).trans rfl, (oS_n (by decide) (by decide)).trans rfl, (oS_n (by decide) (by decide)).trans rfl⟩ z68) rfl dX3_init_76 rfl cd_X0_init (fun U h => h.2.2.2) kX0_init rfl rfl ⟨(Nat.le_of_ble_eq_true rfl), (Nat.le_of_ble_eq_true rfl)⟩ (Nat.le_of_ble_eq_true rfl) ⟨rfl, rfl⟩ ⟨(Nat.le_of_ble_eq_true rfl), (Nat.le_of_ble_eq_true rfl)⟩ (fun r9 w9 hp9 => ?_)
  obtain ⟨rfl, rfl⟩ := hp9
  refine Z_putR 82 (.object "HedgeTreaties$Pad") dX3_init_79 rfl fX3_33 fr_3_4 rfl (by omega) ov_a rfl (fun _ => rfl) (fun _ => rfl) ?_
  refine Z_wsh (sh' := oS [rF 1, rF 10, rF 19, rF 56, rF 68, none, none, none, none, none] (ffS (ffS (ffS (ffS (ff0) 0 20) 1 29) 2 38) 3 47)) (ov_ov 0 3 _ _ _) ?_
  refine Z_wsh oS_end ?_
  exact Z_vret dX3_init_82 rfl ⟨rfl, rfl⟩
