/-! the model: goPlan -/
def mpM (m : zM) (L : Nat → Int32) : Nat → zM
  | 0 => m
  | i + 1 => if L i < m 75 (7 + 4 * i) then clM (mpM m L i) i (m 75 (7 + 4 * i) - L i) else mpM m L i
theorem clM_na (m : zM) (i : Nat) (x : Int32) {q : Nat} (h : q ≠ 75) : clM m i x q = m q := by
  show up2 (up2 (up2 (up2 m 75 _ _) 75 _ _) 75 _ _) 75 _ _ q = m q
  rw [up2_na _ _ _ h, up2_na _ _ _ h, up2_na _ _ _ h, up2_na _ _ _ h]
theorem clM_h (m : zM) (i : Nat) (x : Int32) {j : Nat} (h : j ≠ i) : clM m i x 75 (7 + 4 * j) = m 75 (7 + 4 * j) := by
  show up2 (up2 (up2 (up2 m 75 _ _) 75 _ _) 75 _ _) 75 _ _ 75 (7 + 4 * j) = _
  rw [up2_ne _ _ (by omega), up2_ne _ _ (by omega), up2_ne _ _ (by omega), up2_ne _ _ (by omega)]
theorem mpM_na (m : zM) (L : Nat → Int32) {q : Nat} (h : q ≠ 75) : ∀ i, mpM m L i q = m q
  | 0 => rfl
  | i + 1 => by
    unfold mpM
    split
    · rw [clM_na _ _ _ h]
      exact mpM_na m L h i
    · exact mpM_na m L h i
theorem mpM_h (m : zM) (L : Nat → Int32) : ∀ i j, i ≤ j → mpM m L i 75 (7 + 4 * j) = m 75 (7 + 4 * j)
  | 0, j, _ => rfl
  | i + 1, j, h => by
    unfold mpM
    split
    · rw [clM_h _ _ _ (by omega)]
      exact mpM_h m L i j (by omega)
    · exact mpM_h m L i j (by omega)
abbrev barQ (v : zM) (y : Nat → Int) (q : Nat) : Prop := sNest v 1 q ∧ y q < (v 2 q).toInt
def Bar (v : zM) (y : Nat → Int) (B : Int32) (i : Nat) : Prop := (B = nI 1 ∧ ∃ q, q < 8 ∧ barQ v y q) ∨ (B = nI 0 ∧ ∀ q, q < i → ¬ barQ v y q)
theorem Bar.up {v : zM} {y : Nat → Int} {B : Int32} {i : Nat} (h : Bar v y B i) (c : ¬ B = 0) : Bar v y (nI 1) (i + 1) := by
  rcases h with ⟨-, h⟩ | ⟨rfl, h⟩
  · exact Or.inl ⟨rfl, h⟩
  · exact absurd rfl c
theorem Bar.no {v : zM} {y : Nat → Int} {B : Int32} {i : Nat} (h : Bar v y B i) (c : ¬ ¬ B = 0) (n : ¬ barQ v y i) : Bar v y (nI 0) (i + 1) := by
  rcases h with ⟨rfl, h⟩ | ⟨rfl, h⟩
  · exact absurd (fun z => absurd z (by decide)) c
  · refine Or.inr ⟨rfl, fun q hq => ?_⟩
    rcases Nat.lt_succ_iff_lt_or_eq.mp hq with g | g
    · exact h q g
    · rw [g]
      exact n
theorem Bar.f {v : zM} {y : Nat → Int} {B : Int32} (h : Bar v y B 8) (c : B = 0) : ∀ q, q < 8 → ¬ barQ v y q := by
  rcases h with ⟨rfl, h⟩ | ⟨-, h⟩
  · exact absurd c (by decide)
  · exact h
theorem Bar.t {v : zM} {y : Nat → Int} {B : Int32} {i : Nat} (h : Bar v y B i) (c : ¬ B = 0) : ∃ q, q < 8 ∧ barQ v y q := by
  rcases h with ⟨-, h⟩ | ⟨rfl, h⟩
  · exact h
  · exact absurd rfl c
theorem Bar.yes {v : zM} {y : Nat → Int} {i : Nat} (hi : i < 8) (n : barQ v y i) : Bar v y (nI 1) (i + 1) := Or.inl ⟨rfl, i, hi, n⟩
set_option maxRecDepth 100000 in
set_option maxHeartbeats 4000000 in
theorem lX4_pc {G : zG} {l : Launch} {h : Nat → Nat} {m : zM} (m2 : zM) (y : Nat → Int) (hF2 : Fr 80 m m2) (hL2 : Lv m2 80 y 20000) (PP : Option Value → zW → Prop) (hPP : PP (some (.int (nI 10 + (mpM m2 (fun q => Int32.ofInt (y q)) 8) 75 6 - m2 75 6))) (zw h (mpM m2 (fun q => Int32.ofInt (y q)) 8))) : ∀ (t i : Nat), i + t = 8 → Z G mX4_goPlan (fun _ => True) (zN G (PP) 0 0) l 0 0 (zw h (mpM m2 (fun q => Int32.ofInt (y q)) i)) 82 [(3, .int (nI i)), (2, .int (m2 75 6)), (0, .ref (G.1 + 74))] [] := by
  intro t
  induction t with
  | zero =>
    intro i hi
    have e9 : i = 8 := by omega
    subst e9
    refine Z_iload_n 83 0 dX4_goPlan_82 rfl rfl ?_
    refine Z_bipush 85 (nI 8) dX4_goPlan_83 rfl rfl ?_
    refine Z_icmp_ge 88 127 dX4_goPlan_85 rfl rfl (fun c85 => ?_) (fun c85 => absurd (nI_le (Nat.le_refl _) (by omega)) c85)
    refine Z_bipush 129 (nI 10) dX4_goPlan_127 rfl rfl ?_
    refine Z_aload_n 130 2 dX4_goPlan_129 rfl rfl ?_
    refine Z_getR 133 dX4_goPlan_130 rfl fX4_7 (Nat.le_of_ble_eq_true rfl) rfl rfl ?_
    refine Z_bipush 135 (nI 6) dX4_goPlan_133 rfl rfl ?_
    refine Z_ialn 136 dX4_goPlan_135 rfl (Nat.le_of_ble_eq_true rfl) rfl (by first | assumption | omega) (by decide) ?_
    refine Z_iadd 137 dX4_goPlan_136 rfl ?_
    refine Z_iload_n 138 1 dX4_goPlan_137 rfl rfl ?_
    refine Z_isub 139 dX4_goPlan_138 rfl ?_
    exact Z_iret dX4_goPlan_139 rfl hPP
  | succ t ih =>
    intro i hi
    have hlt : i < 8 := by omega
    have K121 : ∀ (mm : zM), mm = (mpM m2 (fun q => Int32.ofInt (y q)) (i + 1)) → Z G mX4_goPlan (fun _ => True) (zN G (PP) 0 0) l 0 0 (zw h mm) 121 [(3, .int (nI i)), (2, .int (m2 75 6)), (0, .ref (G.1 + 74))] [] := by
      intro mm e1
      refine Z_iinc 124 [(3, _), (2, _), (0, _)] 0 _ dX4_goPlan_121 rfl (Nat.le_of_ble_eq_true rfl) rfl (nI_1 _) rfl ?_
      refine Z_goto 82 dX4_goPlan_124 rfl ?_
      subst e1
      exact ih (i + 1) (by omega)
    refine Z_iload_n 83 0 dX4_goPlan_82 rfl rfl ?_
    refine Z_bipush 85 (nI 8) dX4_goPlan_83 rfl rfl ?_
    refine Z_icmp_ge 88 127 dX4_goPlan_85 rfl rfl (fun c85 => absurd c85 (nI_ge hlt (by omega))) (fun c85 => ?_)
    refine Z_aload_n 89 2 dX4_goPlan_88 rfl rfl ?_
    refine Z_getR 92 dX4_goPlan_89 rfl fX4_25 (Nat.le_of_ble_eq_true rfl) rfl rfl ?_
    refine Z_iload_n 93 0 dX4_goPlan_92 rfl rfl ?_
    refine Z_ialn 94 dX4_goPlan_93 rfl (Nat.le_of_ble_eq_true rfl) rfl hlt (by decide) ?_
    refine Z_top (v' := .int ((fun q => Int32.ofInt (y q)) i)) (congrArg Value.int ((congrFun (mpM_na m2 (fun q => Int32.ofInt (y q)) (by decide) i) i).trans (ofI (hL2 i hlt).1))) ?_
    refine Z_aload_n 95 2 dX4_goPlan_94 rfl rfl ?_
    refine Z_iload_n 96 0 dX4_goPlan_95 rfl rfl ?_
    refine Z_iconst 97 (nI 0) dX4_goPlan_96 rfl rfl ?_
    refine Z_callV 100 [_, _] 4 (zX4_of (m := (mpM m2 (fun q => Int32.ofInt (y q)) i)) i 0 hlt (by decide)) dX4_goPlan_97 rfl qX4_50 kX4_of rfl rfl (Nat.le_of_ble_eq_true rfl) rfl rfl ⟨(Nat.le_of_ble_eq_true rfl), (Nat.le_of_ble_eq_true rfl)⟩ (Nat.le_of_ble_eq_true rfl) ⟨rfl, rfl⟩ ⟨(Nat.le_of_ble_eq_true rfl), (Nat.le_of_ble_eq_true rfl)⟩ (fun r9 w9 hp9 => ?_)
    obtain ⟨rfl, rfl⟩ := hp9
    refine Z_top (v' := .int (m2 75 (7 + 4 * i))) (congrArg Value.int (mpM_h m2 (fun q => Int32.ofInt (y q)) i i (Nat.le_refl i))) ?_
    refine Z_icmp_ge 103 121 dX4_goPlan_100 rfl rfl (fun c100 => ?_) (fun c100 => ?_)
    · skip
      exact K121 _ (if_neg (Int32.not_lt.mpr c100)).symm
    · skip
      have c101 := Int32.not_le.mp c100
      refine Z_aload_n 104 2 dX4_goPlan_103 rfl rfl ?_
      refine Z_iload_n 105 0 dX4_goPlan_104 rfl rfl ?_
      refine Z_aload_n 106 2 dX4_goPlan_105 rfl rfl ?_
      refine Z_iload_n 107 0 dX4_goPlan_106 rfl rfl ?_
      refine Z_iconst 108 (nI 0) dX4_goPlan_107 rfl rfl ?_
      refine Z_callV 111 [_, _] 4 (zX4_of (m := (mpM m2 (fun q => Int32.ofInt (y q)) i)) i 0 hlt (by decide)) dX4_goPlan_108 rfl qX4_50 kX4_of rfl rfl (Nat.le_of_ble_eq_true rfl) rfl rfl ⟨(Nat.le_of_ble_eq_true rfl), (Nat.le_of_ble_eq_true rfl)⟩ (Nat.le_of_ble_eq_true rfl) ⟨rfl, rfl⟩ ⟨(Nat.le_of_ble_eq_true rfl), (Nat.le_of_ble_eq_true rfl)⟩ (fun r9 w9 hp9 => ?_)
      obtain ⟨rfl, rfl⟩ := hp9
      refine Z_top (v' := .int (m2 75 (7 + 4 * i))) (congrArg Value.int (mpM_h m2 (fun q => Int32.ofInt (y q)) i i (Nat.le_refl i))) ?_
      refine Z_aload_n 112 2 dX4_goPlan_111 rfl rfl ?_
      refine Z_getR 115 dX4_goPlan_112 rfl fX4_25 (Nat.le_of_ble_eq_true rfl) rfl rfl ?_
      refine Z_iload_n 116 0 dX4_goPlan_115 rfl rfl ?_
      refine Z_ialn 117 dX4_goPlan_116 rfl (Nat.le_of_ble_eq_true rfl) rfl hlt (by decide) ?_
      refine Z_top (v' := .int ((fun q => Int32.ofInt (y q)) i)) (congrArg Value.int ((congrFun (mpM_na m2 (fun q => Int32.ofInt (y q)) (by decide) i) i).trans (ofI (hL2 i hlt).1))) ?_
      refine Z_isub 118 dX4_goPlan_117 rfl ?_
      refine Z_callV 121 [_, _] 4 (zX4_clips i hlt _) dX4_goPlan_118 rfl qX4_109 kX4_clips rfl rfl (Nat.le_of_ble_eq_true rfl) rfl rfl ⟨(Nat.le_of_ble_eq_true rfl), (Nat.le_of_ble_eq_true rfl)⟩ (Nat.le_of_ble_eq_true rfl) ⟨rfl, rfl⟩ ⟨(Nat.le_of_ble_eq_true rfl), (Nat.le_of_ble_eq_true rfl)⟩ (fun r9 w9 hp9 => ?_)
      obtain ⟨rfl, rfl⟩ := hp9
      exact K121 _ (if_pos c101).symm

set_option maxRecDepth 100000 in
set_option maxHeartbeats 4000000 in
theorem lX4_pb {G : zG} {l : Launch} {h : Nat → Nat} {m : zM} (m2 : zM) (y : Nat → Int) (hF2 : Fr 80 m m2) (hL2 : Lv m2 80 y 20000) (PP : Option Value → zW → Prop) (hP3 : (∃ q, q < 8 ∧ barQ (vR (m 75)) y q) → PP (some (.int (nI 3))) (zw h (rfM m2))) (hP10 : (∀ q, q < 8 → ¬ barQ (vR (m 75)) y q) → PP (some (.int (nI 10 + (mpM m2 (fun q => Int32.ofInt (y q)) 8) 75 6 - m2 75 6))) (zw h (mpM m2 (fun q => Int32.ofInt (y q)) 8))) : ∀ (t i : Nat), i + t = 8 → ∀ B : Int32, Bar (vR (m 75)) y B i → Z G mX4_goPlan (fun _ => True) (zN G (PP) 0 0) l 0 0 (zw h m2) 17 [(2, .int (nI i)), (1, .int B), (0, .ref (G.1 + 74))] [] := by
  intro t
  induction t with
  | zero =>
    intro i hi B hB
    have e9 : i = 8 := by omega
    subst e9
    refine Z_iload_n 18 0 dX4_goPlan_17 rfl rfl ?_
    refine Z_bipush 20 (nI 8) dX4_goPlan_18 rfl rfl ?_
    refine Z_icmp_ge 23 62 dX4_goPlan_20 rfl rfl (fun c20 => ?_) (fun c20 => absurd (nI_le (Nat.le_refl _) (by omega)) c20)
    refine Z_iload_n 63 1 dX4_goPlan_62 rfl rfl ?_
    refine Z_if_eq 66 72 dX4_goPlan_63 rfl rfl (fun c63 => ?_) (fun c63 => ?_)
    · skip
      refine Z_aload_n 73 2 dX4_goPlan_72 rfl rfl ?_
      refine Z_getR 76 dX4_goPlan_73 rfl fX4_7 (Nat.le_of_ble_eq_true rfl) rfl rfl ?_
      refine Z_bipush 78 (nI 6) dX4_goPlan_76 rfl rfl ?_
      refine Z_ialn 79 dX4_goPlan_78 rfl (Nat.le_of_ble_eq_true rfl) rfl (by first | assumption | omega) (by decide) ?_
      refine Z_istore_n 80 [(2, _), (1, _), (0, _)] dX4_goPlan_79 rfl (Nat.le_of_ble_eq_true rfl) rfl ?_
      refine Z_iconst 81 (nI 0) dX4_goPlan_80 rfl rfl ?_
      refine Z_istore_n 82 [(3, _), (2, _), (1, _), (0, _)] dX4_goPlan_81 rfl (Nat.le_of_ble_eq_true rfl) rfl ?_
      refine Z_lv [0, 1, 3] rfl ?_
      exact lX4_pc m2 y hF2 hL2 PP (hP10 (hB.f c63)) 8 0 (by omega)
    · skip
      refine Z_aload_n 67 2 dX4_goPlan_66 rfl rfl ?_
      refine Z_iconst 68 (nI 3) dX4_goPlan_67 rfl rfl ?_
      refine Z_callV 71 [_] 4 (zX4_refuses _) dX4_goPlan_68 rfl qX4_97 kX4_refuses rfl rfl (Nat.le_of_ble_eq_true rfl) rfl rfl ⟨(Nat.le_of_ble_eq_true rfl), (Nat.le_of_ble_eq_true rfl)⟩ (Nat.le_of_ble_eq_true rfl) ⟨rfl, rfl⟩ ⟨(Nat.le_of_ble_eq_true rfl), (Nat.le_of_ble_eq_true rfl)⟩ (fun r9 w9 hp9 => ?_)
      obtain ⟨rfl, rfl⟩ := hp9
      exact Z_iret dX4_goPlan_71 rfl (hP3 (hB.t c63))
  | succ t ih =>
    intro i hi B hB
    have hlt : i < 8 := by omega
    refine Z_iload_n 18 0 dX4_goPlan_17 rfl rfl ?_
    refine Z_bipush 20 (nI 8) dX4_goPlan_18 rfl rfl ?_
    refine Z_icmp_ge 23 62 dX4_goPlan_20 rfl rfl (fun c20 => absurd c20 (nI_ge hlt (by omega))) (fun c20 => ?_)
    refine Z_iload_n 24 1 dX4_goPlan_23 rfl rfl ?_
    refine Z_if_ne 27 50 dX4_goPlan_24 rfl rfl (fun c24 => ?_) (fun c24 => ?_)
    · skip
      refine Z_iconst 51 (nI 1) dX4_goPlan_50 rfl rfl ?_
      refine Z_goto 55 dX4_goPlan_51 rfl ?_
      refine Z_istore_n 56 [(1, _), (2, _), (0, _)] dX4_goPlan_55 rfl (Nat.le_of_ble_eq_true rfl) rfl ?_
      refine Z_iinc 59 [(2, _), (1, _), (0, _)] 1 _ dX4_goPlan_56 rfl (Nat.le_of_ble_eq_true rfl) rfl (nI_1 _) rfl ?_
      refine Z_goto 17 dX4_goPlan_59 rfl ?_
      exact ih (i + 1) (by omega) _ (by
        first
          | exact hB.up c24
          | exact hB.no c24 (fun z => by have z2 := z.2; have := (hL2 i hlt).1; rw [i32_le] at c39; omega)
          | exact hB.no c24 (fun z => bI_0 c47 (by rw [hF2 75 (by decide)]; exact z.1))
          | exact Bar.yes hlt ⟨by have := bI_1 c47; rw [hF2 75 (by decide)] at this; exact this, by have := (hL2 i hlt).1; rw [i32_le] at c39; omega⟩)
    · skip
      refine Z_aload_n 28 2 dX4_goPlan_27 rfl rfl ?_
      refine Z_getR 31 dX4_goPlan_28 rfl fX4_25 (Nat.le_of_ble_eq_true rfl) rfl rfl ?_
      refine Z_iload_n 32 0 dX4_goPlan_31 rfl rfl ?_
      refine Z_ialn 33 dX4_goPlan_32 rfl (Nat.le_of_ble_eq_true rfl) rfl (by first | assumption | omega) (by decide) ?_
      refine Z_aload_n 34 2 dX4_goPlan_33 rfl rfl ?_
      refine Z_iload_n 35 0 dX4_goPlan_34 rfl rfl ?_
      refine Z_iconst 36 (nI 0) dX4_goPlan_35 rfl rfl ?_
      refine Z_callV 39 [_, _] 4 (zX4_of (m := m2) i 0 hlt (by decide)) dX4_goPlan_36 rfl qX4_50 kX4_of rfl rfl (Nat.le_of_ble_eq_true rfl) rfl rfl ⟨(Nat.le_of_ble_eq_true rfl), (Nat.le_of_ble_eq_true rfl)⟩ (Nat.le_of_ble_eq_true rfl) ⟨rfl, rfl⟩ ⟨(Nat.le_of_ble_eq_true rfl), (Nat.le_of_ble_eq_true rfl)⟩ (fun r9 w9 hp9 => ?_)
      obtain ⟨rfl, rfl⟩ := hp9
      refine Z_top (v' := .int ((vR (m 75)) 2 i)) (congrArg Value.int (congrFun (hF2 75 (by decide)) _)) ?_
      refine Z_icmp_ge 42 54 dX4_goPlan_39 rfl rfl (fun c39 => ?_) (fun c39 => ?_)
      · skip
        refine Z_iconst 55 (nI 0) dX4_goPlan_54 rfl rfl ?_
        refine Z_istore_n 56 [(1, _), (2, _), (0, _)] dX4_goPlan_55 rfl (Nat.le_of_ble_eq_true rfl) rfl ?_
        refine Z_iinc 59 [(2, _), (1, _), (0, _)] 1 _ dX4_goPlan_56 rfl (Nat.le_of_ble_eq_true rfl) rfl (nI_1 _) rfl ?_
        refine Z_goto 17 dX4_goPlan_59 rfl ?_
        exact ih (i + 1) (by omega) _ (by
          first
            | exact hB.up c24
            | exact hB.no c24 (fun z => by have z2 := z.2; have := (hL2 i hlt).1; rw [i32_le] at c39; omega)
            | exact hB.no c24 (fun z => bI_0 c47 (by rw [hF2 75 (by decide)]; exact z.1))
            | exact Bar.yes hlt ⟨by have := bI_1 c47; rw [hF2 75 (by decide)] at this; exact this, by have := (hL2 i hlt).1; rw [i32_le] at c39; omega⟩)
      · skip
        refine Z_aload_n 43 2 dX4_goPlan_42 rfl rfl ?_
        refine Z_iload_n 44 0 dX4_goPlan_43 rfl rfl ?_
        refine Z_callV 47 [_] 4 (zX4_isNested (m := m2) i hlt) dX4_goPlan_44 rfl qX4_106 kX4_isNested rfl rfl (Nat.le_of_ble_eq_true rfl) rfl rfl ⟨(Nat.le_of_ble_eq_true rfl), (Nat.le_of_ble_eq_true rfl)⟩ (Nat.le_of_ble_eq_true rfl) ⟨rfl, rfl⟩ ⟨(Nat.le_of_ble_eq_true rfl), (Nat.le_of_ble_eq_true rfl)⟩ (fun r9 w9 hp9 => ?_)
        obtain ⟨rfl, rfl⟩ := hp9
        refine Z_if_eq 50 54 dX4_goPlan_47 rfl rfl (fun c47 => ?_) (fun c47 => ?_)
        · skip
          refine Z_iconst 55 (nI 0) dX4_goPlan_54 rfl rfl ?_
          refine Z_istore_n 56 [(1, _), (2, _), (0, _)] dX4_goPlan_55 rfl (Nat.le_of_ble_eq_true rfl) rfl ?_
          refine Z_iinc 59 [(2, _), (1, _), (0, _)] 1 _ dX4_goPlan_56 rfl (Nat.le_of_ble_eq_true rfl) rfl (nI_1 _) rfl ?_
          refine Z_goto 17 dX4_goPlan_59 rfl ?_
          exact ih (i + 1) (by omega) _ (by
            first
              | exact hB.up c24
              | exact hB.no c24 (fun z => by have z2 := z.2; have := (hL2 i hlt).1; rw [i32_le] at c39; omega)
              | exact hB.no c24 (fun z => bI_0 c47 (by rw [hF2 75 (by decide)]; exact z.1))
              | exact Bar.yes hlt ⟨by have := bI_1 c47; rw [hF2 75 (by decide)] at this; exact this, by have := (hL2 i hlt).1; rw [i32_le] at c39; omega⟩)
        · skip
          refine Z_iconst 51 (nI 1) dX4_goPlan_50 rfl rfl ?_
          refine Z_goto 55 dX4_goPlan_51 rfl ?_
          refine Z_istore_n 56 [(1, _), (2, _), (0, _)] dX4_goPlan_55 rfl (Nat.le_of_ble_eq_true rfl) rfl ?_
          refine Z_iinc 59 [(2, _), (1, _), (0, _)] 1 _ dX4_goPlan_56 rfl (Nat.le_of_ble_eq_true rfl) rfl (nI_1 _) rfl ?_
          refine Z_goto 17 dX4_goPlan_59 rfl ?_
          exact ih (i + 1) (by omega) _ (by
            first
              | exact hB.up c24
              | exact hB.no c24 (fun z => by have z2 := z.2; have := (hL2 i hlt).1; rw [i32_le] at c39; omega)
              | exact hB.no c24 (fun z => bI_0 c47 (by rw [hF2 75 (by decide)]; exact z.1))
              | exact Bar.yes hlt ⟨by have := bI_1 c47; rw [hF2 75 (by decide)] at this; exact this, by have := (hL2 i hlt).1; rw [i32_le] at c39; omega⟩)

set_option maxRecDepth 100000 in
set_option maxHeartbeats 4000000 in
theorem zX4_goPlan {G : zG} {l : Launch} {h : Nat → Nat} {m : zM} (n : Nat) (g9 : gOk (vR (m 75)) n) : zMet G l yX4_goPlan mX4_goPlan [.ref (G.1 + 74)] (zw h m) (fun r w => ∃ m', Fm m m' ∧ (((∀ y9, Top (HgtY ((vR (m 75)) 2)) (eL (vR (m 75)) (pFo (vR (m 75)))) n y9 → ∃ q, q < 8 ∧ y9 q < 0) ∧ r = some (.int (nI 4)) ∧ w = zw h (rfM m')) ∨ (∃ y, Top (HgtY ((vR (m 75)) 2)) (eL (vR (m 75)) (pFo (vR (m 75)))) n y ∧ (∀ q, q < 8 → 0 ≤ y q) ∧ (((∃ q, q < 8 ∧ barQ (vR (m 75)) y q) ∧ r = some (.int (nI 3)) ∧ w = zw h (rfM m')) ∨ ((∀ q, q < 8 → ¬ barQ (vR (m 75)) y q) ∧ r = some (.int (nI 10 + mpM m' (fun q => Int32.ofInt (y q)) 8 75 6 - m' 75 6)) ∧ w = zw h (mpM m' (fun q => Int32.ofInt (y q)) 8)))))) 0 0 := by
  refine zMet_of [(0, .ref (G.1 + 74))] (by decide +kernel) rfl (Or.inl rfl) (Nat.le_of_ble_eq_true rfl) rfl ?_
  refine Z_aload_n 1 0 dX4_goPlan_0 rfl rfl ?_
  refine Z_callV 4 [] 4 (zX4_hasLeast n g9) dX4_goPlan_1 rfl qX4_103 kX4_hasLeast rfl rfl (Nat.le_of_ble_eq_true rfl) rfl rfl ⟨(Nat.le_of_ble_eq_true rfl), (Nat.le_of_ble_eq_true rfl)⟩ (Nat.le_of_ble_eq_true rfl) ⟨rfl, rfl⟩ ⟨(Nat.le_of_ble_eq_true rfl), (Nat.le_of_ble_eq_true rfl)⟩ (fun r9 w9 hp9 => ?_)
  obtain ⟨m2, y, rfl, hF2, hL2, hr9⟩ := hp9
  rcases hr9 with ⟨hr8, hpos, hT⟩ | ⟨hr8, hneg⟩
  · cases hr8
    refine Z_if_ne 7 13 dX4_goPlan_4 rfl rfl (fun c4 => ?_) (fun c4 => absurd (by decide) c4)
    refine Z_iconst 14 (nI 0) dX4_goPlan_13 rfl rfl ?_
    refine Z_istore_n 15 [(1, _), (0, _)] dX4_goPlan_14 rfl (Nat.le_of_ble_eq_true rfl) rfl ?_
    refine Z_iconst 16 (nI 0) dX4_goPlan_15 rfl rfl ?_
    refine Z_istore_n 17 [(2, _), (1, _), (0, _)] dX4_goPlan_16 rfl (Nat.le_of_ble_eq_true rfl) rfl ?_
    exact lX4_pb m2 y hF2 hL2 _ (fun hb => ⟨m2, hF2.m0, Or.inr ⟨y, hT, hpos, Or.inl ⟨hb, rfl, rfl⟩⟩⟩) (fun hb => ⟨m2, hF2.m0, Or.inr ⟨y, hT, hpos, Or.inr ⟨hb, rfl, rfl⟩⟩⟩) 8 0 (by omega) _ (Or.inr ⟨rfl, fun q hq => absurd hq (Nat.not_lt_zero q)⟩)
  · cases hr8
    refine Z_if_ne 7 13 dX4_goPlan_4 rfl rfl (fun c4 => absurd c4 (fun q => q rfl)) (fun c4 => ?_)
    refine Z_aload_n 8 0 dX4_goPlan_7 rfl rfl ?_
    refine Z_iconst 9 (nI 4) dX4_goPlan_8 rfl rfl ?_
    refine Z_callV 12 [_] 4 (zX4_refuses _) dX4_goPlan_9 rfl qX4_97 kX4_refuses rfl rfl (Nat.le_of_ble_eq_true rfl) rfl rfl ⟨(Nat.le_of_ble_eq_true rfl), (Nat.le_of_ble_eq_true rfl)⟩ (Nat.le_of_ble_eq_true rfl) ⟨rfl, rfl⟩ ⟨(Nat.le_of_ble_eq_true rfl), (Nat.le_of_ble_eq_true rfl)⟩ (fun r9 w9 hp9 => ?_)
    obtain ⟨rfl, rfl⟩ := hp9
    exact Z_iret dX4_goPlan_12 rfl ⟨m2, hF2.m0, Or.inl ⟨hneg, rfl, rfl⟩⟩
