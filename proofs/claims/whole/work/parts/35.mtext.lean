/-! the model: texts -/
def bB (b : Bool) : Int32 := if b = true then nI 1 else nI 0
theorem bI_bB {p : Prop} [Decidable p] : bI p = bB (decide p) := by
  by_cases h : p
  · rw [bI_t h, decide_eq_true h]
    rfl
  · rw [bI_f h, decide_eq_false h]
    rfl
theorem bB_0 {b : Bool} (h : bB b = 0) : b = false := by
  cases b
  · rfl
  · exact absurd h (by decide)
theorem bB_1 {b : Bool} (h : ¬ bB b = 0) : b = true := by
  cases b
  · exact absurd rfl h
  · rfl
def nx (b : Bool) (s : Nat) : Nat := if b = true then s + 1 else s
def FtA (m m' : zM) : Prop := (∀ q, q ≠ 74 → m' q = m q) ∧ ∀ k, k ≠ 10 → k ≠ 11 → m' 74 k = m 74 k
def FtB (m m' : zM) : Prop := (∀ q, q ≠ 74 → m' q = m q) ∧ ∀ k, ¬ (10 ≤ k ∧ k ≤ 14) → m' 74 k = m 74 k
theorem FtA.trans {m m1 m2 : zM} (h1 : FtA m m1) (h2 : FtA m1 m2) : FtA m m2 := ⟨fun q hq => (h2.1 q hq).trans (h1.1 q hq), fun k a b => (h2.2 k a b).trans (h1.2 k a b)⟩
theorem FtB.trans {m m1 m2 : zM} (h1 : FtB m m1) (h2 : FtB m1 m2) : FtB m m2 := ⟨fun q hq => (h2.1 q hq).trans (h1.1 q hq), fun k a => (h2.2 k a).trans (h1.2 k a)⟩
theorem FtB.rf {m : zM} : FtB m m := ⟨fun _ _ => rfl, fun _ _ => rfl⟩
theorem FtA.b {m m' : zM} (h : FtA m m') : FtB m m' := ⟨h.1, fun k a => h.2 k (by omega) (by omega)⟩
theorem FtB.up {m m1 : zM} {k : Nat} {v : Int32} (h : FtB m m1) (hk : 10 ≤ k ∧ k ≤ 14) : FtB m (up2 m1 74 k v) := by
  refine ⟨fun q hq => ?_, fun j hj => ?_⟩
  · rw [up2_na _ _ _ hq]
    exact h.1 q hq
  · rw [up2_ne _ _ (fun z => by omega)]
    exact h.2 j hj
/-- the reader stands at s in the text x, of L characters -/
def Rd (m : zM) (x : Nat → Int32) (L s : Nat) (F : Bool) : Prop := m 74 7 = nI L ∧ L ≤ 60 ∧ x = hx (m 79) L ∧ m 74 10 = nI s ∧ m 74 11 = bB F
theorem Rd.up {m : zM} {x : Nat → Int32} {L s k : Nat} {F : Bool} {v : Int32} (h : Rd m x L s F) (hk : k = 12 ∨ k = 13 ∨ k = 14) : Rd (up2 m 74 k v) x L s F := by
  refine ⟨?_, h.2.1, ?_, ?_, ?_⟩
  · rw [up2_ne _ _ (by omega)]
    exact h.1
  · rw [up2_na _ _ _ (by decide)]
    exact h.2.2.1
  · rw [up2_ne _ _ (by omega)]
    exact h.2.2.2.1
  · rw [up2_ne _ _ (by omega)]
    exact h.2.2.2.2
theorem tkA (m : zM) (v w : Int32) : FtA m (up2 (up2 m 74 11 v) 74 10 w) := by
  refine ⟨fun q hq => ?_, fun k a b => ?_⟩
  · rw [up2_na _ _ _ hq, up2_na _ _ _ hq]
  · rw [up2_ne _ _ (fun z => a z.2), up2_ne _ _ (fun z => b z.2)]
theorem tkR {m : zM} {x : Nat → Int32} {L s s' : Nat} {F F' : Bool} {v w : Int32} (h : Rd m x L s F) (hv : v = bB F') (hw : w = nI s') : Rd (up2 (up2 m 74 11 v) 74 10 w) x L s' F' := by
  refine ⟨?_, h.2.1, ?_, ?_, ?_⟩
  · rw [up2_ne _ _ (by decide), up2_ne _ _ (by decide)]
    exact h.1
  · rw [up2_na _ _ _ (by decide), up2_na _ _ _ (by decide)]
    exact h.2.2.1
  · rw [up2_eq]
    exact hw
  · rw [up2_ne _ _ (by decide), up2_eq]
    exact hv
theorem spA {m : zM} {w : Int32} : FtA m (up2 m 74 10 w) := by
  refine ⟨fun q hq => up2_na _ _ _ hq, fun k a b => up2_ne _ _ (fun z => a z.2)⟩
theorem spR {m : zM} {x : Nat → Int32} {L s s' : Nat} {F : Bool} {w : Int32} (h : Rd m x L s F) (hw : w = nI s') : Rd (up2 m 74 10 w) x L s' F := by
  refine ⟨?_, h.2.1, ?_, ?_, ?_⟩
  · rw [up2_ne _ _ (by decide)]
    exact h.1
  · rw [up2_na _ _ _ (by decide)]
    exact h.2.2.1
  · rw [up2_eq]
    exact hw
  · rw [up2_ne _ _ (by decide)]
    exact h.2.2.2.2
set_option maxRecDepth 100000 in
set_option maxHeartbeats 4000000 in
theorem zX4_here {G : zG} {l : Launch} {h : Nat → Nat} {m : zM} (x : Nat → Int32) (L s : Nat) (F : Bool) (hR : Rd m x L s F) (hs : s < 1000) : zMet G l yX4_here mX4_here [.ref (G.1 + 74)] (zw h m) (fun r w => r = some (.int (x s)) ∧ w = zw h m) 0 0 := by
  refine zMet_of [(0, .ref (G.1 + 74))] (by decide +kernel) rfl (Or.inl rfl) (Nat.le_of_ble_eq_true rfl) rfl ?_
  have hL := hR.2.1
  refine Z_aload_n 1 0 dX4_here_0 rfl rfl ?_
  refine Z_getI 4 dX4_here_1 rfl fX4_138 (Nat.le_of_ble_eq_true rfl) rfl rfl ?_
  refine Z_top (v' := .int (nI s)) (congrArg Value.int (hR.2.2.2.1)) ?_
  refine Z_aload_n 5 0 dX4_here_4 rfl rfl ?_
  refine Z_getI 8 dX4_here_5 rfl fX4_135 (Nat.le_of_ble_eq_true rfl) rfl rfl ?_
  refine Z_top (v' := .int (nI L)) (congrArg Value.int (hR.1)) ?_
  refine Z_icmp_ge 11 23 dX4_here_8 rfl rfl (fun c8 => ?_) (fun c8 => ?_)
  · skip
    have h8 : L ≤ s := (nI_leI (by omega) (by omega)).mp c8
    refine Z_iconst 24 (nI 0) dX4_here_23 rfl rfl ?_
    exact Z_iret dX4_here_24 rfl (by first | exact ⟨by rw [hR.2.2.1, hx_hi h8]; rfl, rfl⟩ | exact ⟨by rw [hR.2.2.1, hx_lo h8], rfl⟩)
  · skip
    have h8 : s < L := by
      rcases Nat.lt_or_ge s L with g | g
      · exact g
      · exact absurd (nI_le g (by omega)) c8
    refine Z_aload_n 12 0 dX4_here_11 rfl rfl ?_
    refine Z_getR 15 dX4_here_12 rfl fX4_22 (Nat.le_of_ble_eq_true rfl) rfl rfl ?_
    refine Z_aload_n 16 0 dX4_here_15 rfl rfl ?_
    refine Z_getI 19 dX4_here_16 rfl fX4_138 (Nat.le_of_ble_eq_true rfl) rfl rfl ?_
    refine Z_top (v' := .int (nI s)) (congrArg Value.int (hR.2.2.2.1)) ?_
    refine Z_ialn 20 dX4_here_19 rfl (Nat.le_of_ble_eq_true rfl) rfl (by omega) (by decide) ?_
    refine Z_goto 24 dX4_here_20 rfl ?_
    exact Z_iret dX4_here_24 rfl (by first | exact ⟨by rw [hR.2.2.1, hx_hi h8]; rfl, rfl⟩ | exact ⟨by rw [hR.2.2.1, hx_lo h8], rfl⟩)

set_option maxRecDepth 100000 in
set_option maxHeartbeats 4000000 in
theorem zX4_takes {G : zG} {l : Launch} {h : Nat → Nat} {m : zM} (x : Nat → Int32) (L s : Nat) (F : Bool) (hR : Rd m x L s F) (hs : s < 1000) (v : Int32) (p : Bool) (hv : v = bB p) : zMet G l yX4_takes mX4_takes [.ref (G.1 + 74), .int v] (zw h m) (fun r w => ∃ m', w = zw h m' ∧ r = none ∧ FtA m m' ∧ Rd m' x L (nx (F && p) s) (F && p)) 0 0 := by
  refine zMet_of [(0, .ref (G.1 + 74)), (1, .int v)] (by decide +kernel) rfl (Or.inl rfl) (Nat.le_of_ble_eq_true rfl) rfl ?_
  refine Z_aload_n 1 0 dX4_takes_0 rfl rfl ?_
  refine Z_aload_n 2 0 dX4_takes_1 rfl rfl ?_
  refine Z_getI 5 dX4_takes_2 rfl fX4_141 (Nat.le_of_ble_eq_true rfl) rfl rfl ?_
  refine Z_top (congrArg Value.int hR.2.2.2.2) ?_
  refine Z_if_eq 8 16 dX4_takes_5 rfl rfl (fun c5 => ?_) (fun c5 => ?_)
  · skip
    have hb : (F && p) = false := by rw [bB_0 c5]; rfl
    refine Z_iconst 17 (nI 0) dX4_takes_16 rfl rfl ?_
    refine Z_putI 20 .boolean dX4_takes_17 rfl fX4_141 ft_4_11 (Nat.le_of_ble_eq_true rfl) rfl rfl rfl rfl ?_
    refine Z_aload_n 21 0 dX4_takes_20 rfl rfl ?_
    refine Z_dup 22 dX4_takes_21 rfl rfl ?_
    refine Z_getI 25 dX4_takes_22 rfl fX4_138 (Nat.le_of_ble_eq_true rfl) rfl rfl ?_
    refine Z_top (v' := .int (nI s)) (congrArg Value.int (by rw [up2_ne _ _ (by decide)]; exact hR.2.2.2.1)) ?_
    refine Z_aload_n 26 0 dX4_takes_25 rfl rfl ?_
    refine Z_getI 29 dX4_takes_26 rfl fX4_141 (Nat.le_of_ble_eq_true rfl) rfl rfl ?_
    refine Z_top (congrArg Value.int (up2_eq _ _ _ _)) ?_
    refine Z_if_eq 32 36 dX4_takes_29 rfl rfl (fun c29 => ?_) (fun c29 => ?_)
    · skip
      refine Z_iconst 37 (nI 0) dX4_takes_36 rfl rfl ?_
      refine Z_iadd 38 dX4_takes_37 rfl ?_
      refine Z_putI 41 .int dX4_takes_38 rfl fX4_138 ft_4_10 (Nat.le_of_ble_eq_true rfl) rfl rfl rfl rfl ?_
      exact Z_vret dX4_takes_41 rfl (by first | exact absurd rfl c29 | exact absurd c29 (by decide) | exact ⟨_, rfl, rfl, tkA m _ _, by rw [hb]; exact tkR hR rfl (nI_add s 1)⟩ | exact ⟨_, rfl, rfl, tkA m _ _, by rw [hb]; exact tkR hR rfl (nI_add s 0)⟩)
    · skip
      refine Z_iconst 33 (nI 1) dX4_takes_32 rfl rfl ?_
      refine Z_goto 37 dX4_takes_33 rfl ?_
      refine Z_iadd 38 dX4_takes_37 rfl ?_
      refine Z_putI 41 .int dX4_takes_38 rfl fX4_138 ft_4_10 (Nat.le_of_ble_eq_true rfl) rfl rfl rfl rfl ?_
      exact Z_vret dX4_takes_41 rfl (by first | exact absurd rfl c29 | exact absurd c29 (by decide) | exact ⟨_, rfl, rfl, tkA m _ _, by rw [hb]; exact tkR hR rfl (nI_add s 1)⟩ | exact ⟨_, rfl, rfl, tkA m _ _, by rw [hb]; exact tkR hR rfl (nI_add s 0)⟩)
  · skip
    refine Z_iload_n 9 1 dX4_takes_8 rfl rfl ?_
    refine Z_if_eq 12 16 dX4_takes_9 rfl rfl (fun c9 => ?_) (fun c9 => ?_)
    · skip
      have hb : (F && p) = false := by rw [bB_0 (hv.symm.trans c9), Bool.and_false]
      refine Z_iconst 17 (nI 0) dX4_takes_16 rfl rfl ?_
      refine Z_putI 20 .boolean dX4_takes_17 rfl fX4_141 ft_4_11 (Nat.le_of_ble_eq_true rfl) rfl rfl rfl rfl ?_
      refine Z_aload_n 21 0 dX4_takes_20 rfl rfl ?_
      refine Z_dup 22 dX4_takes_21 rfl rfl ?_
      refine Z_getI 25 dX4_takes_22 rfl fX4_138 (Nat.le_of_ble_eq_true rfl) rfl rfl ?_
      refine Z_top (v' := .int (nI s)) (congrArg Value.int (by rw [up2_ne _ _ (by decide)]; exact hR.2.2.2.1)) ?_
      refine Z_aload_n 26 0 dX4_takes_25 rfl rfl ?_
      refine Z_getI 29 dX4_takes_26 rfl fX4_141 (Nat.le_of_ble_eq_true rfl) rfl rfl ?_
      refine Z_top (congrArg Value.int (up2_eq _ _ _ _)) ?_
      refine Z_if_eq 32 36 dX4_takes_29 rfl rfl (fun c29 => ?_) (fun c29 => ?_)
      · skip
        refine Z_iconst 37 (nI 0) dX4_takes_36 rfl rfl ?_
        refine Z_iadd 38 dX4_takes_37 rfl ?_
        refine Z_putI 41 .int dX4_takes_38 rfl fX4_138 ft_4_10 (Nat.le_of_ble_eq_true rfl) rfl rfl rfl rfl ?_
        exact Z_vret dX4_takes_41 rfl (by first | exact absurd rfl c29 | exact absurd c29 (by decide) | exact ⟨_, rfl, rfl, tkA m _ _, by rw [hb]; exact tkR hR rfl (nI_add s 1)⟩ | exact ⟨_, rfl, rfl, tkA m _ _, by rw [hb]; exact tkR hR rfl (nI_add s 0)⟩)
      · skip
        refine Z_iconst 33 (nI 1) dX4_takes_32 rfl rfl ?_
        refine Z_goto 37 dX4_takes_33 rfl ?_
        refine Z_iadd 38 dX4_takes_37 rfl ?_
        refine Z_putI 41 .int dX4_takes_38 rfl fX4_138 ft_4_10 (Nat.le_of_ble_eq_true rfl) rfl rfl rfl rfl ?_
        exact Z_vret dX4_takes_41 rfl (by first | exact absurd rfl c29 | exact absurd c29 (by decide) | exact ⟨_, rfl, rfl, tkA m _ _, by rw [hb]; exact tkR hR rfl (nI_add s 1)⟩ | exact ⟨_, rfl, rfl, tkA m _ _, by rw [hb]; exact tkR hR rfl (nI_add s 0)⟩)
    · skip
      have hb : (F && p) = true := by rw [bB_1 c5, bB_1 (fun z => c9 (hv.trans z))]; rfl
      refine Z_iconst 13 (nI 1) dX4_takes_12 rfl rfl ?_
      refine Z_goto 17 dX4_takes_13 rfl ?_
      refine Z_putI 20 .boolean dX4_takes_17 rfl fX4_141 ft_4_11 (Nat.le_of_ble_eq_true rfl) rfl rfl rfl rfl ?_
      refine Z_aload_n 21 0 dX4_takes_20 rfl rfl ?_
      refine Z_dup 22 dX4_takes_21 rfl rfl ?_
      refine Z_getI 25 dX4_takes_22 rfl fX4_138 (Nat.le_of_ble_eq_true rfl) rfl rfl ?_
      refine Z_top (v' := .int (nI s)) (congrArg Value.int (by rw [up2_ne _ _ (by decide)]; exact hR.2.2.2.1)) ?_
      refine Z_aload_n 26 0 dX4_takes_25 rfl rfl ?_
      refine Z_getI 29 dX4_takes_26 rfl fX4_141 (Nat.le_of_ble_eq_true rfl) rfl rfl ?_
      refine Z_top (congrArg Value.int (up2_eq _ _ _ _)) ?_
      refine Z_if_eq 32 36 dX4_takes_29 rfl rfl (fun c29 => ?_) (fun c29 => ?_)
      · skip
        refine Z_iconst 37 (nI 0) dX4_takes_36 rfl rfl ?_
        refine Z_iadd 38 dX4_takes_37 rfl ?_
        refine Z_putI 41 .int dX4_takes_38 rfl fX4_138 ft_4_10 (Nat.le_of_ble_eq_true rfl) rfl rfl rfl rfl ?_
        exact Z_vret dX4_takes_41 rfl (by first | exact absurd rfl c29 | exact absurd c29 (by decide) | exact ⟨_, rfl, rfl, tkA m _ _, by rw [hb]; exact tkR hR rfl (nI_add s 1)⟩ | exact ⟨_, rfl, rfl, tkA m _ _, by rw [hb]; exact tkR hR rfl (nI_add s 0)⟩)
      · skip
        refine Z_iconst 33 (nI 1) dX4_takes_32 rfl rfl ?_
        refine Z_goto 37 dX4_takes_33 rfl ?_
        refine Z_iadd 38 dX4_takes_37 rfl ?_
        refine Z_putI 41 .int dX4_takes_38 rfl fX4_138 ft_4_10 (Nat.le_of_ble_eq_true rfl) rfl rfl rfl rfl ?_
        exact Z_vret dX4_takes_41 rfl (by first | exact absurd rfl c29 | exact absurd c29 (by decide) | exact ⟨_, rfl, rfl, tkA m _ _, by rw [hb]; exact tkR hR rfl (nI_add s 1)⟩ | exact ⟨_, rfl, rfl, tkA m _ _, by rw [hb]; exact tkR hR rfl (nI_add s 0)⟩)

set_option maxRecDepth 100000 in
set_option maxHeartbeats 4000000 in
theorem zX4_takesDigit {G : zG} {l : Launch} {h : Nat → Nat} {m : zM} (x : Nat → Int32) (L s : Nat) (F : Bool) (hR : Rd m x L s F) (hs : s < 1000) (a b : Int32) : zMet G l yX4_takesDigit mX4_takesDigit [.ref (G.1 + 74), .int a, .int b] (zw h m) (fun r w => ∃ m', w = zw h m' ∧ r = some (.int (x s - nI 48)) ∧ FtA m m' ∧ Rd m' x L (nx (F && decide (¬ x s - nI 48 < a ∧ ¬ b < x s - nI 48)) s) (F && decide (¬ x s - nI 48 < a ∧ ¬ b < x s - nI 48))) 0 0 := by
  refine zMet_of [(0, .ref (G.1 + 74)), (1, .int a), (2, .int b)] (by decide +kernel) rfl (Or.inl rfl) (Nat.le_of_ble_eq_true rfl) rfl ?_
  refine Z_aload_n 1 0 dX4_takesDigit_0 rfl rfl ?_
  refine Z_callV 4 [] 4 (zX4_here x L s F hR hs) dX4_takesDigit_1 rfl qX4_145 kX4_here rfl rfl (Nat.le_of_ble_eq_true rfl) rfl rfl ⟨(Nat.le_of_ble_eq_true rfl), (Nat.le_of_ble_eq_true rfl)⟩ (Nat.le_of_ble_eq_true rfl) ⟨rfl, rfl⟩ ⟨(Nat.le_of_ble_eq_true rfl), (Nat.le_of_ble_eq_true rfl)⟩ (fun r9 w9 hp9 => ?_)
  obtain ⟨rfl, rfl⟩ := hp9
  refine Z_bipush 6 (nI 48) dX4_takesDigit_4 rfl rfl ?_
  refine Z_isub 7 dX4_takesDigit_6 rfl ?_
  refine Z_istore_n 8 [(3, _), (0, _), (1, _), (2, _)] dX4_takesDigit_7 rfl (Nat.le_of_ble_eq_true rfl) rfl ?_
  refine Z_aload_n 9 1 dX4_takesDigit_8 rfl rfl ?_
  refine Z_iload_n 10 0 dX4_takesDigit_9 rfl rfl ?_
  refine Z_iload_n 11 2 dX4_takesDigit_10 rfl rfl ?_
  refine Z_iload_n 12 3 dX4_takesDigit_11 rfl rfl ?_
  refine Z_callS 15 [_, _, _] (zX4_in _ _ _) dX4_takesDigit_12 rfl qX4_46 kX4_in rfl rfl ⟨(Nat.le_of_ble_eq_true rfl), (Nat.le_of_ble_eq_true rfl)⟩ (Nat.le_of_ble_eq_true rfl) ⟨rfl, rfl⟩ ⟨(Nat.le_of_ble_eq_true rfl), (Nat.le_of_ble_eq_true rfl)⟩ (fun r9 w9 hp9 => ?_)
  obtain ⟨rfl, rfl⟩ := hp9
  refine Z_callV 18 [_] 4 (zX4_takes x L s F hR hs _ _ bI_bB) dX4_takesDigit_15 rfl qX4_148 kX4_takes rfl rfl (Nat.le_of_ble_eq_true rfl) rfl rfl ⟨(Nat.le_of_ble_eq_true rfl), (Nat.le_of_ble_eq_true rfl)⟩ (Nat.le_of_ble_eq_true rfl) ⟨rfl, rfl⟩ ⟨(Nat.le_of_ble_eq_true rfl), (Nat.le_of_ble_eq_true rfl)⟩ (fun r9 w9 hp9 => ?_)
  obtain ⟨m2, rfl, rfl, hA2, hR2⟩ := hp9
  refine Z_iload_n 19 0 dX4_takesDigit_18 rfl rfl ?_
  exact Z_iret dX4_takesDigit_19 rfl ⟨m2, rfl, rfl, hA2, hR2⟩

theorem nx_lt {b : Bool} {s k : Nat} (h : s < k) : nx b s < k + 1 := by
  unfold nx
  split <;> omega
theorem nt1 {A B C : Bool} (h : A = false) : (A && B && C) = false := by rw [h]; rfl
theorem nt2 {A B C : Bool} (h : B = false) : (A && B && C) = false := by rw [h, Bool.and_false]; rfl
theorem nt3 {A B C : Bool} (h : C = false) : (A && B && C) = false := by rw [h, Bool.and_false]
theorem nt4 {A B C : Bool} (h : A = true) (h2 : B = true) (h3 : C = true) : (A && B && C) = true := by rw [h, h2, h3]; rfl
set_option maxRecDepth 100000 in
set_option maxHeartbeats 4000000 in
theorem zX4_takesNumber {G : zG} {l : Launch} {h : Nat → Nat} {m : zM} (x : Nat → Int32) (L s : Nat) (F : Bool) (hR : Rd m x L s F) (hs : s < 900) (b : Int32) : zMet G l yX4_takesNumber mX4_takesNumber [.ref (G.1 + 74), .int b] (zw h m) (fun r w => ∃ m', w = zw h m' ∧ r = some (.int (if ((F && decide (¬ x s - nI 48 < (nI 1) ∧ ¬ (nI 9) < x s - nI 48)) && decide (¬ x (nx (F && decide (¬ x s - nI 48 < (nI 1) ∧ ¬ (nI 9) < x s - nI 48)) s) < nI 48 ∧ ¬ nI 57 < x (nx (F && decide (¬ x s - nI 48 < (nI 1) ∧ ¬ (nI 9) < x s - nI 48)) s)) && decide (¬ b < nI 10 * (x s - nI 48) + x (nx (F && decide (¬ x s - nI 48 < (nI 1) ∧ ¬ (nI 9) < x s - nI 48)) s) - nI 48)) = true then nI 10 * (x s - nI 48) + x (nx (F && decide (¬ x s - nI 48 < (nI 1) ∧ ¬ (nI 9) < x s - nI 48)) s) - nI 48 else x s - nI 48)) ∧ FtA m m' ∧ Rd m' x L (nx ((F && decide (¬ x s - nI 48 < (nI 1) ∧ ¬ (nI 9) < x s - nI 48)) && decide (¬ x (nx (F && decide (¬ x s - nI 48 < (nI 1) ∧ ¬ (nI 9) < x s - nI 48)) s) < nI 48 ∧ ¬ nI 57 < x (nx (F && decide (¬ x s - nI 48 < (nI 1) ∧ ¬ (nI 9) < x s - nI 48)) s)) && decide (¬ b < nI 10 * (x s - nI 48) + x (nx (F && decide (¬ x s - nI 48 < (nI 1) ∧ ¬ (nI 9) < x s - nI 48)) s) - nI 48)) (nx (F && decide (¬ x s - nI 48 < (nI 1) ∧ ¬ (nI 9) < x s - nI 48)) s)) (F && decide (¬ x s - nI 48 < (nI 1) ∧ ¬ (nI 9) < x s - nI 48))) 0 0 := by
  refine zMet_of [(0, .ref (G.1 + 74)), (1, .int b)] (by decide +kernel) rfl (Or.inl rfl) (Nat.le_of_ble_eq_true rfl) rfl ?_
  refine Z_aload_n 1 0 dX4_takesNumber_0 rfl rfl ?_
  refine Z_iconst 2 (nI 1) dX4_takesNumber_1 rfl rfl ?_
  refine Z_bipush 4 (nI 9) dX4_takesNumber_2 rfl rfl ?_
  refine Z_callV 7 [_, _] 4 (zX4_takesDigit x L s F hR (by omega) (nI 1) (nI 9)) dX4_takesNumber_4 rfl qX4_152 kX4_takesDigit rfl rfl (Nat.le_of_ble_eq_true rfl) rfl rfl ⟨(Nat.le_of_ble_eq_true rfl), (Nat.le_of_ble_eq_true rfl)⟩ (Nat.le_of_ble_eq_true rfl) ⟨rfl, rfl⟩ ⟨(Nat.le_of_ble_eq_true rfl), (Nat.le_of_ble_eq_true rfl)⟩ (fun r9 w9 hp9 => ?_)
  obtain ⟨m2, rfl, rfl, hA2, hR2⟩ := hp9
  have hs2 := nx_lt (b := (F && decide (¬ x s - nI 48 < (nI 1) ∧ ¬ (nI 9) < x s - nI 48))) hs
  refine Z_istore_n 8 [(2, _), (0, _), (1, _)] dX4_takesNumber_7 rfl (Nat.le_of_ble_eq_true rfl) rfl ?_
  refine Z_bipush 10 (nI 10) dX4_takesNumber_8 rfl rfl ?_
  refine Z_iload_n 11 0 dX4_takesNumber_10 rfl rfl ?_
  refine Z_imul 12 dX4_takesNumber_11 rfl ?_
  refine Z_aload_n 13 1 dX4_takesNumber_12 rfl rfl ?_
  refine Z_callV 16 [] 4 (zX4_here (m := m2) x L _ _ hR2 (by omega)) dX4_takesNumber_13 rfl qX4_145 kX4_here rfl rfl (Nat.le_of_ble_eq_true rfl) rfl rfl ⟨(Nat.le_of_ble_eq_true rfl), (Nat.le_of_ble_eq_true rfl)⟩ (Nat.le_of_ble_eq_true rfl) ⟨rfl, rfl⟩ ⟨(Nat.le_of_ble_eq_true rfl), (Nat.le_of_ble_eq_true rfl)⟩ (fun r9 w9 hp9 => ?_)
  obtain ⟨rfl, rfl⟩ := hp9
  refine Z_iadd 17 dX4_takesNumber_16 rfl ?_
  refine Z_bipush 19 (nI 48) dX4_takesNumber_17 rfl rfl ?_
  refine Z_isub 20 dX4_takesNumber_19 rfl ?_
  refine Z_istore_n 21 [(3, _), (2, _), (0, _), (1, _)] dX4_takesNumber_20 rfl (Nat.le_of_ble_eq_true rfl) rfl ?_
  refine Z_aload_n 22 2 dX4_takesNumber_21 rfl rfl ?_
  refine Z_getI 25 dX4_takesNumber_22 rfl fX4_141 (Nat.le_of_ble_eq_true rfl) rfl rfl ?_
  refine Z_top (congrArg Value.int hR2.2.2.2.2) ?_
  refine Z_if_eq 28 51 dX4_takesNumber_25 rfl rfl (fun c25 => ?_) (fun c25 => ?_)
  · skip
    have hb : ((F && decide (¬ x s - nI 48 < (nI 1) ∧ ¬ (nI 9) < x s - nI 48)) && decide (¬ x (nx (F && decide (¬ x s - nI 48 < (nI 1) ∧ ¬ (nI 9) < x s - nI 48)) s) < nI 48 ∧ ¬ nI 57 < x (nx (F && decide (¬ x s - nI 48 < (nI 1) ∧ ¬ (nI 9) < x s - nI 48)) s)) && decide (¬ b < nI 10 * (x s - nI 48) + x (nx (F && decide (¬ x s - nI 48 < (nI 1) ∧ ¬ (nI 9) < x s - nI 48)) s) - nI 48)) = false := nt1 (bB_0 c25)
    refine Z_iconst 52 (nI 0) dX4_takesNumber_51 rfl rfl ?_
    refine Z_istore 54 [(4, _), (3, _), (2, _), (0, _), (1, _)] dX4_takesNumber_52 rfl (Nat.le_of_ble_eq_true rfl) rfl ?_
    refine Z_aload_n 55 3 dX4_takesNumber_54 rfl rfl ?_
    refine Z_dup 56 dX4_takesNumber_55 rfl rfl ?_
    refine Z_getI 59 dX4_takesNumber_56 rfl fX4_138 (Nat.le_of_ble_eq_true rfl) rfl rfl ?_
    refine Z_top (v' := .int (nI (nx (F && decide (¬ x s - nI 48 < (nI 1) ∧ ¬ (nI 9) < x s - nI 48)) s))) (congrArg Value.int (hR2.2.2.2.1)) ?_
    refine Z_iload 61 0 dX4_takesNumber_59 rfl rfl ?_
    refine Z_if_eq 64 68 dX4_takesNumber_61 rfl rfl (fun c61 => ?_) (fun c61 => ?_)
    · skip
      refine Z_iconst 69 (nI 0) dX4_takesNumber_68 rfl rfl ?_
      refine Z_iadd 70 dX4_takesNumber_69 rfl ?_
      refine Z_putI 73 .int dX4_takesNumber_70 rfl fX4_138 ft_4_10 (Nat.le_of_ble_eq_true rfl) rfl rfl rfl rfl ?_
      refine Z_iload 75 0 dX4_takesNumber_73 rfl rfl ?_
      refine Z_if_eq 78 82 dX4_takesNumber_75 rfl rfl (fun c75 => ?_) (fun c75 => ?_)
      · skip
        refine Z_iload_n 83 2 dX4_takesNumber_82 rfl rfl ?_
        exact Z_iret dX4_takesNumber_83 rfl (by first | exact absurd rfl c61 | exact absurd c61 (by decide) | exact absurd rfl c75 | exact absurd c75 (by decide) | exact ⟨_, rfl, by rw [if_pos hb], hA2.trans spA, spR hR2 (by rw [hb]; exact nI_add _ 1)⟩ | exact ⟨_, rfl, by rw [if_neg (by rw [hb]; decide)], hA2.trans spA, spR hR2 (by rw [hb]; exact nI_add _ 0)⟩)
      · skip
        refine Z_iload_n 79 1 dX4_takesNumber_78 rfl rfl ?_
        refine Z_goto 83 dX4_takesNumber_79 rfl ?_
        exact Z_iret dX4_takesNumber_83 rfl (by first | exact absurd rfl c61 | exact absurd c61 (by decide) | exact absurd rfl c75 | exact absurd c75 (by decide) | exact ⟨_, rfl, by rw [if_pos hb], hA2.trans spA, spR hR2 (by rw [hb]; exact nI_add _ 1)⟩ | exact ⟨_, rfl, by rw [if_neg (by rw [hb]; decide)], hA2.trans spA, spR hR2 (by rw [hb]; exact nI_add _ 0)⟩)
    · skip
      refine Z_iconst 65 (nI 1) dX4_takesNumber_64 rfl rfl ?_
      refine Z_goto 69 dX4_takesNumber_65 rfl ?_
      refine Z_iadd 70 dX4_takesNumber_69 rfl ?_
      refine Z_putI 73 .int dX4_takesNumber_70 rfl fX4_138 ft_4_10 (Nat.le_of_ble_eq_true rfl) rfl rfl rfl rfl ?_
      refine Z_iload 75 0 dX4_takesNumber_73 rfl rfl ?_
      refine Z_if_eq 78 82 dX4_takesNumber_75 rfl rfl (fun c75 => ?_) (fun c75 => ?_)
      · skip
        refine Z_iload_n 83 2 dX4_takesNumber_82 rfl rfl ?_
        exact Z_iret dX4_takesNumber_83 rfl (by first | exact absurd rfl c61 | exact absurd c61 (by decide) | exact absurd rfl c75 | exact absurd c75 (by decide) | exact ⟨_, rfl, by rw [if_pos hb], hA2.trans spA, spR hR2 (by rw [hb]; exact nI_add _ 1)⟩ | exact ⟨_, rfl, by rw [if_neg (by rw [hb]; decide)], hA2.trans spA, spR hR2 (by rw [hb]; exact nI_add _ 0)⟩)
      · skip
        refine Z_iload_n 79 1 dX4_takesNumber_78 rfl rfl ?_
        refine Z_goto 83 dX4_takesNumber_79 rfl ?_
        exact Z_iret dX4_takesNumber_83 rfl (by first | exact absurd rfl c61 | exact absurd c61 (by decide) | exact absurd rfl c75 | exact absurd c75 (by decide) | exact ⟨_, rfl, by rw [if_pos hb], hA2.trans spA, spR hR2 (by rw [hb]; exact nI_add _ 1)⟩ | exact ⟨_, rfl, by rw [if_neg (by rw [hb]; decide)], hA2.trans spA, spR hR2 (by rw [hb]; exact nI_add _ 0)⟩)
  · skip
    refine Z_aload_n 29 2 dX4_takesNumber_28 rfl rfl ?_
    refine Z_callV 32 [] 4 (zX4_here (m := m2) x L _ _ hR2 (by omega)) dX4_takesNumber_29 rfl qX4_145 kX4_here rfl rfl (Nat.le_of_ble_eq_true rfl) rfl rfl ⟨(Nat.le_of_ble_eq_true rfl), (Nat.le_of_ble_eq_true rfl)⟩ (Nat.le_of_ble_eq_true rfl) ⟨rfl, rfl⟩ ⟨(Nat.le_of_ble_eq_true rfl), (Nat.le_of_ble_eq_true rfl)⟩ (fun r9 w9 hp9 => ?_)
    obtain ⟨rfl, rfl⟩ := hp9
    refine Z_bipush 34 (nI 48) dX4_takesNumber_32 rfl rfl ?_
    refine Z_bipush 36 (nI 57) dX4_takesNumber_34 rfl rfl ?_
    refine Z_callS 39 [_, _, _] (zX4_in _ _ _) dX4_takesNumber_36 rfl qX4_46 kX4_in rfl rfl ⟨(Nat.le_of_ble_eq_true rfl), (Nat.le_of_ble_eq_true rfl)⟩ (Nat.le_of_ble_eq_true rfl) ⟨rfl, rfl⟩ ⟨(Nat.le_of_ble_eq_true rfl), (Nat.le_of_ble_eq_true rfl)⟩ (fun r9 w9 hp9 => ?_)
    obtain ⟨rfl, rfl⟩ := hp9
    refine Z_if_eq 42 51 dX4_takesNumber_39 rfl rfl (fun c39 => ?_) (fun c39 => ?_)
    · skip
      have hb : ((F && decide (¬ x s - nI 48 < (nI 1) ∧ ¬ (nI 9) < x s - nI 48)) && decide (¬ x (nx (F && decide (¬ x s - nI 48 < (nI 1) ∧ ¬ (nI 9) < x s - nI 48)) s) < nI 48 ∧ ¬ nI 57 < x (nx (F && decide (¬ x s - nI 48 < (nI 1) ∧ ¬ (nI 9) < x s - nI 48)) s)) && decide (¬ b < nI 10 * (x s - nI 48) + x (nx (F && decide (¬ x s - nI 48 < (nI 1) ∧ ¬ (nI 9) < x s - nI 48)) s) - nI 48)) = false := nt2 (decide_eq_false (bI_0 c39))
      refine Z_iconst 52 (nI 0) dX4_takesNumber_51 rfl rfl ?_
      refine Z_istore 54 [(4, _), (3, _), (2, _), (0, _), (1, _)] dX4_takesNumber_52 rfl (Nat.le_of_ble_eq_true rfl) rfl ?_
      refine Z_aload_n 55 3 dX4_takesNumber_54 rfl rfl ?_
      refine Z_dup 56 dX4_takesNumber_55 rfl rfl ?_
      refine Z_getI 59 dX4_takesNumber_56 rfl fX4_138 (Nat.le_of_ble_eq_true rfl) rfl rfl ?_
      refine Z_top (v' := .int (nI (nx (F && decide (¬ x s - nI 48 < (nI 1) ∧ ¬ (nI 9) < x s - nI 48)) s))) (congrArg Value.int (hR2.2.2.2.1)) ?_
      refine Z_iload 61 0 dX4_takesNumber_59 rfl rfl ?_
      refine Z_if_eq 64 68 dX4_takesNumber_61 rfl rfl (fun c61 => ?_) (fun c61 => ?_)
      · skip
        refine Z_iconst 69 (nI 0) dX4_takesNumber_68 rfl rfl ?_
        refine Z_iadd 70 dX4_takesNumber_69 rfl ?_
        refine Z_putI 73 .int dX4_takesNumber_70 rfl fX4_138 ft_4_10 (Nat.le_of_ble_eq_true rfl) rfl rfl rfl rfl ?_
        refine Z_iload 75 0 dX4_takesNumber_73 rfl rfl ?_
        refine Z_if_eq 78 82 dX4_takesNumber_75 rfl rfl (fun c75 => ?_) (fun c75 => ?_)
        · skip
          refine Z_iload_n 83 2 dX4_takesNumber_82 rfl rfl ?_
          exact Z_iret dX4_takesNumber_83 rfl (by first | exact absurd rfl c61 | exact absurd c61 (by decide) | exact absurd rfl c75 | exact absurd c75 (by decide) | exact ⟨_, rfl, by rw [if_pos hb], hA2.trans spA, spR hR2 (by rw [hb]; exact nI_add _ 1)⟩ | exact ⟨_, rfl, by rw [if_neg (by rw [hb]; decide)], hA2.trans spA, spR hR2 (by rw [hb]; exact nI_add _ 0)⟩)
        · skip
          refine Z_iload_n 79 1 dX4_takesNumber_78 rfl rfl ?_
          refine Z_goto 83 dX4_takesNumber_79 rfl ?_
          exact Z_iret dX4_takesNumber_83 rfl (by first | exact absurd rfl c61 | exact absurd c61 (by decide) | exact absurd rfl c75 | exact absurd c75 (by decide) | exact ⟨_, rfl, by rw [if_pos hb], hA2.trans spA, spR hR2 (by rw [hb]; exact nI_add _ 1)⟩ | exact ⟨_, rfl, by rw [if_neg (by rw [hb]; decide)], hA2.trans spA, spR hR2 (by rw [hb]; exact nI_add _ 0)⟩)
      · skip
        refine Z_iconst 65 (nI 1) dX4_takesNumber_64 rfl rfl ?_
        refine Z_goto 69 dX4_takesNumber_65 rfl ?_
        refine Z_iadd 70 dX4_takesNumber_69 rfl ?_
        refine Z_putI 73 .int dX4_takesNumber_70 rfl fX4_138 ft_4_10 (Nat.le_of_ble_eq_true rfl) rfl rfl rfl rfl ?_
        refine Z_iload 75 0 dX4_takesNumber_73 rfl rfl ?_
        refine Z_if_eq 78 82 dX4_takesNumber_75 rfl rfl (fun c75 => ?_) (fun c75 => ?_)
        · skip
          refine Z_iload_n 83 2 dX4_takesNumber_82 rfl rfl ?_
          exact Z_iret dX4_takesNumber_83 rfl (by first | exact absurd rfl c61 | exact absurd c61 (by decide) | exact absurd rfl c75 | exact absurd c75 (by decide) | exact ⟨_, rfl, by rw [if_pos hb], hA2.trans spA, spR hR2 (by rw [hb]; exact nI_add _ 1)⟩ | exact ⟨_, rfl, by rw [if_neg (by rw [hb]; decide)], hA2.trans spA, spR hR2 (by rw [hb]; exact nI_add _ 0)⟩)
        · skip
          refine Z_iload_n 79 1 dX4_takesNumber_78 rfl rfl ?_
          refine Z_goto 83 dX4_takesNumber_79 rfl ?_
          exact Z_iret dX4_takesNumber_83 rfl (by first | exact absurd rfl c61 | exact absurd c61 (by decide) | exact absurd rfl c75 | exact absurd c75 (by decide) | exact ⟨_, rfl, by rw [if_pos hb], hA2.trans spA, spR hR2 (by rw [hb]; exact nI_add _ 1)⟩ | exact ⟨_, rfl, by rw [if_neg (by rw [hb]; decide)], hA2.trans spA, spR hR2 (by rw [hb]; exact nI_add _ 0)⟩)
    · skip
      refine Z_iload_n 43 0 dX4_takesNumber_42 rfl rfl ?_
      refine Z_iload_n 44 3 dX4_takesNumber_43 rfl rfl ?_
      refine Z_icmp_gt 47 51 dX4_takesNumber_44 rfl rfl (fun c44 => ?_) (fun c44 => ?_)
      · skip
        have hb : ((F && decide (¬ x s - nI 48 < (nI 1) ∧ ¬ (nI 9) < x s - nI 48)) && decide (¬ x (nx (F && decide (¬ x s - nI 48 < (nI 1) ∧ ¬ (nI 9) < x s - nI 48)) s) < nI 48 ∧ ¬ nI 57 < x (nx (F && decide (¬ x s - nI 48 < (nI 1) ∧ ¬ (nI 9) < x s - nI 48)) s)) && decide (¬ b < nI 10 * (x s - nI 48) + x (nx (F && decide (¬ x s - nI 48 < (nI 1) ∧ ¬ (nI 9) < x s - nI 48)) s) - nI 48)) = false := nt3 (decide_eq_false (fun z => z c44))
        refine Z_iconst 52 (nI 0) dX4_takesNumber_51 rfl rfl ?_
        refine Z_istore 54 [(4, _), (3, _), (2, _), (0, _), (1, _)] dX4_takesNumber_52 rfl (Nat.le_of_ble_eq_true rfl) rfl ?_
        refine Z_aload_n 55 3 dX4_takesNumber_54 rfl rfl ?_
        refine Z_dup 56 dX4_takesNumber_55 rfl rfl ?_
        refine Z_getI 59 dX4_takesNumber_56 rfl fX4_138 (Nat.le_of_ble_eq_true rfl) rfl rfl ?_
        refine Z_top (v' := .int (nI (nx (F && decide (¬ x s - nI 48 < (nI 1) ∧ ¬ (nI 9) < x s - nI 48)) s))) (congrArg Value.int (hR2.2.2.2.1)) ?_
        refine Z_iload 61 0 dX4_takesNumber_59 rfl rfl ?_
        refine Z_if_eq 64 68 dX4_takesNumber_61 rfl rfl (fun c61 => ?_) (fun c61 => ?_)
        · skip
          refine Z_iconst 69 (nI 0) dX4_takesNumber_68 rfl rfl ?_
          refine Z_iadd 70 dX4_takesNumber_69 rfl ?_
          refine Z_putI 73 .int dX4_takesNumber_70 rfl fX4_138 ft_4_10 (Nat.le_of_ble_eq_true rfl) rfl rfl rfl rfl ?_
          refine Z_iload 75 0 dX4_takesNumber_73 rfl rfl ?_
          refine Z_if_eq 78 82 dX4_takesNumber_75 rfl rfl (fun c75 => ?_) (fun c75 => ?_)
          · skip
            refine Z_iload_n 83 2 dX4_takesNumber_82 rfl rfl ?_
            exact Z_iret dX4_takesNumber_83 rfl (by first | exact absurd rfl c61 | exact absurd c61 (by decide) | exact absurd rfl c75 | exact absurd c75 (by decide) | exact ⟨_, rfl, by rw [if_pos hb], hA2.trans spA, spR hR2 (by rw [hb]; exact nI_add _ 1)⟩ | exact ⟨_, rfl, by rw [if_neg (by rw [hb]; decide)], hA2.trans spA, spR hR2 (by rw [hb]; exact nI_add _ 0)⟩)
          · skip
            refine Z_iload_n 79 1 dX4_takesNumber_78 rfl rfl ?_
            refine Z_goto 83 dX4_takesNumber_79 rfl ?_
            exact Z_iret dX4_takesNumber_83 rfl (by first | exact absurd rfl c61 | exact absurd c61 (by decide) | exact absurd rfl c75 | exact absurd c75 (by decide) | exact ⟨_, rfl, by rw [if_pos hb], hA2.trans spA, spR hR2 (by rw [hb]; exact nI_add _ 1)⟩ | exact ⟨_, rfl, by rw [if_neg (by rw [hb]; decide)], hA2.trans spA, spR hR2 (by rw [hb]; exact nI_add _ 0)⟩)
        · skip
          refine Z_iconst 65 (nI 1) dX4_takesNumber_64 rfl rfl ?_
          refine Z_goto 69 dX4_takesNumber_65 rfl ?_
          refine Z_iadd 70 dX4_takesNumber_69 rfl ?_
          refine Z_putI 73 .int dX4_takesNumber_70 rfl fX4_138 ft_4_10 (Nat.le_of_ble_eq_true rfl) rfl rfl rfl rfl ?_
          refine Z_iload 75 0 dX4_takesNumber_73 rfl rfl ?_
          refine Z_if_eq 78 82 dX4_takesNumber_75 rfl rfl (fun c75 => ?_) (fun c75 => ?_)
          · skip
            refine Z_iload_n 83 2 dX4_takesNumber_82 rfl rfl ?_
            exact Z_iret dX4_takesNumber_83 rfl (by first | exact absurd rfl c61 | exact absurd c61 (by decide) | exact absurd rfl c75 | exact absurd c75 (by decide) | exact ⟨_, rfl, by rw [if_pos hb], hA2.trans spA, spR hR2 (by rw [hb]; exact nI_add _ 1)⟩ | exact ⟨_, rfl, by rw [if_neg (by rw [hb]; decide)], hA2.trans spA, spR hR2 (by rw [hb]; exact nI_add _ 0)⟩)
          · skip
            refine Z_iload_n 79 1 dX4_takesNumber_78 rfl rfl ?_
            refine Z_goto 83 dX4_takesNumber_79 rfl ?_
            exact Z_iret dX4_takesNumber_83 rfl (by first | exact absurd rfl c61 | exact absurd c61 (by decide) | exact absurd rfl c75 | exact absurd c75 (by decide) | exact ⟨_, rfl, by rw [if_pos hb], hA2.trans spA, spR hR2 (by rw [hb]; exact nI_add _ 1)⟩ | exact ⟨_, rfl, by rw [if_neg (by rw [hb]; decide)], hA2.trans spA, spR hR2 (by rw [hb]; exact nI_add _ 0)⟩)
      · skip
        have hb : ((F && decide (¬ x s - nI 48 < (nI 1) ∧ ¬ (nI 9) < x s - nI 48)) && decide (¬ x (nx (F && decide (¬ x s - nI 48 < (nI 1) ∧ ¬ (nI 9) < x s - nI 48)) s) < nI 48 ∧ ¬ nI 57 < x (nx (F && decide (¬ x s - nI 48 < (nI 1) ∧ ¬ (nI 9) < x s - nI 48)) s)) && decide (¬ b < nI 10 * (x s - nI 48) + x (nx (F && decide (¬ x s - nI 48 < (nI 1) ∧ ¬ (nI 9) < x s - nI 48)) s) - nI 48)) = true := nt4 (bB_1 c25) (decide_eq_true (bI_1 c39)) (decide_eq_true c44)
        refine Z_iconst 48 (nI 1) dX4_takesNumber_47 rfl rfl ?_
        refine Z_goto 52 dX4_takesNumber_48 rfl ?_
        refine Z_istore 54 [(4, _), (3, _), (2, _), (0, _), (1, _)] dX4_takesNumber_52 rfl (Nat.le_of_ble_eq_true rfl) rfl ?_
        refine Z_aload_n 55 3 dX4_takesNumber_54 rfl rfl ?_
        refine Z_dup 56 dX4_takesNumber_55 rfl rfl ?_
        refine Z_getI 59 dX4_takesNumber_56 rfl fX4_138 (Nat.le_of_ble_eq_true rfl) rfl rfl ?_
        refine Z_top (v' := .int (nI (nx (F && decide (¬ x s - nI 48 < (nI 1) ∧ ¬ (nI 9) < x s - nI 48)) s))) (congrArg Value.int (hR2.2.2.2.1)) ?_
        refine Z_iload 61 0 dX4_takesNumber_59 rfl rfl ?_
        refine Z_if_eq 64 68 dX4_takesNumber_61 rfl rfl (fun c61 => ?_) (fun c61 => ?_)
        · skip
          refine Z_iconst 69 (nI 0) dX4_takesNumber_68 rfl rfl ?_
          refine Z_iadd 70 dX4_takesNumber_69 rfl ?_
          refine Z_putI 73 .int dX4_takesNumber_70 rfl fX4_138 ft_4_10 (Nat.le_of_ble_eq_true rfl) rfl rfl rfl rfl ?_
          refine Z_iload 75 0 dX4_takesNumber_73 rfl rfl ?_
          refine Z_if_eq 78 82 dX4_takesNumber_75 rfl rfl (fun c75 => ?_) (fun c75 => ?_)
          · skip
            refine Z_iload_n 83 2 dX4_takesNumber_82 rfl rfl ?_
            exact Z_iret dX4_takesNumber_83 rfl (by first | exact absurd rfl c61 | exact absurd c61 (by decide) | exact absurd rfl c75 | exact absurd c75 (by decide) | exact ⟨_, rfl, by rw [if_pos hb], hA2.trans spA, spR hR2 (by rw [hb]; exact nI_add _ 1)⟩ | exact ⟨_, rfl, by rw [if_neg (by rw [hb]; decide)], hA2.trans spA, spR hR2 (by rw [hb]; exact nI_add _ 0)⟩)
          · skip
            refine Z_iload_n 79 1 dX4_takesNumber_78 rfl rfl ?_
            refine Z_goto 83 dX4_takesNumber_79 rfl ?_
            exact Z_iret dX4_takesNumber_83 rfl (by first | exact absurd rfl c61 | exact absurd c61 (by decide) | exact absurd rfl c75 | exact absurd c75 (by decide) | exact ⟨_, rfl, by rw [if_pos hb], hA2.trans spA, spR hR2 (by rw [hb]; exact nI_add _ 1)⟩ | exact ⟨_, rfl, by rw [if_neg (by rw [hb]; decide)], hA2.trans spA, spR hR2 (by rw [hb]; exact nI_add _ 0)⟩)
        · skip
          refine Z_iconst 65 (nI 1) dX4_takesNumber_64 rfl rfl ?_
          refine Z_goto 69 dX4_takesNumber_65 rfl ?_
          refine Z_iadd 70 dX4_takesNumber_69 rfl ?_
          refine Z_putI 73 .int dX4_takesNumber_70 rfl fX4_138 ft_4_10 (Nat.le_of_ble_eq_true rfl) rfl rfl rfl rfl ?_
          refine Z_iload 75 0 dX4_takesNumber_73 rfl rfl ?_
          refine Z_if_eq 78 82 dX4_takesNumber_75 rfl rfl (fun c75 => ?_) (fun c75 => ?_)
          · skip
            refine Z_iload_n 83 2 dX4_takesNumber_82 rfl rfl ?_
            exact Z_iret dX4_takesNumber_83 rfl (by first | exact absurd rfl c61 | exact absurd c61 (by decide) | exact absurd rfl c75 | exact absurd c75 (by decide) | exact ⟨_, rfl, by rw [if_pos hb], hA2.trans spA, spR hR2 (by rw [hb]; exact nI_add _ 1)⟩ | exact ⟨_, rfl, by rw [if_neg (by rw [hb]; decide)], hA2.trans spA, spR hR2 (by rw [hb]; exact nI_add _ 0)⟩)
          · skip
            refine Z_iload_n 79 1 dX4_takesNumber_78 rfl rfl ?_
            refine Z_goto 83 dX4_takesNumber_79 rfl ?_
            exact Z_iret dX4_takesNumber_83 rfl (by first | exact absurd rfl c61 | exact absurd c61 (by decide) | exact absurd rfl c75 | exact absurd c75 (by decide) | exact ⟨_, rfl, by rw [if_pos hb], hA2.trans spA, spR hR2 (by rw [hb]; exact nI_add _ 1)⟩ | exact ⟨_, rfl, by rw [if_neg (by rw [hb]; decide)], hA2.trans spA, spR hR2 (by rw [hb]; exact nI_add _ 0)⟩)
