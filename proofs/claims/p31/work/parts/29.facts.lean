/-! what is true of the looks in every state that is reached -/
theorem sumI_sub (f g : Nat → Int32) : ∀ N, sumI (fun q => f q - g q) N = sumI f N - sumI g N
  | 0 => by
    show (0 : Int32) = 0 - 0
    decide
  | N + 1 => by
    show sumI (fun q => f q - g q) N + (f N - g N) = sumI f N + f N - (sumI g N + g N)
    rw [sumI_sub f g N]
    generalize sumI f N = a
    generalize sumI g N = b
    generalize f N = c
    generalize g N = d
    rw [Int32.sub_eq_add_neg, Int32.sub_eq_add_neg, Int32.sub_eq_add_neg, Int32.neg_add, Int32.sub_eq_add_neg, Int32.add_assoc, Int32.add_assoc, ← Int32.add_assoc (-b), Int32.add_comm (-b) c, Int32.add_assoc]
theorem sumI_rng {f : Nat → Int32} {c : Nat} (hc : c ≤ 200000) : ∀ N, N ≤ 8 → (∀ j, j < N → 0 ≤ (f j).toInt ∧ (f j).toInt ≤ c) → 0 ≤ (sumI f N).toInt ∧ (sumI f N).toInt ≤ c * N
  | 0, _, _ => ⟨Int.le_refl 0, by show (0 : Int) ≤ _; omega⟩
  | N + 1, hN, h => by
    have a := sumI_rng hc N (by omega) (fun j hj => h j (by omega))
    have b := h N (by omega)
    have d : (c : Int) * (N : Int) ≤ 200000 * 8 := Int.mul_le_mul (by omega) (by omega) (by omega) (by omega)
    have e : (sumI f N + f N).toInt = (sumI f N).toInt + (f N).toInt := i32_add (by omega) (by omega)
    show 0 ≤ (sumI f N + f N).toInt ∧ (sumI f N + f N).toInt ≤ (c : Int) * ((N + 1 : Nat) : Int)
    rw [e, show ((N + 1 : Nat) : Int) = (N : Int) + 1 by omega, Int.mul_add]
    omega
theorem cnt_s1 {p : Nat → Bool} {i : Nat} (h : p i = true) : nI (cnt p i) + nI 1 = nI (cnt p (i + 1)) := by
  rw [nI_add]
  show _ = nI (cnt p i + if p i = true then 1 else 0)
  rw [if_pos h]
theorem cnt_s0 {p : Nat → Bool} {i : Nat} (h : ¬ p i = true) : nI (cnt p i) + nI 0 = nI (cnt p (i + 1)) := by
  rw [nI_add]
  show _ = nI (cnt p i + if p i = true then 1 else 0)
  rw [if_neg h]
theorem cnt_sb {p : Nat → Bool} {i : Nat} {P : Prop} [Decidable P] (h : p i = true ↔ P) : nI (cnt p i) + bI P = nI (cnt p (i + 1)) := by
  by_cases c : P
  · rw [bI_t c]
    exact cnt_s1 (h.mpr c)
  · rw [bI_f c]
    exact cnt_s0 (fun z => c (h.mp z))
theorem i32_as (x y : Int32) : x + y - y = x := by rw [Int32.add_sub_cancel]
theorem cnt_none {p : Nat → Bool} : ∀ n, cnt p n = 0 → ∀ j, j < n → ¬ p j = true
  | 0, _, j, hj => absurd hj (Nat.not_lt_zero j)
  | n + 1, h, j, hj => fun z => by
    have e : cnt p (n + 1) = cnt p n + if p n = true then 1 else 0 := rfl
    rw [e] at h
    rcases Nat.lt_succ_iff_lt_or_eq.mp hj with c | c
    · exact cnt_none n (by omega) j c z
    · rw [← c, if_pos z] at h
      omega
theorem cnt_pos {p : Nat → Bool} : ∀ n, 0 < cnt p n → ∃ j, j < n ∧ p j = true
  | 0, h => absurd h (Nat.lt_irrefl 0)
  | n + 1, h => by
    have e : cnt p (n + 1) = cnt p n + if p n = true then 1 else 0 := rfl
    by_cases c : p n = true
    · exact ⟨n, Nat.lt_succ_self n, c⟩
    · rw [e, if_neg c] at h
      obtain ⟨j, a, b⟩ := cnt_pos n h
      exact ⟨j, by omega, b⟩
theorem pc_self : ∀ a, a < 15 → ∀ b, b < 15 → Op.cmpValue (FP.dcmp (pcV a b) (pcV a b)) .l = 0 := by decide +kernel
section
variable {K n : Nat} {m : zM}
theorem Inv.slack (h : Inv K m n) {t : Nat} (ht : t < n) : m 8 t + m 2 (sO m 1 t) - m 2 (sF m 1 t) = slackA m 1 t (nI 0) := by
  unfold slackA
  rw [h.aft0 (h.f8 ht).2, h.aft0 (h.o8 ht).2, Int32.add_comm]
theorem Inv.slackI (h : Inv K m n) {t : Nat} (ht : t < n) : (slackA m 1 t (nI 0)).toInt = (m 2 (sO m 1 t)).toInt + (m 8 t).toInt - (m 2 (sF m 1 t)).toInt := by
  have a := h.hh (h.f8 ht).2
  have b := h.hh (h.o8 ht).2
  have c := h.dd ht
  have e : (m 2 (sO m 1 t) + m 8 t).toInt = (m 2 (sO m 1 t)).toInt + (m 8 t).toInt := i32_add (by omega) (by omega)
  rw [← h.slack ht, Int32.add_comm, i32_sub (by omega) (by omega), e]
theorem brk0 {t : Nat} : sBrk m 1 t (nI 0) ↔ sForce m 1 t ∧ slackA m 1 t (nI 0) < 0 := by
  unfold sBrk sForce
  rw [nI_0, Int32.add_zero]
theorem brk3 (t : Nat) : (sForce m 1 t ∧ slackA m 1 t (nI 0) < 0) ∨ (sForce m 1 t ∧ ¬ slackA m 1 t (nI 0) < 0) ∨ ¬ sForce m 1 t := by
  by_cases a : sForce m 1 t
  · by_cases b : slackA m 1 t (nI 0) < 0
    · exact Or.inl ⟨a, b⟩
    · exact Or.inr (Or.inl ⟨a, b⟩)
  · exact Or.inr (Or.inr a)
theorem Inv.bnd_le (h : Inv K m n) {t : Nat} (ht : t < n) (hf : sForce m 1 t) : ¬ nI 1000 + m 8 t < bnd m n (sF m 1 t) (sO m 1 t) := by
  have d := h.dd ht
  have e : (nI 1000 + m 8 t).toInt = 1000 + (m 8 t).toInt := i32_add (by show _ ≤ (1000 : Int) + _; omega) (by show (1000 : Int) + _ ≤ _; omega)
  have b := tpB_e h.g ht hf
  rw [i32_lt, e]
  rcases bnd_int h.g (h.f8 ht).2 (h.o8 ht).2 with ⟨-, x⟩ | ⟨-, -, -, x⟩
  · rw [x]
    show ¬ 1000 + (m 8 t).toInt < -4
    omega
  · omega
theorem hd4_n (h : ¬ Feas m n) (i : Nat) : hd4 m n i = -4 := if_neg h
theorem Inv.hdI (h : Inv K m n) (hf : Feas m n) {i : Nat} (hi : i < 8) : (hd4 m n i).toInt = tpL m n i ∧ 0 ≤ tpL m n i ∧ tpL m n i ≤ (m 2 i).toInt ∧ (m 2 i).toInt ≤ 99 := by
  have a := hf i hi
  have b := tpL_le h.g hi
  have c := (h.hh hi).2
  refine ⟨?_, a, b, c⟩
  unfold Jvm.Pilot.CHedgeTreatiesLaw_law_r6356_2a1716.hd4
  rw [if_pos hf]
  exact Int32.toInt_ofInt_of_le (by omega) (by omega)
theorem Inv.hd4_e (h : Inv K m n) (hf : Feas m n) {t : Nat} (ht : t < n) (hs : sForce m 1 t) : ¬ hd4 m n (sO m 1 t) + m 8 t < hd4 m n (sF m 1 t) := by
  have a := h.hdI hf (h.f8 ht).2
  have b := h.hdI hf (h.o8 ht).2
  have c := h.dd ht
  have d := tpL_e h.g ht hs
  rw [i32_lt, i32_add (by omega) (by omega)]
  omega
theorem clp_n (h : ¬ Feas m n) : clp m n = -4 := if_neg h
theorem clp_off (h : Feas m n) : clp m n = sumI (fun j => m 2 j - hd4 m n j) 8 := by
  rw [sumI_sub]
  unfold clp
  rw [if_pos h, sumI_congr (f := fun q => Int32.ofInt (tpL m n q)) (g := fun j => hd4 m n j) 8 (fun j hj => by
    show Int32.ofInt (tpL m n j) = hd4 m n j
    unfold hd4
    rw [if_pos h])]
theorem Inv.clp_f (h : Inv K m n) (hf : Feas m n) : 0 ≤ (clp m n).toInt ∧ (clp m n).toInt ≤ 792 := by
  rw [clp_off hf]
  have := sumI_rng (f := fun j => m 2 j - Jvm.Pilot.CHedgeTreatiesLaw_law_r6356_2a1716.hd4 m n j) (c := 99) (by decide) 8 (Nat.le_refl 8) (fun j hj => by
    have a := h.hdI hf hj
    rw [i32_sub (by omega) (by omega)]
    omega)
  omega
theorem Inv.clp_F (h : Inv K m n) (e : ¬ clp m n = -4) : Feas m n := Classical.byContradiction (fun z => e (clp_n z))
theorem Inv.clp_N (h : Inv K m n) (e : clp m n = -4) : ¬ Feas m n := fun z => by
  have := (h.clp_f z).1
  rw [e] at this
  exact absurd this (by decide)
theorem Inv.noB (h : Inv K m n) (e : cB m n = 0) {q : Nat} (hq : q < 8) : tpL m n q = (m 2 q).toInt :=
  tpL_no h.g (fun t ht hf => by
    have a := cnt_none n e t ht
    have b : ¬ slackA m 1 t (nI 0) < 0 := fun z => a (decide_eq_true (brk0.mpr ⟨hf, z⟩))
    rw [i32_lt, h.slackI ht] at b
    have z0 : (0 : Int32).toInt = 0 := rfl
    omega) hq
theorem Inv.clp_0 (h : Inv K m n) (e : cB m n = 0) : clp m n = 0 := by
  have hf : Feas m n := fun q hq => by
    rw [h.noB e hq]
    exact (h.hh hq).1
  rw [clp_off hf, sumI_congr (g := fun _ => 0) 8 (fun j hj => by
    have a := h.hdI hf hj
    have b := h.noB e hj
    rw [i32_eq, i32_sub (by omega) (by omega)]
    show _ = (0 : Int)
    omega)]
  decide
/-- whether one of the first j treaties holds the hedge i at its level -/
noncomputable def bdP (m : zM) (n i : Nat) : Nat → Bool
  | 0 => false
  | j + 1 => bdP m n i j || decide (Feas m n ∧ sF m 1 j = i ∧ sForce m 1 j ∧ hd4 m n (sO m 1 j) + m 8 j = hd4 m n i)
theorem bdP_s (m : zM) (n i j : Nat) : bdP m n i (j + 1) = (bdP m n i j || decide (Feas m n ∧ sF m 1 j = i ∧ sForce m 1 j ∧ hd4 m n (sO m 1 j) + m 8 j = hd4 m n i)) := rfl
theorem bdT {i j : Nat} (h : bdP m n i j = true) : nI 1 = bI (bdP m n i (j + 1) = true) := (bI_t (by rw [bdP_s, h]; rfl)).symm
theorem bdY {i j : Nat} (h : Feas m n ∧ sF m 1 j = i ∧ sForce m 1 j ∧ hd4 m n (sO m 1 j) + m 8 j = hd4 m n i) : nI 1 = bI (bdP m n i (j + 1) = true) := (bI_t (by rw [bdP_s, decide_eq_true h, Bool.or_true])).symm
theorem bdN {i j : Nat} (h0 : ¬ bdP m n i j = true) (h : ¬ (Feas m n ∧ sF m 1 j = i ∧ sForce m 1 j ∧ hd4 m n (sO m 1 j) + m 8 j = hd4 m n i)) : nI 0 = bI (bdP m n i (j + 1) = true) := (bI_f (by rw [bdP_s, decide_eq_false h, Bool.or_false]; exact h0)).symm
theorem bdP_of {i t : Nat} (h : Feas m n ∧ sF m 1 t = i ∧ sForce m 1 t ∧ hd4 m n (sO m 1 t) + m 8 t = hd4 m n i) : ∀ N, t < N → bdP m n i N = true
  | 0, h0 => absurd h0 (Nat.not_lt_zero t)
  | N + 1, h0 => by
    rw [bdP_s]
    rcases Nat.lt_succ_iff_lt_or_eq.mp h0 with c | c
    · rw [bdP_of h N c]
      rfl
    · rw [← c, decide_eq_true h, Bool.or_true]
theorem Inv.bdP_all (h : Inv K m n) (hf : Feas m n) {i : Nat} (hi : i < 8) (hne : ¬ hd4 m n i = m 2 i) : bdP m n i n = true := by
  have a := h.hdI hf hi
  obtain ⟨t, ht, e1, e2, e3⟩ := tpL_tight h.g hi (fun z => hne (by rw [i32_eq]; omega))
  refine bdP_of (t := t) ⟨hf, e1, e2, ?_⟩ n ht
  have b := h.hdI hf (h.o8 ht).2
  have c := h.dd ht
  rw [i32_eq, i32_add (by omega) (by omega)]
  omega
theorem Inv.hd4_lt (h : Inv K m n) (hf : Feas m n) {i : Nat} (hi : i < 8) (hne : ¬ hd4 m n i = m 2 i) : ¬ m 2 i ≤ hd4 m n i := fun z => by
  have a := h.hdI hf hi
  rw [i32_le] at z
  exact hne (by rw [i32_eq]; omega)
theorem Inv.hd4_0 (h : Inv K m n) (hf : Feas m n) {i : Nat} (hi : i < 8) : ¬ hd4 m n i < 0 := fun z => by
  have a := h.hdI hf hi
  rw [i32_lt] at z
  have z0 : (0 : Int32).toInt = 0 := rfl
  omega
/-- no less than a, no more than b -/
theorem nlt {x y : Int32} (h : y.toInt ≤ x.toInt) : ¬ x < y := fun z => by
  rw [i32_lt] at z
  omega
theorem n0 {x : Int32} (h : 0 ≤ x.toInt) : ¬ x < 0 := nlt h
end
