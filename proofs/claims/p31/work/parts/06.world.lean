/-! the steady world: which cell is what, once the law's object is made; h: the order of the history's streets -/
abbrev zO (ci : Nat) (rs : List (Option (Option Nat))) : zK := .inr (.inr (ci, rs))
abbrev rF (a : Nat) : Option (Option Nat) := some (some a)
abbrev stF (a : Nat) : List (Option (Option Nat)) := [rF (a + 1), rF (a + 2), rF (a + 3), rF (a + 4), rF (a + 5), rF (a + 6), rF (a + 7), rF (a + 8), none, none, none, none, none, none]
def shL (h : Nat → Nat) : List zK :=
  [zO 3 [rF 1, rF 10, rF 19, rF 56, rF 68, none, none, none, none, none],
   zO 1 (stF 1), .inl 8, .inl 8, .inl 8, .inl 8, .inl 14, .inl 14, .inl 14, .inl 14,
   zO 1 (stF 10), .inl 8, .inl 8, .inl 8, .inl 8, .inl 14, .inl 14, .inl 14, .inl 14,
   .inr (.inl (false, 4, fun j => some (h j))),
   zO 1 (stF 20), .inl 8, .inl 8, .inl 8, .inl 8, .inl 14, .inl 14, .inl 14, .inl 14,
   zO 1 (stF 29), .inl 8, .inl 8, .inl 8, .inl 8, .inl 14, .inl 14, .inl 14, .inl 14,
   zO 1 (stF 38), .inl 8, .inl 8, .inl 8, .inl 8, .inl 14, .inl 14, .inl 14, .inl 14,
   zO 1 (stF 47), .inl 8, .inl 8, .inl 8, .inl 8, .inl 14, .inl 14, .inl 14, .inl 14,
   zO 2 [rF 57, rF 58, rF 59], .inl 8, .inl 8, .inr (.inl (true, 8, fun j => if j < 8 then some (60 + j) else none)),
   .inl 8, .inl 8, .inl 8, .inl 8, .inl 8, .inl 8, .inl 8, .inl 8,
   zO 0 [rF 69, none, rF 70, rF 71, rF 72, rF 73, none, none, none, none], .inl 60, .inl 15, .inl 15, .inl 15, .inl 15]
def SH (h : Nat → Nat) (a : Nat) : zK := (shL h).getD a (.inl 0)
abbrev zw (h : Nat → Nat) (m : zM) : zW := (74, SH h, m)
def IsSt (a : Nat) : Prop := a = 1 ∨ a = 10 ∨ a = 20 ∨ a = 29 ∨ a = 38 ∨ a = 47
theorem IsSt.lt {a : Nat} (hs : IsSt a) : a ≤ 47 := by unfold IsSt at hs; omega
theorem shS {h : Nat → Nat} {a : Nat} (hs : IsSt a) : SH h a = .inr (.inr (1, stF a)) := by rcases hs with rfl | rfl | rfl | rfl | rfl | rfl <;> rfl
theorem shS0 {h : Nat → Nat} {a : Nat} (hs : IsSt a) : SH h (a + 1) = .inl 8 := by rcases hs with rfl | rfl | rfl | rfl | rfl | rfl <;> rfl
theorem shS1 {h : Nat → Nat} {a : Nat} (hs : IsSt a) : SH h (a + 2) = .inl 8 := by rcases hs with rfl | rfl | rfl | rfl | rfl | rfl <;> rfl
theorem shS2 {h : Nat → Nat} {a : Nat} (hs : IsSt a) : SH h (a + 3) = .inl 8 := by rcases hs with rfl | rfl | rfl | rfl | rfl | rfl <;> rfl
theorem shS3 {h : Nat → Nat} {a : Nat} (hs : IsSt a) : SH h (a + 4) = .inl 8 := by rcases hs with rfl | rfl | rfl | rfl | rfl | rfl <;> rfl
theorem shS4 {h : Nat → Nat} {a : Nat} (hs : IsSt a) : SH h (a + 5) = .inl 14 := by rcases hs with rfl | rfl | rfl | rfl | rfl | rfl <;> rfl
theorem shS5 {h : Nat → Nat} {a : Nat} (hs : IsSt a) : SH h (a + 6) = .inl 14 := by rcases hs with rfl | rfl | rfl | rfl | rfl | rfl <;> rfl
theorem shS6 {h : Nat → Nat} {a : Nat} (hs : IsSt a) : SH h (a + 7) = .inl 14 := by rcases hs with rfl | rfl | rfl | rfl | rfl | rfl <;> rfl
theorem shS7 {h : Nat → Nat} {a : Nat} (hs : IsSt a) : SH h (a + 8) = .inl 14 := by rcases hs with rfl | rfl | rfl | rfl | rfl | rfl <;> rfl
theorem shL_set (h : Nat → Nat) (jj r : Nat) : shL (fun j => if j = jj then r else h j) = (shL h).set 19 (.inr (.inl (false, 4, fun j => some (if j = jj then r else h j)))) := rfl
theorem SH_set (h : Nat → Nat) (jj r : Nat) : (fun a9 => if a9 = 19 then .inr (.inl (false, 4, fun j9 => if j9 = jj then some r else some (h j9))) else SH h a9) = SH (fun j => if j = jj then r else h j) := by
  funext a
  unfold SH
  rw [shL_set]
  by_cases ha : a = 19
  · subst ha
    rw [if_pos rfl]
    show _ = (Sum.inr (Sum.inl (false, 4, fun j => some (if j = jj then r else h j))) : zK)
    congr 4
    funext j
    by_cases hj : j = jj
    · rw [if_pos hj, if_pos hj]
    · rw [if_neg hj, if_neg hj]
  · rw [if_neg ha]
    simp only [List.getD_eq_getElem?_getD, List.getElem?_set_ne (fun q => ha q.symm)]
/-- a truth value as an int -/
def bI (p : Prop) [Decidable p] : Int32 := if p then nI 1 else nI 0
theorem bI_0 {p : Prop} [Decidable p] (h : bI p = 0) : ¬ p := fun hp => by
  unfold bI at h
  rw [if_pos hp] at h
  exact absurd h (by decide)
theorem bI_1 {p : Prop} [Decidable p] (h : ¬ bI p = 0) : p := by
  by_cases hp : p
  · exact hp
  · exfalso
    apply h
    unfold bI
    rw [if_neg hp]
    rfl
theorem bI_t {p : Prop} [Decidable p] (h : p) : bI p = nI 1 := if_pos h
theorem bI_f {p : Prop} [Decidable p] (h : ¬ p) : bI p = nI 0 := if_neg h
theorem bI_01 {p : Prop} [Decidable p] : bI p = 0 ∨ bI p = 1 := by
  by_cases h : p
  · exact Or.inr (if_pos h)
  · exact Or.inl (if_neg h)
theorem nI_neg {n : Nat} (hn : n < 2 ^ 31) : ¬ nI n < 0 := nI_pos hn
theorem vin {x : Int32} {n : Nat} (hn : n < 2 ^ 31) (h1 : ¬ x < 0) (h2 : x < nI n) : ∃ j : Nat, j < n ∧ x = nI j := by
  obtain ⟨j, hj, rfl⟩ := nI_of h1
  exact ⟨j, (nI_ltI hj hn).mp h2, rfl⟩
theorem i32_le {x y : Int32} : x ≤ y ↔ x.toInt ≤ y.toInt := Int32.le_iff_toInt_le
theorem i32_lt {x y : Int32} : x < y ↔ x.toInt < y.toInt := Int32.lt_iff_toInt_lt
theorem i32_eq {x y : Int32} : x = y ↔ x.toInt = y.toInt := ⟨fun h => by rw [h], Int32.toInt_inj.mp⟩
/-- how many of the first n places have p -/
def cnt (p : Nat → Bool) : Nat → Nat
  | 0 => 0
  | n + 1 => cnt p n + (if p n then 1 else 0)
theorem cnt_le (p : Nat → Bool) : ∀ n, cnt p n ≤ n
  | 0 => Nat.le_refl 0
  | n + 1 => by
    have := cnt_le p n
    unfold cnt
    split <;> omega
theorem cnt_congr {p q : Nat → Bool} : ∀ n, (∀ j, j < n → p j = q j) → cnt p n = cnt q n
  | 0, _ => rfl
  | n + 1, h => by
    unfold cnt
    rw [cnt_congr n (fun j hj => h j (by omega)), h n (by omega)]
/-- the sum of the first n -/
def sumI (f : Nat → Int32) : Nat → Int32
  | 0 => 0
  | n + 1 => sumI f n + f n
theorem sumI_congr {f g : Nat → Int32} : ∀ n, (∀ j, j < n → f j = g j) → sumI f n = sumI g n
  | 0, _ => rfl
  | n + 1, h => by
    unfold sumI
    rw [sumI_congr n (fun j hj => h j (by omega)), h n (by omega)]
