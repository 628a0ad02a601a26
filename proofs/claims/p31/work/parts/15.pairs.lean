/-! bounds for all pairs, by one hedge between them after the other -/
abbrev Mx : Type := Nat → Nat → Int
def mset (M : Mx) (i j : Nat) (v : Int) : Mx := fun a c => if a = i ∧ c = j then v else M a c
def jn (M : Mx) (i k j : Nat) : Mx := if M i k < zK9 ∧ M k j < zK9 ∧ M i k + M k j < M i j then mset M i j (M i k + M k j) else M
def stg (M : Mx) (k : Nat) : Mx := fun a c => if M a k < zK9 ∧ M k c < zK9 ∧ M a k + M k c < M a c then M a k + M k c else M a c
def cur (M : Mx) (k i j : Nat) : Mx := fun a c => if a < i ∨ (a = i ∧ c < j) then stg M k a c else M a c
theorem stg_col {M : Mx} {k : Nat} (h : M k k = 0) (a : Nat) : stg M k a k = M a k := by
  unfold stg
  rw [if_neg (fun g => by have := g.2.2; omega)]
theorem stg_row {M : Mx} {k : Nat} (h : M k k = 0) (c : Nat) : stg M k k c = M k c := by
  unfold stg
  rw [if_neg (fun g => by have := g.2.2; omega)]
theorem cur_col {M : Mx} {k : Nat} (h : M k k = 0) (i j a : Nat) : cur M k i j a k = M a k := by
  unfold cur
  rw [stg_col h]
  split <;> rfl
theorem cur_row {M : Mx} {k : Nat} (h : M k k = 0) (i j c : Nat) : cur M k i j k c = M k c := by
  unfold cur
  rw [stg_row h]
  split <;> rfl
theorem cur_step {M : Mx} {k : Nat} (h : M k k = 0) (i j : Nat) : jn (cur M k i j) i k j = cur M k i (j + 1) := by
  have e1 : cur M k i j i j = M i j := by
    unfold cur
    rw [if_neg (by omega)]
  unfold jn
  rw [cur_col h, cur_row h, e1]
  funext a c
  by_cases g : a = i ∧ c = j
  · obtain ⟨rfl, rfl⟩ := g
    have e2 : cur M k a (c + 1) a c = stg M k a c := by
      unfold cur
      rw [if_pos (Or.inr ⟨rfl, Nat.lt_succ_self c⟩)]
    rw [e2]
    unfold stg
    split
    · unfold mset
      rw [if_pos ⟨rfl, rfl⟩]
    · exact e1
  · have e2 : cur M k i (j + 1) a c = cur M k i j a c := by
      unfold cur
      by_cases g2 : a < i ∨ (a = i ∧ c < j)
      · rw [if_pos g2, if_pos (by omega)]
      · rw [if_neg g2, if_neg (by omega)]
    rw [e2]
    split
    · unfold mset
      rw [if_neg g]
    · rfl
theorem cur_row_end (M : Mx) (k i : Nat) (hz : ∀ a c, 8 ≤ c → stg M k a c = M a c) : cur M k i 8 = cur M k (i + 1) 0 := by
  funext a c
  unfold cur
  by_cases g : a < i
  · rw [if_pos (Or.inl g), if_pos (Or.inl (by omega))]
  · by_cases g2 : a = i
    · by_cases g3 : c < 8
      · rw [if_pos (Or.inr ⟨g2, g3⟩), if_pos (Or.inl (by omega))]
      · rw [if_neg (by omega), if_pos (Or.inl (by omega)), hz a c (by omega)]
    · rw [if_neg (by omega), if_neg (by omega)]
theorem cur_0 (M : Mx) (k : Nat) : cur M k 0 0 = M := by
  funext a c
  unfold cur
  rw [if_neg (by omega)]
/-- what the matrix is behind the first k hedges, for edges (on, from, to, d) -/
def FWk (e : Nat → Ed) (n : Nat) (M : Mx) (k : Nat) (b : Int) : Prop :=
  (∀ i, i < 8 → M i i = 0) ∧ (∀ t, t < n → (e t).1 = true → M (e t).2.2.1 (e t).2.1 ≤ (e t).2.2.2) ∧
  (∀ z : Nat → Int, (∀ t, t < n → (e t).1 = true → z (e t).2.2.1 < zK9 → z (e t).2.1 < zK9 ∧ z (e t).2.1 ≤ z (e t).2.2.1 + (e t).2.2.2) → ∀ i j, i < 8 → j < 8 → M i j < zK9 → z i < zK9 → z j < zK9 ∧ z j ≤ z i + M i j) ∧
  (∀ z : Nat → Int, (∀ t, t < n → (e t).1 = true → z (e t).2.1 ≤ z (e t).2.2.1 + (e t).2.2.2) → ∀ i j, i < 8 → j < 8 → M i j < zK9 → z j ≤ z i + M i j) ∧
  (∀ q i j, q < k → i < 8 → j < 8 → M i q < zK9 → M q j < zK9 → M i j ≤ M i q + M q j) ∧
  (∀ i j, i < 8 → j < 8 → M i j = zK9 ∨ (-b ≤ M i j ∧ M i j ≤ b))
theorem stg_le (M : Mx) (k i j : Nat) : stg M k i j ≤ M i j := by
  unfold stg
  split
  · rename_i g
    have := g.2.2
    omega
  · exact Int.le_refl _
theorem stg_sum {M : Mx} {k i j : Nat} (h1 : M i k < zK9) (h2 : M k j < zK9) : stg M k i j ≤ M i k + M k j := by
  unfold stg
  split
  · exact Int.le_refl _
  · rename_i g
    have : ¬ M i k + M k j < M i j := fun q => g ⟨h1, h2, q⟩
    omega
theorem stg_at (M : Mx) (k i j : Nat) : stg M k i j = M i j ∨ (M i k < zK9 ∧ M k j < zK9 ∧ stg M k i j = M i k + M k j) := by
  unfold stg
  split
  · rename_i g
    exact Or.inr ⟨g.1, g.2.1, rfl⟩
  · exact Or.inl rfl
theorem FWk.step {e : Nat → Ed} {n : Nat} {M : Mx} {k : Nat} {b : Int} (hk : k < 8) (hb : 0 ≤ b ∧ b ≤ 20000) {f : Nat → Int} (hp : Pot e n f) (hf9 : EdOk e n) (h : FWk e n M k b) : FWk e n (stg M k) (k + 1) (2 * b) := by
  obtain ⟨a1, a2, a3, a4, a5, a6⟩ := h
  have z9 : zK9 = 100000 := rfl
  have u4 : ∀ z : Nat → Int, (∀ t, t < n → (e t).1 = true → z (e t).2.1 ≤ z (e t).2.2.1 + (e t).2.2.2) → ∀ i j, i < 8 → j < 8 → stg M k i j < zK9 → z j ≤ z i + stg M k i j := by
    intro z hz i j hi hj hl
    rcases stg_at M k i j with g | ⟨g1, g2, g3⟩
    · rw [g] at hl ⊢
      exact a4 z hz i j hi hj hl
    · have b1 := a4 z hz i k hi hk g1
      have b2 := a4 z hz k j hk hj g2
      omega
  have u1 : ∀ i, i < 8 → stg M k i i = 0 := by
    intro i hi
    have b1 := stg_le M k i i
    have b2 := a1 i hi
    have b3 := u4 f (fun t ht hpt => (hp t ht hpt).2.2) i i hi hi (by omega)
    omega
  refine ⟨u1, fun t ht hpt => Int.le_trans (stg_le M k _ _) (a2 t ht hpt), ?_, u4, ?_, ?_⟩
  · intro z hz i j hi hj hl hzi
    rcases stg_at M k i j with g | ⟨g1, g2, g3⟩
    · rw [g] at hl ⊢
      exact a3 z hz i j hi hj hl hzi
    · have b1 := a3 z hz i k hi hk g1 hzi
      have b2 := a3 z hz k j hk hj g2 b1.1
      omega
  · intro q i j hq hi hj h1 h2
    have hkk := a1 k hk
    by_cases g : q = k
    · subst g
      rw [stg_col hkk] at h1 ⊢
      rw [stg_row hkk] at h2 ⊢
      exact stg_sum h1 h2
    · have hq8 : q < 8 := by omega
      have hqk : q < k := by omega
      rcases stg_at M k i q with x1 | ⟨x1, x2, x3⟩ <;> rcases stg_at M k q j with y1 | ⟨y1, y2, y3⟩
      · rw [x1] at h1 ⊢
        rw [y1] at h2 ⊢
        exact Int.le_trans (stg_le M k i j) (a5 q i j hqk hi hj h1 h2)
      · rw [x1] at h1 ⊢
        have c1 := a5 q i k hqk hi hk h1 y1
        have c2 := a6 i k hi hk
        have c3 := a6 i q hi hq8
        have c4 := a6 q k hq8 hk
        have c5 : M i k < zK9 := by omega
        have c6 := stg_sum (i := i) (j := j) c5 y2
        omega
      · rw [y1] at h2 ⊢
        have c1 := a5 q k j hqk hk hj x2 h2
        have c3 := a6 k q hk hq8
        have c4 := a6 q j hq8 hj
        have c5 : M k j < zK9 := by omega
        have c6 := stg_sum (i := i) (j := j) x1 c5
        omega
      · have c1 := a5 q k k hqk hk hk x2 y1
        have c6 := stg_sum (i := i) (j := j) x1 y2
        omega
  · intro i j hi hj
    rcases stg_at M k i j with x1 | ⟨x1, x2, x3⟩
    · rw [x1]
      have := a6 i j hi hj
      omega
    · have c1 := a6 i k hi hk
      have c2 := a6 k j hk hj
      omega
/-- the matrix at the beginning: 0 from each hedge to itself, treaties in force -/
def M0 : Mx := fun i j => if i = j then 0 else 100000
def mn (M : Mx) (e : Ed) : Mx := if e.1 = true ∧ e.2.2.2 < M e.2.2.1 e.2.1 then mset M e.2.2.1 e.2.1 e.2.2.2 else M
def ms (M : Mx) (e : Nat → Ed) : Nat → Mx
  | 0 => M
  | t + 1 => mn (ms M e t) (e t)
theorem mn_le (M : Mx) (e : Ed) (i j : Nat) : mn M e i j ≤ M i j := by
  unfold mn mset
  split
  · rename_i g
    by_cases h : i = e.2.2.1 ∧ j = e.2.1
    · obtain ⟨rfl, rfl⟩ := h
      simp only [and_self, if_true]
      have := g.2
      omega
    · simp only [h, if_false]
      exact Int.le_refl _
  · exact Int.le_refl _
theorem mn_e (M : Mx) (e : Ed) (h : e.1 = true) : mn M e e.2.2.1 e.2.1 ≤ e.2.2.2 := by
  unfold mn mset
  split
  · simp
  · rename_i g
    have : ¬ e.2.2.2 < M e.2.2.1 e.2.1 := fun q => g ⟨h, q⟩
    omega
theorem mn_at (M : Mx) (e : Ed) (i j : Nat) : mn M e i j = M i j ∨ (e.1 = true ∧ i = e.2.2.1 ∧ j = e.2.1 ∧ mn M e i j = e.2.2.2) := by
  unfold mn mset
  split
  · rename_i g
    by_cases h : i = e.2.2.1 ∧ j = e.2.1
    · right
      refine ⟨g.1, h.1, h.2, ?_⟩
      simp only [h, and_self, if_true]
    · left
      simp only [h, if_false]
  · exact Or.inl rfl
theorem ms_e (M : Mx) (e : Nat → Ed) : ∀ n t, t < n → (e t).1 = true → ms M e n (e t).2.2.1 (e t).2.1 ≤ (e t).2.2.2
  | 0, t, h, _ => absurd h (Nat.not_lt_zero t)
  | n + 1, t, h, hp => by
    by_cases g : t < n
    · exact Int.le_trans (mn_le _ _ _ _) (ms_e M e n t g hp)
    · have e1 : t = n := by omega
      subst e1
      exact mn_e _ _ hp
theorem ms_le (M : Mx) (e : Nat → Ed) (i j : Nat) : ∀ n, ms M e n i j ≤ M i j
  | 0 => Int.le_refl _
  | n + 1 => Int.le_trans (mn_le _ _ _ _) (ms_le M e i j n)
theorem ms_at (M : Mx) (e : Nat → Ed) (i j : Nat) : ∀ n, ms M e n i j = M i j ∨ ∃ t, t < n ∧ (e t).1 = true ∧ i = (e t).2.2.1 ∧ j = (e t).2.1 ∧ ms M e n i j = (e t).2.2.2
  | 0 => Or.inl rfl
  | n + 1 => by
    rcases mn_at (ms M e n) (e n) i j with g | ⟨g1, g2, g3, g4⟩
    · rcases ms_at M e i j n with x | ⟨t, x1, x2, x3, x4, x5⟩
      · exact Or.inl (g.trans x)
      · exact Or.inr ⟨t, by omega, x2, x3, x4, g.trans x5⟩
    · exact Or.inr ⟨n, by omega, g1, g2, g3, g4⟩
theorem FWk.base {e : Nat → Ed} {n : Nat} {f : Nat → Int} (hp : Pot e n f) (hf9 : EdOk e n) : FWk e n (ms M0 e n) 0 60 := by
  have z9 : zK9 = 100000 := rfl
  have m0 : ∀ i j, M0 i j = 0 ∧ i = j ∨ M0 i j = 100000 := fun i j => by
    unfold M0
    by_cases g : i = j
    · rw [if_pos g]
      exact Or.inl ⟨rfl, g⟩
    · rw [if_neg g]
      exact Or.inr rfl
  have u4 : ∀ z : Nat → Int, (∀ t, t < n → (e t).1 = true → z (e t).2.1 ≤ z (e t).2.2.1 + (e t).2.2.2) → ∀ i j, i < 8 → j < 8 → ms M0 e n i j < zK9 → z j ≤ z i + ms M0 e n i j := by
    intro z hz i j hi hj hl
    rcases ms_at M0 e i j n with g | ⟨t, x1, x2, x3, x4, x5⟩
    · rw [g] at hl ⊢
      rcases m0 i j with q | q
      · rw [q.1, q.2]
        omega
      · omega
    · rw [x5, x3, x4]
      exact hz t x1 x2
  refine ⟨fun i hi => ?_, ms_e M0 e n, ?_, u4, fun q i j hq => absurd hq (Nat.not_lt_zero q), fun i j hi hj => ?_⟩
  · have b1 := ms_le M0 e i i n
    have b2 : M0 i i = 0 := if_pos rfl
    have b3 := u4 f (fun t ht hpt => (hp t ht hpt).2.2) i i hi hi (by omega)
    omega
  · intro z hz i j hi hj hl hzi
    rcases ms_at M0 e i j n with g | ⟨t, x1, x2, x3, x4, x5⟩
    · rw [g] at hl ⊢
      rcases m0 i j with q | q
      · rw [q.1, ← q.2]
        omega
      · omega
    · rw [x5]
      subst x3
      subst x4
      exact hz t x1 x2 hzi
  · rcases ms_at M0 e i j n with g | ⟨t, x1, x2, x3, x4, x5⟩
    · rw [g]
      rcases m0 i j with q | q <;> omega
    · have := hf9 t x1 x2
      omega
/-- a row of the matrix is what goes on treaty by treaty from that hedge -/
theorem FWk.row {e : Nat → Ed} {n : Nat} {M : Mx} {b : Int} (hb : b ≤ 20000) (hf9 : EdOk e n) (h : FWk e n M 8 b) {i : Nat} (hi : i < 8) {y : Nat → Int} (hy : Top (Yb i) e n y) (hy2 : ∀ q, q < 8 → y q = zK9 ∨ (-8000 ≤ y q ∧ y q ≤ 8000)) {j : Nat} (hj : j < 8) : M i j = y j := by
  obtain ⟨a1, a2, a3, a4, a5, a6⟩ := h
  have z9 : zK9 = 100000 := rfl
  have yi : y i ≤ 0 := by
    have := hy.1 i
    unfold Yb at this
    rw [if_pos rfl] at this
    exact this
  have p1 : M i j ≤ y j := by
    have key := hy.2.2 (fun q => if q < 8 then M i q else 100000) (fun q => by
      unfold Yb
      by_cases g : q < 8
      · simp only [g, if_true]
        by_cases g2 : q = i
        · rw [if_pos g2, g2, a1 i hi]
          exact Int.le_refl 0
        · rw [if_neg g2]
          have := a6 i q hi g
          omega
      · simp only [g, if_false]
        rw [if_neg (by omega)]
        exact Int.le_refl _) (fun t ht hpt => by
      obtain ⟨h1, h2, h3, h4⟩ := hf9 t ht hpt
      simp only [h1, h2, if_true]
      intro hl
      have c1 := a2 t ht hpt
      have c2 := a5 (e t).2.2.1 i (e t).2.1 h2 hi h1 hl (by omega)
      omega) j
    simp only [hj, if_true] at key
    exact key
  have p2 : y j ≤ M i j := by
    rcases a6 i j hi hj with g | g
    · have := hy.1 j
      unfold Yb at this
      split at this <;> omega
    · have := a3 y (fun t ht hpt hl => by
        obtain ⟨h1, h2, h3, h4⟩ := hf9 t ht hpt
        have c1 := hy.2.1 t ht hpt hl
        have c2 := hy2 _ h2
        omega) i j hi hj (by omega) (by omega)
      omega
  omega
/-- the level by bounds -/
def lb (M : Mx) (H : Nat → Int) (i : Nat) : Nat → Int
  | 0 => H i
  | j + 1 => if M i j < zK9 ∧ H j + M i j < lb M H i j then H j + M i j else lb M H i j
theorem lb_le (M : Mx) (H : Nat → Int) (i : Nat) : ∀ j, lb M H i j ≤ H i
  | 0 => Int.le_refl _
  | j + 1 => by
    have := lb_le M H i j
    unfold lb
    split
    · rename_i g
      have := g.2
      omega
    · exact this
theorem lb_e (M : Mx) (H : Nat → Int) (i : Nat) : ∀ n j, j < n → M i j < zK9 → lb M H i n ≤ H j + M i j
  | 0, j, h, _ => absurd h (Nat.not_lt_zero j)
  | n + 1, j, h, hl => by
    unfold lb
    by_cases g : j < n
    · have := lb_e M H i n j g hl
      split
      · rename_i g2
        have := g2.2
        omega
      · exact this
    · have e1 : j = n := by omega
      subst e1
      split
      · exact Int.le_refl _
      · rename_i g2
        have : ¬ H j + M i j < lb M H i j := fun q => g2 ⟨hl, q⟩
        omega
theorem lb_at (M : Mx) (H : Nat → Int) (i : Nat) : ∀ n, lb M H i n = H i ∨ ∃ j, j < n ∧ M i j < zK9 ∧ lb M H i n = H j + M i j
  | 0 => Or.inl rfl
  | n + 1 => by
    unfold lb
    split
    · rename_i g
      exact Or.inr ⟨n, by omega, g.1, rfl⟩
    · rcases lb_at M H i n with x | ⟨j, x1, x2, x3⟩
      · exact Or.inl x
      · exact Or.inr ⟨j, by omega, x2, x3⟩
/-- edges the other way round: for levels -/
def rev (e : Nat → Ed) : Nat → Ed := fun t => ((e t).1, (e t).2.2.1, (e t).2.1, (e t).2.2.2)
theorem FWk.levels {e : Nat → Ed} {n : Nat} {M : Mx} {b : Int} (hb : b ≤ 20000) (hf9 : EdOk e n) (h : FWk e n M 8 b) {H : Nat → Int} (hH : ∀ q, q < 8 → 0 ≤ H q ∧ H q ≤ 99) (hH0 : ∀ q, ¬ q < 8 → H q = 0) : Top H (rev e) n (fun q => if q < 8 then lb M H q 8 else 0) := by
  obtain ⟨a1, a2, a3, a4, a5, a6⟩ := h
  have z9 : zK9 = 100000 := rfl
  refine ⟨fun q => ?_, fun t ht hpt => ?_, fun z hz hf q => ?_⟩
  · by_cases g : q < 8
    · simp only [g, if_true]
      exact lb_le M H q 8
    · simp only [g, if_false]
      rw [hH0 q g]
      exact Int.le_refl 0
  · have hpt' : (e t).1 = true := hpt
    obtain ⟨h1, h2, h3, h4⟩ := hf9 t ht hpt'
    show (if (e t).2.1 < 8 then lb M H (e t).2.1 8 else 0) < zK9 → (if (e t).2.2.1 < 8 then lb M H (e t).2.2.1 8 else 0) ≤ (if (e t).2.1 < 8 then lb M H (e t).2.1 8 else 0) + (e t).2.2.2
    rw [if_pos h1, if_pos h2]
    intro _
    have c1 := a2 t ht hpt'
    rcases lb_at M H (e t).2.1 8 with x | ⟨j, x1, x2, x3⟩
    · rw [x]
      have := lb_e M H (e t).2.2.1 8 (e t).2.1 h1 (by omega)
      omega
    · rw [x3]
      have c2 := a5 (e t).2.1 (e t).2.2.1 j h1 h2 x1 (by omega) x2
      have c3 := a6 (e t).2.1 j h1 x1
      have := lb_e M H (e t).2.2.1 8 j x1 (by omega)
      omega
  · by_cases g : q < 8
    · simp only [g, if_true]
      rcases lb_at M H q 8 with x | ⟨j, x1, x2, x3⟩
      · rw [x]
        exact hz q
      · rw [x3]
        have c1 := a4 (fun q => - z q) (fun t ht hpt => by
          obtain ⟨h1, h2, -⟩ := hf9 t ht hpt
          have c2 := hz (e t).2.1
          have c3 := hH (e t).2.1 h1
          have c4 : z (e t).2.2.1 ≤ z (e t).2.1 + (e t).2.2.2 := hf t ht hpt (by show z (e t).2.1 < zK9; omega)
          omega) q j g x1 x2
        have c5 := hz j
        omega
    · simp only [g, if_false]
      have := hz q
      rw [hH0 q g] at this
      exact this
