/-! the least clipping, bounds: relaxing edges; what is reached by them in any order is one thing -/
abbrev zK9 : Int := 100000
abbrev Ed : Type := Bool × Nat × Nat × Int
/-- an edge (on, u, v, d) asks that u is at most v and d, unless v is far -/
abbrev hit (y : Nat → Int) (e : Ed) : Prop := e.1 = true ∧ y e.2.2.1 < zK9 ∧ y e.2.2.1 + e.2.2.2 < y e.2.1
def rx1 (y : Nat → Int) (e : Ed) : Nat → Int := if hit y e then fun q => if q = e.2.1 then y e.2.2.1 + e.2.2.2 else y q else y
def rxs (y : Nat → Int) (e : Nat → Ed) : Nat → Nat → Int
  | 0 => y
  | t + 1 => rx1 (rxs y e t) (e t)
def chg (y : Nat → Int) (e : Nat → Ed) : Nat → Bool
  | 0 => false
  | t + 1 => chg y e t || decide (hit (rxs y e t) (e t))
def Fx1 (y : Nat → Int) (e : Ed) : Prop := e.1 = true → y e.2.2.1 < zK9 → y e.2.1 ≤ y e.2.2.1 + e.2.2.2
def Fx (y : Nat → Int) (e : Nat → Ed) (n : Nat) : Prop := ∀ t, t < n → Fx1 y (e t)
theorem rx1_le (y : Nat → Int) (e : Ed) (q : Nat) : rx1 y e q ≤ y q := by
  unfold rx1
  split
  · rename_i h
    obtain ⟨-, -, h⟩ := h
    show (if q = e.2.1 then _ else _) ≤ _
    split
    · rename_i hq
      rw [hq]
      omega
    · exact Int.le_refl _
  · exact Int.le_refl _
theorem rx1_u (y : Nat → Int) (e : Ed) (h1 : e.1 = true) (h2 : y e.2.2.1 < zK9) : rx1 y e e.2.1 ≤ y e.2.2.1 + e.2.2.2 := by
  unfold rx1
  by_cases h : hit y e
  · rw [if_pos h, if_pos rfl]
    exact Int.le_refl _
  · rw [if_neg h]
    have : ¬ (y e.2.2.1 + e.2.2.2 < y e.2.1) := fun q => h ⟨h1, h2, q⟩
    omega
theorem rxs_le (y : Nat → Int) (e : Nat → Ed) : ∀ t q, rxs y e t q ≤ y q
  | 0, q => Int.le_refl _
  | t + 1, q => Int.le_trans (rx1_le _ _ q) (rxs_le y e t q)
theorem rxs_mono (y : Nat → Int) (e : Nat → Ed) (q t : Nat) : ∀ k, rxs y e (t + k) q ≤ rxs y e t q
  | 0 => Int.le_refl _
  | k + 1 => Int.le_trans (rx1_le _ _ q) (rxs_mono y e q t k)
theorem rx1_low {y z : Nat → Int} {e : Ed} (hz : ∀ q, z q ≤ y q) (hf : Fx1 z e) (q : Nat) : z q ≤ rx1 y e q := by
  unfold rx1
  split
  · rename_i h
    obtain ⟨h1, h2, h3⟩ := h
    show _ ≤ (if q = e.2.1 then _ else _)
    split
    · rename_i hq
      have a1 := hz e.2.2.1
      have a2 := hf h1 (by omega)
      rw [hq]
      omega
    · exact hz q
  · exact hz q
theorem rxs_low {y z : Nat → Int} {e : Nat → Ed} (hz : ∀ q, z q ≤ y q) : ∀ n, Fx z e n → ∀ q, z q ≤ rxs y e n q
  | 0, _, q => hz q
  | n + 1, hf, q => rx1_low (rxs_low hz n (fun t ht => hf t (by omega))) (hf n (by omega)) q
theorem chg_f {y : Nat → Int} {e : Nat → Ed} : ∀ n, chg y e n = false → rxs y e n = y ∧ Fx y e n
  | 0, _ => ⟨rfl, fun t ht => absurd ht (Nat.not_lt_zero t)⟩
  | n + 1, h => by
    unfold chg at h
    rw [Bool.or_eq_false_iff, decide_eq_false_iff_not] at h
    obtain ⟨h1, h2⟩ := chg_f n h.1
    have h3 : rxs y e (n + 1) = y := by
      show rx1 (rxs y e n) (e n) = y
      unfold rx1
      rw [if_neg h.2, h1]
    refine ⟨h3, fun t ht => ?_⟩
    by_cases e1 : t < n
    · exact h2 t e1
    · have e2 : t = n := by omega
      subst e2
      intro g1 g2
      have g3 := h.2
      rw [h1] at g3
      have g4 : ¬ (y (e t).2.2.1 + (e t).2.2.2 < y (e t).2.1) := fun q => g3 ⟨g1, g2, q⟩
      omega
theorem Fx_chg {y : Nat → Int} {e : Nat → Ed} : ∀ n, Fx y e n → rxs y e n = y ∧ chg y e n = false
  | 0, _ => ⟨rfl, rfl⟩
  | n + 1, h => by
    obtain ⟨h1, h2⟩ := Fx_chg n (fun t ht => h t (by omega))
    have h3 : ¬ hit (rxs y e n) (e n) := by
      rw [h1]
      intro g
      have := h n (by omega) g.1 g.2.1
      have g3 := g.2.2
      omega
    refine ⟨?_, ?_⟩
    · show rx1 (rxs y e n) (e n) = y
      unfold rx1
      rw [if_neg h3, h1]
    · unfold chg
      rw [h2, decide_eq_false h3]
      rfl
/-- all edges at once -/
def jac (y : Nat → Int) (e : Nat → Ed) : Nat → Nat → Int
  | 0 => y
  | t + 1 => fun q => if (e t).1 = true ∧ q = (e t).2.1 ∧ y (e t).2.2.1 < zK9 ∧ y (e t).2.2.1 + (e t).2.2.2 < jac y e t q then y (e t).2.2.1 + (e t).2.2.2 else jac y e t q
theorem jac_s (y : Nat → Int) (e : Nat → Ed) (t q : Nat) : jac y e (t + 1) q = if (e t).1 = true ∧ q = (e t).2.1 ∧ y (e t).2.2.1 < zK9 ∧ y (e t).2.2.1 + (e t).2.2.2 < jac y e t q then y (e t).2.2.1 + (e t).2.2.2 else jac y e t q := rfl
theorem jac_le (y : Nat → Int) (e : Nat → Ed) : ∀ n q, jac y e n q ≤ y q
  | 0, q => Int.le_refl _
  | n + 1, q => by
    have := jac_le y e n q
    rw [jac_s]
    split <;> omega
theorem jac_e (y : Nat → Int) (e : Nat → Ed) : ∀ n t, t < n → (e t).1 = true → y (e t).2.2.1 < zK9 → jac y e n (e t).2.1 ≤ y (e t).2.2.1 + (e t).2.2.2
  | 0, t, h, _, _ => absurd h (Nat.not_lt_zero t)
  | n + 1, t, h, h1, h2 => by
    rw [jac_s]
    by_cases e1 : t < n
    · have := jac_e y e n t e1 h1 h2
      split
      · rename_i g
        omega
      · exact this
    · have e2 : t = n := by omega
      subst e2
      split
      · exact Int.le_refl _
      · rename_i g
        have : ¬ (y (e t).2.2.1 + (e t).2.2.2 < jac y e t (e t).2.1) := fun q => g ⟨h1, rfl, h2, q⟩
        omega
theorem jac_at (y : Nat → Int) (e : Nat → Ed) : ∀ n q, jac y e n q = y q ∨ ∃ t, t < n ∧ (e t).1 = true ∧ q = (e t).2.1 ∧ y (e t).2.2.1 < zK9 ∧ jac y e n q = y (e t).2.2.1 + (e t).2.2.2
  | 0, q => Or.inl rfl
  | n + 1, q => by
    rw [jac_s]
    split
    · rename_i g
      exact Or.inr ⟨n, by omega, g.1, g.2.1, g.2.2.1, rfl⟩
    · rcases jac_at y e n q with h | ⟨t, h1, h2, h3, h4, h5⟩
      · exact Or.inl h
      · exact Or.inr ⟨t, by omega, h2, h3, h4, h5⟩
theorem rxs_jac {y w : Nat → Int} {e : Nat → Ed} {n : Nat} (hw : ∀ q, y q ≤ w q) (q : Nat) : rxs y e n q ≤ jac w e n q := by
  rcases jac_at w e n q with h | ⟨t, h1, h2, h3, h4, h5⟩
  · rw [h]
    exact Int.le_trans (rxs_le y e n q) (hw q)
  · have a1 := rxs_le y e t (e t).2.2.1
    have a2 := hw (e t).2.2.1
    have a3 : rxs y e (t + 1) (e t).2.1 ≤ rxs y e t (e t).2.2.1 + (e t).2.2.2 := rx1_u _ _ h2 (by omega)
    obtain ⟨k, hk⟩ : ∃ k, n = t + 1 + k := ⟨n - (t + 1), by omega⟩
    have a4 := rxs_mono y e (e t).2.1 (t + 1) k
    rw [← hk] at a4
    rw [h5, h3]
    omega
def jk (y : Nat → Int) (e : Nat → Ed) (n : Nat) : Nat → Nat → Int
  | 0 => y
  | k + 1 => jac (jk y e n k) e n
def sk (y : Nat → Int) (e : Nat → Ed) (n : Nat) : Nat → Nat → Int
  | 0 => y
  | k + 1 => rxs (sk y e n k) e n
theorem jk_le (y : Nat → Int) (e : Nat → Ed) (n q i : Nat) : ∀ d, jk y e n (i + d) q ≤ jk y e n i q
  | 0 => Int.le_refl _
  | d + 1 => Int.le_trans (jac_le _ _ _ q) (jk_le y e n q i d)
theorem sk_le (y : Nat → Int) (e : Nat → Ed) (n q : Nat) : ∀ k, sk y e n k q ≤ y q
  | 0 => Int.le_refl _
  | k + 1 => Int.le_trans (rxs_le _ _ _ q) (sk_le y e n q k)
theorem sk_jk (y : Nat → Int) (e : Nat → Ed) (n : Nat) : ∀ k q, sk y e n k q ≤ jk y e n k q
  | 0, q => Int.le_refl _
  | k + 1, q => rxs_jac (sk_jk y e n k) q
theorem sk_low {y z : Nat → Int} {e : Nat → Ed} {n : Nat} (hz : ∀ q, z q ≤ y q) (hf : Fx z e n) : ∀ k q, z q ≤ sk y e n k q
  | 0, q => hz q
  | k + 1, q => rxs_low (sk_low hz hf k) n hf q
theorem pigeon : ∀ (n : Nat) (c : Nat → Nat), (∀ i, i ≤ n → c i < n) → ∃ i j, i < j ∧ j ≤ n ∧ c i = c j
  | 0, c, h => absurd (h 0 (Nat.le_refl 0)) (Nat.not_lt_zero _)
  | n + 1, c, h => by
    by_cases hx : ∃ i, i < n + 1 ∧ c i = c (n + 1)
    · obtain ⟨i, h1, h2⟩ := hx
      exact ⟨i, n + 1, h1, Nat.le_refl _, h2⟩
    · have hne : ∀ i, i < n + 1 → c i ≠ c (n + 1) := fun i hi he => hx ⟨i, hi, he⟩
      have hl := h (n + 1) (Nat.le_refl _)
      obtain ⟨i, j, h1, h2, h3⟩ := pigeon n (fun i => if c i < c (n + 1) then c i else c i - 1) (fun i hi => by
        have a1 := h i (by omega)
        have a2 := hne i (by omega)
        split <;> omega)
      refine ⟨i, j, h1, by omega, ?_⟩
      have b1 := hne i (by omega)
      have b2 := hne j (by omega)
      have h4 : (if c i < c (n + 1) then c i else c i - 1) = (if c j < c (n + 1) then c j else c j - 1) := h3
      split at h4 <;> split at h4 <;> omega
/-- edges between eight nodes, with a potential: no circle of them is below 0 -/
def Pot (e : Nat → Ed) (n : Nat) (f : Nat → Int) : Prop := ∀ t, t < n → (e t).1 = true → (e t).2.1 < 8 ∧ (e t).2.2.1 < 8 ∧ f (e t).2.1 ≤ f (e t).2.2.1 + (e t).2.2.2
theorem chain {y f : Nat → Int} {e : Nat → Ed} {n : Nat} (hp : Pot e n f) : ∀ (j x : Nat), x < 8 → (j = 0 ∨ ∃ k, j = k + 1 ∧ jk y e n j x < jk y e n k x) →
    ∃ c : Nat → Nat, c j = x ∧ (∀ i, i ≤ j → c i < 8) ∧ (∀ i, i < j → jk y e n (i + 1) (c (i + 1)) < jk y e n i (c (i + 1))) ∧ ∀ i, i < j → jk y e n i (c i) - f (c i) ≤ jk y e n (i + 1) (c (i + 1)) - f (c (i + 1))
  | 0, x, hx, _ => ⟨fun _ => x, rfl, fun _ _ => hx, fun i hi => absurd hi (Nat.not_lt_zero i), fun i hi => absurd hi (Nat.not_lt_zero i)⟩
  | j + 1, x, hx, h => by
    have hlt : jk y e n (j + 1) x < jk y e n j x := by
      rcases h with h | ⟨k, h1, h2⟩
      · omega
      · have : k = j := by omega
        subst this
        exact h2
    rcases jac_at (jk y e n j) e n x with h0 | ⟨t, h1, h2, h3, h4, h5⟩
    · exfalso
      have : jk y e n (j + 1) x = jk y e n j x := h0
      omega
    · have h5' : jk y e n (j + 1) x = jk y e n j (e t).2.2.1 + (e t).2.2.2 := h5
      obtain ⟨p1, p2, p3⟩ := hp t h1 h2
      obtain ⟨c, c1, c2, c3, c4⟩ := chain (y := y) hp j (e t).2.2.1 p2 (by
        cases j with
        | zero => exact Or.inl rfl
        | succ k =>
          right
          refine ⟨k, rfl, ?_⟩
          have h6 : ∀ k, jk y e n (k + 1) = jac (jk y e n k) e n := fun k => rfl
          by_cases g : jk y e n k (e t).2.2.1 < zK9
          · have g1 : jk y e n (k + 1) (e t).2.1 ≤ jk y e n k (e t).2.2.1 + (e t).2.2.2 := jac_e _ _ _ t h1 h2 g
            rw [← h3] at g1
            omega
          · have g1 : jk y e n (k + 1) (e t).2.2.1 < zK9 := h4
            omega)
      refine ⟨fun i => if i = j + 1 then x else c i, by simp, fun i hi => ?_, fun i hi => ?_, fun i hi => ?_⟩
      · show (if i = j + 1 then x else c i) < 8
        split
        · exact hx
        · exact c2 i (by omega)
      · show jk y e n (i + 1) (if i + 1 = j + 1 then x else c (i + 1)) < jk y e n i (if i + 1 = j + 1 then x else c (i + 1))
        by_cases g : i = j
        · subst g
          rw [if_pos rfl]
          exact hlt
        · rw [if_neg (by omega)]
          exact c3 i (by omega)
      · show jk y e n i (if i = j + 1 then x else c i) - f (if i = j + 1 then x else c i) ≤ jk y e n (i + 1) (if i + 1 = j + 1 then x else c (i + 1)) - f (if i + 1 = j + 1 then x else c (i + 1))
        rw [if_neg (by omega)]
        by_cases g : i = j
        · subst g
          rw [if_pos rfl, c1, h5']
          rw [h3]
          omega
        · rw [if_neg (by omega)]
          exact c4 i (by omega)
theorem jk_8 {y f : Nat → Int} {e : Nat → Ed} {n : Nat} (hp : Pot e n f) (x : Nat) : jk y e n 8 x = jk y e n 7 x := by
  have hle := jk_le y e n x 7 1
  by_cases h : jk y e n 8 x < jk y e n 7 x
  · exfalso
    have hx : x < 8 := by
      rcases jac_at (jk y e n 7) e n x with h0 | ⟨t, h1, h2, h3, -, -⟩
      · have : jk y e n 8 x = jk y e n 7 x := h0
        omega
      · rw [h3]
        exact (hp t h1 h2).1
    obtain ⟨c, c1, c2, c3, c4⟩ := chain (y := y) hp 8 x hx (Or.inr ⟨7, rfl, h⟩)
    obtain ⟨i, j, hij, hj, hc⟩ := pigeon 8 c c2
    obtain ⟨d, hd⟩ : ∃ d, j = i + 1 + d := ⟨j - (i + 1), by omega⟩
    have up : ∀ d, i + 1 + d ≤ 8 → jk y e n i (c i) - f (c i) ≤ jk y e n (i + 1 + d) (c (i + 1 + d)) - f (c (i + 1 + d)) := by
      intro d
      induction d with
      | zero => intro hd8; exact c4 i (by omega)
      | succ d ih =>
        intro hd8
        have a1 := ih (by omega)
        have a2 := c4 (i + 1 + d) (by omega)
        rw [show i + 1 + (d + 1) = i + 1 + d + 1 by omega]
        omega
    have a1 := up d (by omega)
    rw [← hd, ← hc] at a1
    have a2 := c3 (i + d) (by omega)
    rw [show i + d + 1 = j by omega, ← hc] at a2
    have a3 := jk_le y e n (c i) i d
    omega
  · have h2 : jk y e n 8 x ≤ jk y e n 7 x := hle
    omega
/-- behind seven rounds nothing becomes less -/
theorem sk_7 {y f : Nat → Int} {e : Nat → Ed} {n : Nat} (hp : Pot e n f) : Fx (sk y e n 7) e n := by
  have hF : Fx (jk y e n 7) e n := fun t ht h1 h2 => by
    rw [← jk_8 hp (e t).2.1]
    exact jac_e _ _ _ t ht h1 h2
  have e1 : sk y e n 7 = jk y e n 7 := by
    funext q
    have a1 := sk_jk y e n 7 q
    have a2 : jk y e n 7 q ≤ sk y e n 7 q := sk_low (y := y) (fun q => jk_le y e n q 0 7) hF 7 q
    omega
  rw [e1]
  exact hF
/-- the greatest that is not above y0 and keeps all edges -/
def Top (y0 : Nat → Int) (e : Nat → Ed) (n : Nat) (y : Nat → Int) : Prop := (∀ q, y q ≤ y0 q) ∧ Fx y e n ∧ ∀ z, (∀ q, z q ≤ y0 q) → Fx z e n → ∀ q, z q ≤ y q
theorem Top.one {y0 y y' : Nat → Int} {e : Nat → Ed} {n : Nat} (h : Top y0 e n y) (h' : Top y0 e n y') : y = y' := by
  funext q
  have a1 := h.2.2 y' h'.1 h'.2.1 q
  have a2 := h'.2.2 y h.1 h.2.1 q
  omega
theorem sk_top {y0 : Nat → Int} {e : Nat → Ed} {n k : Nat} (h : Fx (sk y0 e n k) e n) : Top y0 e n (sk y0 e n k) :=
  ⟨fun q => sk_le y0 e n q k, h, fun z hz hf q => sk_low hz hf k q⟩
/-- where a round changes nothing, later ones don't -/
theorem sk_stay {y0 : Nat → Int} {e : Nat → Ed} {n k : Nat} (h : Fx (sk y0 e n k) e n) : ∀ d, sk y0 e n (k + d) = sk y0 e n k
  | 0 => rfl
  | d + 1 => by
    show rxs (sk y0 e n (k + d)) e n = _
    rw [sk_stay h d]
    exact (Fx_chg n h).1
/-- far, or not farther than c -/
def Fin9 (c : Int) (y : Nat → Int) : Prop := ∀ q, q < 8 → y q = zK9 ∨ (-c ≤ y q ∧ y q ≤ c)
theorem Fin9.mono {c c' : Int} {y : Nat → Int} (h : Fin9 c y) (hc : c ≤ c') : Fin9 c' y := fun q hq => by
  have := h q hq
  omega
theorem rx1_fin {c : Int} {y : Nat → Int} {e : Ed} (hc : 0 ≤ c) (hy : Fin9 c y) (hv : e.1 = true → e.2.2.1 < 8 ∧ -60 ≤ e.2.2.2 ∧ e.2.2.2 ≤ 60) : Fin9 (c + 60) (rx1 y e) := by
  intro q hq
  unfold rx1
  split
  · rename_i h
    obtain ⟨h1, h2, h3⟩ := h
    show (if q = e.2.1 then _ else _) = _ ∨ (_ ≤ (if q = e.2.1 then _ else _) ∧ (if q = e.2.1 then _ else _) ≤ _)
    obtain ⟨a1, a2, a3⟩ := hv h1
    split
    · have := hy _ a1
      right
      omega
    · have := hy q hq
      omega
  · have := hy q hq
    omega
theorem rxs_fin {c : Int} {y : Nat → Int} {e : Nat → Ed} (hc : 0 ≤ c) (hy : Fin9 c y) : ∀ n : Nat, (∀ t, t < n → (e t).1 = true → (e t).2.2.1 < 8 ∧ -60 ≤ (e t).2.2.2 ∧ (e t).2.2.2 ≤ 60) → Fin9 (c + 60 * n) (rxs y e n)
  | 0, _ => by
    show Fin9 (c + 60 * ((0 : Nat) : Int)) y
    exact hy.mono (by omega)
  | n + 1, hv => by
    have h1 := rxs_fin hc hy n (fun t ht => hv t (by omega))
    have h2 := rx1_fin (e := e n) (by omega) h1 (hv n (by omega))
    have e1 : c + 60 * ((n + 1 : Nat) : Int) = c + 60 * (n : Int) + 60 := by
      rw [Int.natCast_add]
      omega
    rw [e1]
    exact h2
theorem sk_fin {c : Int} {y : Nat → Int} {e : Nat → Ed} {n : Nat} (hn : n ≤ 15) (hc : 0 ≤ c) (hy : Fin9 c y) (hv : ∀ t, t < n → (e t).1 = true → (e t).2.2.1 < 8 ∧ -60 ≤ (e t).2.2.2 ∧ (e t).2.2.2 ≤ 60) : ∀ k : Nat, Fin9 (c + 900 * k) (sk y e n k)
  | 0 => by
    show Fin9 (c + 900 * ((0 : Nat) : Int)) y
    exact hy.mono (by omega)
  | k + 1 => by
    have h1 := sk_fin hn hc hy hv k
    have h2 := rxs_fin (by omega) h1 n hv
    refine h2.mono ?_
    rw [Int.natCast_add]
    omega
