/-! undo, restore, save: the state they leave -/
/-- the snapshot stands, and kept is what look would say of it -/
def Sn (K : Nat) (m : zM) (kept : Int64) : Prop := m 0 6 = nI 1 ∧ ∃ n2, Inv K (aS m 10) n2 ∧ kept = lkV (aS m 10) n2
theorem Sn.mono {K K' : Nat} {m : zM} {kept : Int64} (h : Sn K m kept) (hK : K ≤ K') : Sn K' m kept := by
  obtain ⟨a, n2, b, c⟩ := h
  exact ⟨a, n2, b.mono hK, c⟩
theorem Sn.to {K : Nat} {m m' : zM} {kept : Int64} (h : Sn K m kept) (e : ∀ q, 10 ≤ q → q ≤ 18 → m' q = m q) (e6 : m' 0 6 = m 0 6) : Sn K m' kept := by
  obtain ⟨a, n2, b, c⟩ := h
  have eq0 : EqS n2 (aS m' 10) (aS m 10) := aS_of (fun q x y => e q x (by omega))
  exact ⟨e6.trans a, n2, b.eqs eq0.sym, by rw [c, lkV_eq eq0 (b.eqs eq0.sym).ok]⟩
section
variable {G : zG} {l : Launch} {K n s n2 : Nat} {h : Nat → Nat} {m mm : zM}
theorem v_undo (sy : Sy K h m n (s + 1)) (hF : Fsv m mm) (hI2 : Inv K (aS m (h s)) n2) : zMet G l yX3_undo mX3_undo [.ref (G.1 + 0)] (zw h mm) (fun r w => r = some (.int (nI s)) ∧ ∃ U, w = zw h U ∧ Sy K h U n2 s ∧ EqS n2 U (aS m (h s)) ∧ (∀ q, 10 ≤ q → q ≤ 18 → U q = m q) ∧ U 0 6 = m 0 6) 0 0 := by
  have hs4 := sy.s4
  have hh := sy.1
  have hH := hh.1 s (by omega)
  have ih := IsSt.hi hH
  refine zMet_post (zX3_undo s (by omega) (stF5 sy hF) hh) (fun r w hp => ?_)
  have hn := hI2.n14
  have e1 : EqS n2 (cpM (up2 mm 0 5 (nI s)) 1 (h s)) (aS m (h s)) := (aS_1.sym.trans (cp_to hn (up2 mm 0 5 (nI s)) 1 (h s))).trans (aS_of (fun q c d => by
    rw [up2_na _ _ _ (by omega)]
    exact hF q (by omega)))
  have eo : ∀ q, 10 ≤ q → q < 56 → cpM (up2 mm 0 5 (nI s)) 1 (h s) q = m q := fun q a b => by
    rw [cp_o _ (by omega), up2_na _ _ _ (by omega)]
    exact hF q (by omega)
  have e0 : ∀ k, k ≠ 5 → cpM (up2 mm 0 5 (nI s)) 1 (h s) 0 k = m 0 k := fun k hk => by
    rw [cp_o _ (by omega), up2_ne _ _ (by omega), hF 0 (by decide)]
  refine ⟨hp.1, _, hp.2, ⟨hh, hI2.eqs e1.sym, ⟨by omega, by rw [cp_o _ (by omega), up2_eq], fun k hk => ?_⟩, ?_, ?_⟩, e1, fun q a b => eo q a (by omega), e0 6 (by decide)⟩
  · obtain ⟨n3, a⟩ := sy.2.2.1.2.2 k (by omega)
    have ik := IsSt.hi (hh.1 k (by omega))
    exact ⟨n3, a.eqs (aS_of (fun q c d => (eo q (by omega) (by omega)).symm))⟩
  · unfold SnapI
    rw [e0 6 (by decide)]
    rcases sy.2.2.2.1 with a | ⟨a, n3, b⟩
    · exact Or.inl a
    · exact Or.inr ⟨a, n3, b.eqs (aS_of (fun q c d => (eo q (by omega) (by omega)).symm))⟩
  · obtain ⟨L, a, b⟩ := sy.2.2.2.2
    refine ⟨L, a, ?_⟩
    rw [cp_o _ (by omega), up2_na _ _ _ (by decide), hF 68 (by decide)]
    exact b
theorem e_undo (sy : Sy K h m n 0) (hF : Fsv m mm) : zMet G l yX3_undo mX3_undo [.ref (G.1 + 0)] (zw h mm) (VP h m (-2)) 0 0 := vw hF (eX3_undo (stF5 sy hF)) rfl
theorem e_restore (hF : Fsv m mm) (h6 : m 0 6 = nI 0) : zMet G l yX3_restore mX3_restore [.ref (G.1 + 0)] (zw h mm) (VP h m (-2)) 0 0 := vw hF (eX3_restore (by rw [hF 0 (by decide)]; exact h6)) rfl
theorem v_restore (sy : Sy K h m n s) (hF : Fsv m mm) (h6 : m 0 6 = nI 1) (hI2 : Inv K (aS m 10) n2) : zMet G l yX3_restore mX3_restore [.ref (G.1 + 0)] (zw h mm) (VA K h m n s (nI n2) n2 (fun M => EqS n2 M (aS m 10) ∧ EqS n (aS M (hRem h s (sN s - 1))) m)) 0 0 := by
  have hh := sy.1
  have hn := hI2.n14
  refine zMet_post (zX3_restore s sy.s4 (stF5 sy hF) hh (by rw [hF 0 (by decide)]; exact h6)) (fun r w hp => ?_)
  have e1 : EqS n2 (cpM (mRem h mm s) 1 10) (aS m 10) := (aS_1.sym.trans (cp_to hn (mRem h mm s) 1 10)).trans (aS_of (fun q c d => (mRem_o hh (by omega) (by omega)).trans (hF q (by omega))))
  have top := (hist_step hh sy.s4 (sy.v hF).2.2.1.2.2 (sy.v hF).inv (m2 := cpM (mRem h mm s) 1 10) (fun q a b => cp_o _ (by omega))).2
  refine ⟨?_, _, hp.2, mkA sy hF (fun q x y => ?_) ((hI2.eqs e1.sym).mono (Nat.le_succ K)), e1, top.trans hF.eqs⟩
  · rw [hp.1, hF 10 (by decide)]
    exact congrArg (fun z => some (Value.int z)) hI2.e8
  · exact cp_o _ (by omega)
theorem v_save (sy : Sy K h m n s) (hF : Fsv m mm) : zMet G l yX3_save mX3_save [.ref (G.1 + 0)] (zw h mm) (fun r w => r = some (.int (nI n)) ∧ ∃ S, w = zw h S ∧ Sy K h S n s ∧ EqS n S m ∧ Sn K S (lkV m n)) 0 0 := by
  have hh := sy.1
  have hn := sy.inv.n14
  refine zMet_post zX3_save (fun r w hp => ?_)
  have e1 : ∀ q, 1 ≤ q → (q ≤ 9 ∨ (19 ≤ q ∧ (q < 56 ∨ 68 ≤ q))) → up2 (cpM mm 10 1) 0 6 (nI 1) q = m q := fun q a b => by
    rw [up2_na _ _ _ (by omega), cp_o _ (by omega)]
    exact hF q (by omega)
  have eS : EqS n (up2 (cpM mm 10 1) 0 6 (nI 1)) m := EqS.of (fun q a b => e1 q a (Or.inl b))
  have eT : EqS n (aS (up2 (cpM mm 10 1) 0 6 (nI 1)) 10) m := (((aS_of (fun q c d => up2_na _ _ _ (by omega))).trans (cp_to hn mm 10 1)).trans aS_1).trans (EqS.of (fun q a b => hF q (by omega)))
  have e05 : up2 (cpM mm 10 1) 0 6 (nI 1) 0 5 = m 0 5 := by rw [up2_ne _ _ (by decide), cp_o _ (by omega), hF 0 (by decide)]
  have e06 : up2 (cpM mm 10 1) 0 6 (nI 1) 0 6 = nI 1 := up2_eq _ _ _ _
  have hI := sy.inv
  refine ⟨?_, _, hp.2, ⟨hh, hI.eqs eS.sym, ⟨sy.s4, e05.trans sy.st, fun k hk => ?_⟩, Or.inr ⟨e06, n, hI.eqs eT.sym⟩, ?_⟩, eS, e06, n, hI.eqs eT.sym, (lkV_eq eT (hI.eqs eT.sym).ok).symm⟩
  · rw [hp.1, hF 1 (by decide)]
    exact congrArg (fun z => some (Value.int z)) hI.e8
  · obtain ⟨n3, a⟩ := sy.2.2.1.2.2 k hk
    have ik := IsSt.hi (hh.1 k (by have := sy.s4; omega))
    exact ⟨n3, a.eqs (aS_of (fun q c d => (e1 q (by omega) (Or.inr ⟨by omega, Or.inl (by omega)⟩)).symm))⟩
  · obtain ⟨L, a, b⟩ := sy.2.2.2.2
    exact ⟨L, a, by rw [e1 68 (by decide) (Or.inr ⟨by decide, Or.inr (by decide)⟩)]; exact b⟩
end
