/-! holds -/
theorem z_cnt {a : Nat} (hp : ¬ (0 : Int32) < nI a) (ha : a < 2 ^ 31) : a = 0 := by
  rcases Nat.eq_zero_or_pos a with q | q
  · exact q
  · exact absurd (by have := nI_lt q ha; rwa [nI_0] at this) hp
theorem bI_s {p : Prop} [Decidable p] (h : bI p = nI 1) : p := by
  by_cases c : p
  · exact c
  · rw [bI_f c] at h
    exact absurd h (by decide)
theorem ab_t {K n a t : Nat} {m : zM} (hI : Inv K m n) (ht : t < n) (h : sF m 1 t = a ∨ sO m 1 t = a) : sAbout m 1 t (nI a) := by
  rcases h with h | h
  · exact Or.inr (Or.inl ((hI.f8 ht).1.trans (congrArg nI h)))
  · exact Or.inr (Or.inr ((hI.o8 ht).1.trans (congrArg nI h)))
theorem ab_f {K n a t : Nat} {m : zM} (hI : Inv K m n) (ht : t < n) (ha : a < 8) (h1 : ¬ sF m 1 t = a) (h2 : ¬ sO m 1 t = a) : ¬ sAbout m 1 t (nI a) := by
  have f := hI.f8 ht
  have o := hI.o8 ht
  intro z
  rcases z with z | z | z
  · have : nI a < 0 := by
      rw [z]
      decide
    exact nI_pos (by omega) this
  · exact h1 ((nI_eq (by omega) (by omega)).mp (f.1.symm.trans z))
  · exact h2 ((nI_eq (by omega) (by omega)).mp (o.1.symm.trans z))
set_option maxRecDepth 100000 in
set_option maxHeartbeats 4000000 in
theorem lL_holds900 {G : zG} {l : Launch} {h : Nat → Nat} {m : zM} {K n : Nat} (hI : Inv K m n) : ∀ mm : zM, Fsv m mm → Z G mL_holds (fun _ => True) (zN G (fun r w => r = some (.int (nI 1)) ∧ ∃ m', w = zw h m' ∧ Fsv m m') 0 0) l 0 0 (zw h mm) 900 [(6, .int (nI (cB m n))), (5, .int (nI (cF m n))), (0, .ref (G.1 + 0))] [] := by
  intro mm hF
  have hn := hI.n14
  have hk := hI.ok
  have g := hI.g
  have l1 : cF m n ≤ n := cnt_le _ n
  have l2 : cB m n ≤ n := cnt_le _ n
  refine Z_aload_n 901 2 dL_holds_900 rfl rfl ?_
  refine Z_callV 904 [] 3 (v_peace hF hk) dL_holds_901 rfl qL_35 kX3_peace rfl rfl (Nat.le_of_ble_eq_true rfl) rfl rfl ⟨(Nat.le_of_ble_eq_true rfl), (Nat.le_of_ble_eq_true rfl)⟩ (Nat.le_of_ble_eq_true rfl) ⟨rfl, rfl⟩ ⟨(Nat.le_of_ble_eq_true rfl), (Nat.le_of_ble_eq_true rfl)⟩ (fun r9 w9 hp9 => ?_)
  obtain ⟨rfl, mm, rfl, hF⟩ := hp9
  refine Z_iload 906 1 dL_holds_904 rfl rfl ?_
  refine Z_if_ne 909 913 dL_holds_906 rfl rfl (fun c906 => ?_) (fun c906 => ?_)
  · skip
    have e0 : ¬ cF m n = 0 := fun z => c906 (by rw [z]; rfl)
    refine Z_iload 915 1 dL_holds_913 rfl rfl ?_
    refine Z_iload 917 0 dL_holds_915 rfl rfl ?_
    refine Z_isub 918 dL_holds_917 rfl ?_
    refine Z_i2d 919 dL_holds_918 rfl ?_
    refine Z_iload 921 1 dL_holds_919 rfl rfl ?_
    refine Z_i2d 922 dL_holds_921 rfl ?_
    refine Z_ddiv 923 dL_holds_922 rfl (pc_num _ (by omega) _ (by omega) e0) ?_
    refine Z_top (v' := .double (pcV (cF m n) (cB m n))) (congrArg Value.double (by unfold pcV; first | rw [if_pos e0] | rw [if_neg e0])) ?_
    refine Z_dcmp 924 dL_holds_923 rfl ?_
    refine Z_top (v' := .int 0) (congrArg Value.int (pc_self _ (by omega) _ (by omega))) ?_
    refine Z_if_ne 927 931 dL_holds_924 rfl rfl (fun c924 => absurd c924 (by decide)) (fun c924 => ?_)
    refine Z_iconst 928 (nI 1) dL_holds_927 rfl rfl ?_
    refine Z_goto 932 dL_holds_928 rfl ?_
    exact Z_zret dL_holds_932 rfl (by first | exact Or.inl rfl | exact Or.inr rfl | exact bI_01) ⟨rfl, mm, rfl, hF⟩
  · skip
    have e0 : cF m n = 0 := (nI_eq (a := cF m n) (b := 0) (by omega) (by omega)).mp (by rw [nI_0]; exact Classical.not_not.mp c906)
    refine Z_dconst1 910 dL_holds_909 rfl ?_
    refine Z_goto 923 dL_holds_910 rfl ?_
    refine Z_top (v' := .double (pcV (cF m n) (cB m n))) (congrArg Value.double (by unfold pcV; first | rw [if_pos e0] | rw [if_neg e0])) ?_
    refine Z_dcmp 924 dL_holds_923 rfl ?_
    refine Z_top (v' := .int 0) (congrArg Value.int (pc_self _ (by omega) _ (by omega))) ?_
    refine Z_if_ne 927 931 dL_holds_924 rfl rfl (fun c924 => absurd c924 (by decide)) (fun c924 => ?_)
    refine Z_iconst 928 (nI 1) dL_holds_927 rfl rfl ?_
    refine Z_goto 932 dL_holds_928 rfl ?_
    exact Z_zret dL_holds_932 rfl (by first | exact Or.inl rfl | exact Or.inr rfl | exact bI_01) ⟨rfl, mm, rfl, hF⟩

set_option maxRecDepth 100000 in
set_option maxHeartbeats 4000000 in
theorem lL_holds890 {G : zG} {l : Launch} {h : Nat → Nat} {m : zM} {K n : Nat} (hI : Inv K m n) : ∀ mm : zM, Fsv m mm → Z G mL_holds (fun _ => True) (zN G (fun r w => r = some (.int (nI 1)) ∧ ∃ m', w = zw h m' ∧ Fsv m m') 0 0) l 0 0 (zw h mm) 890 [(8, .int (clp m n)), (6, .int (nI (cB m n))), (5, .int (nI (cF m n))), (0, .ref (G.1 + 0))] [] := by
  intro mm hF
  have hn := hI.n14
  have hk := hI.ok
  have g := hI.g
  have l2 : cB m n ≤ n := cnt_le _ n
  refine Z_iload 892 1 dL_holds_890 rfl rfl ?_
  refine Z_if_gt 895 900 dL_holds_892 rfl rfl (fun c892 => ?_) (fun c892 => ?_)
  · skip
    refine Z_lv [1, 2, 3] rfl ?_
    exact lL_holds900 hI mm hF
  · skip
    refine Z_iload 897 0 dL_holds_895 rfl rfl ?_
    refine Z_if_ne 900 931 dL_holds_897 rfl rfl (fun c897 => absurd c897 (fun z => z (hI.clp_0 (z_cnt c892 (by omega))))) (fun c897 => ?_)
    refine Z_lv [1, 2, 3] rfl ?_
    exact lL_holds900 hI mm hF

set_option maxRecDepth 100000 in
set_option maxHeartbeats 4000000 in
theorem lL_holds822 {G : zG} {l : Launch} {h : Nat → Nat} {m : zM} {K n : Nat} (hI : Inv K m n) : ∀ mm : zM, Fsv m mm → Z G mL_holds (fun _ => True) (zN G (fun r w => r = some (.int (nI 1)) ∧ ∃ m', w = zw h m' ∧ Fsv m m') 0 0) l 0 0 (zw h mm) 822 [(9, .int (nI 1)), (8, .int (clp m n)), (7, .int (sumI (fun j => m 2 j - hd4 m n j) 8)), (6, .int (nI (cB m n))), (5, .int (nI (cF m n))), (4, .int (sumI (m 5) 8)), (3, .int (nI (cnt (fun j => decide (sNest m 1 j)) 8))), (2, .int (sumI (m 2) 8)), (0, .ref (G.1 + 0))] [] := by
  intro mm hF
  have hn := hI.n14
  have hk := hI.ok
  have g := hI.g
  refine Z_iload 824 0 dL_holds_822 rfl rfl ?_
  refine Z_if_eq 827 931 dL_holds_824 rfl rfl (fun c824 => absurd c824 (by decide)) (fun c824 => ?_)
  refine Z_iload_n 828 7 dL_holds_827 rfl rfl ?_
  refine Z_aload_n 829 8 dL_holds_828 rfl rfl ?_
  refine Z_iconst 830 (nI 4) dL_holds_829 rfl rfl ?_
  refine Z_callV 833 [_] 3 (v_count4 hF hk) dL_holds_830 rfl qL_13 kX3_count rfl rfl (Nat.le_of_ble_eq_true rfl) rfl rfl ⟨(Nat.le_of_ble_eq_true rfl), (Nat.le_of_ble_eq_true rfl)⟩ (Nat.le_of_ble_eq_true rfl) ⟨rfl, rfl⟩ ⟨(Nat.le_of_ble_eq_true rfl), (Nat.le_of_ble_eq_true rfl)⟩ (fun r9 w9 hp9 => ?_)
  obtain ⟨rfl, mm, rfl, hF⟩ := hp9
  refine Z_icmp_ne 836 931 dL_holds_833 rfl rfl (fun c833 => absurd c833 (fun z => z rfl)) (fun c833 => ?_)
  refine Z_iload_n 837 6 dL_holds_836 rfl rfl ?_
  refine Z_aload_n 838 8 dL_holds_837 rfl rfl ?_
  refine Z_iconst 839 (nI 5) dL_holds_838 rfl rfl ?_
  refine Z_callV 842 [_] 3 (v_count5 hF hk) dL_holds_839 rfl qL_13 kX3_count rfl rfl (Nat.le_of_ble_eq_true rfl) rfl rfl ⟨(Nat.le_of_ble_eq_true rfl), (Nat.le_of_ble_eq_true rfl)⟩ (Nat.le_of_ble_eq_true rfl) ⟨rfl, rfl⟩ ⟨(Nat.le_of_ble_eq_true rfl), (Nat.le_of_ble_eq_true rfl)⟩ (fun r9 w9 hp9 => ?_)
  obtain ⟨rfl, mm, rfl, hF⟩ := hp9
  refine Z_icmp_ne 845 931 dL_holds_842 rfl rfl (fun c842 => absurd c842 (fun z => z rfl)) (fun c842 => ?_)
  refine Z_iload 847 5 dL_holds_845 rfl rfl ?_
  refine Z_aload_n 848 8 dL_holds_847 rfl rfl ?_
  refine Z_bipush 850 (nI 10) dL_holds_848 rfl rfl ?_
  refine Z_callV 853 [_] 3 (v_count10 hF hk) dL_holds_850 rfl qL_13 kX3_count rfl rfl (Nat.le_of_ble_eq_true rfl) rfl rfl ⟨(Nat.le_of_ble_eq_true rfl), (Nat.le_of_ble_eq_true rfl)⟩ (Nat.le_of_ble_eq_true rfl) ⟨rfl, rfl⟩ ⟨(Nat.le_of_ble_eq_true rfl), (Nat.le_of_ble_eq_true rfl)⟩ (fun r9 w9 hp9 => ?_)
  obtain ⟨rfl, mm, rfl, hF⟩ := hp9
  refine Z_icmp_ne 856 931 dL_holds_853 rfl rfl (fun c853 => absurd c853 (fun z => z rfl)) (fun c853 => ?_)
  refine Z_iload 858 4 dL_holds_856 rfl rfl ?_
  refine Z_aload_n 859 8 dL_holds_858 rfl rfl ?_
  refine Z_iconst 860 (nI 2) dL_holds_859 rfl rfl ?_
  refine Z_callV 863 [_] 3 (v_count2 hF hk) dL_holds_860 rfl qL_13 kX3_count rfl rfl (Nat.le_of_ble_eq_true rfl) rfl rfl ⟨(Nat.le_of_ble_eq_true rfl), (Nat.le_of_ble_eq_true rfl)⟩ (Nat.le_of_ble_eq_true rfl) ⟨rfl, rfl⟩ ⟨(Nat.le_of_ble_eq_true rfl), (Nat.le_of_ble_eq_true rfl)⟩ (fun r9 w9 hp9 => ?_)
  obtain ⟨rfl, mm, rfl, hF⟩ := hp9
  refine Z_icmp_ne 866 931 dL_holds_863 rfl rfl (fun c863 => absurd c863 (fun z => z rfl)) (fun c863 => ?_)
  refine Z_iload 868 3 dL_holds_866 rfl rfl ?_
  refine Z_aload_n 869 8 dL_holds_868 rfl rfl ?_
  refine Z_iconst 870 (nI 3) dL_holds_869 rfl rfl ?_
  refine Z_callV 873 [_] 3 (v_count3 hF hk) dL_holds_870 rfl qL_13 kX3_count rfl rfl (Nat.le_of_ble_eq_true rfl) rfl rfl ⟨(Nat.le_of_ble_eq_true rfl), (Nat.le_of_ble_eq_true rfl)⟩ (Nat.le_of_ble_eq_true rfl) ⟨rfl, rfl⟩ ⟨(Nat.le_of_ble_eq_true rfl), (Nat.le_of_ble_eq_true rfl)⟩ (fun r9 w9 hp9 => ?_)
  obtain ⟨rfl, mm, rfl, hF⟩ := hp9
  refine Z_icmp_ne 876 931 dL_holds_873 rfl rfl (fun c873 => absurd c873 (fun z => z rfl)) (fun c873 => ?_)
  refine Z_iload 878 1 dL_holds_876 rfl rfl ?_
  refine Z_bipush 880 (-4) dL_holds_878 rfl rfl ?_
  refine Z_icmp_eq 883 890 dL_holds_880 rfl rfl (fun c880 => ?_) (fun c880 => ?_)
  · skip
    refine Z_lv [1, 3, 4, 8] rfl ?_
    exact lL_holds890 hI mm hF
  · skip
    refine Z_iload 885 1 dL_holds_883 rfl rfl ?_
    refine Z_iload 887 2 dL_holds_885 rfl rfl ?_
    refine Z_icmp_ne 890 931 dL_holds_887 rfl rfl (fun c887 => absurd c887 (fun z => z (clp_off (hI.clp_F c880)))) (fun c887 => ?_)
    refine Z_lv [1, 3, 4, 8] rfl ?_
    exact lL_holds890 hI mm hF

set_option maxRecDepth 100000 in
set_option maxHeartbeats 4000000 in
theorem lL_holds3 {G : zG} {l : Launch} {h : Nat → Nat} {m : zM} {K n : Nat} (hI : Inv K m n) (a : Nat) (ha : a < 8) (kk : ∀ mm : zM, Fsv m mm → Z G mL_holds (fun _ => True) (zN G (fun r w => r = some (.int (nI 1)) ∧ ∃ m', w = zw h m' ∧ Fsv m m') 0 0) l 0 0 (zw h mm) 605 [(14, .int (bI (bdP m n a n = true))), (13, .int (nI (cFa m n a))), (12, .int (nI (cBa m n a))), (11, .int (hd4 m n a)), (10, .int (nI a)), (9, .int (nI 1)), (8, .int (clp m n)), (7, .int (sumI (fun j => m 2 j - hd4 m n j) a)), (6, .int (nI (cB m n))), (5, .int (nI (cF m n))), (4, .int (sumI (m 5) a)), (3, .int (nI (cnt (fun j => decide (sNest m 1 j)) a))), (2, .int (sumI (m 2) a)), (1, .int (m 1 9)), (0, .ref (G.1 + 0))] []) : ∀ (t i : Nat), i + t = n → ∀ mm : zM, Fsv m mm → Z G mL_holds (fun _ => True) (zN G (fun r w => r = some (.int (nI 1)) ∧ ∃ m', w = zw h m' ∧ Fsv m m') 0 0) l 0 0 (zw h mm) 446 [(15, .int (nI i)), (14, .int (bI (bdP m n a i = true))), (13, .int (nI (cFa m i a))), (12, .int (nI (cBa m i a))), (11, .int (hd4 m n a)), (10, .int (nI a)), (9, .int (nI 1)), (8, .int (clp m n)), (7, .int (sumI (fun j => m 2 j - hd4 m n j) a)), (6, .int (nI (cB m n))), (5, .int (nI (cF m n))), (4, .int (sumI (m 5) a)), (3, .int (nI (cnt (fun j => decide (sNest m 1 j)) a))), (2, .int (sumI (m 2) a)), (1, .int (m 1 9)), (0, .ref (G.1 + 0))] [] := by
  intro t
  induction t with
  | zero =>
    intro i hi mm hF
    have e9 : i = n := by omega
    subst e9
    have hn := hI.n14
    have hk := hI.ok
    have g := hI.g
    refine Z_iload 448 0 dL_holds_446 rfl rfl ?_
    refine Z_aload_n 449 15 dL_holds_448 rfl rfl ?_
    refine Z_iconst 450 (nI 1) dL_holds_449 rfl rfl ?_
    refine Z_callV 453 [_] 3 (v_count1 hF hk) dL_holds_450 rfl qL_13 kX3_count rfl rfl (Nat.le_of_ble_eq_true rfl) rfl rfl ⟨(Nat.le_of_ble_eq_true rfl), (Nat.le_of_ble_eq_true rfl)⟩ (Nat.le_of_ble_eq_true rfl) ⟨rfl, rfl⟩ ⟨(Nat.le_of_ble_eq_true rfl), (Nat.le_of_ble_eq_true rfl)⟩ (fun r9 w9 hp9 => ?_)
    obtain ⟨rfl, mm, rfl, hF⟩ := hp9
    refine Z_icmp_ge 456 605 dL_holds_453 rfl rfl (fun c453 => ?_) (fun c453 => absurd (nI_le (Nat.le_refl _) (by omega)) c453)
    refine Z_lv [1, 2, 3, 4, 5, 6, 7, 8, 9, 10, 11, 12, 13, 14, 15] rfl ?_
    exact kk mm hF
  | succ t ih =>
    intro i hi mm hF
    have hlt : i < n := by omega
    have hn := hI.n14
    have hk := hI.ok
    have g := hI.g
    refine Z_iload 448 0 dL_holds_446 rfl rfl ?_
    refine Z_aload_n 449 15 dL_holds_448 rfl rfl ?_
    refine Z_iconst 450 (nI 1) dL_holds_449 rfl rfl ?_
    refine Z_callV 453 [_] 3 (v_count1 hF hk) dL_holds_450 rfl qL_13 kX3_count rfl rfl (Nat.le_of_ble_eq_true rfl) rfl rfl ⟨(Nat.le_of_ble_eq_true rfl), (Nat.le_of_ble_eq_true rfl)⟩ (Nat.le_of_ble_eq_true rfl) ⟨rfl, rfl⟩ ⟨(Nat.le_of_ble_eq_true rfl), (Nat.le_of_ble_eq_true rfl)⟩ (fun r9 w9 hp9 => ?_)
    obtain ⟨rfl, mm, rfl, hF⟩ := hp9
    refine Z_icmp_ge 456 605 dL_holds_453 rfl rfl (fun c453 => absurd c453 (nI_ge hlt (by omega))) (fun c453 => ?_)
    have f8 := (hI.f8 hlt).2
    have o8 := (hI.o8 hlt).2
    rcases Nat.decEq (sF m 1 i) a with e1 | e1
    · rcases Nat.decEq (sO m 1 i) a with e2 | e2
      · have nab := ab_f hI hlt ha e1 e2
        refine Z_aload_n 457 15 dL_holds_456 rfl rfl ?_
        refine Z_iload 459 0 dL_holds_457 rfl rfl ?_
        refine Z_iconst 460 (nI 0) dL_holds_459 rfl rfl ?_
        refine Z_callV 463 [_, _] 3 (v_treaty0 hF hk (by first | assumption | omega)) dL_holds_460 rfl qL_23 kX3_treaty rfl rfl (Nat.le_of_ble_eq_true rfl) rfl rfl ⟨(Nat.le_of_ble_eq_true rfl), (Nat.le_of_ble_eq_true rfl)⟩ (Nat.le_of_ble_eq_true rfl) ⟨rfl, rfl⟩ ⟨(Nat.le_of_ble_eq_true rfl), (Nat.le_of_ble_eq_true rfl)⟩ (fun r9 w9 hp9 => ?_)
        obtain ⟨rfl, mm, rfl, hF⟩ := hp9
        refine Z_iload 465 5 dL_holds_463 rfl rfl ?_
        refine Z_icmp_eq 468 480 dL_holds_465 rfl rfl (fun c465 => absurd c465 (fun z => e1 ((nI_eq (by omega) (by omega)).mp z))) (fun c465 => ?_)
        refine Z_aload_n 469 15 dL_holds_468 rfl rfl ?_
        refine Z_iload 471 0 dL_holds_469 rfl rfl ?_
        refine Z_iconst 472 (nI 1) dL_holds_471 rfl rfl ?_
        refine Z_callV 475 [_, _] 3 (v_treaty1 hF hk (by first | assumption | omega)) dL_holds_472 rfl qL_23 kX3_treaty rfl rfl (Nat.le_of_ble_eq_true rfl) rfl rfl ⟨(Nat.le_of_ble_eq_true rfl), (Nat.le_of_ble_eq_true rfl)⟩ (Nat.le_of_ble_eq_true rfl) ⟨rfl, rfl⟩ ⟨(Nat.le_of_ble_eq_true rfl), (Nat.le_of_ble_eq_true rfl)⟩ (fun r9 w9 hp9 => ?_)
        obtain ⟨rfl, mm, rfl, hF⟩ := hp9
        refine Z_iload 477 5 dL_holds_475 rfl rfl ?_
        refine Z_icmp_ne 480 484 dL_holds_477 rfl rfl (fun c477 => ?_) (fun c477 => absurd (fun z => e2 ((nI_eq (by omega) (by omega)).mp z)) c477)
        refine Z_iconst 485 (nI 0) dL_holds_484 rfl rfl ?_
        refine Z_istore 487 [(16, _), (15, _), (14, _), (13, _), (12, _), (11, _), (10, _), (9, _), (8, _), (7, _), (6, _), (5, _), (4, _), (3, _), (2, _), (1, _), (0, _)] dL_holds_485 rfl (Nat.le_of_ble_eq_true rfl) rfl ?_
        refine Z_iload 489 4 dL_holds_487 rfl rfl ?_
        refine Z_iload 491 0 dL_holds_489 rfl rfl ?_
        refine Z_if_eq 494 504 dL_holds_491 rfl rfl (fun c491 => ?_) (fun c491 => absurd (by decide) c491)
        refine Z_iconst 505 (nI 0) dL_holds_504 rfl rfl ?_
        refine Z_iadd 506 dL_holds_505 rfl ?_
        refine Z_top (v' := .int (nI (cBa m (i + 1) a))) (congrArg Value.int (cnt_s0 (p := fun j => decide (sAbout m 1 j (nI a) ∧ sBrk m 1 j (nI 0))) (fun z => nab (of_decide_eq_true z).1))) ?_
        refine Z_istore 508 [(12, _), (16, _), (15, _), (14, _), (13, _), (11, _), (10, _), (9, _), (8, _), (7, _), (6, _), (5, _), (4, _), (3, _), (2, _), (1, _), (0, _)] dL_holds_506 rfl (Nat.le_of_ble_eq_true rfl) rfl ?_
        refine Z_iload 510 4 dL_holds_508 rfl rfl ?_
        refine Z_iload 512 1 dL_holds_510 rfl rfl ?_
        refine Z_if_eq 515 525 dL_holds_512 rfl rfl (fun c512 => ?_) (fun c512 => absurd (by decide) c512)
        refine Z_iconst 526 (nI 0) dL_holds_525 rfl rfl ?_
        refine Z_iadd 527 dL_holds_526 rfl ?_
        refine Z_top (v' := .int (nI (cFa m (i + 1) a))) (congrArg Value.int (cnt_s0 (p := fun j => decide (sAbout m 1 j (nI a) ∧ sForce m 1 j)) (fun z => nab (of_decide_eq_true z).1))) ?_
        refine Z_istore 529 [(13, _), (12, _), (16, _), (15, _), (14, _), (11, _), (10, _), (9, _), (8, _), (7, _), (6, _), (5, _), (4, _), (3, _), (2, _), (1, _), (0, _)] dL_holds_527 rfl (Nat.le_of_ble_eq_true rfl) rfl ?_
        refine Z_iload 531 4 dL_holds_529 rfl rfl ?_
        refine Z_if_ne 534 592 dL_holds_531 rfl rfl (fun c531 => ?_) (fun c531 => ?_)
        · skip
          refine Z_iconst 593 (nI 1) dL_holds_592 rfl rfl ?_
          refine Z_goto 597 dL_holds_593 rfl ?_
          refine Z_top (v' := .int (bI (bdP m n a (i + 1) = true))) (congrArg Value.int (by first | exact bdT (bI_1 c531) | exact bdN (bI_0 (Classical.not_not.mp c531)) (fun z => hI.clp_N c538 z.1) | exact bdN (bI_0 (Classical.not_not.mp c531)) (fun z => e1 z.2.1) | exact bdN (bI_0 (Classical.not_not.mp c531)) (fun z => c561 (bI_t z.2.2.1)) | exact bdN (bI_0 (Classical.not_not.mp c531)) (fun z => c589 z.2.2.2) | exact bdY ⟨hI.clp_F c538, e1, bI_s (Classical.not_not.mp c561), Classical.not_not.mp c589⟩)) ?_
          refine Z_istore 599 [(14, _), (13, _), (12, _), (16, _), (15, _), (11, _), (10, _), (9, _), (8, _), (7, _), (6, _), (5, _), (4, _), (3, _), (2, _), (1, _), (0, _)] dL_holds_597 rfl (Nat.le_of_ble_eq_true rfl) rfl ?_
          refine Z_iinc 602 [(15, _), (14, _), (13, _), (12, _), (16, _), (11, _), (10, _), (9, _), (8, _), (7, _), (6, _), (5, _), (4, _), (3, _), (2, _), (1, _), (0, _)] 4 _ dL_holds_599 rfl (Nat.le_of_ble_eq_true rfl) rfl (nI_1 _) rfl ?_
          refine Z_goto 446 dL_holds_602 rfl ?_
          refine Z_lv [0, 1, 2, 3, 5, 6, 7, 8, 9, 10, 11, 12, 13, 14, 15, 16] rfl ?_
          exact ih (i + 1) (by omega) mm hF
        · skip
          refine Z_iload 536 8 dL_holds_534 rfl rfl ?_
          refine Z_bipush 538 (-4) dL_holds_536 rfl rfl ?_
          refine Z_icmp_eq 541 596 dL_holds_538 rfl rfl (fun c538 => ?_) (fun c538 => ?_)
          · skip
            refine Z_iconst 597 (nI 0) dL_holds_596 rfl rfl ?_
            refine Z_top (v' := .int (bI (bdP m n a (i + 1) = true))) (congrArg Value.int (by first | exact bdT (bI_1 c531) | exact bdN (bI_0 (Classical.not_not.mp c531)) (fun z => hI.clp_N c538 z.1) | exact bdN (bI_0 (Classical.not_not.mp c531)) (fun z => e1 z.2.1) | exact bdN (bI_0 (Classical.not_not.mp c531)) (fun z => c561 (bI_t z.2.2.1)) | exact bdN (bI_0 (Classical.not_not.mp c531)) (fun z => c589 z.2.2.2) | exact bdY ⟨hI.clp_F c538, e1, bI_s (Classical.not_not.mp c561), Classical.not_not.mp c589⟩)) ?_
            refine Z_istore 599 [(14, _), (13, _), (12, _), (16, _), (15, _), (11, _), (10, _), (9, _), (8, _), (7, _), (6, _), (5, _), (4, _), (3, _), (2, _), (1, _), (0, _)] dL_holds_597 rfl (Nat.le_of_ble_eq_true rfl) rfl ?_
            refine Z_iinc 602 [(15, _), (14, _), (13, _), (12, _), (16, _), (11, _), (10, _), (9, _), (8, _), (7, _), (6, _), (5, _), (4, _), (3, _), (2, _), (1, _), (0, _)] 4 _ dL_holds_599 rfl (Nat.le_of_ble_eq_true rfl) rfl (nI_1 _) rfl ?_
            refine Z_goto 446 dL_holds_602 rfl ?_
            refine Z_lv [0, 1, 2, 3, 5, 6, 7, 8, 9, 10, 11, 12, 13, 14, 15, 16] rfl ?_
            exact ih (i + 1) (by omega) mm hF
          · skip
            refine Z_aload_n 542 16 dL_holds_541 rfl rfl ?_
            refine Z_iload 544 3 dL_holds_542 rfl rfl ?_
            refine Z_iconst 545 (nI 0) dL_holds_544 rfl rfl ?_
            refine Z_callV 548 [_, _] 3 (v_treaty0 hF hk (by first | assumption | omega)) dL_holds_545 rfl qL_23 kX3_treaty rfl rfl (Nat.le_of_ble_eq_true rfl) rfl rfl ⟨(Nat.le_of_ble_eq_true rfl), (Nat.le_of_ble_eq_true rfl)⟩ (Nat.le_of_ble_eq_true rfl) ⟨rfl, rfl⟩ ⟨(Nat.le_of_ble_eq_true rfl), (Nat.le_of_ble_eq_true rfl)⟩ (fun r9 w9 hp9 => ?_)
            obtain ⟨rfl, mm, rfl, hF⟩ := hp9
            refine Z_iload 550 6 dL_holds_548 rfl rfl ?_
            refine Z_icmp_ne 553 596 dL_holds_550 rfl rfl (fun c550 => ?_) (fun c550 => absurd (fun z => e1 ((nI_eq (by omega) (by omega)).mp z)) c550)
            refine Z_iconst 597 (nI 0) dL_holds_596 rfl rfl ?_
            refine Z_top (v' := .int (bI (bdP m n a (i + 1) = true))) (congrArg Value.int (by first | exact bdT (bI_1 c531) | exact bdN (bI_0 (Classical.not_not.mp c531)) (fun z => hI.clp_N c538 z.1) | exact bdN (bI_0 (Classical.not_not.mp c531)) (fun z => e1 z.2.1) | exact bdN (bI_0 (Classical.not_not.mp c531)) (fun z => c561 (bI_t z.2.2.1)) | exact bdN (bI_0 (Classical.not_not.mp c531)) (fun z => c589 z.2.2.2) | exact bdY ⟨hI.clp_F c538, e1, bI_s (Classical.not_not.mp c561), Classical.not_not.mp c589⟩)) ?_
            refine Z_istore 599 [(14, _), (13, _), (12, _), (16, _), (15, _), (11, _), (10, _), (9, _), (8, _), (7, _), (6, _), (5, _), (4, _), (3, _), (2, _), (1, _), (0, _)] dL_holds_597 rfl (Nat.le_of_ble_eq_true rfl) rfl ?_
            refine Z_iinc 602 [(15, _), (14, _), (13, _), (12, _), (16, _), (11, _), (10, _), (9, _), (8, _), (7, _), (6, _), (5, _), (4, _), (3, _), (2, _), (1, _), (0, _)] 4 _ dL_holds_599 rfl (Nat.le_of_ble_eq_true rfl) rfl (nI_1 _) rfl ?_
            refine Z_goto 446 dL_holds_602 rfl ?_
            refine Z_lv [0, 1, 2, 3, 5, 6, 7, 8, 9, 10, 11, 12, 13, 14, 15, 16] rfl ?_
            exact ih (i + 1) (by omega) mm hF
      · have hab := ab_t hI hlt (Or.inr e2)
        refine Z_aload_n 457 15 dL_holds_456 rfl rfl ?_
        refine Z_iload 459 0 dL_holds_457 rfl rfl ?_
        refine Z_iconst 460 (nI 0) dL_holds_459 rfl rfl ?_
        refine Z_callV 463 [_, _] 3 (v_treaty0 hF hk (by first | assumption | omega)) dL_holds_460 rfl qL_23 kX3_treaty rfl rfl (Nat.le_of_ble_eq_true rfl) rfl rfl ⟨(Nat.le_of_ble_eq_true rfl), (Nat.le_of_ble_eq_true rfl)⟩ (Nat.le_of_ble_eq_true rfl) ⟨rfl, rfl⟩ ⟨(Nat.le_of_ble_eq_true rfl), (Nat.le_of_ble_eq_true rfl)⟩ (fun r9 w9 hp9 => ?_)
        obtain ⟨rfl, mm, rfl, hF⟩ := hp9
        refine Z_iload 465 5 dL_holds_463 rfl rfl ?_
        refine Z_icmp_eq 468 480 dL_holds_465 rfl rfl (fun c465 => absurd c465 (fun z => e1 ((nI_eq (by omega) (by omega)).mp z))) (fun c465 => ?_)
        refine Z_aload_n 469 15 dL_holds_468 rfl rfl ?_
        refine Z_iload 471 0 dL_holds_469 rfl rfl ?_
        refine Z_iconst 472 (nI 1) dL_holds_471 rfl rfl ?_
        refine Z_callV 475 [_, _] 3 (v_treaty1 hF hk (by first | assumption | omega)) dL_holds_472 rfl qL_23 kX3_treaty rfl rfl (Nat.le_of_ble_eq_true rfl) rfl rfl ⟨(Nat.le_of_ble_eq_true rfl), (Nat.le_of_ble_eq_true rfl)⟩ (Nat.le_of_ble_eq_true rfl) ⟨rfl, rfl⟩ ⟨(Nat.le_of_ble_eq_true rfl), (Nat.le_of_ble_eq_true rfl)⟩ (fun r9 w9 hp9 => ?_)
        obtain ⟨rfl, mm, rfl, hF⟩ := hp9
        refine Z_iload 477 5 dL_holds_475 rfl rfl ?_
        refine Z_icmp_ne 480 484 dL_holds_477 rfl rfl (fun c477 => absurd c477 (fun z => z (congrArg nI e2))) (fun c477 => ?_)
        refine Z_iconst 481 (nI 1) dL_holds_480 rfl rfl ?_
        refine Z_goto 485 dL_holds_481 rfl ?_
        refine Z_istore 487 [(16, _), (15, _), (14, _), (13, _), (12, _), (11, _), (10, _), (9, _), (8, _), (7, _), (6, _), (5, _), (4, _), (3, _), (2, _), (1, _), (0, _)] dL_holds_485 rfl (Nat.le_of_ble_eq_true rfl) rfl ?_
        refine Z_iload 489 4 dL_holds_487 rfl rfl ?_
        refine Z_iload 491 0 dL_holds_489 rfl rfl ?_
        refine Z_if_eq 494 504 dL_holds_491 rfl rfl (fun c491 => absurd c491 (by decide)) (fun c491 => ?_)
        refine Z_aload_n 495 16 dL_holds_494 rfl rfl ?_
        refine Z_iload 497 1 dL_holds_495 rfl rfl ?_
        refine Z_iconst 498 (nI 4) dL_holds_497 rfl rfl ?_
        refine Z_callV 501 [_, _] 3 (v_treaty4 hF hk (by first | assumption | omega)) dL_holds_498 rfl qL_23 kX3_treaty rfl rfl (Nat.le_of_ble_eq_true rfl) rfl rfl ⟨(Nat.le_of_ble_eq_true rfl), (Nat.le_of_ble_eq_true rfl)⟩ (Nat.le_of_ble_eq_true rfl) ⟨rfl, rfl⟩ ⟨(Nat.le_of_ble_eq_true rfl), (Nat.le_of_ble_eq_true rfl)⟩ (fun r9 w9 hp9 => ?_)
        obtain ⟨rfl, mm, rfl, hF⟩ := hp9
        refine Z_goto 505 dL_holds_501 rfl ?_
        refine Z_iadd 506 dL_holds_505 rfl ?_
        refine Z_top (v' := .int (nI (cBa m (i + 1) a))) (congrArg Value.int (cnt_sb (p := fun j => decide (sAbout m 1 j (nI a) ∧ sBrk m 1 j (nI 0))) ⟨fun z => (of_decide_eq_true z).2, fun z => decide_eq_true ⟨hab, z⟩⟩)) ?_
        refine Z_istore 508 [(12, _), (16, _), (15, _), (14, _), (13, _), (11, _), (10, _), (9, _), (8, _), (7, _), (6, _), (5, _), (4, _), (3, _), (2, _), (1, _), (0, _)] dL_holds_506 rfl (Nat.le_of_ble_eq_true rfl) rfl ?_
        refine Z_iload 510 4 dL_holds_508 rfl rfl ?_
        refine Z_iload 512 1 dL_holds_510 rfl rfl ?_
        refine Z_if_eq 515 525 dL_holds_512 rfl rfl (fun c512 => absurd c512 (by decide)) (fun c512 => ?_)
        refine Z_aload_n 516 16 dL_holds_515 rfl rfl ?_
        refine Z_iload 518 2 dL_holds_516 rfl rfl ?_
        refine Z_iconst 519 (nI 3) dL_holds_518 rfl rfl ?_
        refine Z_callV 522 [_, _] 3 (v_treaty3 hF hk (by first | assumption | omega)) dL_holds_519 rfl qL_23 kX3_treaty rfl rfl (Nat.le_of_ble_eq_true rfl) rfl rfl ⟨(Nat.le_of_ble_eq_true rfl), (Nat.le_of_ble_eq_true rfl)⟩ (Nat.le_of_ble_eq_true rfl) ⟨rfl, rfl⟩ ⟨(Nat.le_of_ble_eq_true rfl), (Nat.le_of_ble_eq_true rfl)⟩ (fun r9 w9 hp9 => ?_)
        obtain ⟨rfl, mm, rfl, hF⟩ := hp9
        refine Z_goto 526 dL_holds_522 rfl ?_
        refine Z_iadd 527 dL_holds_526 rfl ?_
        refine Z_top (v' := .int (nI (cFa m (i + 1) a))) (congrArg Value.int (cnt_sb (p := fun j => decide (sAbout m 1 j (nI a) ∧ sForce m 1 j)) ⟨fun z => (of_decide_eq_true z).2, fun z => decide_eq_true ⟨hab, z⟩⟩)) ?_
        refine Z_istore 529 [(13, _), (12, _), (16, _), (15, _), (14, _), (11, _), (10, _), (9, _), (8, _), (7, _), (6, _), (5, _), (4, _), (3, _), (2, _), (1, _), (0, _)] dL_holds_527 rfl (Nat.le_of_ble_eq_true rfl) rfl ?_
        refine Z_iload 531 4 dL_holds_529 rfl rfl ?_
        refine Z_if_ne 534 592 dL_holds_531 rfl rfl (fun c531 => ?_) (fun c531 => ?_)
        · skip
          refine Z_iconst 593 (nI 1) dL_holds_592 rfl rfl ?_
          refine Z_goto 597 dL_holds_593 rfl ?_
          refine Z_top (v' := .int (bI (bdP m n a (i + 1) = true))) (congrArg Value.int (by first | exact bdT (bI_1 c531) | exact bdN (bI_0 (Classical.not_not.mp c531)) (fun z => hI.clp_N c538 z.1) | exact bdN (bI_0 (Classical.not_not.mp c531)) (fun z => e1 z.2.1) | exact bdN (bI_0 (Classical.not_not.mp c531)) (fun z => c561 (bI_t z.2.2.1)) | exact bdN (bI_0 (Classical.not_not.mp c531)) (fun z => c589 z.2.2.2) | exact bdY ⟨hI.clp_F c538, e1, bI_s (Classical.not_not.mp c561), Classical.not_not.mp c589⟩)) ?_
          refine Z_istore 599 [(14, _), (13, _), (12, _), (16, _), (15, _), (11, _), (10, _), (9, _), (8, _), (7, _), (6, _), (5, _), (4, _), (3, _), (2, _), (1, _), (0, _)] dL_holds_597 rfl (Nat.le_of_ble_eq_true rfl) rfl ?_
          refine Z_iinc 602 [(15, _), (14, _), (13, _), (12, _), (16, _), (11, _), (10, _), (9, _), (8, _), (7, _), (6, _), (5, _), (4, _), (3, _), (2, _), (1, _), (0, _)] 4 _ dL_holds_599 rfl (Nat.le_of_ble_eq_true rfl) rfl (nI_1 _) rfl ?_
          refine Z_goto 446 dL_holds_602 rfl ?_
          refine Z_lv [0, 1, 2, 3, 5, 6, 7, 8, 9, 10, 11, 12, 13, 14, 15, 16] rfl ?_
          exact ih (i + 1) (by omega) mm hF
        · skip
          refine Z_iload 536 8 dL_holds_534 rfl rfl ?_
          refine Z_bipush 538 (-4) dL_holds_536 rfl rfl ?_
          refine Z_icmp_eq 541 596 dL_holds_538 rfl rfl (fun c538 => ?_) (fun c538 => ?_)
          · skip
            refine Z_iconst 597 (nI 0) dL_holds_596 rfl rfl ?_
            refine Z_top (v' := .int (bI (bdP m n a (i + 1) = true))) (congrArg Value.int (by first | exact bdT (bI_1 c531) | exact bdN (bI_0 (Classical.not_not.mp c531)) (fun z => hI.clp_N c538 z.1) | exact bdN (bI_0 (Classical.not_not.mp c531)) (fun z => e1 z.2.1) | exact bdN (bI_0 (Classical.not_not.mp c531)) (fun z => c561 (bI_t z.2.2.1)) | exact bdN (bI_0 (Classical.not_not.mp c531)) (fun z => c589 z.2.2.2) | exact bdY ⟨hI.clp_F c538, e1, bI_s (Classical.not_not.mp c561), Classical.not_not.mp c589⟩)) ?_
            refine Z_istore 599 [(14, _), (13, _), (12, _), (16, _), (15, _), (11, _), (10, _), (9, _), (8, _), (7, _), (6, _), (5, _), (4, _), (3, _), (2, _), (1, _), (0, _)] dL_holds_597 rfl (Nat.le_of_ble_eq_true rfl) rfl ?_
            refine Z_iinc 602 [(15, _), (14, _), (13, _), (12, _), (16, _), (11, _), (10, _), (9, _), (8, _), (7, _), (6, _), (5, _), (4, _), (3, _), (2, _), (1, _), (0, _)] 4 _ dL_holds_599 rfl (Nat.le_of_ble_eq_true rfl) rfl (nI_1 _) rfl ?_
            refine Z_goto 446 dL_holds_602 rfl ?_
            refine Z_lv [0, 1, 2, 3, 5, 6, 7, 8, 9, 10, 11, 12, 13, 14, 15, 16] rfl ?_
            exact ih (i + 1) (by omega) mm hF
          · skip
            refine Z_aload_n 542 16 dL_holds_541 rfl rfl ?_
            refine Z_iload 544 3 dL_holds_542 rfl rfl ?_
            refine Z_iconst 545 (nI 0) dL_holds_544 rfl rfl ?_
            refine Z_callV 548 [_, _] 3 (v_treaty0 hF hk (by first | assumption | omega)) dL_holds_545 rfl qL_23 kX3_treaty rfl rfl (Nat.le_of_ble_eq_true rfl) rfl rfl ⟨(Nat.le_of_ble_eq_true rfl), (Nat.le_of_ble_eq_true rfl)⟩ (Nat.le_of_ble_eq_true rfl) ⟨rfl, rfl⟩ ⟨(Nat.le_of_ble_eq_true rfl), (Nat.le_of_ble_eq_true rfl)⟩ (fun r9 w9 hp9 => ?_)
            obtain ⟨rfl, mm, rfl, hF⟩ := hp9
            refine Z_iload 550 6 dL_holds_548 rfl rfl ?_
            refine Z_icmp_ne 553 596 dL_holds_550 rfl rfl (fun c550 => ?_) (fun c550 => absurd (fun z => e1 ((nI_eq (by omega) (by omega)).mp z)) c550)
            refine Z_iconst 597 (nI 0) dL_holds_596 rfl rfl ?_
            refine Z_top (v' := .int (bI (bdP m n a (i + 1) = true))) (congrArg Value.int (by first | exact bdT (bI_1 c531) | exact bdN (bI_0 (Classical.not_not.mp c531)) (fun z => hI.clp_N c538 z.1) | exact bdN (bI_0 (Classical.not_not.mp c531)) (fun z => e1 z.2.1) | exact bdN (bI_0 (Classical.not_not.mp c531)) (fun z => c561 (bI_t z.2.2.1)) | exact bdN (bI_0 (Classical.not_not.mp c531)) (fun z => c589 z.2.2.2) | exact bdY ⟨hI.clp_F c538, e1, bI_s (Classical.not_not.mp c561), Classical.not_not.mp c589⟩)) ?_
            refine Z_istore 599 [(14, _), (13, _), (12, _), (16, _), (15, _), (11, _), (10, _), (9, _), (8, _), (7, _), (6, _), (5, _), (4, _), (3, _), (2, _), (1, _), (0, _)] dL_holds_597 rfl (Nat.le_of_ble_eq_true rfl) rfl ?_
            refine Z_iinc 602 [(15, _), (14, _), (13, _), (12, _), (16, _), (11, _), (10, _), (9, _), (8, _), (7, _), (6, _), (5, _), (4, _), (3, _), (2, _), (1, _), (0, _)] 4 _ dL_holds_599 rfl (Nat.le_of_ble_eq_true rfl) rfl (nI_1 _) rfl ?_
            refine Z_goto 446 dL_holds_602 rfl ?_
            refine Z_lv [0, 1, 2, 3, 5, 6, 7, 8, 9, 10, 11, 12, 13, 14, 15, 16] rfl ?_
            exact ih (i + 1) (by omega) mm hF
    · have hab := ab_t hI hlt (Or.inl e1)
      refine Z_aload_n 457 15 dL_holds_456 rfl rfl ?_
      refine Z_iload 459 0 dL_holds_457 rfl rfl ?_
      refine Z_iconst 460 (nI 0) dL_holds_459 rfl rfl ?_
      refine Z_callV 463 [_, _] 3 (v_treaty0 hF hk (by first | assumption | omega)) dL_holds_460 rfl qL_23 kX3_treaty rfl rfl (Nat.le_of_ble_eq_true rfl) rfl rfl ⟨(Nat.le_of_ble_eq_true rfl), (Nat.le_of_ble_eq_true rfl)⟩ (Nat.le_of_ble_eq_true rfl) ⟨rfl, rfl⟩ ⟨(Nat.le_of_ble_eq_true rfl), (Nat.le_of_ble_eq_true rfl)⟩ (fun r9 w9 hp9 => ?_)
      obtain ⟨rfl, mm, rfl, hF⟩ := hp9
      refine Z_iload 465 5 dL_holds_463 rfl rfl ?_
      refine Z_icmp_eq 468 480 dL_holds_465 rfl rfl (fun c465 => ?_) (fun c465 => absurd (congrArg nI e1) c465)
      refine Z_iconst 481 (nI 1) dL_holds_480 rfl rfl ?_
      refine Z_goto 485 dL_holds_481 rfl ?_
      refine Z_istore 487 [(16, _), (15, _), (14, _), (13, _), (12, _), (11, _), (10, _), (9, _), (8, _), (7, _), (6, _), (5, _), (4, _), (3, _), (2, _), (1, _), (0, _)] dL_holds_485 rfl (Nat.le_of_ble_eq_true rfl) rfl ?_
      refine Z_iload 489 4 dL_holds_487 rfl rfl ?_
      refine Z_iload 491 0 dL_holds_489 rfl rfl ?_
      refine Z_if_eq 494 504 dL_holds_491 rfl rfl (fun c491 => absurd c491 (by decide)) (fun c491 => ?_)
      refine Z_aload_n 495 16 dL_holds_494 rfl rfl ?_
      refine Z_iload 497 1 dL_holds_495 rfl rfl ?_
      refine Z_iconst 498 (nI 4) dL_holds_497 rfl rfl ?_
      refine Z_callV 501 [_, _] 3 (v_treaty4 hF hk (by first | assumption | omega)) dL_holds_498 rfl qL_23 kX3_treaty rfl rfl (Nat.le_of_ble_eq_true rfl) rfl rfl ⟨(Nat.le_of_ble_eq_true rfl), (Nat.le_of_ble_eq_true rfl)⟩ (Nat.le_of_ble_eq_true rfl) ⟨rfl, rfl⟩ ⟨(Nat.le_of_ble_eq_true rfl), (Nat.le_of_ble_eq_true rfl)⟩ (fun r9 w9 hp9 => ?_)
      obtain ⟨rfl, mm, rfl, hF⟩ := hp9
      refine Z_goto 505 dL_holds_501 rfl ?_
      refine Z_iadd 506 dL_holds_505 rfl ?_
      refine Z_top (v' := .int (nI (cBa m (i + 1) a))) (congrArg Value.int (cnt_sb (p := fun j => decide (sAbout m 1 j (nI a) ∧ sBrk m 1 j (nI 0))) ⟨fun z => (of_decide_eq_true z).2, fun z => decide_eq_true ⟨hab, z⟩⟩)) ?_
      refine Z_istore 508 [(12, _), (16, _), (15, _), (14, _), (13, _), (11, _), (10, _), (9, _), (8, _), (7, _), (6, _), (5, _), (4, _), (3, _), (2, _), (1, _), (0, _)] dL_holds_506 rfl (Nat.le_of_ble_eq_true rfl) rfl ?_
      refine Z_iload 510 4 dL_holds_508 rfl rfl ?_
      refine Z_iload 512 1 dL_holds_510 rfl rfl ?_
      refine Z_if_eq 515 525 dL_holds_512 rfl rfl (fun c512 => absurd c512 (by decide)) (fun c512 => ?_)
      refine Z_aload_n 516 16 dL_holds_515 rfl rfl ?_
      refine Z_iload 518 2 dL_holds_516 rfl rfl ?_
      refine Z_iconst 519 (nI 3) dL_holds_518 rfl rfl ?_
      refine Z_callV 522 [_, _] 3 (v_treaty3 hF hk (by first | assumption | omega)) dL_holds_519 rfl qL_23 kX3_treaty rfl rfl (Nat.le_of_ble_eq_true rfl) rfl rfl ⟨(Nat.le_of_ble_eq_true rfl), (Nat.le_of_ble_eq_true rfl)⟩ (Nat.le_of_ble_eq_true rfl) ⟨rfl, rfl⟩ ⟨(Nat.le_of_ble_eq_true rfl), (Nat.le_of_ble_eq_true rfl)⟩ (fun r9 w9 hp9 => ?_)
      obtain ⟨rfl, mm, rfl, hF⟩ := hp9
      refine Z_goto 526 dL_holds_522 rfl ?_
      refine Z_iadd 527 dL_holds_526 rfl ?_
      refine Z_top (v' := .int (nI (cFa m (i + 1) a))) (congrArg Value.int (cnt_sb (p := fun j => decide (sAbout m 1 j (nI a) ∧ sForce m 1 j)) ⟨fun z => (of_decide_eq_true z).2, fun z => decide_eq_true ⟨hab, z⟩⟩)) ?_
      refine Z_istore 529 [(13, _), (12, _), (16, _), (15, _), (14, _), (11, _), (10, _), (9, _), (8, _), (7, _), (6, _), (5, _), (4, _), (3, _), (2, _), (1, _), (0, _)] dL_holds_527 rfl (Nat.le_of_ble_eq_true rfl) rfl ?_
      refine Z_iload 531 4 dL_holds_529 rfl rfl ?_
      refine Z_if_ne 534 592 dL_holds_531 rfl rfl (fun c531 => ?_) (fun c531 => ?_)
      · skip
        refine Z_iconst 593 (nI 1) dL_holds_592 rfl rfl ?_
        refine Z_goto 597 dL_holds_593 rfl ?_
        refine Z_top (v' := .int (bI (bdP m n a (i + 1) = true))) (congrArg Value.int (by first | exact bdT (bI_1 c531) | exact bdN (bI_0 (Classical.not_not.mp c531)) (fun z => hI.clp_N c538 z.1) | exact bdN (bI_0 (Classical.not_not.mp c531)) (fun z => e1 z.2.1) | exact bdN (bI_0 (Classical.not_not.mp c531)) (fun z => c561 (bI_t z.2.2.1)) | exact bdN (bI_0 (Classical.not_not.mp c531)) (fun z => c589 z.2.2.2) | exact bdY ⟨hI.clp_F c538, e1, bI_s (Classical.not_not.mp c561), Classical.not_not.mp c589⟩)) ?_
        refine Z_istore 599 [(14, _), (13, _), (12, _), (16, _), (15, _), (11, _), (10, _), (9, _), (8, _), (7, _), (6, _), (5, _), (4, _), (3, _), (2, _), (1, _), (0, _)] dL_holds_597 rfl (Nat.le_of_ble_eq_true rfl) rfl ?_
        refine Z_iinc 602 [(15, _), (14, _), (13, _), (12, _), (16, _), (11, _), (10, _), (9, _), (8, _), (7, _), (6, _), (5, _), (4, _), (3, _), (2, _), (1, _), (0, _)] 4 _ dL_holds_599 rfl (Nat.le_of_ble_eq_true rfl) rfl (nI_1 _) rfl ?_
        refine Z_goto 446 dL_holds_602 rfl ?_
        refine Z_lv [0, 1, 2, 3, 5, 6, 7, 8, 9, 10, 11, 12, 13, 14, 15, 16] rfl ?_
        exact ih (i + 1) (by omega) mm hF
      · skip
        refine Z_iload 536 8 dL_holds_534 rfl rfl ?_
        refine Z_bipush 538 (-4) dL_holds_536 rfl rfl ?_
        refine Z_icmp_eq 541 596 dL_holds_538 rfl rfl (fun c538 => ?_) (fun c538 => ?_)
        · skip
          refine Z_iconst 597 (nI 0) dL_holds_596 rfl rfl ?_
          refine Z_top (v' := .int (bI (bdP m n a (i + 1) = true))) (congrArg Value.int (by first | exact bdT (bI_1 c531) | exact bdN (bI_0 (Classical.not_not.mp c531)) (fun z => hI.clp_N c538 z.1) | exact bdN (bI_0 (Classical.not_not.mp c531)) (fun z => e1 z.2.1) | exact bdN (bI_0 (Classical.not_not.mp c531)) (fun z => c561 (bI_t z.2.2.1)) | exact bdN (bI_0 (Classical.not_not.mp c531)) (fun z => c589 z.2.2.2) | exact bdY ⟨hI.clp_F c538, e1, bI_s (Classical.not_not.mp c561), Classical.not_not.mp c589⟩)) ?_
          refine Z_istore 599 [(14, _), (13, _), (12, _), (16, _), (15, _), (11, _), (10, _), (9, _), (8, _), (7, _), (6, _), (5, _), (4, _), (3, _), (2, _), (1, _), (0, _)] dL_holds_597 rfl (Nat.le_of_ble_eq_true rfl) rfl ?_
          refine Z_iinc 602 [(15, _), (14, _), (13, _), (12, _), (16, _), (11, _), (10, _), (9, _), (8, _), (7, _), (6, _), (5, _), (4, _), (3, _), (2, _), (1, _), (0, _)] 4 _ dL_holds_599 rfl (Nat.le_of_ble_eq_true rfl) rfl (nI_1 _) rfl ?_
          refine Z_goto 446 dL_holds_602 rfl ?_
          refine Z_lv [0, 1, 2, 3, 5, 6, 7, 8, 9, 10, 11, 12, 13, 14, 15, 16] rfl ?_
          exact ih (i + 1) (by omega) mm hF
        · skip
          refine Z_aload_n 542 16 dL_holds_541 rfl rfl ?_
          refine Z_iload 544 3 dL_holds_542 rfl rfl ?_
          refine Z_iconst 545 (nI 0) dL_holds_544 rfl rfl ?_
          refine Z_callV 548 [_, _] 3 (v_treaty0 hF hk (by first | assumption | omega)) dL_holds_545 rfl qL_23 kX3_treaty rfl rfl (Nat.le_of_ble_eq_true rfl) rfl rfl ⟨(Nat.le_of_ble_eq_true rfl), (Nat.le_of_ble_eq_true rfl)⟩ (Nat.le_of_ble_eq_true rfl) ⟨rfl, rfl⟩ ⟨(Nat.le_of_ble_eq_true rfl), (Nat.le_of_ble_eq_true rfl)⟩ (fun r9 w9 hp9 => ?_)
          obtain ⟨rfl, mm, rfl, hF⟩ := hp9
          refine Z_iload 550 6 dL_holds_548 rfl rfl ?_
          refine Z_icmp_ne 553 596 dL_holds_550 rfl rfl (fun c550 => absurd c550 (fun z => z (congrArg nI e1))) (fun c550 => ?_)
          refine Z_aload_n 554 16 dL_holds_553 rfl rfl ?_
          refine Z_iload 556 3 dL_holds_554 rfl rfl ?_
          refine Z_iconst 557 (nI 3) dL_holds_556 rfl rfl ?_
          refine Z_callV 560 [_, _] 3 (v_treaty3 hF hk (by first | assumption | omega)) dL_holds_557 rfl qL_23 kX3_treaty rfl rfl (Nat.le_of_ble_eq_true rfl) rfl rfl ⟨(Nat.le_of_ble_eq_true rfl), (Nat.le_of_ble_eq_true rfl)⟩ (Nat.le_of_ble_eq_true rfl) ⟨rfl, rfl⟩ ⟨(Nat.le_of_ble_eq_true rfl), (Nat.le_of_ble_eq_true rfl)⟩ (fun r9 w9 hp9 => ?_)
          obtain ⟨rfl, mm, rfl, hF⟩ := hp9
          refine Z_iconst 561 (nI 1) dL_holds_560 rfl rfl ?_
          refine Z_icmp_ne 564 596 dL_holds_561 rfl rfl (fun c561 => ?_) (fun c561 => ?_)
          · skip
            refine Z_iconst 597 (nI 0) dL_holds_596 rfl rfl ?_
            refine Z_top (v' := .int (bI (bdP m n a (i + 1) = true))) (congrArg Value.int (by first | exact bdT (bI_1 c531) | exact bdN (bI_0 (Classical.not_not.mp c531)) (fun z => hI.clp_N c538 z.1) | exact bdN (bI_0 (Classical.not_not.mp c531)) (fun z => e1 z.2.1) | exact bdN (bI_0 (Classical.not_not.mp c531)) (fun z => c561 (bI_t z.2.2.1)) | exact bdN (bI_0 (Classical.not_not.mp c531)) (fun z => c589 z.2.2.2) | exact bdY ⟨hI.clp_F c538, e1, bI_s (Classical.not_not.mp c561), Classical.not_not.mp c589⟩)) ?_
            refine Z_istore 599 [(14, _), (13, _), (12, _), (16, _), (15, _), (11, _), (10, _), (9, _), (8, _), (7, _), (6, _), (5, _), (4, _), (3, _), (2, _), (1, _), (0, _)] dL_holds_597 rfl (Nat.le_of_ble_eq_true rfl) rfl ?_
            refine Z_iinc 602 [(15, _), (14, _), (13, _), (12, _), (16, _), (11, _), (10, _), (9, _), (8, _), (7, _), (6, _), (5, _), (4, _), (3, _), (2, _), (1, _), (0, _)] 4 _ dL_holds_599 rfl (Nat.le_of_ble_eq_true rfl) rfl (nI_1 _) rfl ?_
            refine Z_goto 446 dL_holds_602 rfl ?_
            refine Z_lv [0, 1, 2, 3, 5, 6, 7, 8, 9, 10, 11, 12, 13, 14, 15, 16] rfl ?_
            exact ih (i + 1) (by omega) mm hF
          · skip
            refine Z_aload_n 565 16 dL_holds_564 rfl rfl ?_
            refine Z_aload_n 566 16 dL_holds_565 rfl rfl ?_
            refine Z_iload 568 3 dL_holds_566 rfl rfl ?_
            refine Z_iconst 569 (nI 1) dL_holds_568 rfl rfl ?_
            refine Z_callV 572 [_, _] 3 (v_treaty1 hF hk (by first | assumption | omega)) dL_holds_569 rfl qL_23 kX3_treaty rfl rfl (Nat.le_of_ble_eq_true rfl) rfl rfl ⟨(Nat.le_of_ble_eq_true rfl), (Nat.le_of_ble_eq_true rfl)⟩ (Nat.le_of_ble_eq_true rfl) ⟨rfl, rfl⟩ ⟨(Nat.le_of_ble_eq_true rfl), (Nat.le_of_ble_eq_true rfl)⟩ (fun r9 w9 hp9 => ?_)
            obtain ⟨rfl, mm, rfl, hF⟩ := hp9
            refine Z_iconst 573 (nI 4) dL_holds_572 rfl rfl ?_
            refine Z_callV 576 [_, _] 3 (v_hedge4 hF g (by first | assumption | omega)) dL_holds_573 rfl qL_19 kX3_hedge rfl rfl (Nat.le_of_ble_eq_true rfl) rfl rfl ⟨(Nat.le_of_ble_eq_true rfl), (Nat.le_of_ble_eq_true rfl)⟩ (Nat.le_of_ble_eq_true rfl) ⟨rfl, rfl⟩ ⟨(Nat.le_of_ble_eq_true rfl), (Nat.le_of_ble_eq_true rfl)⟩ (fun r9 w9 hp9 => ?_)
            obtain ⟨rfl, mm, rfl, hF⟩ := hp9
            refine Z_aload_n 577 16 dL_holds_576 rfl rfl ?_
            refine Z_iload 579 3 dL_holds_577 rfl rfl ?_
            refine Z_iconst 580 (nI 2) dL_holds_579 rfl rfl ?_
            refine Z_callV 583 [_, _] 3 (v_treaty2 hF hk (by first | assumption | omega)) dL_holds_580 rfl qL_23 kX3_treaty rfl rfl (Nat.le_of_ble_eq_true rfl) rfl rfl ⟨(Nat.le_of_ble_eq_true rfl), (Nat.le_of_ble_eq_true rfl)⟩ (Nat.le_of_ble_eq_true rfl) ⟨rfl, rfl⟩ ⟨(Nat.le_of_ble_eq_true rfl), (Nat.le_of_ble_eq_true rfl)⟩ (fun r9 w9 hp9 => ?_)
            obtain ⟨rfl, mm, rfl, hF⟩ := hp9
            refine Z_iadd 584 dL_holds_583 rfl ?_
            refine Z_bipush 586 (nI 100) dL_holds_584 rfl rfl ?_
            refine Z_isub 587 dL_holds_586 rfl ?_
            refine Z_top (v' := .int (hd4 m n (sO m 1 i) + m 8 i)) (congrArg Value.int (by rw [← Int32.add_assoc, i32_as])) ?_
            refine Z_iload 589 5 dL_holds_587 rfl rfl ?_
            refine Z_icmp_ne 592 596 dL_holds_589 rfl rfl (fun c589 => ?_) (fun c589 => ?_)
            · skip
              refine Z_iconst 597 (nI 0) dL_holds_596 rfl rfl ?_
              refine Z_top (v' := .int (bI (bdP m n a (i + 1) = true))) (congrArg Value.int (by first | exact bdT (bI_1 c531) | exact bdN (bI_0 (Classical.not_not.mp c531)) (fun z => hI.clp_N c538 z.1) | exact bdN (bI_0 (Classical.not_not.mp c531)) (fun z => e1 z.2.1) | exact bdN (bI_0 (Classical.not_not.mp c531)) (fun z => c561 (bI_t z.2.2.1)) | exact bdN (bI_0 (Classical.not_not.mp c531)) (fun z => c589 z.2.2.2) | exact bdY ⟨hI.clp_F c538, e1, bI_s (Classical.not_not.mp c561), Classical.not_not.mp c589⟩)) ?_
              refine Z_istore 599 [(14, _), (13, _), (12, _), (16, _), (15, _), (11, _), (10, _), (9, _), (8, _), (7, _), (6, _), (5, _), (4, _), (3, _), (2, _), (1, _), (0, _)] dL_holds_597 rfl (Nat.le_of_ble_eq_true rfl) rfl ?_
              refine Z_iinc 602 [(15, _), (14, _), (13, _), (12, _), (16, _), (11, _), (10, _), (9, _), (8, _), (7, _), (6, _), (5, _), (4, _), (3, _), (2, _), (1, _), (0, _)] 4 _ dL_holds_599 rfl (Nat.le_of_ble_eq_true rfl) rfl (nI_1 _) rfl ?_
              refine Z_goto 446 dL_holds_602 rfl ?_
              refine Z_lv [0, 1, 2, 3, 5, 6, 7, 8, 9, 10, 11, 12, 13, 14, 15, 16] rfl ?_
              exact ih (i + 1) (by omega) mm hF
            · skip
              refine Z_iconst 593 (nI 1) dL_holds_592 rfl rfl ?_
              refine Z_goto 597 dL_holds_593 rfl ?_
              refine Z_top (v' := .int (bI (bdP m n a (i + 1) = true))) (congrArg Value.int (by first | exact bdT (bI_1 c531) | exact bdN (bI_0 (Classical.not_not.mp c531)) (fun z => hI.clp_N c538 z.1) | exact bdN (bI_0 (Classical.not_not.mp c531)) (fun z => e1 z.2.1) | exact bdN (bI_0 (Classical.not_not.mp c531)) (fun z => c561 (bI_t z.2.2.1)) | exact bdN (bI_0 (Classical.not_not.mp c531)) (fun z => c589 z.2.2.2) | exact bdY ⟨hI.clp_F c538, e1, bI_s (Classical.not_not.mp c561), Classical.not_not.mp c589⟩)) ?_
              refine Z_istore 599 [(14, _), (13, _), (12, _), (16, _), (15, _), (11, _), (10, _), (9, _), (8, _), (7, _), (6, _), (5, _), (4, _), (3, _), (2, _), (1, _), (0, _)] dL_holds_597 rfl (Nat.le_of_ble_eq_true rfl) rfl ?_
              refine Z_iinc 602 [(15, _), (14, _), (13, _), (12, _), (16, _), (11, _), (10, _), (9, _), (8, _), (7, _), (6, _), (5, _), (4, _), (3, _), (2, _), (1, _), (0, _)] 4 _ dL_holds_599 rfl (Nat.le_of_ble_eq_true rfl) rfl (nI_1 _) rfl ?_
              refine Z_goto 446 dL_holds_602 rfl ?_
              refine Z_lv [0, 1, 2, 3, 5, 6, 7, 8, 9, 10, 11, 12, 13, 14, 15, 16] rfl ?_
              exact ih (i + 1) (by omega) mm hF

set_option maxRecDepth 100000 in
set_option maxHeartbeats 4000000 in
theorem lL_holds2 {G : zG} {l : Launch} {h : Nat → Nat} {m : zM} {K n : Nat} (hI : Inv K m n) : ∀ (t i : Nat), i + t = 8 → ∀ mm : zM, Fsv m mm → Z G mL_holds (fun _ => True) (zN G (fun r w => r = some (.int (nI 1)) ∧ ∃ m', w = zw h m' ∧ Fsv m m') 0 0) l 0 0 (zw h mm) 413 [(10, .int (nI i)), (9, .int (nI 1)), (8, .int (clp m n)), (7, .int (sumI (fun j => m 2 j - hd4 m n j) i)), (6, .int (nI (cB m n))), (5, .int (nI (cF m n))), (4, .int (sumI (m 5) i)), (3, .int (nI (cnt (fun j => decide (sNest m 1 j)) i))), (2, .int (sumI (m 2) i)), (1, .int (m 1 9)), (0, .ref (G.1 + 0))] [] := by
  intro t
  induction t with
  | zero =>
    intro i hi mm hF
    have e9 : i = 8 := by omega
    subst e9
    have hn := hI.n14
    have hk := hI.ok
    have g := hI.g
    refine Z_iload 415 0 dL_holds_413 rfl rfl ?_
    refine Z_bipush 417 (nI 8) dL_holds_415 rfl rfl ?_
    refine Z_icmp_ge 420 822 dL_holds_417 rfl rfl (fun c417 => ?_) (fun c417 => absurd (nI_le (Nat.le_refl _) (by omega)) c417)
    refine Z_lv [1, 2, 3, 4, 5, 6, 7, 8, 10] rfl ?_
    exact lL_holds822 hI mm hF
  | succ t ih =>
    intro i hi mm hF
    have hlt : i < 8 := by omega
    have hn := hI.n14
    have hk := hI.ok
    have g := hI.g
    refine Z_iload 415 0 dL_holds_413 rfl rfl ?_
    refine Z_bipush 417 (nI 8) dL_holds_415 rfl rfl ?_
    refine Z_icmp_ge 420 822 dL_holds_417 rfl rfl (fun c417 => absurd c417 (nI_ge hlt (by omega))) (fun c417 => ?_)
    refine Z_iload 422 1 dL_holds_420 rfl rfl ?_
    refine Z_if_eq 425 822 dL_holds_422 rfl rfl (fun c422 => absurd c422 (by decide)) (fun c422 => ?_)
    refine Z_aload_n 426 10 dL_holds_425 rfl rfl ?_
    refine Z_iload 428 0 dL_holds_426 rfl rfl ?_
    refine Z_iconst 429 (nI 4) dL_holds_428 rfl rfl ?_
    refine Z_callV 432 [_, _] 3 (v_hedge4 hF g (by first | assumption | omega)) dL_holds_429 rfl qL_19 kX3_hedge rfl rfl (Nat.le_of_ble_eq_true rfl) rfl rfl ⟨(Nat.le_of_ble_eq_true rfl), (Nat.le_of_ble_eq_true rfl)⟩ (Nat.le_of_ble_eq_true rfl) ⟨rfl, rfl⟩ ⟨(Nat.le_of_ble_eq_true rfl), (Nat.le_of_ble_eq_true rfl)⟩ (fun r9 w9 hp9 => ?_)
    obtain ⟨rfl, mm, rfl, hF⟩ := hp9
    refine Z_istore 434 [(11, _), (10, _), (9, _), (8, _), (7, _), (6, _), (5, _), (4, _), (3, _), (2, _), (1, _), (0, _)] dL_holds_432 rfl (Nat.le_of_ble_eq_true rfl) rfl ?_
    refine Z_iconst 435 (nI 0) dL_holds_434 rfl rfl ?_
    refine Z_istore 437 [(12, _), (11, _), (10, _), (9, _), (8, _), (7, _), (6, _), (5, _), (4, _), (3, _), (2, _), (1, _), (0, _)] dL_holds_435 rfl (Nat.le_of_ble_eq_true rfl) rfl ?_
    refine Z_iconst 438 (nI 0) dL_holds_437 rfl rfl ?_
    refine Z_istore 440 [(13, _), (12, _), (11, _), (10, _), (9, _), (8, _), (7, _), (6, _), (5, _), (4, _), (3, _), (2, _), (1, _), (0, _)] dL_holds_438 rfl (Nat.le_of_ble_eq_true rfl) rfl ?_
    refine Z_iconst 441 (nI 0) dL_holds_440 rfl rfl ?_
    refine Z_istore 443 [(14, _), (13, _), (12, _), (11, _), (10, _), (9, _), (8, _), (7, _), (6, _), (5, _), (4, _), (3, _), (2, _), (1, _), (0, _)] dL_holds_441 rfl (Nat.le_of_ble_eq_true rfl) rfl ?_
    refine Z_iconst 444 (nI 0) dL_holds_443 rfl rfl ?_
    refine Z_istore 446 [(15, _), (14, _), (13, _), (12, _), (11, _), (10, _), (9, _), (8, _), (7, _), (6, _), (5, _), (4, _), (3, _), (2, _), (1, _), (0, _)] dL_holds_444 rfl (Nat.le_of_ble_eq_true rfl) rfl ?_
    refine lL_holds3 hI i hlt (fun mm hF => ?_) n 0 (by omega) mm hF
    have K : ∀ mm : zM, Fsv m mm → Z G mL_holds (fun _ => True) (zN G (fun r w => r = some (.int (nI 1)) ∧ ∃ m', w = zw h m' ∧ Fsv m m') 0 0) l 0 0 (zw h mm) 722 [(7, .int (sumI (fun j => m 2 j - hd4 m n j) (i + 1))), (4, .int (sumI (m 5) (i + 1))), (3, .int (nI (cnt (fun j => decide (sNest m 1 j)) (i + 1)))), (2, .int (sumI (m 2) (i + 1))), (14, .int (bI (bdP m n i n = true))), (13, .int (nI (cFa m n i))), (12, .int (nI (cBa m n i))), (11, .int (hd4 m n i)), (10, .int (nI i)), (9, .int (nI 1)), (8, .int (clp m n)), (6, .int (nI (cB m n))), (5, .int (nI (cF m n))), (1, .int (m 1 9)), (0, .ref (G.1 + 0))] [] := by
      intro mm hF
      refine Z_aload_n 723 14 dL_holds_722 rfl rfl ?_
      refine Z_iload 725 8 dL_holds_723 rfl rfl ?_
      refine Z_iconst 726 (nI 5) dL_holds_725 rfl rfl ?_
      refine Z_callV 729 [_, _] 3 (v_hedge5 hF hk (by first | assumption | omega)) dL_holds_726 rfl qL_19 kX3_hedge rfl rfl (Nat.le_of_ble_eq_true rfl) rfl rfl ⟨(Nat.le_of_ble_eq_true rfl), (Nat.le_of_ble_eq_true rfl)⟩ (Nat.le_of_ble_eq_true rfl) ⟨rfl, rfl⟩ ⟨(Nat.le_of_ble_eq_true rfl), (Nat.le_of_ble_eq_true rfl)⟩ (fun r9 w9 hp9 => ?_)
      obtain ⟨rfl, mm, rfl, hF⟩ := hp9
      refine Z_iload 731 6 dL_holds_729 rfl rfl ?_
      refine Z_icmp_ne 734 813 dL_holds_731 rfl rfl (fun c731 => absurd c731 (fun z => z rfl)) (fun c731 => ?_)
      refine Z_aload_n 735 14 dL_holds_734 rfl rfl ?_
      refine Z_iload 737 8 dL_holds_735 rfl rfl ?_
      refine Z_bipush 739 (nI 6) dL_holds_737 rfl rfl ?_
      refine Z_callV 742 [_, _] 3 (v_hedge6 hF hk (by first | assumption | omega)) dL_holds_739 rfl qL_19 kX3_hedge rfl rfl (Nat.le_of_ble_eq_true rfl) rfl rfl ⟨(Nat.le_of_ble_eq_true rfl), (Nat.le_of_ble_eq_true rfl)⟩ (Nat.le_of_ble_eq_true rfl) ⟨rfl, rfl⟩ ⟨(Nat.le_of_ble_eq_true rfl), (Nat.le_of_ble_eq_true rfl)⟩ (fun r9 w9 hp9 => ?_)
      obtain ⟨rfl, mm, rfl, hF⟩ := hp9
      refine Z_iload 744 5 dL_holds_742 rfl rfl ?_
      refine Z_icmp_ne 747 813 dL_holds_744 rfl rfl (fun c744 => absurd c744 (fun z => z rfl)) (fun c744 => ?_)
      refine Z_aload_n 748 14 dL_holds_747 rfl rfl ?_
      refine Z_iload 750 8 dL_holds_748 rfl rfl ?_
      refine Z_bipush 752 (nI 7) dL_holds_750 rfl rfl ?_
      refine Z_callV 755 [_, _] 3 (v_hedge7 hF hk (by first | assumption | omega)) dL_holds_752 rfl qL_19 kX3_hedge rfl rfl (Nat.le_of_ble_eq_true rfl) rfl rfl ⟨(Nat.le_of_ble_eq_true rfl), (Nat.le_of_ble_eq_true rfl)⟩ (Nat.le_of_ble_eq_true rfl) ⟨rfl, rfl⟩ ⟨(Nat.le_of_ble_eq_true rfl), (Nat.le_of_ble_eq_true rfl)⟩ (fun r9 w9 hp9 => ?_)
      obtain ⟨rfl, mm, rfl, hF⟩ := hp9
      refine Z_if_lt 758 813 dL_holds_755 rfl rfl (fun c755 => absurd c755 (n0 (hI.cc hlt).1)) (fun c755 => ?_)
      refine Z_iload 760 10 dL_holds_758 rfl rfl ?_
      refine Z_bipush 762 (-4) dL_holds_760 rfl rfl ?_
      refine Z_icmp_ne 765 775 dL_holds_762 rfl rfl (fun c762 => ?_) (fun c762 => ?_)
      · skip
        refine Z_iload 777 7 dL_holds_775 rfl rfl ?_
        refine Z_if_lt 780 813 dL_holds_777 rfl rfl (fun c777 => absurd c777 (hI.hd4_0 (hI.clp_F c762) hlt)) (fun c777 => ?_)
        refine Z_iload 782 7 dL_holds_780 rfl rfl ?_
        refine Z_aload_n 783 14 dL_holds_782 rfl rfl ?_
        refine Z_iload 785 8 dL_holds_783 rfl rfl ?_
        refine Z_iconst 786 (nI 0) dL_holds_785 rfl rfl ?_
        refine Z_callV 789 [_, _] 3 (v_hedge0 hF hk (by first | assumption | omega)) dL_holds_786 rfl qL_19 kX3_hedge rfl rfl (Nat.le_of_ble_eq_true rfl) rfl rfl ⟨(Nat.le_of_ble_eq_true rfl), (Nat.le_of_ble_eq_true rfl)⟩ (Nat.le_of_ble_eq_true rfl) ⟨rfl, rfl⟩ ⟨(Nat.le_of_ble_eq_true rfl), (Nat.le_of_ble_eq_true rfl)⟩ (fun r9 w9 hp9 => ?_)
        obtain ⟨rfl, mm, rfl, hF⟩ := hp9
        refine Z_icmp_eq 792 809 dL_holds_789 rfl rfl (fun c789 => ?_) (fun c789 => ?_)
        · skip
          refine Z_iconst 810 (nI 1) dL_holds_809 rfl rfl ?_
          refine Z_goto 814 dL_holds_810 rfl ?_
          refine Z_istore 816 [(9, _), (7, _), (4, _), (3, _), (2, _), (14, _), (13, _), (12, _), (11, _), (10, _), (8, _), (6, _), (5, _), (1, _), (0, _)] dL_holds_814 rfl (Nat.le_of_ble_eq_true rfl) rfl ?_
          refine Z_iinc 819 [(10, _), (9, _), (7, _), (4, _), (3, _), (2, _), (14, _), (13, _), (12, _), (11, _), (8, _), (6, _), (5, _), (1, _), (0, _)] 9 _ dL_holds_816 rfl (Nat.le_of_ble_eq_true rfl) rfl (nI_1 _) rfl ?_
          refine Z_goto 413 dL_holds_819 rfl ?_
          refine Z_lv [0, 1, 10, 2, 11, 12, 3, 4, 5, 13, 14] rfl ?_
          exact ih (i + 1) (by omega) mm hF
        · skip
          refine Z_iload 794 7 dL_holds_792 rfl rfl ?_
          refine Z_aload_n 795 14 dL_holds_794 rfl rfl ?_
          refine Z_iload 797 8 dL_holds_795 rfl rfl ?_
          refine Z_iconst 798 (nI 0) dL_holds_797 rfl rfl ?_
          refine Z_callV 801 [_, _] 3 (v_hedge0 hF hk (by first | assumption | omega)) dL_holds_798 rfl qL_19 kX3_hedge rfl rfl (Nat.le_of_ble_eq_true rfl) rfl rfl ⟨(Nat.le_of_ble_eq_true rfl), (Nat.le_of_ble_eq_true rfl)⟩ (Nat.le_of_ble_eq_true rfl) ⟨rfl, rfl⟩ ⟨(Nat.le_of_ble_eq_true rfl), (Nat.le_of_ble_eq_true rfl)⟩ (fun r9 w9 hp9 => ?_)
          obtain ⟨rfl, mm, rfl, hF⟩ := hp9
          refine Z_icmp_ge 804 813 dL_holds_801 rfl rfl (fun c801 => absurd c801 (hI.hd4_lt (hI.clp_F c762) hlt c789)) (fun c801 => ?_)
          refine Z_iload 806 4 dL_holds_804 rfl rfl ?_
          refine Z_if_eq 809 813 dL_holds_806 rfl rfl (fun c806 => absurd c806 (bI_ne (hI.bdP_all (hI.clp_F c762) hlt c789))) (fun c806 => ?_)
          refine Z_iconst 810 (nI 1) dL_holds_809 rfl rfl ?_
          refine Z_goto 814 dL_holds_810 rfl ?_
          refine Z_istore 816 [(9, _), (7, _), (4, _), (3, _), (2, _), (14, _), (13, _), (12, _), (11, _), (10, _), (8, _), (6, _), (5, _), (1, _), (0, _)] dL_holds_814 rfl (Nat.le_of_ble_eq_true rfl) rfl ?_
          refine Z_iinc 819 [(10, _), (9, _), (7, _), (4, _), (3, _), (2, _), (14, _), (13, _), (12, _), (11, _), (8, _), (6, _), (5, _), (1, _), (0, _)] 9 _ dL_holds_816 rfl (Nat.le_of_ble_eq_true rfl) rfl (nI_1 _) rfl ?_
          refine Z_goto 413 dL_holds_819 rfl ?_
          refine Z_lv [0, 1, 10, 2, 11, 12, 3, 4, 5, 13, 14] rfl ?_
          exact ih (i + 1) (by omega) mm hF
      · skip
        refine Z_iload 767 7 dL_holds_765 rfl rfl ?_
        refine Z_bipush 769 (-4) dL_holds_767 rfl rfl ?_
        refine Z_icmp_ne 772 813 dL_holds_769 rfl rfl (fun c769 => absurd c769 (fun z => z (hd4_n (hI.clp_N (Classical.not_not.mp c762)) i))) (fun c769 => ?_)
        refine Z_goto 809 dL_holds_772 rfl ?_
        refine Z_iconst 810 (nI 1) dL_holds_809 rfl rfl ?_
        refine Z_goto 814 dL_holds_810 rfl ?_
        refine Z_istore 816 [(9, _), (7, _), (4, _), (3, _), (2, _), (14, _), (13, _), (12, _), (11, _), (10, _), (8, _), (6, _), (5, _), (1, _), (0, _)] dL_holds_814 rfl (Nat.le_of_ble_eq_true rfl) rfl ?_
        refine Z_iinc 819 [(10, _), (9, _), (7, _), (4, _), (3, _), (2, _), (14, _), (13, _), (12, _), (11, _), (8, _), (6, _), (5, _), (1, _), (0, _)] 9 _ dL_holds_816 rfl (Nat.le_of_ble_eq_true rfl) rfl (nI_1 _) rfl ?_
        refine Z_goto 413 dL_holds_819 rfl ?_
        refine Z_lv [0, 1, 10, 2, 11, 12, 3, 4, 5, 13, 14] rfl ?_
        exact ih (i + 1) (by omega) mm hF
    refine Z_iload_n 606 12 dL_holds_605 rfl rfl ?_
    refine Z_aload_n 607 14 dL_holds_606 rfl rfl ?_
    refine Z_iload 609 4 dL_holds_607 rfl rfl ?_
    refine Z_iconst 610 (nI 0) dL_holds_609 rfl rfl ?_
    refine Z_callV 613 [_, _] 3 (v_hedge0 hF hk (by first | assumption | omega)) dL_holds_610 rfl qL_19 kX3_hedge rfl rfl (Nat.le_of_ble_eq_true rfl) rfl rfl ⟨(Nat.le_of_ble_eq_true rfl), (Nat.le_of_ble_eq_true rfl)⟩ (Nat.le_of_ble_eq_true rfl) ⟨rfl, rfl⟩ ⟨(Nat.le_of_ble_eq_true rfl), (Nat.le_of_ble_eq_true rfl)⟩ (fun r9 w9 hp9 => ?_)
    obtain ⟨rfl, mm, rfl, hF⟩ := hp9
    refine Z_iadd 614 dL_holds_613 rfl ?_
    refine Z_istore_n 615 [(2, _), (14, _), (13, _), (12, _), (11, _), (10, _), (9, _), (8, _), (7, _), (6, _), (5, _), (4, _), (3, _), (1, _), (0, _)] dL_holds_614 rfl (Nat.le_of_ble_eq_true rfl) rfl ?_
    refine Z_iload_n 616 12 dL_holds_615 rfl rfl ?_
    refine Z_aload_n 617 14 dL_holds_616 rfl rfl ?_
    refine Z_iload 619 5 dL_holds_617 rfl rfl ?_
    refine Z_iconst 620 (nI 2) dL_holds_619 rfl rfl ?_
    refine Z_callV 623 [_, _] 3 (v_hedge2 hF hk (by first | assumption | omega)) dL_holds_620 rfl qL_19 kX3_hedge rfl rfl (Nat.le_of_ble_eq_true rfl) rfl rfl ⟨(Nat.le_of_ble_eq_true rfl), (Nat.le_of_ble_eq_true rfl)⟩ (Nat.le_of_ble_eq_true rfl) ⟨rfl, rfl⟩ ⟨(Nat.le_of_ble_eq_true rfl), (Nat.le_of_ble_eq_true rfl)⟩ (fun r9 w9 hp9 => ?_)
    obtain ⟨rfl, mm, rfl, hF⟩ := hp9
    refine Z_iadd 624 dL_holds_623 rfl ?_
    refine Z_top (v' := .int (nI (cnt (fun j => decide (sNest m 1 j)) (i + 1)))) (congrArg Value.int (cnt_sb (p := fun j => decide (sNest m 1 j)) decide_eq_true_iff)) ?_
    refine Z_istore_n 625 [(3, _), (2, _), (14, _), (13, _), (12, _), (11, _), (10, _), (9, _), (8, _), (7, _), (6, _), (5, _), (4, _), (1, _), (0, _)] dL_holds_624 rfl (Nat.le_of_ble_eq_true rfl) rfl ?_
    refine Z_iload 627 12 dL_holds_625 rfl rfl ?_
    refine Z_aload_n 628 14 dL_holds_627 rfl rfl ?_
    refine Z_iload 630 6 dL_holds_628 rfl rfl ?_
    refine Z_bipush 632 (nI 7) dL_holds_630 rfl rfl ?_
    refine Z_callV 635 [_, _] 3 (v_hedge7 hF hk (by first | assumption | omega)) dL_holds_632 rfl qL_19 kX3_hedge rfl rfl (Nat.le_of_ble_eq_true rfl) rfl rfl ⟨(Nat.le_of_ble_eq_true rfl), (Nat.le_of_ble_eq_true rfl)⟩ (Nat.le_of_ble_eq_true rfl) ⟨rfl, rfl⟩ ⟨(Nat.le_of_ble_eq_true rfl), (Nat.le_of_ble_eq_true rfl)⟩ (fun r9 w9 hp9 => ?_)
    obtain ⟨rfl, mm, rfl, hF⟩ := hp9
    refine Z_iadd 636 dL_holds_635 rfl ?_
    refine Z_istore 638 [(4, _), (3, _), (2, _), (14, _), (13, _), (12, _), (11, _), (10, _), (9, _), (8, _), (7, _), (6, _), (5, _), (1, _), (0, _)] dL_holds_636 rfl (Nat.le_of_ble_eq_true rfl) rfl ?_
    refine Z_iload 640 10 dL_holds_638 rfl rfl ?_
    refine Z_aload_n 641 14 dL_holds_640 rfl rfl ?_
    refine Z_iload 643 7 dL_holds_641 rfl rfl ?_
    refine Z_iconst 644 (nI 0) dL_holds_643 rfl rfl ?_
    refine Z_callV 647 [_, _] 3 (v_hedge0 hF hk (by first | assumption | omega)) dL_holds_644 rfl qL_19 kX3_hedge rfl rfl (Nat.le_of_ble_eq_true rfl) rfl rfl ⟨(Nat.le_of_ble_eq_true rfl), (Nat.le_of_ble_eq_true rfl)⟩ (Nat.le_of_ble_eq_true rfl) ⟨rfl, rfl⟩ ⟨(Nat.le_of_ble_eq_true rfl), (Nat.le_of_ble_eq_true rfl)⟩ (fun r9 w9 hp9 => ?_)
    obtain ⟨rfl, mm, rfl, hF⟩ := hp9
    refine Z_iload 649 6 dL_holds_647 rfl rfl ?_
    refine Z_isub 650 dL_holds_649 rfl ?_
    refine Z_iadd 651 dL_holds_650 rfl ?_
    refine Z_istore 653 [(7, _), (4, _), (3, _), (2, _), (14, _), (13, _), (12, _), (11, _), (10, _), (9, _), (8, _), (6, _), (5, _), (1, _), (0, _)] dL_holds_651 rfl (Nat.le_of_ble_eq_true rfl) rfl ?_
    refine Z_aload_n 654 14 dL_holds_653 rfl rfl ?_
    refine Z_iload 656 8 dL_holds_654 rfl rfl ?_
    refine Z_iconst 657 (nI 0) dL_holds_656 rfl rfl ?_
    refine Z_callV 660 [_, _] 3 (v_hedge0 hF hk (by first | assumption | omega)) dL_holds_657 rfl qL_19 kX3_hedge rfl rfl (Nat.le_of_ble_eq_true rfl) rfl rfl ⟨(Nat.le_of_ble_eq_true rfl), (Nat.le_of_ble_eq_true rfl)⟩ (Nat.le_of_ble_eq_true rfl) ⟨rfl, rfl⟩ ⟨(Nat.le_of_ble_eq_true rfl), (Nat.le_of_ble_eq_true rfl)⟩ (fun r9 w9 hp9 => ?_)
    obtain ⟨rfl, mm, rfl, hF⟩ := hp9
    refine Z_if_lt 663 813 dL_holds_660 rfl rfl (fun c660 => absurd c660 (n0 (hI.hh hlt).1)) (fun c660 => ?_)
    refine Z_aload_n 664 14 dL_holds_663 rfl rfl ?_
    refine Z_iload 666 8 dL_holds_664 rfl rfl ?_
    refine Z_iconst 667 (nI 0) dL_holds_666 rfl rfl ?_
    refine Z_callV 670 [_, _] 3 (v_hedge0 hF hk (by first | assumption | omega)) dL_holds_667 rfl qL_19 kX3_hedge rfl rfl (Nat.le_of_ble_eq_true rfl) rfl rfl ⟨(Nat.le_of_ble_eq_true rfl), (Nat.le_of_ble_eq_true rfl)⟩ (Nat.le_of_ble_eq_true rfl) ⟨rfl, rfl⟩ ⟨(Nat.le_of_ble_eq_true rfl), (Nat.le_of_ble_eq_true rfl)⟩ (fun r9 w9 hp9 => ?_)
    obtain ⟨rfl, mm, rfl, hF⟩ := hp9
    refine Z_bipush 672 (nI 99) dL_holds_670 rfl rfl ?_
    refine Z_icmp_gt 675 813 dL_holds_672 rfl rfl (fun c672 => absurd c672 (nlt (hI.hh hlt).2)) (fun c672 => ?_)
    refine Z_aload_n 676 14 dL_holds_675 rfl rfl ?_
    refine Z_iload 678 8 dL_holds_676 rfl rfl ?_
    refine Z_iconst 679 (nI 1) dL_holds_678 rfl rfl ?_
    refine Z_callV 682 [_, _] 3 (v_hedge1 hF hk (by first | assumption | omega)) dL_holds_679 rfl qL_19 kX3_hedge rfl rfl (Nat.le_of_ble_eq_true rfl) rfl rfl ⟨(Nat.le_of_ble_eq_true rfl), (Nat.le_of_ble_eq_true rfl)⟩ (Nat.le_of_ble_eq_true rfl) ⟨rfl, rfl⟩ ⟨(Nat.le_of_ble_eq_true rfl), (Nat.le_of_ble_eq_true rfl)⟩ (fun r9 w9 hp9 => ?_)
    obtain ⟨rfl, mm, rfl, hF⟩ := hp9
    refine Z_if_lt 685 813 dL_holds_682 rfl rfl (fun c682 => absurd c682 (n0 (hI.gg hlt).1)) (fun c682 => ?_)
    refine Z_aload_n 686 14 dL_holds_685 rfl rfl ?_
    refine Z_iload 688 8 dL_holds_686 rfl rfl ?_
    refine Z_iconst 689 (nI 1) dL_holds_688 rfl rfl ?_
    refine Z_callV 692 [_, _] 3 (v_hedge1 hF hk (by first | assumption | omega)) dL_holds_689 rfl qL_19 kX3_hedge rfl rfl (Nat.le_of_ble_eq_true rfl) rfl rfl ⟨(Nat.le_of_ble_eq_true rfl), (Nat.le_of_ble_eq_true rfl)⟩ (Nat.le_of_ble_eq_true rfl) ⟨rfl, rfl⟩ ⟨(Nat.le_of_ble_eq_true rfl), (Nat.le_of_ble_eq_true rfl)⟩ (fun r9 w9 hp9 => ?_)
    obtain ⟨rfl, mm, rfl, hF⟩ := hp9
    refine Z_iconst 693 (nI 5) dL_holds_692 rfl rfl ?_
    refine Z_icmp_gt 696 813 dL_holds_693 rfl rfl (fun c693 => absurd c693 (nlt (hI.gg hlt).2)) (fun c693 => ?_)
    refine Z_aload_n 697 14 dL_holds_696 rfl rfl ?_
    refine Z_iload 699 8 dL_holds_697 rfl rfl ?_
    refine Z_iconst 700 (nI 2) dL_holds_699 rfl rfl ?_
    refine Z_callV 703 [_, _] 3 (v_hedge2 hF hk (by first | assumption | omega)) dL_holds_700 rfl qL_19 kX3_hedge rfl rfl (Nat.le_of_ble_eq_true rfl) rfl rfl ⟨(Nat.le_of_ble_eq_true rfl), (Nat.le_of_ble_eq_true rfl)⟩ (Nat.le_of_ble_eq_true rfl) ⟨rfl, rfl⟩ ⟨(Nat.le_of_ble_eq_true rfl), (Nat.le_of_ble_eq_true rfl)⟩ (fun r9 w9 hp9 => ?_)
    obtain ⟨rfl, mm, rfl, hF⟩ := hp9
    refine Z_iload_n 704 13 dL_holds_703 rfl rfl ?_
    refine Z_aload_n 705 14 dL_holds_704 rfl rfl ?_
    refine Z_iload 707 8 dL_holds_705 rfl rfl ?_
    refine Z_iconst 708 (nI 3) dL_holds_707 rfl rfl ?_
    refine Z_callV 711 [_, _] 3 (v_hedge3 hF hk (by first | assumption | omega)) dL_holds_708 rfl qL_19 kX3_hedge rfl rfl (Nat.le_of_ble_eq_true rfl) rfl rfl ⟨(Nat.le_of_ble_eq_true rfl), (Nat.le_of_ble_eq_true rfl)⟩ (Nat.le_of_ble_eq_true rfl) ⟨rfl, rfl⟩ ⟨(Nat.le_of_ble_eq_true rfl), (Nat.le_of_ble_eq_true rfl)⟩ (fun r9 w9 hp9 => ?_)
    obtain ⟨rfl, mm, rfl, hF⟩ := hp9
    refine Z_icmp_ge 714 718 dL_holds_711 rfl rfl (fun c711 => ?_) (fun c711 => ?_)
    · skip
      refine Z_iconst 719 (nI 0) dL_holds_718 rfl rfl ?_
      refine Z_icmp_ne 722 813 dL_holds_719 rfl rfl (fun c719 => absurd c719 ((by first | exact fun z => z (bI_f (Int32.not_lt.mpr c711)) | exact fun z => z (bI_t (Int32.not_le.mp c711))))) (fun c719 => ?_)
      exact K mm hF
    · skip
      refine Z_iconst 715 (nI 1) dL_holds_714 rfl rfl ?_
      refine Z_goto 719 dL_holds_715 rfl ?_
      refine Z_icmp_ne 722 813 dL_holds_719 rfl rfl (fun c719 => absurd c719 ((by first | exact fun z => z (bI_f (Int32.not_lt.mpr c711)) | exact fun z => z (bI_t (Int32.not_le.mp c711))))) (fun c719 => ?_)
      exact K mm hF

set_option maxRecDepth 100000 in
set_option maxHeartbeats 4000000 in
theorem lL_holds1 {G : zG} {l : Launch} {h : Nat → Nat} {m : zM} {K n : Nat} (hI : Inv K m n) : ∀ (t i : Nat), i + t = n → ∀ mm : zM, Fsv m mm → Z G mL_holds (fun _ => True) (zN G (fun r w => r = some (.int (nI 1)) ∧ ∃ m', w = zw h m' ∧ Fsv m m') 0 0) l 0 0 (zw h mm) 117 [(10, .int (nI i)), (9, .int (nI 1)), (8, .int (clp m n)), (7, .int (nI 0)), (6, .int (nI (cB m i))), (5, .int (nI (cF m i))), (4, .int (nI 0)), (3, .int (nI 0)), (2, .int (nI 0)), (1, .int (m 1 9)), (0, .ref (G.1 + 0))] [] := by
  intro t
  induction t with
  | zero =>
    intro i hi mm hF
    have e9 : i = n := by omega
    subst e9
    have hn := hI.n14
    have hk := hI.ok
    have g := hI.g
    refine Z_iload 119 0 dL_holds_117 rfl rfl ?_
    refine Z_aload_n 120 10 dL_holds_119 rfl rfl ?_
    refine Z_iconst 121 (nI 1) dL_holds_120 rfl rfl ?_
    refine Z_callV 124 [_] 3 (v_count1 hF hk) dL_holds_121 rfl qL_13 kX3_count rfl rfl (Nat.le_of_ble_eq_true rfl) rfl rfl ⟨(Nat.le_of_ble_eq_true rfl), (Nat.le_of_ble_eq_true rfl)⟩ (Nat.le_of_ble_eq_true rfl) ⟨rfl, rfl⟩ ⟨(Nat.le_of_ble_eq_true rfl), (Nat.le_of_ble_eq_true rfl)⟩ (fun r9 w9 hp9 => ?_)
    obtain ⟨rfl, mm, rfl, hF⟩ := hp9
    refine Z_icmp_ge 127 410 dL_holds_124 rfl rfl (fun c124 => ?_) (fun c124 => absurd (nI_le (Nat.le_refl _) (by omega)) c124)
    refine Z_iconst 411 (nI 0) dL_holds_410 rfl rfl ?_
    refine Z_istore 413 [(10, _), (9, _), (8, _), (7, _), (6, _), (5, _), (4, _), (3, _), (2, _), (1, _), (0, _)] dL_holds_411 rfl (Nat.le_of_ble_eq_true rfl) rfl ?_
    exact lL_holds2 hI 8 0 (by omega) mm hF
  | succ t ih =>
    intro i hi mm hF
    have hlt : i < n := by omega
    have hn := hI.n14
    have hk := hI.ok
    have g := hI.g
    have f8 := (hI.f8 hlt).2
    have o8 := (hI.o8 hlt).2
    refine Z_iload 119 0 dL_holds_117 rfl rfl ?_
    refine Z_aload_n 120 10 dL_holds_119 rfl rfl ?_
    refine Z_iconst 121 (nI 1) dL_holds_120 rfl rfl ?_
    refine Z_callV 124 [_] 3 (v_count1 hF hk) dL_holds_121 rfl qL_13 kX3_count rfl rfl (Nat.le_of_ble_eq_true rfl) rfl rfl ⟨(Nat.le_of_ble_eq_true rfl), (Nat.le_of_ble_eq_true rfl)⟩ (Nat.le_of_ble_eq_true rfl) ⟨rfl, rfl⟩ ⟨(Nat.le_of_ble_eq_true rfl), (Nat.le_of_ble_eq_true rfl)⟩ (fun r9 w9 hp9 => ?_)
    obtain ⟨rfl, mm, rfl, hF⟩ := hp9
    refine Z_icmp_ge 127 410 dL_holds_124 rfl rfl (fun c124 => absurd c124 (nI_ge hlt (by omega))) (fun c124 => ?_)
    refine Z_iload 129 1 dL_holds_127 rfl rfl ?_
    refine Z_if_eq 132 410 dL_holds_129 rfl rfl (fun c129 => absurd c129 (by decide)) (fun c129 => ?_)
    refine Z_aload_n 133 10 dL_holds_132 rfl rfl ?_
    refine Z_iload 135 0 dL_holds_133 rfl rfl ?_
    refine Z_iconst 136 (nI 0) dL_holds_135 rfl rfl ?_
    refine Z_callV 139 [_, _] 3 (v_treaty0 hF hk (by first | assumption | omega)) dL_holds_136 rfl qL_23 kX3_treaty rfl rfl (Nat.le_of_ble_eq_true rfl) rfl rfl ⟨(Nat.le_of_ble_eq_true rfl), (Nat.le_of_ble_eq_true rfl)⟩ (Nat.le_of_ble_eq_true rfl) ⟨rfl, rfl⟩ ⟨(Nat.le_of_ble_eq_true rfl), (Nat.le_of_ble_eq_true rfl)⟩ (fun r9 w9 hp9 => ?_)
    obtain ⟨rfl, mm, rfl, hF⟩ := hp9
    refine Z_istore 141 [(11, _), (10, _), (9, _), (8, _), (7, _), (6, _), (5, _), (4, _), (3, _), (2, _), (1, _), (0, _)] dL_holds_139 rfl (Nat.le_of_ble_eq_true rfl) rfl ?_
    refine Z_aload_n 142 11 dL_holds_141 rfl rfl ?_
    refine Z_iload 144 1 dL_holds_142 rfl rfl ?_
    refine Z_iconst 145 (nI 1) dL_holds_144 rfl rfl ?_
    refine Z_callV 148 [_, _] 3 (v_treaty1 hF hk (by first | assumption | omega)) dL_holds_145 rfl qL_23 kX3_treaty rfl rfl (Nat.le_of_ble_eq_true rfl) rfl rfl ⟨(Nat.le_of_ble_eq_true rfl), (Nat.le_of_ble_eq_true rfl)⟩ (Nat.le_of_ble_eq_true rfl) ⟨rfl, rfl⟩ ⟨(Nat.le_of_ble_eq_true rfl), (Nat.le_of_ble_eq_true rfl)⟩ (fun r9 w9 hp9 => ?_)
    obtain ⟨rfl, mm, rfl, hF⟩ := hp9
    refine Z_istore 150 [(12, _), (11, _), (10, _), (9, _), (8, _), (7, _), (6, _), (5, _), (4, _), (3, _), (2, _), (1, _), (0, _)] dL_holds_148 rfl (Nat.le_of_ble_eq_true rfl) rfl ?_
    refine Z_aload_n 151 12 dL_holds_150 rfl rfl ?_
    refine Z_iload 153 2 dL_holds_151 rfl rfl ?_
    refine Z_iconst 154 (nI 2) dL_holds_153 rfl rfl ?_
    refine Z_callV 157 [_, _] 3 (v_treaty2 hF hk (by first | assumption | omega)) dL_holds_154 rfl qL_23 kX3_treaty rfl rfl (Nat.le_of_ble_eq_true rfl) rfl rfl ⟨(Nat.le_of_ble_eq_true rfl), (Nat.le_of_ble_eq_true rfl)⟩ (Nat.le_of_ble_eq_true rfl) ⟨rfl, rfl⟩ ⟨(Nat.le_of_ble_eq_true rfl), (Nat.le_of_ble_eq_true rfl)⟩ (fun r9 w9 hp9 => ?_)
    obtain ⟨rfl, mm, rfl, hF⟩ := hp9
    refine Z_bipush 159 (nI 100) dL_holds_157 rfl rfl ?_
    refine Z_isub 160 dL_holds_159 rfl ?_
    refine Z_top (v' := .int (m 8 i)) (congrArg Value.int (i32_as _ _)) ?_
    refine Z_istore 162 [(13, _), (12, _), (11, _), (10, _), (9, _), (8, _), (7, _), (6, _), (5, _), (4, _), (3, _), (2, _), (1, _), (0, _)] dL_holds_160 rfl (Nat.le_of_ble_eq_true rfl) rfl ?_
    refine Z_iload 164 0 dL_holds_162 rfl rfl ?_
    refine Z_aload_n 165 13 dL_holds_164 rfl rfl ?_
    refine Z_iload 167 1 dL_holds_165 rfl rfl ?_
    refine Z_iconst 168 (nI 0) dL_holds_167 rfl rfl ?_
    refine Z_callV 171 [_, _] 3 (v_hedge0 hF hk (by first | assumption | omega)) dL_holds_168 rfl qL_19 kX3_hedge rfl rfl (Nat.le_of_ble_eq_true rfl) rfl rfl ⟨(Nat.le_of_ble_eq_true rfl), (Nat.le_of_ble_eq_true rfl)⟩ (Nat.le_of_ble_eq_true rfl) ⟨rfl, rfl⟩ ⟨(Nat.le_of_ble_eq_true rfl), (Nat.le_of_ble_eq_true rfl)⟩ (fun r9 w9 hp9 => ?_)
    obtain ⟨rfl, mm, rfl, hF⟩ := hp9
    refine Z_iadd 172 dL_holds_171 rfl ?_
    refine Z_aload_n 173 13 dL_holds_172 rfl rfl ?_
    refine Z_iload 175 2 dL_holds_173 rfl rfl ?_
    refine Z_iconst 176 (nI 0) dL_holds_175 rfl rfl ?_
    refine Z_callV 179 [_, _] 3 (v_hedge0 hF hk (by first | assumption | omega)) dL_holds_176 rfl qL_19 kX3_hedge rfl rfl (Nat.le_of_ble_eq_true rfl) rfl rfl ⟨(Nat.le_of_ble_eq_true rfl), (Nat.le_of_ble_eq_true rfl)⟩ (Nat.le_of_ble_eq_true rfl) ⟨rfl, rfl⟩ ⟨(Nat.le_of_ble_eq_true rfl), (Nat.le_of_ble_eq_true rfl)⟩ (fun r9 w9 hp9 => ?_)
    obtain ⟨rfl, mm, rfl, hF⟩ := hp9
    refine Z_isub 180 dL_holds_179 rfl ?_
    refine Z_top (v' := .int (slackA m 1 i (nI 0))) (congrArg Value.int (hI.slack hlt)) ?_
    refine Z_istore 182 [(14, _), (13, _), (12, _), (11, _), (10, _), (9, _), (8, _), (7, _), (6, _), (5, _), (4, _), (3, _), (2, _), (1, _), (0, _)] dL_holds_180 rfl (Nat.le_of_ble_eq_true rfl) rfl ?_
    have f8 := (hI.f8 hlt).2
    have o8 := (hI.o8 hlt).2
    rcases brk3 (m := m) i with hs | hs | hs
    · skip
      refine Z_iload_n 183 13 dL_holds_182 rfl rfl ?_
      refine Z_aload_n 184 14 dL_holds_183 rfl rfl ?_
      refine Z_iload 186 4 dL_holds_184 rfl rfl ?_
      refine Z_bipush 188 (nI 6) dL_holds_186 rfl rfl ?_
      refine Z_callV 191 [_, _] 3 (v_treaty6 hF hk (by first | assumption | omega)) dL_holds_188 rfl qL_23 kX3_treaty rfl rfl (Nat.le_of_ble_eq_true rfl) rfl rfl ⟨(Nat.le_of_ble_eq_true rfl), (Nat.le_of_ble_eq_true rfl)⟩ (Nat.le_of_ble_eq_true rfl) ⟨rfl, rfl⟩ ⟨(Nat.le_of_ble_eq_true rfl), (Nat.le_of_ble_eq_true rfl)⟩ (fun r9 w9 hp9 => ?_)
      obtain ⟨rfl, mm, rfl, hF⟩ := hp9
      refine Z_icmp_lt 194 198 dL_holds_191 rfl rfl (fun c191 => absurd c191 (Int32.not_lt.mpr hs.1)) (fun c191 => ?_)
      refine Z_iconst 195 (nI 1) dL_holds_194 rfl rfl ?_
      refine Z_goto 199 dL_holds_195 rfl ?_
      refine Z_istore 201 [(15, _), (14, _), (13, _), (12, _), (11, _), (10, _), (9, _), (8, _), (7, _), (6, _), (5, _), (4, _), (3, _), (2, _), (1, _), (0, _)] dL_holds_199 rfl (Nat.le_of_ble_eq_true rfl) rfl ?_
      refine Z_iload 203 10 dL_holds_201 rfl rfl ?_
      refine Z_iload 205 0 dL_holds_203 rfl rfl ?_
      refine Z_if_eq 208 212 dL_holds_205 rfl rfl (fun c205 => absurd c205 (by decide)) (fun c205 => ?_)
      refine Z_iconst 209 (nI 1) dL_holds_208 rfl rfl ?_
      refine Z_goto 213 dL_holds_209 rfl ?_
      refine Z_iadd 214 dL_holds_213 rfl ?_
      refine Z_top (v' := .int (nI (cF m (i + 1)))) (congrArg Value.int (cnt_s1 (p := fun j => decide (sForce m 1 j)) (decide_eq_true hs.1))) ?_
      refine Z_istore 216 [(5, _), (15, _), (14, _), (13, _), (12, _), (11, _), (10, _), (9, _), (8, _), (7, _), (6, _), (4, _), (3, _), (2, _), (1, _), (0, _)] dL_holds_214 rfl (Nat.le_of_ble_eq_true rfl) rfl ?_
      refine Z_iload 218 10 dL_holds_216 rfl rfl ?_
      refine Z_iload 220 1 dL_holds_218 rfl rfl ?_
      refine Z_if_eq 223 232 dL_holds_220 rfl rfl (fun c220 => absurd c220 (by decide)) (fun c220 => ?_)
      refine Z_iload 225 2 dL_holds_223 rfl rfl ?_
      refine Z_if_ge 228 232 dL_holds_225 rfl rfl (fun c225 => absurd c225 (Int32.not_le.mpr hs.2)) (fun c225 => ?_)
      refine Z_iconst 229 (nI 1) dL_holds_228 rfl rfl ?_
      refine Z_goto 233 dL_holds_229 rfl ?_
      refine Z_iadd 234 dL_holds_233 rfl ?_
      refine Z_top (v' := .int (nI (cB m (i + 1)))) (congrArg Value.int (cnt_s1 (p := fun j => decide (sBrk m 1 j (nI 0))) (decide_eq_true (brk0.mpr hs)))) ?_
      refine Z_istore 236 [(6, _), (5, _), (15, _), (14, _), (13, _), (12, _), (11, _), (10, _), (9, _), (8, _), (7, _), (4, _), (3, _), (2, _), (1, _), (0, _)] dL_holds_234 rfl (Nat.le_of_ble_eq_true rfl) rfl ?_
      refine Z_iload 238 6 dL_holds_236 rfl rfl ?_
      refine Z_if_lt 241 401 dL_holds_238 rfl rfl (fun c238 => absurd c238 (nI_pos (by omega))) (fun c238 => ?_)
      refine Z_iload 243 6 dL_holds_241 rfl rfl ?_
      refine Z_bipush 245 (nI 8) dL_holds_243 rfl rfl ?_
      refine Z_icmp_ge 248 401 dL_holds_245 rfl rfl (fun c245 => absurd c245 (nI_ge f8 (by decide))) (fun c245 => ?_)
      refine Z_iload 250 5 dL_holds_248 rfl rfl ?_
      refine Z_if_lt 253 401 dL_holds_250 rfl rfl (fun c250 => absurd c250 (nI_pos (by omega))) (fun c250 => ?_)
      refine Z_iload 255 5 dL_holds_253 rfl rfl ?_
      refine Z_bipush 257 (nI 8) dL_holds_255 rfl rfl ?_
      refine Z_icmp_ge 260 401 dL_holds_257 rfl rfl (fun c257 => absurd c257 (nI_ge o8 (by decide))) (fun c257 => ?_)
      refine Z_iload 262 6 dL_holds_260 rfl rfl ?_
      refine Z_iload 264 5 dL_holds_262 rfl rfl ?_
      refine Z_icmp_eq 267 401 dL_holds_264 rfl rfl (fun c264 => absurd c264 (fun z => hI.ne hlt ((nI_eq (by omega) (by omega)).mp z))) (fun c264 => ?_)
      refine Z_iload 269 4 dL_holds_267 rfl rfl ?_
      refine Z_bipush 271 (-30) dL_holds_269 rfl rfl ?_
      refine Z_icmp_lt 274 401 dL_holds_271 rfl rfl (fun c271 => absurd c271 (nlt (hI.dd hlt).1)) (fun c271 => ?_)
      refine Z_iload 276 4 dL_holds_274 rfl rfl ?_
      refine Z_bipush 278 (nI 60) dL_holds_276 rfl rfl ?_
      refine Z_icmp_gt 281 401 dL_holds_278 rfl rfl (fun c278 => absurd c278 (nlt (hI.dd hlt).2)) (fun c278 => ?_)
      refine Z_aload_n 282 15 dL_holds_281 rfl rfl ?_
      refine Z_iload 284 7 dL_holds_282 rfl rfl ?_
      refine Z_iconst 285 (nI 3) dL_holds_284 rfl rfl ?_
      refine Z_callV 288 [_, _] 3 (v_treaty3 hF hk (by first | assumption | omega)) dL_holds_285 rfl qL_23 kX3_treaty rfl rfl (Nat.le_of_ble_eq_true rfl) rfl rfl ⟨(Nat.le_of_ble_eq_true rfl), (Nat.le_of_ble_eq_true rfl)⟩ (Nat.le_of_ble_eq_true rfl) ⟨rfl, rfl⟩ ⟨(Nat.le_of_ble_eq_true rfl), (Nat.le_of_ble_eq_true rfl)⟩ (fun r9 w9 hp9 => ?_)
      obtain ⟨rfl, mm, rfl, hF⟩ := hp9
      refine Z_iload 290 2 dL_holds_288 rfl rfl ?_
      refine Z_if_eq 293 297 dL_holds_290 rfl rfl (fun c290 => absurd c290 (by decide)) (fun c290 => ?_)
      refine Z_iconst 294 (nI 1) dL_holds_293 rfl rfl ?_
      refine Z_goto 298 dL_holds_294 rfl ?_
      refine Z_icmp_ne 301 401 dL_holds_298 rfl rfl (fun c298 => absurd c298 (fun z => z (bI_t hs.1))) (fun c298 => ?_)
      refine Z_aload_n 302 15 dL_holds_301 rfl rfl ?_
      refine Z_iload 304 7 dL_holds_302 rfl rfl ?_
      refine Z_iconst 305 (nI 4) dL_holds_304 rfl rfl ?_
      refine Z_callV 308 [_, _] 3 (v_treaty4 hF hk (by first | assumption | omega)) dL_holds_305 rfl qL_23 kX3_treaty rfl rfl (Nat.le_of_ble_eq_true rfl) rfl rfl ⟨(Nat.le_of_ble_eq_true rfl), (Nat.le_of_ble_eq_true rfl)⟩ (Nat.le_of_ble_eq_true rfl) ⟨rfl, rfl⟩ ⟨(Nat.le_of_ble_eq_true rfl), (Nat.le_of_ble_eq_true rfl)⟩ (fun r9 w9 hp9 => ?_)
      obtain ⟨rfl, mm, rfl, hF⟩ := hp9
      refine Z_iload 310 2 dL_holds_308 rfl rfl ?_
      refine Z_if_eq 313 322 dL_holds_310 rfl rfl (fun c310 => absurd c310 (by decide)) (fun c310 => ?_)
      refine Z_iload 315 3 dL_holds_313 rfl rfl ?_
      refine Z_if_ge 318 322 dL_holds_315 rfl rfl (fun c315 => absurd c315 (Int32.not_le.mpr hs.2)) (fun c315 => ?_)
      refine Z_iconst 319 (nI 1) dL_holds_318 rfl rfl ?_
      refine Z_goto 323 dL_holds_319 rfl ?_
      refine Z_icmp_ne 326 401 dL_holds_323 rfl rfl (fun c323 => absurd c323 (fun z => z (bI_t (brk0.mpr hs)))) (fun c323 => ?_)
      refine Z_aload_n 327 15 dL_holds_326 rfl rfl ?_
      refine Z_iload 329 7 dL_holds_327 rfl rfl ?_
      refine Z_iconst 330 (nI 5) dL_holds_329 rfl rfl ?_
      refine Z_callV 333 [_, _] 3 (v_treaty5 hF hk (by first | assumption | omega)) dL_holds_330 rfl qL_23 kX3_treaty rfl rfl (Nat.le_of_ble_eq_true rfl) rfl rfl ⟨(Nat.le_of_ble_eq_true rfl), (Nat.le_of_ble_eq_true rfl)⟩ (Nat.le_of_ble_eq_true rfl) ⟨rfl, rfl⟩ ⟨(Nat.le_of_ble_eq_true rfl), (Nat.le_of_ble_eq_true rfl)⟩ (fun r9 w9 hp9 => ?_)
      obtain ⟨rfl, mm, rfl, hF⟩ := hp9
      refine Z_sipush 336 (nI 1000) dL_holds_333 rfl rfl ?_
      refine Z_iload 338 3 dL_holds_336 rfl rfl ?_
      refine Z_iadd 339 dL_holds_338 rfl ?_
      refine Z_icmp_ne 342 401 dL_holds_339 rfl rfl (fun c339 => absurd c339 (fun z => z (Int32.add_comm _ _))) (fun c339 => ?_)
      refine Z_iload 344 2 dL_holds_342 rfl rfl ?_
      refine Z_if_eq 347 365 dL_holds_344 rfl rfl (fun c344 => absurd c344 (by decide)) (fun c344 => ?_)
      refine Z_aload_n 348 15 dL_holds_347 rfl rfl ?_
      refine Z_iload 350 6 dL_holds_348 rfl rfl ?_
      refine Z_iload 352 5 dL_holds_350 rfl rfl ?_
      refine Z_iconst 353 (nI 0) dL_holds_352 rfl rfl ?_
      refine Z_callV 356 [_, _, _] 3 (v_bound0 hF g (by first | assumption | omega) (by first | assumption | omega)) dL_holds_353 rfl qL_31 kX3_bound rfl rfl (Nat.le_of_ble_eq_true rfl) rfl rfl ⟨(Nat.le_of_ble_eq_true rfl), (Nat.le_of_ble_eq_true rfl)⟩ (Nat.le_of_ble_eq_true rfl) ⟨rfl, rfl⟩ ⟨(Nat.le_of_ble_eq_true rfl), (Nat.le_of_ble_eq_true rfl)⟩ (fun r9 w9 hp9 => ?_)
      obtain ⟨rfl, mm, rfl, hF⟩ := hp9
      refine Z_sipush 359 (nI 1000) dL_holds_356 rfl rfl ?_
      refine Z_iload 361 4 dL_holds_359 rfl rfl ?_
      refine Z_iadd 362 dL_holds_361 rfl ?_
      refine Z_icmp_gt 365 401 dL_holds_362 rfl rfl (fun c362 => absurd c362 (hI.bnd_le hlt hs.1)) (fun c362 => ?_)
      refine Z_iload 367 2 dL_holds_365 rfl rfl ?_
      refine Z_if_eq 370 397 dL_holds_367 rfl rfl (fun c367 => absurd c367 (by decide)) (fun c367 => ?_)
      refine Z_iload 372 9 dL_holds_370 rfl rfl ?_
      refine Z_bipush 374 (-4) dL_holds_372 rfl rfl ?_
      refine Z_icmp_eq 377 397 dL_holds_374 rfl rfl (fun c374 => ?_) (fun c374 => ?_)
      · skip
        refine Z_iconst 398 (nI 1) dL_holds_397 rfl rfl ?_
        refine Z_goto 402 dL_holds_398 rfl ?_
        refine Z_istore 404 [(9, _), (6, _), (5, _), (15, _), (14, _), (13, _), (12, _), (11, _), (10, _), (8, _), (7, _), (4, _), (3, _), (2, _), (1, _), (0, _)] dL_holds_402 rfl (Nat.le_of_ble_eq_true rfl) rfl ?_
        refine Z_iinc 407 [(10, _), (9, _), (6, _), (5, _), (15, _), (14, _), (13, _), (12, _), (11, _), (8, _), (7, _), (4, _), (3, _), (2, _), (1, _), (0, _)] 8 _ dL_holds_404 rfl (Nat.le_of_ble_eq_true rfl) rfl (nI_1 _) rfl ?_
        refine Z_goto 117 dL_holds_407 rfl ?_
        refine Z_lv [0, 1, 9, 10, 2, 3, 11, 12, 13, 14, 15] rfl ?_
        exact ih (i + 1) (by omega) mm hF
      · skip
        refine Z_aload_n 378 15 dL_holds_377 rfl rfl ?_
        refine Z_iload 380 6 dL_holds_378 rfl rfl ?_
        refine Z_iconst 381 (nI 4) dL_holds_380 rfl rfl ?_
        refine Z_callV 384 [_, _] 3 (v_hedge4 hF g (by first | assumption | omega)) dL_holds_381 rfl qL_19 kX3_hedge rfl rfl (Nat.le_of_ble_eq_true rfl) rfl rfl ⟨(Nat.le_of_ble_eq_true rfl), (Nat.le_of_ble_eq_true rfl)⟩ (Nat.le_of_ble_eq_true rfl) ⟨rfl, rfl⟩ ⟨(Nat.le_of_ble_eq_true rfl), (Nat.le_of_ble_eq_true rfl)⟩ (fun r9 w9 hp9 => ?_)
        obtain ⟨rfl, mm, rfl, hF⟩ := hp9
        refine Z_aload_n 385 15 dL_holds_384 rfl rfl ?_
        refine Z_iload 387 5 dL_holds_385 rfl rfl ?_
        refine Z_iconst 388 (nI 4) dL_holds_387 rfl rfl ?_
        refine Z_callV 391 [_, _] 3 (v_hedge4 hF g (by first | assumption | omega)) dL_holds_388 rfl qL_19 kX3_hedge rfl rfl (Nat.le_of_ble_eq_true rfl) rfl rfl ⟨(Nat.le_of_ble_eq_true rfl), (Nat.le_of_ble_eq_true rfl)⟩ (Nat.le_of_ble_eq_true rfl) ⟨rfl, rfl⟩ ⟨(Nat.le_of_ble_eq_true rfl), (Nat.le_of_ble_eq_true rfl)⟩ (fun r9 w9 hp9 => ?_)
        obtain ⟨rfl, mm, rfl, hF⟩ := hp9
        refine Z_iload 393 4 dL_holds_391 rfl rfl ?_
        refine Z_iadd 394 dL_holds_393 rfl ?_
        refine Z_icmp_gt 397 401 dL_holds_394 rfl rfl (fun c394 => absurd c394 (hI.hd4_e (hI.clp_F c374) hlt hs.1)) (fun c394 => ?_)
        refine Z_iconst 398 (nI 1) dL_holds_397 rfl rfl ?_
        refine Z_goto 402 dL_holds_398 rfl ?_
        refine Z_istore 404 [(9, _), (6, _), (5, _), (15, _), (14, _), (13, _), (12, _), (11, _), (10, _), (8, _), (7, _), (4, _), (3, _), (2, _), (1, _), (0, _)] dL_holds_402 rfl (Nat.le_of_ble_eq_true rfl) rfl ?_
        refine Z_iinc 407 [(10, _), (9, _), (6, _), (5, _), (15, _), (14, _), (13, _), (12, _), (11, _), (8, _), (7, _), (4, _), (3, _), (2, _), (1, _), (0, _)] 8 _ dL_holds_404 rfl (Nat.le_of_ble_eq_true rfl) rfl (nI_1 _) rfl ?_
        refine Z_goto 117 dL_holds_407 rfl ?_
        refine Z_lv [0, 1, 9, 10, 2, 3, 11, 12, 13, 14, 15] rfl ?_
        exact ih (i + 1) (by omega) mm hF
    · skip
      refine Z_iload_n 183 13 dL_holds_182 rfl rfl ?_
      refine Z_aload_n 184 14 dL_holds_183 rfl rfl ?_
      refine Z_iload 186 4 dL_holds_184 rfl rfl ?_
      refine Z_bipush 188 (nI 6) dL_holds_186 rfl rfl ?_
      refine Z_callV 191 [_, _] 3 (v_treaty6 hF hk (by first | assumption | omega)) dL_holds_188 rfl qL_23 kX3_treaty rfl rfl (Nat.le_of_ble_eq_true rfl) rfl rfl ⟨(Nat.le_of_ble_eq_true rfl), (Nat.le_of_ble_eq_true rfl)⟩ (Nat.le_of_ble_eq_true rfl) ⟨rfl, rfl⟩ ⟨(Nat.le_of_ble_eq_true rfl), (Nat.le_of_ble_eq_true rfl)⟩ (fun r9 w9 hp9 => ?_)
      obtain ⟨rfl, mm, rfl, hF⟩ := hp9
      refine Z_icmp_lt 194 198 dL_holds_191 rfl rfl (fun c191 => absurd c191 (Int32.not_lt.mpr hs.1)) (fun c191 => ?_)
      refine Z_iconst 195 (nI 1) dL_holds_194 rfl rfl ?_
      refine Z_goto 199 dL_holds_195 rfl ?_
      refine Z_istore 201 [(15, _), (14, _), (13, _), (12, _), (11, _), (10, _), (9, _), (8, _), (7, _), (6, _), (5, _), (4, _), (3, _), (2, _), (1, _), (0, _)] dL_holds_199 rfl (Nat.le_of_ble_eq_true rfl) rfl ?_
      refine Z_iload 203 10 dL_holds_201 rfl rfl ?_
      refine Z_iload 205 0 dL_holds_203 rfl rfl ?_
      refine Z_if_eq 208 212 dL_holds_205 rfl rfl (fun c205 => absurd c205 (by decide)) (fun c205 => ?_)
      refine Z_iconst 209 (nI 1) dL_holds_208 rfl rfl ?_
      refine Z_goto 213 dL_holds_209 rfl ?_
      refine Z_iadd 214 dL_holds_213 rfl ?_
      refine Z_top (v' := .int (nI (cF m (i + 1)))) (congrArg Value.int (cnt_s1 (p := fun j => decide (sForce m 1 j)) (decide_eq_true hs.1))) ?_
      refine Z_istore 216 [(5, _), (15, _), (14, _), (13, _), (12, _), (11, _), (10, _), (9, _), (8, _), (7, _), (6, _), (4, _), (3, _), (2, _), (1, _), (0, _)] dL_holds_214 rfl (Nat.le_of_ble_eq_true rfl) rfl ?_
      refine Z_iload 218 10 dL_holds_216 rfl rfl ?_
      refine Z_iload 220 1 dL_holds_218 rfl rfl ?_
      refine Z_if_eq 223 232 dL_holds_220 rfl rfl (fun c220 => absurd c220 (by decide)) (fun c220 => ?_)
      refine Z_iload 225 2 dL_holds_223 rfl rfl ?_
      refine Z_if_ge 228 232 dL_holds_225 rfl rfl (fun c225 => ?_) (fun c225 => absurd (Int32.not_lt.mp hs.2) c225)
      refine Z_iconst 233 (nI 0) dL_holds_232 rfl rfl ?_
      refine Z_iadd 234 dL_holds_233 rfl ?_
      refine Z_top (v' := .int (nI (cB m (i + 1)))) (congrArg Value.int (cnt_s0 (p := fun j => decide (sBrk m 1 j (nI 0))) (fun z => hs.2 (brk0.mp (of_decide_eq_true z)).2))) ?_
      refine Z_istore 236 [(6, _), (5, _), (15, _), (14, _), (13, _), (12, _), (11, _), (10, _), (9, _), (8, _), (7, _), (4, _), (3, _), (2, _), (1, _), (0, _)] dL_holds_234 rfl (Nat.le_of_ble_eq_true rfl) rfl ?_
      refine Z_iload 238 6 dL_holds_236 rfl rfl ?_
      refine Z_if_lt 241 401 dL_holds_238 rfl rfl (fun c238 => absurd c238 (nI_pos (by omega))) (fun c238 => ?_)
      refine Z_iload 243 6 dL_holds_241 rfl rfl ?_
      refine Z_bipush 245 (nI 8) dL_holds_243 rfl rfl ?_
      refine Z_icmp_ge 248 401 dL_holds_245 rfl rfl (fun c245 => absurd c245 (nI_ge f8 (by decide))) (fun c245 => ?_)
      refine Z_iload 250 5 dL_holds_248 rfl rfl ?_
      refine Z_if_lt 253 401 dL_holds_250 rfl rfl (fun c250 => absurd c250 (nI_pos (by omega))) (fun c250 => ?_)
      refine Z_iload 255 5 dL_holds_253 rfl rfl ?_
      refine Z_bipush 257 (nI 8) dL_holds_255 rfl rfl ?_
      refine Z_icmp_ge 260 401 dL_holds_257 rfl rfl (fun c257 => absurd c257 (nI_ge o8 (by decide))) (fun c257 => ?_)
      refine Z_iload 262 6 dL_holds_260 rfl rfl ?_
      refine Z_iload 264 5 dL_holds_262 rfl rfl ?_
      refine Z_icmp_eq 267 401 dL_holds_264 rfl rfl (fun c264 => absurd c264 (fun z => hI.ne hlt ((nI_eq (by omega) (by omega)).mp z))) (fun c264 => ?_)
      refine Z_iload 269 4 dL_holds_267 rfl rfl ?_
      refine Z_bipush 271 (-30) dL_holds_269 rfl rfl ?_
      refine Z_icmp_lt 274 401 dL_holds_271 rfl rfl (fun c271 => absurd c271 (nlt (hI.dd hlt).1)) (fun c271 => ?_)
      refine Z_iload 276 4 dL_holds_274 rfl rfl ?_
      refine Z_bipush 278 (nI 60) dL_holds_276 rfl rfl ?_
      refine Z_icmp_gt 281 401 dL_holds_278 rfl rfl (fun c278 => absurd c278 (nlt (hI.dd hlt).2)) (fun c278 => ?_)
      refine Z_aload_n 282 15 dL_holds_281 rfl rfl ?_
      refine Z_iload 284 7 dL_holds_282 rfl rfl ?_
      refine Z_iconst 285 (nI 3) dL_holds_284 rfl rfl ?_
      refine Z_callV 288 [_, _] 3 (v_treaty3 hF hk (by first | assumption | omega)) dL_holds_285 rfl qL_23 kX3_treaty rfl rfl (Nat.le_of_ble_eq_true rfl) rfl rfl ⟨(Nat.le_of_ble_eq_true rfl), (Nat.le_of_ble_eq_true rfl)⟩ (Nat.le_of_ble_eq_true rfl) ⟨rfl, rfl⟩ ⟨(Nat.le_of_ble_eq_true rfl), (Nat.le_of_ble_eq_true rfl)⟩ (fun r9 w9 hp9 => ?_)
      obtain ⟨rfl, mm, rfl, hF⟩ := hp9
      refine Z_iload 290 2 dL_holds_288 rfl rfl ?_
      refine Z_if_eq 293 297 dL_holds_290 rfl rfl (fun c290 => absurd c290 (by decide)) (fun c290 => ?_)
      refine Z_iconst 294 (nI 1) dL_holds_293 rfl rfl ?_
      refine Z_goto 298 dL_holds_294 rfl ?_
      refine Z_icmp_ne 301 401 dL_holds_298 rfl rfl (fun c298 => absurd c298 (fun z => z (bI_t hs.1))) (fun c298 => ?_)
      refine Z_aload_n 302 15 dL_holds_301 rfl rfl ?_
      refine Z_iload 304 7 dL_holds_302 rfl rfl ?_
      refine Z_iconst 305 (nI 4) dL_holds_304 rfl rfl ?_
      refine Z_callV 308 [_, _] 3 (v_treaty4 hF hk (by first | assumption | omega)) dL_holds_305 rfl qL_23 kX3_treaty rfl rfl (Nat.le_of_ble_eq_true rfl) rfl rfl ⟨(Nat.le_of_ble_eq_true rfl), (Nat.le_of_ble_eq_true rfl)⟩ (Nat.le_of_ble_eq_true rfl) ⟨rfl, rfl⟩ ⟨(Nat.le_of_ble_eq_true rfl), (Nat.le_of_ble_eq_true rfl)⟩ (fun r9 w9 hp9 => ?_)
      obtain ⟨rfl, mm, rfl, hF⟩ := hp9
      refine Z_iload 310 2 dL_holds_308 rfl rfl ?_
      refine Z_if_eq 313 322 dL_holds_310 rfl rfl (fun c310 => absurd c310 (by decide)) (fun c310 => ?_)
      refine Z_iload 315 3 dL_holds_313 rfl rfl ?_
      refine Z_if_ge 318 322 dL_holds_315 rfl rfl (fun c315 => ?_) (fun c315 => absurd (Int32.not_lt.mp hs.2) c315)
      refine Z_iconst 323 (nI 0) dL_holds_322 rfl rfl ?_
      refine Z_icmp_ne 326 401 dL_holds_323 rfl rfl (fun c323 => absurd c323 (fun z => z (bI_f (fun y => hs.2 (brk0.mp y).2)))) (fun c323 => ?_)
      refine Z_aload_n 327 15 dL_holds_326 rfl rfl ?_
      refine Z_iload 329 7 dL_holds_327 rfl rfl ?_
      refine Z_iconst 330 (nI 5) dL_holds_329 rfl rfl ?_
      refine Z_callV 333 [_, _] 3 (v_treaty5 hF hk (by first | assumption | omega)) dL_holds_330 rfl qL_23 kX3_treaty rfl rfl (Nat.le_of_ble_eq_true rfl) rfl rfl ⟨(Nat.le_of_ble_eq_true rfl), (Nat.le_of_ble_eq_true rfl)⟩ (Nat.le_of_ble_eq_true rfl) ⟨rfl, rfl⟩ ⟨(Nat.le_of_ble_eq_true rfl), (Nat.le_of_ble_eq_true rfl)⟩ (fun r9 w9 hp9 => ?_)
      obtain ⟨rfl, mm, rfl, hF⟩ := hp9
      refine Z_sipush 336 (nI 1000) dL_holds_333 rfl rfl ?_
      refine Z_iload 338 3 dL_holds_336 rfl rfl ?_
      refine Z_iadd 339 dL_holds_338 rfl ?_
      refine Z_icmp_ne 342 401 dL_holds_339 rfl rfl (fun c339 => absurd c339 (fun z => z (Int32.add_comm _ _))) (fun c339 => ?_)
      refine Z_iload 344 2 dL_holds_342 rfl rfl ?_
      refine Z_if_eq 347 365 dL_holds_344 rfl rfl (fun c344 => absurd c344 (by decide)) (fun c344 => ?_)
      refine Z_aload_n 348 15 dL_holds_347 rfl rfl ?_
      refine Z_iload 350 6 dL_holds_348 rfl rfl ?_
      refine Z_iload 352 5 dL_holds_350 rfl rfl ?_
      refine Z_iconst 353 (nI 0) dL_holds_352 rfl rfl ?_
      refine Z_callV 356 [_, _, _] 3 (v_bound0 hF g (by first | assumption | omega) (by first | assumption | omega)) dL_holds_353 rfl qL_31 kX3_bound rfl rfl (Nat.le_of_ble_eq_true rfl) rfl rfl ⟨(Nat.le_of_ble_eq_true rfl), (Nat.le_of_ble_eq_true rfl)⟩ (Nat.le_of_ble_eq_true rfl) ⟨rfl, rfl⟩ ⟨(Nat.le_of_ble_eq_true rfl), (Nat.le_of_ble_eq_true rfl)⟩ (fun r9 w9 hp9 => ?_)
      obtain ⟨rfl, mm, rfl, hF⟩ := hp9
      refine Z_sipush 359 (nI 1000) dL_holds_356 rfl rfl ?_
      refine Z_iload 361 4 dL_holds_359 rfl rfl ?_
      refine Z_iadd 362 dL_holds_361 rfl ?_
      refine Z_icmp_gt 365 401 dL_holds_362 rfl rfl (fun c362 => absurd c362 (hI.bnd_le hlt hs.1)) (fun c362 => ?_)
      refine Z_iload 367 2 dL_holds_365 rfl rfl ?_
      refine Z_if_eq 370 397 dL_holds_367 rfl rfl (fun c367 => absurd c367 (by decide)) (fun c367 => ?_)
      refine Z_iload 372 9 dL_holds_370 rfl rfl ?_
      refine Z_bipush 374 (-4) dL_holds_372 rfl rfl ?_
      refine Z_icmp_eq 377 397 dL_holds_374 rfl rfl (fun c374 => ?_) (fun c374 => ?_)
      · skip
        refine Z_iconst 398 (nI 1) dL_holds_397 rfl rfl ?_
        refine Z_goto 402 dL_holds_398 rfl ?_
        refine Z_istore 404 [(9, _), (6, _), (5, _), (15, _), (14, _), (13, _), (12, _), (11, _), (10, _), (8, _), (7, _), (4, _), (3, _), (2, _), (1, _), (0, _)] dL_holds_402 rfl (Nat.le_of_ble_eq_true rfl) rfl ?_
        refine Z_iinc 407 [(10, _), (9, _), (6, _), (5, _), (15, _), (14, _), (13, _), (12, _), (11, _), (8, _), (7, _), (4, _), (3, _), (2, _), (1, _), (0, _)] 8 _ dL_holds_404 rfl (Nat.le_of_ble_eq_true rfl) rfl (nI_1 _) rfl ?_
        refine Z_goto 117 dL_holds_407 rfl ?_
        refine Z_lv [0, 1, 9, 10, 2, 3, 11, 12, 13, 14, 15] rfl ?_
        exact ih (i + 1) (by omega) mm hF
      · skip
        refine Z_aload_n 378 15 dL_holds_377 rfl rfl ?_
        refine Z_iload 380 6 dL_holds_378 rfl rfl ?_
        refine Z_iconst 381 (nI 4) dL_holds_380 rfl rfl ?_
        refine Z_callV 384 [_, _] 3 (v_hedge4 hF g (by first | assumption | omega)) dL_holds_381 rfl qL_19 kX3_hedge rfl rfl (Nat.le_of_ble_eq_true rfl) rfl rfl ⟨(Nat.le_of_ble_eq_true rfl), (Nat.le_of_ble_eq_true rfl)⟩ (Nat.le_of_ble_eq_true rfl) ⟨rfl, rfl⟩ ⟨(Nat.le_of_ble_eq_true rfl), (Nat.le_of_ble_eq_true rfl)⟩ (fun r9 w9 hp9 => ?_)
        obtain ⟨rfl, mm, rfl, hF⟩ := hp9
        refine Z_aload_n 385 15 dL_holds_384 rfl rfl ?_
        refine Z_iload 387 5 dL_holds_385 rfl rfl ?_
        refine Z_iconst 388 (nI 4) dL_holds_387 rfl rfl ?_
        refine Z_callV 391 [_, _] 3 (v_hedge4 hF g (by first | assumption | omega)) dL_holds_388 rfl qL_19 kX3_hedge rfl rfl (Nat.le_of_ble_eq_true rfl) rfl rfl ⟨(Nat.le_of_ble_eq_true rfl), (Nat.le_of_ble_eq_true rfl)⟩ (Nat.le_of_ble_eq_true rfl) ⟨rfl, rfl⟩ ⟨(Nat.le_of_ble_eq_true rfl), (Nat.le_of_ble_eq_true rfl)⟩ (fun r9 w9 hp9 => ?_)
        obtain ⟨rfl, mm, rfl, hF⟩ := hp9
        refine Z_iload 393 4 dL_holds_391 rfl rfl ?_
        refine Z_iadd 394 dL_holds_393 rfl ?_
        refine Z_icmp_gt 397 401 dL_holds_394 rfl rfl (fun c394 => absurd c394 (hI.hd4_e (hI.clp_F c374) hlt hs.1)) (fun c394 => ?_)
        refine Z_iconst 398 (nI 1) dL_holds_397 rfl rfl ?_
        refine Z_goto 402 dL_holds_398 rfl ?_
        refine Z_istore 404 [(9, _), (6, _), (5, _), (15, _), (14, _), (13, _), (12, _), (11, _), (10, _), (8, _), (7, _), (4, _), (3, _), (2, _), (1, _), (0, _)] dL_holds_402 rfl (Nat.le_of_ble_eq_true rfl) rfl ?_
        refine Z_iinc 407 [(10, _), (9, _), (6, _), (5, _), (15, _), (14, _), (13, _), (12, _), (11, _), (8, _), (7, _), (4, _), (3, _), (2, _), (1, _), (0, _)] 8 _ dL_holds_404 rfl (Nat.le_of_ble_eq_true rfl) rfl (nI_1 _) rfl ?_
        refine Z_goto 117 dL_holds_407 rfl ?_
        refine Z_lv [0, 1, 9, 10, 2, 3, 11, 12, 13, 14, 15] rfl ?_
        exact ih (i + 1) (by omega) mm hF
    · skip
      refine Z_iload_n 183 13 dL_holds_182 rfl rfl ?_
      refine Z_aload_n 184 14 dL_holds_183 rfl rfl ?_
      refine Z_iload 186 4 dL_holds_184 rfl rfl ?_
      refine Z_bipush 188 (nI 6) dL_holds_186 rfl rfl ?_
      refine Z_callV 191 [_, _] 3 (v_treaty6 hF hk (by first | assumption | omega)) dL_holds_188 rfl qL_23 kX3_treaty rfl rfl (Nat.le_of_ble_eq_true rfl) rfl rfl ⟨(Nat.le_of_ble_eq_true rfl), (Nat.le_of_ble_eq_true rfl)⟩ (Nat.le_of_ble_eq_true rfl) ⟨rfl, rfl⟩ ⟨(Nat.le_of_ble_eq_true rfl), (Nat.le_of_ble_eq_true rfl)⟩ (fun r9 w9 hp9 => ?_)
      obtain ⟨rfl, mm, rfl, hF⟩ := hp9
      refine Z_icmp_lt 194 198 dL_holds_191 rfl rfl (fun c191 => ?_) (fun c191 => absurd (Int32.not_le.mp hs) c191)
      refine Z_iconst 199 (nI 0) dL_holds_198 rfl rfl ?_
      refine Z_istore 201 [(15, _), (14, _), (13, _), (12, _), (11, _), (10, _), (9, _), (8, _), (7, _), (6, _), (5, _), (4, _), (3, _), (2, _), (1, _), (0, _)] dL_holds_199 rfl (Nat.le_of_ble_eq_true rfl) rfl ?_
      refine Z_iload 203 10 dL_holds_201 rfl rfl ?_
      refine Z_iload 205 0 dL_holds_203 rfl rfl ?_
      refine Z_if_eq 208 212 dL_holds_205 rfl rfl (fun c205 => ?_) (fun c205 => absurd (by decide) c205)
      refine Z_iconst 213 (nI 0) dL_holds_212 rfl rfl ?_
      refine Z_iadd 214 dL_holds_213 rfl ?_
      refine Z_top (v' := .int (nI (cF m (i + 1)))) (congrArg Value.int (cnt_s0 (p := fun j => decide (sForce m 1 j)) (fun z => hs (of_decide_eq_true z)))) ?_
      refine Z_istore 216 [(5, _), (15, _), (14, _), (13, _), (12, _), (11, _), (10, _), (9, _), (8, _), (7, _), (6, _), (4, _), (3, _), (2, _), (1, _), (0, _)] dL_holds_214 rfl (Nat.le_of_ble_eq_true rfl) rfl ?_
      refine Z_iload 218 10 dL_holds_216 rfl rfl ?_
      refine Z_iload 220 1 dL_holds_218 rfl rfl ?_
      refine Z_if_eq 223 232 dL_holds_220 rfl rfl (fun c220 => ?_) (fun c220 => absurd (by decide) c220)
      refine Z_iconst 233 (nI 0) dL_holds_232 rfl rfl ?_
      refine Z_iadd 234 dL_holds_233 rfl ?_
      refine Z_top (v' := .int (nI (cB m (i + 1)))) (congrArg Value.int (cnt_s0 (p := fun j => decide (sBrk m 1 j (nI 0))) (fun z => hs (brk0.mp (of_decide_eq_true z)).1))) ?_
      refine Z_istore 236 [(6, _), (5, _), (15, _), (14, _), (13, _), (12, _), (11, _), (10, _), (9, _), (8, _), (7, _), (4, _), (3, _), (2, _), (1, _), (0, _)] dL_holds_234 rfl (Nat.le_of_ble_eq_true rfl) rfl ?_
      refine Z_iload 238 6 dL_holds_236 rfl rfl ?_
      refine Z_if_lt 241 401 dL_holds_238 rfl rfl (fun c238 => absurd c238 (nI_pos (by omega))) (fun c238 => ?_)
      refine Z_iload 243 6 dL_holds_241 rfl rfl ?_
      refine Z_bipush 245 (nI 8) dL_holds_243 rfl rfl ?_
      refine Z_icmp_ge 248 401 dL_holds_245 rfl rfl (fun c245 => absurd c245 (nI_ge f8 (by decide))) (fun c245 => ?_)
      refine Z_iload 250 5 dL_holds_248 rfl rfl ?_
      refine Z_if_lt 253 401 dL_holds_250 rfl rfl (fun c250 => absurd c250 (nI_pos (by omega))) (fun c250 => ?_)
      refine Z_iload 255 5 dL_holds_253 rfl rfl ?_
      refine Z_bipush 257 (nI 8) dL_holds_255 rfl rfl ?_
      refine Z_icmp_ge 260 401 dL_holds_257 rfl rfl (fun c257 => absurd c257 (nI_ge o8 (by decide))) (fun c257 => ?_)
      refine Z_iload 262 6 dL_holds_260 rfl rfl ?_
      refine Z_iload 264 5 dL_holds_262 rfl rfl ?_
      refine Z_icmp_eq 267 401 dL_holds_264 rfl rfl (fun c264 => absurd c264 (fun z => hI.ne hlt ((nI_eq (by omega) (by omega)).mp z))) (fun c264 => ?_)
      refine Z_iload 269 4 dL_holds_267 rfl rfl ?_
      refine Z_bipush 271 (-30) dL_holds_269 rfl rfl ?_
      refine Z_icmp_lt 274 401 dL_holds_271 rfl rfl (fun c271 => absurd c271 (nlt (hI.dd hlt).1)) (fun c271 => ?_)
      refine Z_iload 276 4 dL_holds_274 rfl rfl ?_
      refine Z_bipush 278 (nI 60) dL_holds_276 rfl rfl ?_
      refine Z_icmp_gt 281 401 dL_holds_278 rfl rfl (fun c278 => absurd c278 (nlt (hI.dd hlt).2)) (fun c278 => ?_)
      refine Z_aload_n 282 15 dL_holds_281 rfl rfl ?_
      refine Z_iload 284 7 dL_holds_282 rfl rfl ?_
      refine Z_iconst 285 (nI 3) dL_holds_284 rfl rfl ?_
      refine Z_callV 288 [_, _] 3 (v_treaty3 hF hk (by first | assumption | omega)) dL_holds_285 rfl qL_23 kX3_treaty rfl rfl (Nat.le_of_ble_eq_true rfl) rfl rfl ⟨(Nat.le_of_ble_eq_true rfl), (Nat.le_of_ble_eq_true rfl)⟩ (Nat.le_of_ble_eq_true rfl) ⟨rfl, rfl⟩ ⟨(Nat.le_of_ble_eq_true rfl), (Nat.le_of_ble_eq_true rfl)⟩ (fun r9 w9 hp9 => ?_)
      obtain ⟨rfl, mm, rfl, hF⟩ := hp9
      refine Z_iload 290 2 dL_holds_288 rfl rfl ?_
      refine Z_if_eq 293 297 dL_holds_290 rfl rfl (fun c290 => ?_) (fun c290 => absurd (by decide) c290)
      refine Z_iconst 298 (nI 0) dL_holds_297 rfl rfl ?_
      refine Z_icmp_ne 301 401 dL_holds_298 rfl rfl (fun c298 => absurd c298 (fun z => z (bI_f hs))) (fun c298 => ?_)
      refine Z_aload_n 302 15 dL_holds_301 rfl rfl ?_
      refine Z_iload 304 7 dL_holds_302 rfl rfl ?_
      refine Z_iconst 305 (nI 4) dL_holds_304 rfl rfl ?_
      refine Z_callV 308 [_, _] 3 (v_treaty4 hF hk (by first | assumption | omega)) dL_holds_305 rfl qL_23 kX3_treaty rfl rfl (Nat.le_of_ble_eq_true rfl) rfl rfl ⟨(Nat.le_of_ble_eq_true rfl), (Nat.le_of_ble_eq_true rfl)⟩ (Nat.le_of_ble_eq_true rfl) ⟨rfl, rfl⟩ ⟨(Nat.le_of_ble_eq_true rfl), (Nat.le_of_ble_eq_true rfl)⟩ (fun r9 w9 hp9 => ?_)
      obtain ⟨rfl, mm, rfl, hF⟩ := hp9
      refine Z_iload 310 2 dL_holds_308 rfl rfl ?_
      refine Z_if_eq 313 322 dL_holds_310 rfl rfl (fun c310 => ?_) (fun c310 => absurd (by decide) c310)
      refine Z_iconst 323 (nI 0) dL_holds_322 rfl rfl ?_
      refine Z_icmp_ne 326 401 dL_holds_323 rfl rfl (fun c323 => absurd c323 (fun z => z (bI_f (fun y => hs (brk0.mp y).1)))) (fun c323 => ?_)
      refine Z_aload_n 327 15 dL_holds_326 rfl rfl ?_
      refine Z_iload 329 7 dL_holds_327 rfl rfl ?_
      refine Z_iconst 330 (nI 5) dL_holds_329 rfl rfl ?_
      refine Z_callV 333 [_, _] 3 (v_treaty5 hF hk (by first | assumption | omega)) dL_holds_330 rfl qL_23 kX3_treaty rfl rfl (Nat.le_of_ble_eq_true rfl) rfl rfl ⟨(Nat.le_of_ble_eq_true rfl), (Nat.le_of_ble_eq_true rfl)⟩ (Nat.le_of_ble_eq_true rfl) ⟨rfl, rfl⟩ ⟨(Nat.le_of_ble_eq_true rfl), (Nat.le_of_ble_eq_true rfl)⟩ (fun r9 w9 hp9 => ?_)
      obtain ⟨rfl, mm, rfl, hF⟩ := hp9
      refine Z_sipush 336 (nI 1000) dL_holds_333 rfl rfl ?_
      refine Z_iload 338 3 dL_holds_336 rfl rfl ?_
      refine Z_iadd 339 dL_holds_338 rfl ?_
      refine Z_icmp_ne 342 401 dL_holds_339 rfl rfl (fun c339 => absurd c339 (fun z => z (Int32.add_comm _ _))) (fun c339 => ?_)
      refine Z_iload 344 2 dL_holds_342 rfl rfl ?_
      refine Z_if_eq 347 365 dL_holds_344 rfl rfl (fun c344 => ?_) (fun c344 => absurd (by decide) c344)
      refine Z_iload 367 2 dL_holds_365 rfl rfl ?_
      refine Z_if_eq 370 397 dL_holds_367 rfl rfl (fun c367 => ?_) (fun c367 => absurd (by decide) c367)
      refine Z_iconst 398 (nI 1) dL_holds_397 rfl rfl ?_
      refine Z_goto 402 dL_holds_398 rfl ?_
      refine Z_istore 404 [(9, _), (6, _), (5, _), (15, _), (14, _), (13, _), (12, _), (11, _), (10, _), (8, _), (7, _), (4, _), (3, _), (2, _), (1, _), (0, _)] dL_holds_402 rfl (Nat.le_of_ble_eq_true rfl) rfl ?_
      refine Z_iinc 407 [(10, _), (9, _), (6, _), (5, _), (15, _), (14, _), (13, _), (12, _), (11, _), (8, _), (7, _), (4, _), (3, _), (2, _), (1, _), (0, _)] 8 _ dL_holds_404 rfl (Nat.le_of_ble_eq_true rfl) rfl (nI_1 _) rfl ?_
      refine Z_goto 117 dL_holds_407 rfl ?_
      refine Z_lv [0, 1, 9, 10, 2, 3, 11, 12, 13, 14, 15] rfl ?_
      exact ih (i + 1) (by omega) mm hF

set_option maxRecDepth 100000 in
set_option maxHeartbeats 4000000 in
theorem lL_holds82 {G : zG} {l : Launch} {h : Nat → Nat} {m : zM} {K n : Nat} (hI : Inv K m n) : ∀ mm : zM, Fsv m mm → Z G mL_holds (fun _ => True) (zN G (fun r w => r = some (.int (nI 1)) ∧ ∃ m', w = zw h m' ∧ Fsv m m') 0 0) l 0 0 (zw h mm) 82 [(8, .int (clp m n)), (7, .int (nI 0)), (6, .int (nI 0)), (5, .int (nI 0)), (4, .int (nI 0)), (3, .int (nI 0)), (2, .int (nI 0)), (1, .int (m 1 9)), (0, .ref (G.1 + 0))] [] := by
  intro mm hF
  have hn := hI.n14
  have hk := hI.ok
  have g := hI.g
  refine Z_aload_n 83 8 dL_holds_82 rfl rfl ?_
  refine Z_bipush 85 (nI 8) dL_holds_83 rfl rfl ?_
  refine Z_iconst 86 (nI 0) dL_holds_85 rfl rfl ?_
  refine Z_callV 89 [_, _] 3 (v_hedgeE hF _ _ (by decide)) dL_holds_86 rfl qL_19 kX3_hedge rfl rfl (Nat.le_of_ble_eq_true rfl) rfl rfl ⟨(Nat.le_of_ble_eq_true rfl), (Nat.le_of_ble_eq_true rfl)⟩ (Nat.le_of_ble_eq_true rfl) ⟨rfl, rfl⟩ ⟨(Nat.le_of_ble_eq_true rfl), (Nat.le_of_ble_eq_true rfl)⟩ (fun r9 w9 hp9 => ?_)
  obtain ⟨rfl, mm, rfl, hF⟩ := hp9
  refine Z_iconst 90 (-1) dL_holds_89 rfl rfl ?_
  refine Z_icmp_ne 93 111 dL_holds_90 rfl rfl (fun c90 => absurd c90 (by decide)) (fun c90 => ?_)
  refine Z_aload_n 94 8 dL_holds_93 rfl rfl ?_
  refine Z_aload_n 95 8 dL_holds_94 rfl rfl ?_
  refine Z_iconst 96 (nI 1) dL_holds_95 rfl rfl ?_
  refine Z_callV 99 [_] 3 (v_count1 hF hk) dL_holds_96 rfl qL_13 kX3_count rfl rfl (Nat.le_of_ble_eq_true rfl) rfl rfl ⟨(Nat.le_of_ble_eq_true rfl), (Nat.le_of_ble_eq_true rfl)⟩ (Nat.le_of_ble_eq_true rfl) ⟨rfl, rfl⟩ ⟨(Nat.le_of_ble_eq_true rfl), (Nat.le_of_ble_eq_true rfl)⟩ (fun r9 w9 hp9 => ?_)
  obtain ⟨rfl, mm, rfl, hF⟩ := hp9
  refine Z_iconst 100 (nI 0) dL_holds_99 rfl rfl ?_
  refine Z_callV 103 [_, _] 3 (v_treatyE hF hk _) dL_holds_100 rfl qL_23 kX3_treaty rfl rfl (Nat.le_of_ble_eq_true rfl) rfl rfl ⟨(Nat.le_of_ble_eq_true rfl), (Nat.le_of_ble_eq_true rfl)⟩ (Nat.le_of_ble_eq_true rfl) ⟨rfl, rfl⟩ ⟨(Nat.le_of_ble_eq_true rfl), (Nat.le_of_ble_eq_true rfl)⟩ (fun r9 w9 hp9 => ?_)
  obtain ⟨rfl, mm, rfl, hF⟩ := hp9
  refine Z_iconst 104 (-1) dL_holds_103 rfl rfl ?_
  refine Z_icmp_ne 107 111 dL_holds_104 rfl rfl (fun c104 => absurd c104 (by decide)) (fun c104 => ?_)
  refine Z_iconst 108 (nI 1) dL_holds_107 rfl rfl ?_
  refine Z_goto 112 dL_holds_108 rfl ?_
  refine Z_istore 114 [(9, _), (8, _), (7, _), (6, _), (5, _), (4, _), (3, _), (2, _), (1, _), (0, _)] dL_holds_112 rfl (Nat.le_of_ble_eq_true rfl) rfl ?_
  refine Z_iconst 115 (nI 0) dL_holds_114 rfl rfl ?_
  refine Z_istore 117 [(10, _), (9, _), (8, _), (7, _), (6, _), (5, _), (4, _), (3, _), (2, _), (1, _), (0, _)] dL_holds_115 rfl (Nat.le_of_ble_eq_true rfl) rfl ?_
  exact lL_holds1 hI n 0 (by omega) mm hF

set_option maxRecDepth 100000 in
set_option maxHeartbeats 4000000 in
theorem zL_holds {G : zG} {l : Launch} {h : Nat → Nat} {m : zM} {K n : Nat} {mm : zM} (hI : Inv K m n) (hF : Fsv m mm) : zMet G l yL_holds mL_holds [.ref (G.1 + 0)] (zw h mm) (fun r w => r = some (.int (nI 1)) ∧ ∃ m', w = zw h m' ∧ Fsv m m') 0 0 := by
  refine zMet_of [(0, .ref (G.1 + 0))] (by decide +kernel) rfl (Or.inl rfl) (Nat.le_of_ble_eq_true rfl) rfl ?_
  have hn := hI.n14
  have hk := hI.ok
  have g := hI.g
  refine Z_aload_n 1 0 dL_holds_0 rfl rfl ?_
  refine Z_iconst 2 (nI 0) dL_holds_1 rfl rfl ?_
  refine Z_callV 5 [_] 3 (v_count0 hF hk) dL_holds_2 rfl qL_13 kX3_count rfl rfl (Nat.le_of_ble_eq_true rfl) rfl rfl ⟨(Nat.le_of_ble_eq_true rfl), (Nat.le_of_ble_eq_true rfl)⟩ (Nat.le_of_ble_eq_true rfl) ⟨rfl, rfl⟩ ⟨(Nat.le_of_ble_eq_true rfl), (Nat.le_of_ble_eq_true rfl)⟩ (fun r9 w9 hp9 => ?_)
  obtain ⟨rfl, mm, rfl, hF⟩ := hp9
  refine Z_istore_n 6 [(1, _), (0, _)] dL_holds_5 rfl (Nat.le_of_ble_eq_true rfl) rfl ?_
  refine Z_iconst 7 (nI 0) dL_holds_6 rfl rfl ?_
  refine Z_istore_n 8 [(2, _), (1, _), (0, _)] dL_holds_7 rfl (Nat.le_of_ble_eq_true rfl) rfl ?_
  refine Z_iconst 9 (nI 0) dL_holds_8 rfl rfl ?_
  refine Z_istore_n 10 [(3, _), (2, _), (1, _), (0, _)] dL_holds_9 rfl (Nat.le_of_ble_eq_true rfl) rfl ?_
  refine Z_iconst 11 (nI 0) dL_holds_10 rfl rfl ?_
  refine Z_istore 13 [(4, _), (3, _), (2, _), (1, _), (0, _)] dL_holds_11 rfl (Nat.le_of_ble_eq_true rfl) rfl ?_
  refine Z_iconst 14 (nI 0) dL_holds_13 rfl rfl ?_
  refine Z_istore 16 [(5, _), (4, _), (3, _), (2, _), (1, _), (0, _)] dL_holds_14 rfl (Nat.le_of_ble_eq_true rfl) rfl ?_
  refine Z_iconst 17 (nI 0) dL_holds_16 rfl rfl ?_
  refine Z_istore 19 [(6, _), (5, _), (4, _), (3, _), (2, _), (1, _), (0, _)] dL_holds_17 rfl (Nat.le_of_ble_eq_true rfl) rfl ?_
  refine Z_iconst 20 (nI 0) dL_holds_19 rfl rfl ?_
  refine Z_istore 22 [(7, _), (6, _), (5, _), (4, _), (3, _), (2, _), (1, _), (0, _)] dL_holds_20 rfl (Nat.le_of_ble_eq_true rfl) rfl ?_
  refine Z_aload_n 23 7 dL_holds_22 rfl rfl ?_
  refine Z_iconst 24 (nI 0) dL_holds_23 rfl rfl ?_
  refine Z_callV 27 [_] 3 (v_clipping0 hF g) dL_holds_24 rfl qL_26 kX3_clipping rfl rfl (Nat.le_of_ble_eq_true rfl) rfl rfl ⟨(Nat.le_of_ble_eq_true rfl), (Nat.le_of_ble_eq_true rfl)⟩ (Nat.le_of_ble_eq_true rfl) ⟨rfl, rfl⟩ ⟨(Nat.le_of_ble_eq_true rfl), (Nat.le_of_ble_eq_true rfl)⟩ (fun r9 w9 hp9 => ?_)
  obtain ⟨rfl, mm, rfl, hF⟩ := hp9
  refine Z_istore 29 [(8, _), (7, _), (6, _), (5, _), (4, _), (3, _), (2, _), (1, _), (0, _)] dL_holds_27 rfl (Nat.le_of_ble_eq_true rfl) rfl ?_
  refine Z_iload_n 30 7 dL_holds_29 rfl rfl ?_
  refine Z_if_lt 33 111 dL_holds_30 rfl rfl (fun c30 => absurd c30 (n0 hI.day.1)) (fun c30 => ?_)
  refine Z_aload_n 34 8 dL_holds_33 rfl rfl ?_
  refine Z_iconst 35 (nI 1) dL_holds_34 rfl rfl ?_
  refine Z_callV 38 [_] 3 (v_count1 hF hk) dL_holds_35 rfl qL_13 kX3_count rfl rfl (Nat.le_of_ble_eq_true rfl) rfl rfl ⟨(Nat.le_of_ble_eq_true rfl), (Nat.le_of_ble_eq_true rfl)⟩ (Nat.le_of_ble_eq_true rfl) ⟨rfl, rfl⟩ ⟨(Nat.le_of_ble_eq_true rfl), (Nat.le_of_ble_eq_true rfl)⟩ (fun r9 w9 hp9 => ?_)
  obtain ⟨rfl, mm, rfl, hF⟩ := hp9
  refine Z_if_lt 41 111 dL_holds_38 rfl rfl (fun c38 => absurd c38 (nI_pos (by omega))) (fun c38 => ?_)
  refine Z_aload_n 42 8 dL_holds_41 rfl rfl ?_
  refine Z_iconst 43 (nI 1) dL_holds_42 rfl rfl ?_
  refine Z_callV 46 [_] 3 (v_count1 hF hk) dL_holds_43 rfl qL_13 kX3_count rfl rfl (Nat.le_of_ble_eq_true rfl) rfl rfl ⟨(Nat.le_of_ble_eq_true rfl), (Nat.le_of_ble_eq_true rfl)⟩ (Nat.le_of_ble_eq_true rfl) ⟨rfl, rfl⟩ ⟨(Nat.le_of_ble_eq_true rfl), (Nat.le_of_ble_eq_true rfl)⟩ (fun r9 w9 hp9 => ?_)
  obtain ⟨rfl, mm, rfl, hF⟩ := hp9
  refine Z_bipush 48 (nI 14) dL_holds_46 rfl rfl ?_
  refine Z_icmp_gt 51 111 dL_holds_48 rfl rfl (fun c48 => absurd c48 (nI_nlt hn (by decide))) (fun c48 => ?_)
  refine Z_aload_n 52 8 dL_holds_51 rfl rfl ?_
  refine Z_bipush 54 (nI 6) dL_holds_52 rfl rfl ?_
  refine Z_callV 57 [_] 3 (v_count6 hF hk) dL_holds_54 rfl qL_13 kX3_count rfl rfl (Nat.le_of_ble_eq_true rfl) rfl rfl ⟨(Nat.le_of_ble_eq_true rfl), (Nat.le_of_ble_eq_true rfl)⟩ (Nat.le_of_ble_eq_true rfl) ⟨rfl, rfl⟩ ⟨(Nat.le_of_ble_eq_true rfl), (Nat.le_of_ble_eq_true rfl)⟩ (fun r9 w9 hp9 => ?_)
  obtain ⟨rfl, mm, rfl, hF⟩ := hp9
  refine Z_if_lt 60 111 dL_holds_57 rfl rfl (fun c57 => absurd c57 (n0 hI.ck.1)) (fun c57 => ?_)
  refine Z_iload 62 0 dL_holds_60 rfl rfl ?_
  refine Z_aload_n 63 8 dL_holds_62 rfl rfl ?_
  refine Z_iconst 64 (nI 1) dL_holds_63 rfl rfl ?_
  refine Z_callV 67 [_] 3 (v_clipping1 hF g) dL_holds_64 rfl qL_26 kX3_clipping rfl rfl (Nat.le_of_ble_eq_true rfl) rfl rfl ⟨(Nat.le_of_ble_eq_true rfl), (Nat.le_of_ble_eq_true rfl)⟩ (Nat.le_of_ble_eq_true rfl) ⟨rfl, rfl⟩ ⟨(Nat.le_of_ble_eq_true rfl), (Nat.le_of_ble_eq_true rfl)⟩ (fun r9 w9 hp9 => ?_)
  obtain ⟨rfl, mm, rfl, hF⟩ := hp9
  refine Z_icmp_ne 70 111 dL_holds_67 rfl rfl (fun c67 => absurd c67 (fun z => z rfl)) (fun c67 => ?_)
  refine Z_iload 72 0 dL_holds_70 rfl rfl ?_
  refine Z_bipush 74 (-4) dL_holds_72 rfl rfl ?_
  refine Z_icmp_eq 77 82 dL_holds_74 rfl rfl (fun c74 => ?_) (fun c74 => ?_)
  · skip
    exact lL_holds82 hI mm hF
  · skip
    refine Z_iload 79 0 dL_holds_77 rfl rfl ?_
    refine Z_if_lt 82 111 dL_holds_79 rfl rfl (fun c79 => absurd c79 (n0 (hI.clp_f (hI.clp_F c74)).1)) (fun c79 => ?_)
    exact lL_holds82 hI mm hF

