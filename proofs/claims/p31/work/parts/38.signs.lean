/-! signs -/
theorem sN_lt {s : Nat} (h : s < 4) : sN s = s + 1 := if_pos h
theorem sN_ge {s : Nat} (h : ¬ s < 4) : sN s = 4 := if_neg h
theorem Act.fromQ {K n s : Nat} {h : Nat → Nat} {m M : zM} (e : ∀ q, q < 56 → M q = m q) {h1 : Nat → Nat} {m1 : zM} {n1 s1 : Nat} (a : Act K h M n s h1 m1 n1 s1) : Act K h m n s h1 m1 n1 s1 := by
  have eq0 : EqS n M m := EqS.of (fun q x y => e q (by omega))
  refine ⟨a.1, ⟨fun q x y => (a.2.1.1 q x y).trans (e q (by omega)), by rw [a.2.1.2, e 0 (by decide)]⟩, ?_⟩
  rcases a.2.2 with ⟨x, y, z⟩ | ⟨x, z⟩
  · exact Or.inl ⟨x, y, z.trans eq0⟩
  · exact Or.inr ⟨x, z.trans eq0⟩
theorem up2_id (m : zM) {a k : Nat} {v : Int32} (h : m a k = v) : up2 m a k v = m := by
  funext q j
  unfold up2
  by_cases c : q = a ∧ j = k
  · rw [if_pos c, c.1, c.2, h]
  · rw [if_neg c]
section
variable {G : zG} {l : Launch} {h : Nat → Nat} {M mm : zM} {L : Nat}
theorem v_clrF (hf : FP9 M mm) (hL : M 68 1 = nI L) : zMet G l yX3_clear mX3_clear [.ref (G.1 + 0)] (zw h mm) (fun r w => r = some (.int (nI L)) ∧ ∃ B, w = zw h B ∧ (∀ q, q < 56 → B q = M q) ∧ B 68 1 = nI 0) 0 0 :=
  zMet_post zX3_clear (fun r w hq => ⟨by rw [hq.1, hf.2.2, hL], _, hq.2, fun q a => by rw [up2_na _ _ _ (by omega)]; exact hf.1 q a, up2_eq _ _ _ _⟩)
theorem v_clr0 (h0 : mm 68 1 = nI 0) : zMet G l yX3_clear mX3_clear [.ref (G.1 + 0)] (zw h mm) (fun r w => r = some (.int (nI 0)) ∧ w = zw h mm) 0 0 :=
  zMet_post zX3_clear (fun r w hq => ⟨by rw [hq.1, h0], by rw [hq.2, up2_id mm h0]⟩)
theorem v_why0 (hF : Fsv M mm) : zMet G l yX3_why mX3_why [.ref (G.1 + 0), .int (nI 0)] (zw h mm) (VP h M (if M 0 7 = 0 then -4 else M 0 7)) 0 0 := vw hF zX3_why0 (by rw [hF 0 (by decide)])
theorem v_why1 (hF : Fsv M mm) : zMet G l yX3_why mX3_why [.ref (G.1 + 0), .int (nI 1)] (zw h mm) (VP h M (if M 0 7 = 0 then -4 else M 0 8)) 0 0 := vw hF zX3_why1 (by rw [hF 0 (by decide)])
theorem v_why2 (hF : Fsv M mm) : zMet G l yX3_why mX3_why [.ref (G.1 + 0), .int (nI 2)] (zw h mm) (VP h M (if M 0 7 = 0 then -4 else M 0 9)) 0 0 := vw hF zX3_why2 (by rw [hF 0 (by decide)])
end
set_option maxRecDepth 100000 in
set_option maxHeartbeats 4000000 in
theorem zL_signs {G : zG} {l : Launch} {h : Nat → Nat} {m : zM} {K n s : Nat} {mm : zM} (sy : Sy K h m n s) (hF : Fsv m mm) (x : Int32) : zMet G l yL_signs mL_signs [.ref (G.1 + 0), .int x] (zw h mm) (actP K h m n s) 0 0 := by
  refine zMet_of [(0, .ref (G.1 + 0)), (1, .int x)] (by decide +kernel) rfl (Or.inl rfl) (Nat.le_of_ble_eq_true rfl) rfl ?_
  have hI := sy.inv
  have hn := hI.n14
  have hk := sy.ok
  have g := hI.g
  have hs4 := sy.s4
  refine Z_iload_n 1 1 dL_signs_0 rfl rfl ?_
  refine Z_bipush 3 (nI 9) dL_signs_1 rfl rfl ?_
  refine Z_callS 6 [_, _] (zL_lowF _ 9 (by decide)) dL_signs_3 rfl qL_39 kL_low rfl rfl ⟨(Nat.le_of_ble_eq_true rfl), (Nat.le_of_ble_eq_true rfl)⟩ (Nat.le_of_ble_eq_true rfl) ⟨rfl, rfl⟩ ⟨(Nat.le_of_ble_eq_true rfl), (Nat.le_of_ble_eq_true rfl)⟩ (fun r9 w9 hp9 => ?_)
  obtain ⟨rfl, rfl⟩ := hp9
  have hn9 : lowV x 9 < 9 := lowV_lt x (by decide)
  refine Z_istore_n 7 [(2, _), (0, _), (1, _)] dL_signs_6 rfl (Nat.le_of_ble_eq_true rfl) rfl ?_
  refine Z_aload_n 8 1 dL_signs_7 rfl rfl ?_
  refine Z_iload_n 9 2 dL_signs_8 rfl rfl ?_
  refine Z_callS 12 [_, _] (zL_types x (sy.v hF).2.2.2.2) dL_signs_9 rfl qL_61 kL_types rfl rfl ⟨(Nat.le_of_ble_eq_true rfl), (Nat.le_of_ble_eq_true rfl)⟩ (Nat.le_of_ble_eq_true rfl) ⟨rfl, rfl⟩ ⟨(Nat.le_of_ble_eq_true rfl), (Nat.le_of_ble_eq_true rfl)⟩ (fun r9 w9 hp9 => ?_)
  obtain ⟨rfl, M, rfl, hT⟩ := hp9
  obtain ⟨L, S, hL60, hP, -⟩ := id hT
  have hL : M 68 1 = nI L := hP.2.1
  have eM : ∀ q, q < 56 → M q = m q := fun q a => (hP.1 q (by omega) (by omega)).trans (hF q (by omega))
  have syM : Sy K h M n s := sy.lo (fun q a _ => eM q a) (by rw [eM 0 (by decide)]) (by rw [eM 0 (by decide)]) ⟨L, hL60, hL⟩
  have hk := syM.ok
  have hF : Fsv M M := Fsv.rf
  refine Z_istore_n 13 [(3, _), (2, _), (0, _), (1, _)] dL_signs_12 rfl (Nat.le_of_ble_eq_true rfl) rfl ?_
  refine Z_aload_n 14 2 dL_signs_13 rfl rfl ?_
  refine Z_callS 17 [_] (zL_look hF hk) dL_signs_14 rfl qL_65 kL_look rfl rfl ⟨(Nat.le_of_ble_eq_true rfl), (Nat.le_of_ble_eq_true rfl)⟩ (Nat.le_of_ble_eq_true rfl) ⟨rfl, rfl⟩ ⟨(Nat.le_of_ble_eq_true rfl), (Nat.le_of_ble_eq_true rfl)⟩ (fun r9 w9 hp9 => ?_)
  obtain ⟨rfl, mm, rfl, hF⟩ := hp9
  refine Z_lstore 19 [(4, _), (3, _), (2, _), (0, _), (1, _)] dL_signs_17 rfl (Nat.le_of_ble_eq_true rfl) rfl ?_
  refine Z_aload_n 20 3 dL_signs_19 rfl rfl ?_
  refine Z_bipush 22 (nI 12) dL_signs_20 rfl rfl ?_
  refine Z_callV 25 [_] 3 (v_count12 hF hk) dL_signs_22 rfl qL_13 kX3_count rfl rfl (Nat.le_of_ble_eq_true rfl) rfl rfl ⟨(Nat.le_of_ble_eq_true rfl), (Nat.le_of_ble_eq_true rfl)⟩ (Nat.le_of_ble_eq_true rfl) ⟨rfl, rfl⟩ ⟨(Nat.le_of_ble_eq_true rfl), (Nat.le_of_ble_eq_true rfl)⟩ (fun r9 w9 hp9 => ?_)
  obtain ⟨rfl, mm, rfl, hF⟩ := hp9
  refine Z_top (v' := .int (nI s)) (congrArg Value.int syM.st) ?_
  refine Z_istore 27 [(6, _), (4, _), (3, _), (2, _), (0, _), (1, _)] dL_signs_25 rfl (Nat.le_of_ble_eq_true rfl) rfl ?_
  refine Z_aload_n 28 4 dL_signs_27 rfl rfl ?_
  refine Z_iconst 29 (nI 1) dL_signs_28 rfl rfl ?_
  refine Z_callV 32 [_] 3 (v_count1 hF hk) dL_signs_29 rfl qL_13 kX3_count rfl rfl (Nat.le_of_ble_eq_true rfl) rfl rfl ⟨(Nat.le_of_ble_eq_true rfl), (Nat.le_of_ble_eq_true rfl)⟩ (Nat.le_of_ble_eq_true rfl) ⟨rfl, rfl⟩ ⟨(Nat.le_of_ble_eq_true rfl), (Nat.le_of_ble_eq_true rfl)⟩ (fun r9 w9 hp9 => ?_)
  obtain ⟨rfl, mm, rfl, hF⟩ := hp9
  refine Z_istore 34 [(7, _), (6, _), (4, _), (3, _), (2, _), (0, _), (1, _)] dL_signs_32 rfl (Nat.le_of_ble_eq_true rfl) rfl ?_
  refine Z_aload_n 35 5 dL_signs_34 rfl rfl ?_
  refine Z_bipush 37 (nI 7) dL_signs_35 rfl rfl ?_
  refine Z_callV 40 [_] 3 (v_count7 hF hk) dL_signs_37 rfl qL_13 kX3_count rfl rfl (Nat.le_of_ble_eq_true rfl) rfl rfl ⟨(Nat.le_of_ble_eq_true rfl), (Nat.le_of_ble_eq_true rfl)⟩ (Nat.le_of_ble_eq_true rfl) ⟨rfl, rfl⟩ ⟨(Nat.le_of_ble_eq_true rfl), (Nat.le_of_ble_eq_true rfl)⟩ (fun r9 w9 hp9 => ?_)
  obtain ⟨rfl, mm, rfl, hF⟩ := hp9
  refine Z_istore 42 [(8, _), (7, _), (6, _), (4, _), (3, _), (2, _), (0, _), (1, _)] dL_signs_40 rfl (Nat.le_of_ble_eq_true rfl) rfl ?_
  refine Z_aload_n 43 6 dL_signs_42 rfl rfl ?_
  refine Z_bipush 45 (nI 8) dL_signs_43 rfl rfl ?_
  refine Z_callV 48 [_] 3 (v_count8 hF hk) dL_signs_45 rfl qL_13 kX3_count rfl rfl (Nat.le_of_ble_eq_true rfl) rfl rfl ⟨(Nat.le_of_ble_eq_true rfl), (Nat.le_of_ble_eq_true rfl)⟩ (Nat.le_of_ble_eq_true rfl) ⟨rfl, rfl⟩ ⟨(Nat.le_of_ble_eq_true rfl), (Nat.le_of_ble_eq_true rfl)⟩ (fun r9 w9 hp9 => ?_)
  obtain ⟨rfl, mm, rfl, hF⟩ := hp9
  refine Z_istore 50 [(9, _), (8, _), (7, _), (6, _), (4, _), (3, _), (2, _), (0, _), (1, _)] dL_signs_48 rfl (Nat.le_of_ble_eq_true rfl) rfl ?_
  refine Z_aload_n 51 7 dL_signs_50 rfl rfl ?_
  refine Z_bipush 53 (nI 11) dL_signs_51 rfl rfl ?_
  refine Z_callV 56 [_] 3 (v_count11 hF hk) dL_signs_53 rfl qL_13 kX3_count rfl rfl (Nat.le_of_ble_eq_true rfl) rfl rfl ⟨(Nat.le_of_ble_eq_true rfl), (Nat.le_of_ble_eq_true rfl)⟩ (Nat.le_of_ble_eq_true rfl) ⟨rfl, rfl⟩ ⟨(Nat.le_of_ble_eq_true rfl), (Nat.le_of_ble_eq_true rfl)⟩ (fun r9 w9 hp9 => ?_)
  obtain ⟨rfl, mm, rfl, hF⟩ := hp9
  refine Z_top (v' := .int (nI L)) (congrArg Value.int hL) ?_
  refine Z_istore 58 [(10, _), (9, _), (8, _), (7, _), (6, _), (4, _), (3, _), (2, _), (0, _), (1, _)] dL_signs_56 rfl (Nat.le_of_ble_eq_true rfl) rfl ?_
  refine Z_aload_n 59 8 dL_signs_58 rfl rfl ?_
  refine Z_callV 62 [] 3 (v_fault (FP9.rf.v hF) hL hL60) dL_signs_59 rfl qL_69 kX3_fault rfl rfl (Nat.le_of_ble_eq_true rfl) rfl rfl ⟨(Nat.le_of_ble_eq_true rfl), (Nat.le_of_ble_eq_true rfl)⟩ (Nat.le_of_ble_eq_true rfl) ⟨rfl, rfl⟩ ⟨(Nat.le_of_ble_eq_true rfl), (Nat.le_of_ble_eq_true rfl)⟩ (fun r9 w9 hp9 => ?_)
  obtain ⟨v, rfl, ⟨K1, hG1, hF1⟩, mm, rfl, hf⟩ := hp9
  refine Z_istore 64 [(11, _), (10, _), (9, _), (8, _), (7, _), (6, _), (4, _), (3, _), (2, _), (0, _), (1, _)] dL_signs_62 rfl (Nat.le_of_ble_eq_true rfl) rfl ?_
  refine Z_aload_n 65 9 dL_signs_64 rfl rfl ?_
  refine Z_callV 68 [] 3 (v_signAll syM hf hL hL60) dL_signs_65 rfl qL_72 kX3_signAll rfl rfl (Nat.le_of_ble_eq_true rfl) rfl rfl ⟨(Nat.le_of_ble_eq_true rfl), (Nat.le_of_ble_eq_true rfl)⟩ (Nat.le_of_ble_eq_true rfl) ⟨rfl, rfl⟩ ⟨(Nat.le_of_ble_eq_true rfl), (Nat.le_of_ble_eq_true rfl)⟩ (fun r9 w9 hp9 => ?_)
  obtain ⟨K2, v2, hG2, hF2, hc⟩ := hp9
  obtain ⟨-, ev⟩ := Flt.one hG1 hF1 hG2 hF2
  subst ev
  rcases hc with ⟨hv, rfl, mm, rfl, hf⟩ | ⟨hv, J, hJ, hn14, rfl, M2, rfl, hA, hE⟩
  · skip
    refine Z_istore 70 [(12, _), (11, _), (10, _), (9, _), (8, _), (7, _), (6, _), (4, _), (3, _), (2, _), (0, _), (1, _)] dL_signs_68 rfl (Nat.le_of_ble_eq_true rfl) rfl ?_
    refine Z_aload_n 71 10 dL_signs_70 rfl rfl ?_
    refine Z_callV 74 [] 3 (v_clrF hf hL) dL_signs_71 rfl qL_55 kX3_clear rfl rfl (Nat.le_of_ble_eq_true rfl) rfl rfl ⟨(Nat.le_of_ble_eq_true rfl), (Nat.le_of_ble_eq_true rfl)⟩ (Nat.le_of_ble_eq_true rfl) ⟨rfl, rfl⟩ ⟨(Nat.le_of_ble_eq_true rfl), (Nat.le_of_ble_eq_true rfl)⟩ (fun r9 w9 hp9 => ?_)
    obtain ⟨rfl, B, rfl, hB⟩ := hp9
    have syB : Sy K h B n s := syM.lo (fun q a _ => hB.1 q a) (by rw [hB.1 0 (by decide)]) (by rw [hB.1 0 (by decide)]) ⟨0, by decide, hB.2⟩
    have hk := syB.ok
    have hF : Fsv B B := Fsv.rf
    have hAct : Act K h m n s h B n s := Act.fromQ eM (Act.no syM (fun q a _ => hB.1 q a) (by rw [hB.1 0 (by decide)]) (by rw [hB.1 0 (by decide)]) ⟨0, by decide, hB.2⟩)
    obtain ⟨kf, ef, -, lf⟩ := flt_n hG1 hF1 hv
    replace lf := lf (hx_hx _ _)
    refine Z_istore 76 [(13, _), (12, _), (11, _), (10, _), (9, _), (8, _), (7, _), (6, _), (4, _), (3, _), (2, _), (0, _), (1, _)] dL_signs_74 rfl (Nat.le_of_ble_eq_true rfl) rfl ?_
    refine Z_iload_n 77 9 dL_signs_76 rfl rfl ?_
    refine Z_if_eq 80 111 dL_signs_77 rfl rfl (fun c77 => absurd c77 (by decide)) (fun c77 => ?_)
    refine Z_iload 82 1 dL_signs_80 rfl rfl ?_
    refine Z_bipush 84 (-2) dL_signs_82 rfl rfl ?_
    refine Z_icmp_ne 87 91 dL_signs_84 rfl rfl (fun c84 => absurd c84 (by decide)) (fun c84 => ?_)
    refine Z_iconst 88 (nI 1) dL_signs_87 rfl rfl ?_
    refine Z_goto 92 dL_signs_88 rfl ?_
    refine Z_iload 94 2 dL_signs_92 rfl rfl ?_
    refine Z_bipush 96 (-4) dL_signs_94 rfl rfl ?_
    refine Z_icmp_eq 99 103 dL_signs_96 rfl rfl (fun c96 => absurd c96 (hv)) (fun c96 => ?_)
    refine Z_iconst 100 (nI 1) dL_signs_99 rfl rfl ?_
    refine Z_goto 104 dL_signs_100 rfl ?_
    refine Z_icmp_ne 107 111 dL_signs_104 rfl rfl (fun c104 => absurd c104 (by decide)) (fun c104 => ?_)
    refine Z_iconst 108 (nI 1) dL_signs_107 rfl rfl ?_
    refine Z_goto 112 dL_signs_108 rfl ?_
    refine Z_istore 114 [(14, _), (13, _), (12, _), (11, _), (10, _), (9, _), (8, _), (7, _), (6, _), (4, _), (3, _), (2, _), (0, _), (1, _)] dL_signs_112 rfl (Nat.le_of_ble_eq_true rfl) rfl ?_
    refine Z_iload 116 2 dL_signs_114 rfl rfl ?_
    refine Z_if_ge 119 170 dL_signs_116 rfl rfl (fun c116 => absurd c116 (by decide)) (fun c116 => ?_)
    refine Z_iload 121 0 dL_signs_119 rfl rfl ?_
    refine Z_if_eq 124 168 dL_signs_121 rfl rfl (fun c121 => absurd c121 (by decide)) (fun c121 => ?_)
    refine Z_iload 126 3 dL_signs_124 rfl rfl ?_
    refine Z_if_lt 129 168 dL_signs_126 rfl rfl (fun c126 => absurd c126 ((by rw [ef]; exact nI_pos (by omega)))) (fun c126 => ?_)
    refine Z_iload 131 3 dL_signs_129 rfl rfl ?_
    refine Z_iload 133 4 dL_signs_131 rfl rfl ?_
    refine Z_icmp_gt 136 168 dL_signs_133 rfl rfl (fun c133 => absurd c133 ((by rw [ef]; exact nI_nlt lf (by omega)))) (fun c133 => ?_)
    refine Z_iload 138 1 dL_signs_136 rfl rfl ?_
    refine Z_iload 140 4 dL_signs_138 rfl rfl ?_
    refine Z_icmp_ne 143 168 dL_signs_140 rfl rfl (fun c140 => absurd c140 (fun z => z rfl)) (fun c140 => ?_)
    refine Z_aload_n 144 12 dL_signs_143 rfl rfl ?_
    refine Z_callS 147 [_] (zL_look hF hk) dL_signs_144 rfl qL_65 kL_look rfl rfl ⟨(Nat.le_of_ble_eq_true rfl), (Nat.le_of_ble_eq_true rfl)⟩ (Nat.le_of_ble_eq_true rfl) ⟨rfl, rfl⟩ ⟨(Nat.le_of_ble_eq_true rfl), (Nat.le_of_ble_eq_true rfl)⟩ (fun r9 w9 hp9 => ?_)
    obtain ⟨rfl, mm, rfl, hF⟩ := hp9
    refine Z_lload 149 9 dL_signs_147 rfl rfl ?_
    refine Z_lcmpE 150 dL_signs_149 rfl (lkV_eq (EqS.of (fun q a b => hB.1 q (by omega))) hk) ?_
    refine Z_if_ne 153 168 dL_signs_150 rfl rfl (fun c150 => absurd c150 (by decide)) (fun c150 => ?_)
    refine Z_aload_n 154 12 dL_signs_153 rfl rfl ?_
    refine Z_bipush 156 (nI 12) dL_signs_154 rfl rfl ?_
    refine Z_callV 159 [_] 3 (v_count12 hF hk) dL_signs_156 rfl qL_13 kX3_count rfl rfl (Nat.le_of_ble_eq_true rfl) rfl rfl ⟨(Nat.le_of_ble_eq_true rfl), (Nat.le_of_ble_eq_true rfl)⟩ (Nat.le_of_ble_eq_true rfl) ⟨rfl, rfl⟩ ⟨(Nat.le_of_ble_eq_true rfl), (Nat.le_of_ble_eq_true rfl)⟩ (fun r9 w9 hp9 => ?_)
    obtain ⟨rfl, mm, rfl, hF⟩ := hp9
    refine Z_iload 161 8 dL_signs_159 rfl rfl ?_
    refine Z_icmp_ne 164 168 dL_signs_161 rfl rfl (fun c161 => absurd c161 (fun z => z (by rw [hB.1 0 (by decide)]; exact syM.st))) (fun c161 => ?_)
    refine Z_iconst 165 (nI 1) dL_signs_164 rfl rfl ?_
    refine Z_goto 169 dL_signs_165 rfl ?_
    exact Z_zret dL_signs_169 rfl (by first | exact Or.inl rfl | exact Or.inr rfl | exact bI_01) (by first | exact actOk (hAct.v hF))
  · skip
    refine Z_istore 70 [(12, _), (11, _), (10, _), (9, _), (8, _), (7, _), (6, _), (4, _), (3, _), (2, _), (0, _), (1, _)] dL_signs_68 rfl (Nat.le_of_ble_eq_true rfl) rfl ?_
    refine Z_aload_n 71 10 dL_signs_70 rfl rfl ?_
    refine Z_callV 74 [] 3 (v_clr0 hE.1) dL_signs_71 rfl qL_55 kX3_clear rfl rfl (Nat.le_of_ble_eq_true rfl) rfl rfl ⟨(Nat.le_of_ble_eq_true rfl), (Nat.le_of_ble_eq_true rfl)⟩ (Nat.le_of_ble_eq_true rfl) ⟨rfl, rfl⟩ ⟨(Nat.le_of_ble_eq_true rfl), (Nat.le_of_ble_eq_true rfl)⟩ (fun r9 w9 hp9 => ?_)
    obtain ⟨rfl, rfl⟩ := hp9
    have hk := hA.1.ok
    have hF : Fsv M2 M2 := Fsv.rf
    refine Z_istore 76 [(13, _), (12, _), (11, _), (10, _), (9, _), (8, _), (7, _), (6, _), (4, _), (3, _), (2, _), (0, _), (1, _)] dL_signs_74 rfl (Nat.le_of_ble_eq_true rfl) rfl ?_
    refine Z_iload_n 77 9 dL_signs_76 rfl rfl ?_
    refine Z_if_eq 80 111 dL_signs_77 rfl rfl (fun c77 => absurd c77 (by decide)) (fun c77 => ?_)
    refine Z_iload 82 1 dL_signs_80 rfl rfl ?_
    refine Z_bipush 84 (-2) dL_signs_82 rfl rfl ?_
    refine Z_icmp_ne 87 91 dL_signs_84 rfl rfl (fun c84 => ?_) (fun c84 => absurd (fun z => absurd (show nI J < 0 by rw [z]; decide) (nI_pos (by omega))) c84)
    refine Z_iconst 92 (nI 0) dL_signs_91 rfl rfl ?_
    refine Z_iload 94 2 dL_signs_92 rfl rfl ?_
    refine Z_bipush 96 (-4) dL_signs_94 rfl rfl ?_
    refine Z_icmp_eq 99 103 dL_signs_96 rfl rfl (fun c96 => ?_) (fun c96 => absurd (hv) c96)
    refine Z_iconst 104 (nI 0) dL_signs_103 rfl rfl ?_
    refine Z_icmp_ne 107 111 dL_signs_104 rfl rfl (fun c104 => absurd c104 (by decide)) (fun c104 => ?_)
    refine Z_iconst 108 (nI 1) dL_signs_107 rfl rfl ?_
    refine Z_goto 112 dL_signs_108 rfl ?_
    refine Z_istore 114 [(14, _), (13, _), (12, _), (11, _), (10, _), (9, _), (8, _), (7, _), (6, _), (4, _), (3, _), (2, _), (0, _), (1, _)] dL_signs_112 rfl (Nat.le_of_ble_eq_true rfl) rfl ?_
    refine Z_iload 116 2 dL_signs_114 rfl rfl ?_
    refine Z_if_ge 119 170 dL_signs_116 rfl rfl (fun c116 => ?_) (fun c116 => absurd (nI_pos' (by omega)) c116)
    have eK : K2 + 1 = lowV x 9 := txt_n hT hL hL60 hG2 (by rw [← hv]; exact hF2)
    have hAct : Act K h m n s (hRem h s) M2 (n + J) (sN s) := Act.fromQ eM hA
    obtain ⟨hE1, hE2, hE3⟩ := hE
    rcases hE3 with ⟨eJ, e7, e12⟩ | ⟨lJ, e8, e9, hE4⟩
    · skip
      refine Z_aload_n 171 12 dL_signs_170 rfl rfl ?_
      refine Z_iconst 172 (nI 0) dL_signs_171 rfl rfl ?_
      refine Z_callV 175 [_] 3 (v_why0 hF) dL_signs_172 rfl qL_75 kX3_why rfl rfl (Nat.le_of_ble_eq_true rfl) rfl rfl ⟨(Nat.le_of_ble_eq_true rfl), (Nat.le_of_ble_eq_true rfl)⟩ (Nat.le_of_ble_eq_true rfl) ⟨rfl, rfl⟩ ⟨(Nat.le_of_ble_eq_true rfl), (Nat.le_of_ble_eq_true rfl)⟩ (fun r9 w9 hp9 => ?_)
      obtain ⟨rfl, mm, rfl, hF⟩ := hp9
      refine Z_top (v' := .int (-4)) (congrArg Value.int (if_pos (by rw [e7]; rfl))) ?_
      refine Z_istore 177 [(15, _), (14, _), (13, _), (12, _), (11, _), (10, _), (9, _), (8, _), (7, _), (6, _), (4, _), (3, _), (2, _), (0, _), (1, _)] dL_signs_175 rfl (Nat.le_of_ble_eq_true rfl) rfl ?_
      refine Z_iload 179 1 dL_signs_177 rfl rfl ?_
      refine Z_if_eq 182 359 dL_signs_179 rfl rfl (fun c179 => absurd c179 (by decide)) (fun c179 => ?_)
      refine Z_iload 184 3 dL_signs_182 rfl rfl ?_
      refine Z_iload_n 185 12 dL_signs_184 rfl rfl ?_
      refine Z_icmp_gt 188 359 dL_signs_185 rfl rfl (fun c185 => absurd c185 (nI_nlt (by omega) (by omega))) (fun c185 => ?_)
      refine Z_iload 190 2 dL_signs_188 rfl rfl ?_
      refine Z_if_ne 193 359 dL_signs_190 rfl rfl (fun c190 => absurd c190 (by decide)) (fun c190 => ?_)
      refine Z_aload_n 194 13 dL_signs_193 rfl rfl ?_
      refine Z_bipush 196 (nI 12) dL_signs_194 rfl rfl ?_
      refine Z_callV 199 [_] 3 (v_count12 hF hk) dL_signs_196 rfl qL_13 kX3_count rfl rfl (Nat.le_of_ble_eq_true rfl) rfl rfl ⟨(Nat.le_of_ble_eq_true rfl), (Nat.le_of_ble_eq_true rfl)⟩ (Nat.le_of_ble_eq_true rfl) ⟨rfl, rfl⟩ ⟨(Nat.le_of_ble_eq_true rfl), (Nat.le_of_ble_eq_true rfl)⟩ (fun r9 w9 hp9 => ?_)
      obtain ⟨rfl, mm, rfl, hF⟩ := hp9
      refine Z_iload 201 9 dL_signs_199 rfl rfl ?_
      refine Z_iconst 202 (nI 4) dL_signs_201 rfl rfl ?_
      refine Z_icmp_ge 205 212 dL_signs_202 rfl rfl (fun c202 => ?_) (fun c202 => ?_)
      · skip
        refine Z_iconst 213 (nI 4) dL_signs_212 rfl rfl ?_
        refine Z_icmp_ne 216 359 dL_signs_213 rfl rfl (fun c213 => absurd c213 ((by first | exact fun z => z (by rw [hA.1.st, sN_ge (fun y => absurd ((nI_leI (by omega) (by omega)).mp c202) (by omega))]) | exact fun z => z (by rw [hA.1.st, sN_lt (Nat.lt_of_not_le (fun y => c202 (nI_le y (by omega))))]; exact (nI_add s 1).symm)))) (fun c213 => ?_)
        refine Z_aload_n 217 13 dL_signs_216 rfl rfl ?_
        refine Z_iconst 218 (nI 1) dL_signs_217 rfl rfl ?_
        refine Z_callV 221 [_] 3 (v_count1 hF hk) dL_signs_218 rfl qL_13 kX3_count rfl rfl (Nat.le_of_ble_eq_true rfl) rfl rfl ⟨(Nat.le_of_ble_eq_true rfl), (Nat.le_of_ble_eq_true rfl)⟩ (Nat.le_of_ble_eq_true rfl) ⟨rfl, rfl⟩ ⟨(Nat.le_of_ble_eq_true rfl), (Nat.le_of_ble_eq_true rfl)⟩ (fun r9 w9 hp9 => ?_)
        obtain ⟨rfl, mm, rfl, hF⟩ := hp9
        refine Z_iload 223 8 dL_signs_221 rfl rfl ?_
        refine Z_iload 225 3 dL_signs_223 rfl rfl ?_
        refine Z_iadd 226 dL_signs_225 rfl ?_
        refine Z_icmp_ne 229 359 dL_signs_226 rfl rfl (fun c226 => absurd c226 (fun z => z (nI_add n J).symm)) (fun c226 => ?_)
        refine Z_aload_n 230 13 dL_signs_229 rfl rfl ?_
        refine Z_bipush 232 (nI 7) dL_signs_230 rfl rfl ?_
        refine Z_callV 235 [_] 3 (v_count7 hF hk) dL_signs_232 rfl qL_13 kX3_count rfl rfl (Nat.le_of_ble_eq_true rfl) rfl rfl ⟨(Nat.le_of_ble_eq_true rfl), (Nat.le_of_ble_eq_true rfl)⟩ (Nat.le_of_ble_eq_true rfl) ⟨rfl, rfl⟩ ⟨(Nat.le_of_ble_eq_true rfl), (Nat.le_of_ble_eq_true rfl)⟩ (fun r9 w9 hp9 => ?_)
        obtain ⟨rfl, mm, rfl, hF⟩ := hp9
        refine Z_iload 237 7 dL_signs_235 rfl rfl ?_
        refine Z_iload 239 3 dL_signs_237 rfl rfl ?_
        refine Z_iadd 240 dL_signs_239 rfl ?_
        refine Z_icmp_ne 243 359 dL_signs_240 rfl rfl (fun c240 => absurd c240 (fun z => z hE2)) (fun c240 => ?_)
        refine Z_aload_n 244 13 dL_signs_243 rfl rfl ?_
        refine Z_bipush 246 (nI 8) dL_signs_244 rfl rfl ?_
        refine Z_callV 249 [_] 3 (v_count8 hF hk) dL_signs_246 rfl qL_13 kX3_count rfl rfl (Nat.le_of_ble_eq_true rfl) rfl rfl ⟨(Nat.le_of_ble_eq_true rfl), (Nat.le_of_ble_eq_true rfl)⟩ (Nat.le_of_ble_eq_true rfl) ⟨rfl, rfl⟩ ⟨(Nat.le_of_ble_eq_true rfl), (Nat.le_of_ble_eq_true rfl)⟩ (fun r9 w9 hp9 => ?_)
        obtain ⟨rfl, mm, rfl, hF⟩ := hp9
        refine Z_iload 251 6 dL_signs_249 rfl rfl ?_
        refine Z_iload 253 0 dL_signs_251 rfl rfl ?_
        refine Z_if_le 256 260 dL_signs_253 rfl rfl (fun c253 => ?_) (fun c253 => absurd (by decide) c253)
        refine Z_iconst 261 (nI 0) dL_signs_260 rfl rfl ?_
        refine Z_iadd 262 dL_signs_261 rfl ?_
        refine Z_icmp_ne 265 359 dL_signs_262 rfl rfl (fun c262 => absurd c262 (fun z => z (by rw [e12]; exact ad0 _))) (fun c262 => ?_)
        refine Z_iload 267 3 dL_signs_265 rfl rfl ?_
        refine Z_iload_n 268 12 dL_signs_267 rfl rfl ?_
        refine Z_icmp_ne 271 275 dL_signs_268 rfl rfl (fun c268 => absurd c268 (fun z => z (congrArg nI (by omega)))) (fun c268 => ?_)
        refine Z_iconst 272 (nI 1) dL_signs_271 rfl rfl ?_
        refine Z_goto 276 dL_signs_272 rfl ?_
        refine Z_iload 278 0 dL_signs_276 rfl rfl ?_
        refine Z_bipush 280 (-4) dL_signs_278 rfl rfl ?_
        refine Z_icmp_ne 283 287 dL_signs_280 rfl rfl (fun c280 => absurd c280 (by decide)) (fun c280 => ?_)
        refine Z_iconst 284 (nI 1) dL_signs_283 rfl rfl ?_
        refine Z_goto 288 dL_signs_284 rfl ?_
        refine Z_icmp_ne 291 359 dL_signs_288 rfl rfl (fun c288 => absurd c288 (by decide)) (fun c288 => ?_)
        refine Z_iload 293 0 dL_signs_291 rfl rfl ?_
        refine Z_bipush 295 (-4) dL_signs_293 rfl rfl ?_
        refine Z_icmp_eq 298 355 dL_signs_295 rfl rfl (fun c295 => ?_) (fun c295 => absurd (by decide) c295)
        refine Z_iconst 356 (nI 1) dL_signs_355 rfl rfl ?_
        refine Z_goto 360 dL_signs_356 rfl ?_
        exact Z_zret dL_signs_360 rfl (by first | exact Or.inl rfl | exact Or.inr rfl | exact bI_01) (by first | exact actOk (hAct.v hF))
      · skip
        refine Z_iload 207 9 dL_signs_205 rfl rfl ?_
        refine Z_iconst 208 (nI 1) dL_signs_207 rfl rfl ?_
        refine Z_iadd 209 dL_signs_208 rfl ?_
        refine Z_goto 213 dL_signs_209 rfl ?_
        refine Z_icmp_ne 216 359 dL_signs_213 rfl rfl (fun c213 => absurd c213 ((by first | exact fun z => z (by rw [hA.1.st, sN_ge (fun y => absurd ((nI_leI (by omega) (by omega)).mp c202) (by omega))]) | exact fun z => z (by rw [hA.1.st, sN_lt (Nat.lt_of_not_le (fun y => c202 (nI_le y (by omega))))]; exact (nI_add s 1).symm)))) (fun c213 => ?_)
        refine Z_aload_n 217 13 dL_signs_216 rfl rfl ?_
        refine Z_iconst 218 (nI 1) dL_signs_217 rfl rfl ?_
        refine Z_callV 221 [_] 3 (v_count1 hF hk) dL_signs_218 rfl qL_13 kX3_count rfl rfl (Nat.le_of_ble_eq_true rfl) rfl rfl ⟨(Nat.le_of_ble_eq_true rfl), (Nat.le_of_ble_eq_true rfl)⟩ (Nat.le_of_ble_eq_true rfl) ⟨rfl, rfl⟩ ⟨(Nat.le_of_ble_eq_true rfl), (Nat.le_of_ble_eq_true rfl)⟩ (fun r9 w9 hp9 => ?_)
        obtain ⟨rfl, mm, rfl, hF⟩ := hp9
        refine Z_iload 223 8 dL_signs_221 rfl rfl ?_
        refine Z_iload 225 3 dL_signs_223 rfl rfl ?_
        refine Z_iadd 226 dL_signs_225 rfl ?_
        refine Z_icmp_ne 229 359 dL_signs_226 rfl rfl (fun c226 => absurd c226 (fun z => z (nI_add n J).symm)) (fun c226 => ?_)
        refine Z_aload_n 230 13 dL_signs_229 rfl rfl ?_
        refine Z_bipush 232 (nI 7) dL_signs_230 rfl rfl ?_
        refine Z_callV 235 [_] 3 (v_count7 hF hk) dL_signs_232 rfl qL_13 kX3_count rfl rfl (Nat.le_of_ble_eq_true rfl) rfl rfl ⟨(Nat.le_of_ble_eq_true rfl), (Nat.le_of_ble_eq_true rfl)⟩ (Nat.le_of_ble_eq_true rfl) ⟨rfl, rfl⟩ ⟨(Nat.le_of_ble_eq_true rfl), (Nat.le_of_ble_eq_true rfl)⟩ (fun r9 w9 hp9 => ?_)
        obtain ⟨rfl, mm, rfl, hF⟩ := hp9
        refine Z_iload 237 7 dL_signs_235 rfl rfl ?_
        refine Z_iload 239 3 dL_signs_237 rfl rfl ?_
        refine Z_iadd 240 dL_signs_239 rfl ?_
        refine Z_icmp_ne 243 359 dL_signs_240 rfl rfl (fun c240 => absurd c240 (fun z => z hE2)) (fun c240 => ?_)
        refine Z_aload_n 244 13 dL_signs_243 rfl rfl ?_
        refine Z_bipush 246 (nI 8) dL_signs_244 rfl rfl ?_
        refine Z_callV 249 [_] 3 (v_count8 hF hk) dL_signs_246 rfl qL_13 kX3_count rfl rfl (Nat.le_of_ble_eq_true rfl) rfl rfl ⟨(Nat.le_of_ble_eq_true rfl), (Nat.le_of_ble_eq_true rfl)⟩ (Nat.le_of_ble_eq_true rfl) ⟨rfl, rfl⟩ ⟨(Nat.le_of_ble_eq_true rfl), (Nat.le_of_ble_eq_true rfl)⟩ (fun r9 w9 hp9 => ?_)
        obtain ⟨rfl, mm, rfl, hF⟩ := hp9
        refine Z_iload 251 6 dL_signs_249 rfl rfl ?_
        refine Z_iload 253 0 dL_signs_251 rfl rfl ?_
        refine Z_if_le 256 260 dL_signs_253 rfl rfl (fun c253 => ?_) (fun c253 => absurd (by decide) c253)
        refine Z_iconst 261 (nI 0) dL_signs_260 rfl rfl ?_
        refine Z_iadd 262 dL_signs_261 rfl ?_
        refine Z_icmp_ne 265 359 dL_signs_262 rfl rfl (fun c262 => absurd c262 (fun z => z (by rw [e12]; exact ad0 _))) (fun c262 => ?_)
        refine Z_iload 267 3 dL_signs_265 rfl rfl ?_
        refine Z_iload_n 268 12 dL_signs_267 rfl rfl ?_
        refine Z_icmp_ne 271 275 dL_signs_268 rfl rfl (fun c268 => absurd c268 (fun z => z (congrArg nI (by omega)))) (fun c268 => ?_)
        refine Z_iconst 272 (nI 1) dL_signs_271 rfl rfl ?_
        refine Z_goto 276 dL_signs_272 rfl ?_
        refine Z_iload 278 0 dL_signs_276 rfl rfl ?_
        refine Z_bipush 280 (-4) dL_signs_278 rfl rfl ?_
        refine Z_icmp_ne 283 287 dL_signs_280 rfl rfl (fun c280 => absurd c280 (by decide)) (fun c280 => ?_)
        refine Z_iconst 284 (nI 1) dL_signs_283 rfl rfl ?_
        refine Z_goto 288 dL_signs_284 rfl ?_
        refine Z_icmp_ne 291 359 dL_signs_288 rfl rfl (fun c288 => absurd c288 (by decide)) (fun c288 => ?_)
        refine Z_iload 293 0 dL_signs_291 rfl rfl ?_
        refine Z_bipush 295 (-4) dL_signs_293 rfl rfl ?_
        refine Z_icmp_eq 298 355 dL_signs_295 rfl rfl (fun c295 => ?_) (fun c295 => absurd (by decide) c295)
        refine Z_iconst 356 (nI 1) dL_signs_355 rfl rfl ?_
        refine Z_goto 360 dL_signs_356 rfl ?_
        exact Z_zret dL_signs_360 rfl (by first | exact Or.inl rfl | exact Or.inr rfl | exact bI_01) (by first | exact actOk (hAct.v hF))
    · obtain ⟨q1, q2, q3⟩ := pOk_K hG2 (flt_4 hL60 hG2 (by rw [← hv]; exact hF2)).1 (flt_4 hL60 hG2 (by rw [← hv]; exact hF2)).2 (show J ≤ K2 by omega)
      have q4 := sq_4 J (fun i hi => hG2 i (by omega))
      rcases hE4 with ⟨e7 | e7, e12⟩ | ⟨e7 | e7, e12⟩
      · skip
        refine Z_aload_n 171 12 dL_signs_170 rfl rfl ?_
        refine Z_iconst 172 (nI 0) dL_signs_171 rfl rfl ?_
        refine Z_callV 175 [_] 3 (v_why0 hF) dL_signs_172 rfl qL_75 kX3_why rfl rfl (Nat.le_of_ble_eq_true rfl) rfl rfl ⟨(Nat.le_of_ble_eq_true rfl), (Nat.le_of_ble_eq_true rfl)⟩ (Nat.le_of_ble_eq_true rfl) ⟨rfl, rfl⟩ ⟨(Nat.le_of_ble_eq_true rfl), (Nat.le_of_ble_eq_true rfl)⟩ (fun r9 w9 hp9 => ?_)
        obtain ⟨rfl, mm, rfl, hF⟩ := hp9
        refine Z_top (v' := .int (-1)) (congrArg Value.int ((if_neg (by rw [e7]; decide)).trans e7)) ?_
        refine Z_istore 177 [(15, _), (14, _), (13, _), (12, _), (11, _), (10, _), (9, _), (8, _), (7, _), (6, _), (4, _), (3, _), (2, _), (0, _), (1, _)] dL_signs_175 rfl (Nat.le_of_ble_eq_true rfl) rfl ?_
        refine Z_iload 179 1 dL_signs_177 rfl rfl ?_
        refine Z_if_eq 182 359 dL_signs_179 rfl rfl (fun c179 => absurd c179 (by decide)) (fun c179 => ?_)
        refine Z_iload 184 3 dL_signs_182 rfl rfl ?_
        refine Z_iload_n 185 12 dL_signs_184 rfl rfl ?_
        refine Z_icmp_gt 188 359 dL_signs_185 rfl rfl (fun c185 => absurd c185 (nI_nlt (by omega) (by omega))) (fun c185 => ?_)
        refine Z_iload 190 2 dL_signs_188 rfl rfl ?_
        refine Z_if_ne 193 359 dL_signs_190 rfl rfl (fun c190 => absurd c190 (by decide)) (fun c190 => ?_)
        refine Z_aload_n 194 13 dL_signs_193 rfl rfl ?_
        refine Z_bipush 196 (nI 12) dL_signs_194 rfl rfl ?_
        refine Z_callV 199 [_] 3 (v_count12 hF hk) dL_signs_196 rfl qL_13 kX3_count rfl rfl (Nat.le_of_ble_eq_true rfl) rfl rfl ⟨(Nat.le_of_ble_eq_true rfl), (Nat.le_of_ble_eq_true rfl)⟩ (Nat.le_of_ble_eq_true rfl) ⟨rfl, rfl⟩ ⟨(Nat.le_of_ble_eq_true rfl), (Nat.le_of_ble_eq_true rfl)⟩ (fun r9 w9 hp9 => ?_)
        obtain ⟨rfl, mm, rfl, hF⟩ := hp9
        refine Z_iload 201 9 dL_signs_199 rfl rfl ?_
        refine Z_iconst 202 (nI 4) dL_signs_201 rfl rfl ?_
        refine Z_icmp_ge 205 212 dL_signs_202 rfl rfl (fun c202 => ?_) (fun c202 => ?_)
        · skip
          refine Z_iconst 213 (nI 4) dL_signs_212 rfl rfl ?_
          refine Z_icmp_ne 216 359 dL_signs_213 rfl rfl (fun c213 => absurd c213 ((by first | exact fun z => z (by rw [hA.1.st, sN_ge (fun y => absurd ((nI_leI (by omega) (by omega)).mp c202) (by omega))]) | exact fun z => z (by rw [hA.1.st, sN_lt (Nat.lt_of_not_le (fun y => c202 (nI_le y (by omega))))]; exact (nI_add s 1).symm)))) (fun c213 => ?_)
          refine Z_aload_n 217 13 dL_signs_216 rfl rfl ?_
          refine Z_iconst 218 (nI 1) dL_signs_217 rfl rfl ?_
          refine Z_callV 221 [_] 3 (v_count1 hF hk) dL_signs_218 rfl qL_13 kX3_count rfl rfl (Nat.le_of_ble_eq_true rfl) rfl rfl ⟨(Nat.le_of_ble_eq_true rfl), (Nat.le_of_ble_eq_true rfl)⟩ (Nat.le_of_ble_eq_true rfl) ⟨rfl, rfl⟩ ⟨(Nat.le_of_ble_eq_true rfl), (Nat.le_of_ble_eq_true rfl)⟩ (fun r9 w9 hp9 => ?_)
          obtain ⟨rfl, mm, rfl, hF⟩ := hp9
          refine Z_iload 223 8 dL_signs_221 rfl rfl ?_
          refine Z_iload 225 3 dL_signs_223 rfl rfl ?_
          refine Z_iadd 226 dL_signs_225 rfl ?_
          refine Z_icmp_ne 229 359 dL_signs_226 rfl rfl (fun c226 => absurd c226 (fun z => z (nI_add n J).symm)) (fun c226 => ?_)
          refine Z_aload_n 230 13 dL_signs_229 rfl rfl ?_
          refine Z_bipush 232 (nI 7) dL_signs_230 rfl rfl ?_
          refine Z_callV 235 [_] 3 (v_count7 hF hk) dL_signs_232 rfl qL_13 kX3_count rfl rfl (Nat.le_of_ble_eq_true rfl) rfl rfl ⟨(Nat.le_of_ble_eq_true rfl), (Nat.le_of_ble_eq_true rfl)⟩ (Nat.le_of_ble_eq_true rfl) ⟨rfl, rfl⟩ ⟨(Nat.le_of_ble_eq_true rfl), (Nat.le_of_ble_eq_true rfl)⟩ (fun r9 w9 hp9 => ?_)
          obtain ⟨rfl, mm, rfl, hF⟩ := hp9
          refine Z_iload 237 7 dL_signs_235 rfl rfl ?_
          refine Z_iload 239 3 dL_signs_237 rfl rfl ?_
          refine Z_iadd 240 dL_signs_239 rfl ?_
          refine Z_icmp_ne 243 359 dL_signs_240 rfl rfl (fun c240 => absurd c240 (fun z => z hE2)) (fun c240 => ?_)
          refine Z_aload_n 244 13 dL_signs_243 rfl rfl ?_
          refine Z_bipush 246 (nI 8) dL_signs_244 rfl rfl ?_
          refine Z_callV 249 [_] 3 (v_count8 hF hk) dL_signs_246 rfl qL_13 kX3_count rfl rfl (Nat.le_of_ble_eq_true rfl) rfl rfl ⟨(Nat.le_of_ble_eq_true rfl), (Nat.le_of_ble_eq_true rfl)⟩ (Nat.le_of_ble_eq_true rfl) ⟨rfl, rfl⟩ ⟨(Nat.le_of_ble_eq_true rfl), (Nat.le_of_ble_eq_true rfl)⟩ (fun r9 w9 hp9 => ?_)
          obtain ⟨rfl, mm, rfl, hF⟩ := hp9
          refine Z_iload 251 6 dL_signs_249 rfl rfl ?_
          refine Z_iload 253 0 dL_signs_251 rfl rfl ?_
          refine Z_if_le 256 260 dL_signs_253 rfl rfl (fun c253 => ?_) (fun c253 => absurd (by decide) c253)
          refine Z_iconst 261 (nI 0) dL_signs_260 rfl rfl ?_
          refine Z_iadd 262 dL_signs_261 rfl ?_
          refine Z_icmp_ne 265 359 dL_signs_262 rfl rfl (fun c262 => absurd c262 (fun z => z (by rw [e12]; exact ad0 _))) (fun c262 => ?_)
          refine Z_iload 267 3 dL_signs_265 rfl rfl ?_
          refine Z_iload_n 268 12 dL_signs_267 rfl rfl ?_
          refine Z_icmp_ne 271 275 dL_signs_268 rfl rfl (fun c268 => ?_) (fun c268 => absurd (fun z => absurd (eqN z (by omega) (by omega)) (by omega)) c268)
          refine Z_iconst 276 (nI 0) dL_signs_275 rfl rfl ?_
          refine Z_iload 278 0 dL_signs_276 rfl rfl ?_
          refine Z_bipush 280 (-4) dL_signs_278 rfl rfl ?_
          refine Z_icmp_ne 283 287 dL_signs_280 rfl rfl (fun c280 => ?_) (fun c280 => absurd (by decide) c280)
          refine Z_iconst 288 (nI 0) dL_signs_287 rfl rfl ?_
          refine Z_icmp_ne 291 359 dL_signs_288 rfl rfl (fun c288 => absurd c288 (by decide)) (fun c288 => ?_)
          refine Z_iload 293 0 dL_signs_291 rfl rfl ?_
          refine Z_bipush 295 (-4) dL_signs_293 rfl rfl ?_
          refine Z_icmp_eq 298 355 dL_signs_295 rfl rfl (fun c295 => absurd c295 (by decide)) (fun c295 => ?_)
          refine Z_iload 300 0 dL_signs_298 rfl rfl ?_
          refine Z_iconst 301 (nI 1) dL_signs_300 rfl rfl ?_
          refine Z_icmp_eq 304 323 dL_signs_301 rfl rfl (fun c301 => absurd c301 (by decide)) (fun c301 => ?_)
          refine Z_iload 306 0 dL_signs_304 rfl rfl ?_
          refine Z_iconst 307 (nI 2) dL_signs_306 rfl rfl ?_
          refine Z_icmp_eq 310 323 dL_signs_307 rfl rfl (fun c307 => absurd c307 (by decide)) (fun c307 => ?_)
          refine Z_iload 312 0 dL_signs_310 rfl rfl ?_
          refine Z_iconst 313 (-1) dL_signs_312 rfl rfl ?_
          refine Z_icmp_eq 316 323 dL_signs_313 rfl rfl (fun c313 => ?_) (fun c313 => absurd (by decide) c313)
          refine Z_aload_n 324 13 dL_signs_323 rfl rfl ?_
          refine Z_iconst 325 (nI 1) dL_signs_324 rfl rfl ?_
          refine Z_callV 328 [_] 3 (v_why1 hF) dL_signs_325 rfl qL_75 kX3_why rfl rfl (Nat.le_of_ble_eq_true rfl) rfl rfl ⟨(Nat.le_of_ble_eq_true rfl), (Nat.le_of_ble_eq_true rfl)⟩ (Nat.le_of_ble_eq_true rfl) ⟨rfl, rfl⟩ ⟨(Nat.le_of_ble_eq_true rfl), (Nat.le_of_ble_eq_true rfl)⟩ (fun r9 w9 hp9 => ?_)
          obtain ⟨rfl, mm, rfl, hF⟩ := hp9
          refine Z_top (v' := .int (nI J)) (congrArg Value.int ((if_neg (by rw [e7]; decide)).trans e8)) ?_
          refine Z_iload 330 3 dL_signs_328 rfl rfl ?_
          refine Z_icmp_ne 333 359 dL_signs_330 rfl rfl (fun c330 => absurd c330 (fun z => z rfl)) (fun c330 => ?_)
          refine Z_aload_n 334 13 dL_signs_333 rfl rfl ?_
          refine Z_iconst 335 (nI 2) dL_signs_334 rfl rfl ?_
          refine Z_callV 338 [_] 3 (v_why2 hF) dL_signs_335 rfl qL_75 kX3_why rfl rfl (Nat.le_of_ble_eq_true rfl) rfl rfl ⟨(Nat.le_of_ble_eq_true rfl), (Nat.le_of_ble_eq_true rfl)⟩ (Nat.le_of_ble_eq_true rfl) ⟨rfl, rfl⟩ ⟨(Nat.le_of_ble_eq_true rfl), (Nat.le_of_ble_eq_true rfl)⟩ (fun r9 w9 hp9 => ?_)
          obtain ⟨rfl, mm, rfl, hF⟩ := hp9
          refine Z_top (v' := .int (nI (sq (hx (M 69) L) J))) (congrArg Value.int ((if_neg (by rw [e7]; decide)).trans e9)) ?_
          refine Z_iconst 339 (nI 4) dL_signs_338 rfl rfl ?_
          refine Z_iload 341 3 dL_signs_339 rfl rfl ?_
          refine Z_imul 342 dL_signs_341 rfl ?_
          refine Z_icmp_lt 345 359 dL_signs_342 rfl rfl (fun c342 => absurd c342 ((by rw [pk_mul]; exact nI_nlt q4 (by omega)))) (fun c342 => ?_)
          refine Z_aload_n 346 13 dL_signs_345 rfl rfl ?_
          refine Z_iconst 347 (nI 2) dL_signs_346 rfl rfl ?_
          refine Z_callV 350 [_] 3 (v_why2 hF) dL_signs_347 rfl qL_75 kX3_why rfl rfl (Nat.le_of_ble_eq_true rfl) rfl rfl ⟨(Nat.le_of_ble_eq_true rfl), (Nat.le_of_ble_eq_true rfl)⟩ (Nat.le_of_ble_eq_true rfl) ⟨rfl, rfl⟩ ⟨(Nat.le_of_ble_eq_true rfl), (Nat.le_of_ble_eq_true rfl)⟩ (fun r9 w9 hp9 => ?_)
          obtain ⟨rfl, mm, rfl, hF⟩ := hp9
          refine Z_top (v' := .int (nI (sq (hx (M 69) L) J))) (congrArg Value.int ((if_neg (by rw [e7]; decide)).trans e9)) ?_
          refine Z_iload 352 5 dL_signs_350 rfl rfl ?_
          refine Z_icmp_ge 355 359 dL_signs_352 rfl rfl (fun c352 => absurd c352 (nI_ge q2 (by omega))) (fun c352 => ?_)
          refine Z_iconst 356 (nI 1) dL_signs_355 rfl rfl ?_
          refine Z_goto 360 dL_signs_356 rfl ?_
          exact Z_zret dL_signs_360 rfl (by first | exact Or.inl rfl | exact Or.inr rfl | exact bI_01) (by first | exact actOk (hAct.v hF))
        · skip
          refine Z_iload 207 9 dL_signs_205 rfl rfl ?_
          refine Z_iconst 208 (nI 1) dL_signs_207 rfl rfl ?_
          refine Z_iadd 209 dL_signs_208 rfl ?_
          refine Z_goto 213 dL_signs_209 rfl ?_
          refine Z_icmp_ne 216 359 dL_signs_213 rfl rfl (fun c213 => absurd c213 ((by first | exact fun z => z (by rw [hA.1.st, sN_ge (fun y => absurd ((nI_leI (by omega) (by omega)).mp c202) (by omega))]) | exact fun z => z (by rw [hA.1.st, sN_lt (Nat.lt_of_not_le (fun y => c202 (nI_le y (by omega))))]; exact (nI_add s 1).symm)))) (fun c213 => ?_)
          refine Z_aload_n 217 13 dL_signs_216 rfl rfl ?_
          refine Z_iconst 218 (nI 1) dL_signs_217 rfl rfl ?_
          refine Z_callV 221 [_] 3 (v_count1 hF hk) dL_signs_218 rfl qL_13 kX3_count rfl rfl (Nat.le_of_ble_eq_true rfl) rfl rfl ⟨(Nat.le_of_ble_eq_true rfl), (Nat.le_of_ble_eq_true rfl)⟩ (Nat.le_of_ble_eq_true rfl) ⟨rfl, rfl⟩ ⟨(Nat.le_of_ble_eq_true rfl), (Nat.le_of_ble_eq_true rfl)⟩ (fun r9 w9 hp9 => ?_)
          obtain ⟨rfl, mm, rfl, hF⟩ := hp9
          refine Z_iload 223 8 dL_signs_221 rfl rfl ?_
          refine Z_iload 225 3 dL_signs_223 rfl rfl ?_
          refine Z_iadd 226 dL_signs_225 rfl ?_
          refine Z_icmp_ne 229 359 dL_signs_226 rfl rfl (fun c226 => absurd c226 (fun z => z (nI_add n J).symm)) (fun c226 => ?_)
          refine Z_aload_n 230 13 dL_signs_229 rfl rfl ?_
          refine Z_bipush 232 (nI 7) dL_signs_230 rfl rfl ?_
          refine Z_callV 235 [_] 3 (v_count7 hF hk) dL_signs_232 rfl qL_13 kX3_count rfl rfl (Nat.le_of_ble_eq_true rfl) rfl rfl ⟨(Nat.le_of_ble_eq_true rfl), (Nat.le_of_ble_eq_true rfl)⟩ (Nat.le_of_ble_eq_true rfl) ⟨rfl, rfl⟩ ⟨(Nat.le_of_ble_eq_true rfl), (Nat.le_of_ble_eq_true rfl)⟩ (fun r9 w9 hp9 => ?_)
          obtain ⟨rfl, mm, rfl, hF⟩ := hp9
          refine Z_iload 237 7 dL_signs_235 rfl rfl ?_
          refine Z_iload 239 3 dL_signs_237 rfl rfl ?_
          refine Z_iadd 240 dL_signs_239 rfl ?_
          refine Z_icmp_ne 243 359 dL_signs_240 rfl rfl (fun c240 => absurd c240 (fun z => z hE2)) (fun c240 => ?_)
          refine Z_aload_n 244 13 dL_signs_243 rfl rfl ?_
          refine Z_bipush 246 (nI 8) dL_signs_244 rfl rfl ?_
          refine Z_callV 249 [_] 3 (v_count8 hF hk) dL_signs_246 rfl qL_13 kX3_count rfl rfl (Nat.le_of_ble_eq_true rfl) rfl rfl ⟨(Nat.le_of_ble_eq_true rfl), (Nat.le_of_ble_eq_true rfl)⟩ (Nat.le_of_ble_eq_true rfl) ⟨rfl, rfl⟩ ⟨(Nat.le_of_ble_eq_true rfl), (Nat.le_of_ble_eq_true rfl)⟩ (fun r9 w9 hp9 => ?_)
          obtain ⟨rfl, mm, rfl, hF⟩ := hp9
          refine Z_iload 251 6 dL_signs_249 rfl rfl ?_
          refine Z_iload 253 0 dL_signs_251 rfl rfl ?_
          refine Z_if_le 256 260 dL_signs_253 rfl rfl (fun c253 => ?_) (fun c253 => absurd (by decide) c253)
          refine Z_iconst 261 (nI 0) dL_signs_260 rfl rfl ?_
          refine Z_iadd 262 dL_signs_261 rfl ?_
          refine Z_icmp_ne 265 359 dL_signs_262 rfl rfl (fun c262 => absurd c262 (fun z => z (by rw [e12]; exact ad0 _))) (fun c262 => ?_)
          refine Z_iload 267 3 dL_signs_265 rfl rfl ?_
          refine Z_iload_n 268 12 dL_signs_267 rfl rfl ?_
          refine Z_icmp_ne 271 275 dL_signs_268 rfl rfl (fun c268 => ?_) (fun c268 => absurd (fun z => absurd (eqN z (by omega) (by omega)) (by omega)) c268)
          refine Z_iconst 276 (nI 0) dL_signs_275 rfl rfl ?_
          refine Z_iload 278 0 dL_signs_276 rfl rfl ?_
          refine Z_bipush 280 (-4) dL_signs_278 rfl rfl ?_
          refine Z_icmp_ne 283 287 dL_signs_280 rfl rfl (fun c280 => ?_) (fun c280 => absurd (by decide) c280)
          refine Z_iconst 288 (nI 0) dL_signs_287 rfl rfl ?_
          refine Z_icmp_ne 291 359 dL_signs_288 rfl rfl (fun c288 => absurd c288 (by decide)) (fun c288 => ?_)
          refine Z_iload 293 0 dL_signs_291 rfl rfl ?_
          refine Z_bipush 295 (-4) dL_signs_293 rfl rfl ?_
          refine Z_icmp_eq 298 355 dL_signs_295 rfl rfl (fun c295 => absurd c295 (by decide)) (fun c295 => ?_)
          refine Z_iload 300 0 dL_signs_298 rfl rfl ?_
          refine Z_iconst 301 (nI 1) dL_signs_300 rfl rfl ?_
          refine Z_icmp_eq 304 323 dL_signs_301 rfl rfl (fun c301 => absurd c301 (by decide)) (fun c301 => ?_)
          refine Z_iload 306 0 dL_signs_304 rfl rfl ?_
          refine Z_iconst 307 (nI 2) dL_signs_306 rfl rfl ?_
          refine Z_icmp_eq 310 323 dL_signs_307 rfl rfl (fun c307 => absurd c307 (by decide)) (fun c307 => ?_)
          refine Z_iload 312 0 dL_signs_310 rfl rfl ?_
          refine Z_iconst 313 (-1) dL_signs_312 rfl rfl ?_
          refine Z_icmp_eq 316 323 dL_signs_313 rfl rfl (fun c313 => ?_) (fun c313 => absurd (by decide) c313)
          refine Z_aload_n 324 13 dL_signs_323 rfl rfl ?_
          refine Z_iconst 325 (nI 1) dL_signs_324 rfl rfl ?_
          refine Z_callV 328 [_] 3 (v_why1 hF) dL_signs_325 rfl qL_75 kX3_why rfl rfl (Nat.le_of_ble_eq_true rfl) rfl rfl ⟨(Nat.le_of_ble_eq_true rfl), (Nat.le_of_ble_eq_true rfl)⟩ (Nat.le_of_ble_eq_true rfl) ⟨rfl, rfl⟩ ⟨(Nat.le_of_ble_eq_true rfl), (Nat.le_of_ble_eq_true rfl)⟩ (fun r9 w9 hp9 => ?_)
          obtain ⟨rfl, mm, rfl, hF⟩ := hp9
          refine Z_top (v' := .int (nI J)) (congrArg Value.int ((if_neg (by rw [e7]; decide)).trans e8)) ?_
          refine Z_iload 330 3 dL_signs_328 rfl rfl ?_
          refine Z_icmp_ne 333 359 dL_signs_330 rfl rfl (fun c330 => absurd c330 (fun z => z rfl)) (fun c330 => ?_)
          refine Z_aload_n 334 13 dL_signs_333 rfl rfl ?_
          refine Z_iconst 335 (nI 2) dL_signs_334 rfl rfl ?_
          refine Z_callV 338 [_] 3 (v_why2 hF) dL_signs_335 rfl qL_75 kX3_why rfl rfl (Nat.le_of_ble_eq_true rfl) rfl rfl ⟨(Nat.le_of_ble_eq_true rfl), (Nat.le_of_ble_eq_true rfl)⟩ (Nat.le_of_ble_eq_true rfl) ⟨rfl, rfl⟩ ⟨(Nat.le_of_ble_eq_true rfl), (Nat.le_of_ble_eq_true rfl)⟩ (fun r9 w9 hp9 => ?_)
          obtain ⟨rfl, mm, rfl, hF⟩ := hp9
          refine Z_top (v' := .int (nI (sq (hx (M 69) L) J))) (congrArg Value.int ((if_neg (by rw [e7]; decide)).trans e9)) ?_
          refine Z_iconst 339 (nI 4) dL_signs_338 rfl rfl ?_
          refine Z_iload 341 3 dL_signs_339 rfl rfl ?_
          refine Z_imul 342 dL_signs_341 rfl ?_
          refine Z_icmp_lt 345 359 dL_signs_342 rfl rfl (fun c342 => absurd c342 ((by rw [pk_mul]; exact nI_nlt q4 (by omega)))) (fun c342 => ?_)
          refine Z_aload_n 346 13 dL_signs_345 rfl rfl ?_
          refine Z_iconst 347 (nI 2) dL_signs_346 rfl rfl ?_
          refine Z_callV 350 [_] 3 (v_why2 hF) dL_signs_347 rfl qL_75 kX3_why rfl rfl (Nat.le_of_ble_eq_true rfl) rfl rfl ⟨(Nat.le_of_ble_eq_true rfl), (Nat.le_of_ble_eq_true rfl)⟩ (Nat.le_of_ble_eq_true rfl) ⟨rfl, rfl⟩ ⟨(Nat.le_of_ble_eq_true rfl), (Nat.le_of_ble_eq_true rfl)⟩ (fun r9 w9 hp9 => ?_)
          obtain ⟨rfl, mm, rfl, hF⟩ := hp9
          refine Z_top (v' := .int (nI (sq (hx (M 69) L) J))) (congrArg Value.int ((if_neg (by rw [e7]; decide)).trans e9)) ?_
          refine Z_iload 352 5 dL_signs_350 rfl rfl ?_
          refine Z_icmp_ge 355 359 dL_signs_352 rfl rfl (fun c352 => absurd c352 (nI_ge q2 (by omega))) (fun c352 => ?_)
          refine Z_iconst 356 (nI 1) dL_signs_355 rfl rfl ?_
          refine Z_goto 360 dL_signs_356 rfl ?_
          exact Z_zret dL_signs_360 rfl (by first | exact Or.inl rfl | exact Or.inr rfl | exact bI_01) (by first | exact actOk (hAct.v hF))
      · skip
        refine Z_aload_n 171 12 dL_signs_170 rfl rfl ?_
        refine Z_iconst 172 (nI 0) dL_signs_171 rfl rfl ?_
        refine Z_callV 175 [_] 3 (v_why0 hF) dL_signs_172 rfl qL_75 kX3_why rfl rfl (Nat.le_of_ble_eq_true rfl) rfl rfl ⟨(Nat.le_of_ble_eq_true rfl), (Nat.le_of_ble_eq_true rfl)⟩ (Nat.le_of_ble_eq_true rfl) ⟨rfl, rfl⟩ ⟨(Nat.le_of_ble_eq_true rfl), (Nat.le_of_ble_eq_true rfl)⟩ (fun r9 w9 hp9 => ?_)
        obtain ⟨rfl, mm, rfl, hF⟩ := hp9
        refine Z_top (v' := .int (-3)) (congrArg Value.int ((if_neg (by rw [e7]; decide)).trans e7)) ?_
        refine Z_istore 177 [(15, _), (14, _), (13, _), (12, _), (11, _), (10, _), (9, _), (8, _), (7, _), (6, _), (4, _), (3, _), (2, _), (0, _), (1, _)] dL_signs_175 rfl (Nat.le_of_ble_eq_true rfl) rfl ?_
        refine Z_iload 179 1 dL_signs_177 rfl rfl ?_
        refine Z_if_eq 182 359 dL_signs_179 rfl rfl (fun c179 => absurd c179 (by decide)) (fun c179 => ?_)
        refine Z_iload 184 3 dL_signs_182 rfl rfl ?_
        refine Z_iload_n 185 12 dL_signs_184 rfl rfl ?_
        refine Z_icmp_gt 188 359 dL_signs_185 rfl rfl (fun c185 => absurd c185 (nI_nlt (by omega) (by omega))) (fun c185 => ?_)
        refine Z_iload 190 2 dL_signs_188 rfl rfl ?_
        refine Z_if_ne 193 359 dL_signs_190 rfl rfl (fun c190 => absurd c190 (by decide)) (fun c190 => ?_)
        refine Z_aload_n 194 13 dL_signs_193 rfl rfl ?_
        refine Z_bipush 196 (nI 12) dL_signs_194 rfl rfl ?_
        refine Z_callV 199 [_] 3 (v_count12 hF hk) dL_signs_196 rfl qL_13 kX3_count rfl rfl (Nat.le_of_ble_eq_true rfl) rfl rfl ⟨(Nat.le_of_ble_eq_true rfl), (Nat.le_of_ble_eq_true rfl)⟩ (Nat.le_of_ble_eq_true rfl) ⟨rfl, rfl⟩ ⟨(Nat.le_of_ble_eq_true rfl), (Nat.le_of_ble_eq_true rfl)⟩ (fun r9 w9 hp9 => ?_)
        obtain ⟨rfl, mm, rfl, hF⟩ := hp9
        refine Z_iload 201 9 dL_signs_199 rfl rfl ?_
        refine Z_iconst 202 (nI 4) dL_signs_201 rfl rfl ?_
        refine Z_icmp_ge 205 212 dL_signs_202 rfl rfl (fun c202 => ?_) (fun c202 => ?_)
        · skip
          refine Z_iconst 213 (nI 4) dL_signs_212 rfl rfl ?_
          refine Z_icmp_ne 216 359 dL_signs_213 rfl rfl (fun c213 => absurd c213 ((by first | exact fun z => z (by rw [hA.1.st, sN_ge (fun y => absurd ((nI_leI (by omega) (by omega)).mp c202) (by omega))]) | exact fun z => z (by rw [hA.1.st, sN_lt (Nat.lt_of_not_le (fun y => c202 (nI_le y (by omega))))]; exact (nI_add s 1).symm)))) (fun c213 => ?_)
          refine Z_aload_n 217 13 dL_signs_216 rfl rfl ?_
          refine Z_iconst 218 (nI 1) dL_signs_217 rfl rfl ?_
          refine Z_callV 221 [_] 3 (v_count1 hF hk) dL_signs_218 rfl qL_13 kX3_count rfl rfl (Nat.le_of_ble_eq_true rfl) rfl rfl ⟨(Nat.le_of_ble_eq_true rfl), (Nat.le_of_ble_eq_true rfl)⟩ (Nat.le_of_ble_eq_true rfl) ⟨rfl, rfl⟩ ⟨(Nat.le_of_ble_eq_true rfl), (Nat.le_of_ble_eq_true rfl)⟩ (fun r9 w9 hp9 => ?_)
          obtain ⟨rfl, mm, rfl, hF⟩ := hp9
          refine Z_iload 223 8 dL_signs_221 rfl rfl ?_
          refine Z_iload 225 3 dL_signs_223 rfl rfl ?_
          refine Z_iadd 226 dL_signs_225 rfl ?_
          refine Z_icmp_ne 229 359 dL_signs_226 rfl rfl (fun c226 => absurd c226 (fun z => z (nI_add n J).symm)) (fun c226 => ?_)
          refine Z_aload_n 230 13 dL_signs_229 rfl rfl ?_
          refine Z_bipush 232 (nI 7) dL_signs_230 rfl rfl ?_
          refine Z_callV 235 [_] 3 (v_count7 hF hk) dL_signs_232 rfl qL_13 kX3_count rfl rfl (Nat.le_of_ble_eq_true rfl) rfl rfl ⟨(Nat.le_of_ble_eq_true rfl), (Nat.le_of_ble_eq_true rfl)⟩ (Nat.le_of_ble_eq_true rfl) ⟨rfl, rfl⟩ ⟨(Nat.le_of_ble_eq_true rfl), (Nat.le_of_ble_eq_true rfl)⟩ (fun r9 w9 hp9 => ?_)
          obtain ⟨rfl, mm, rfl, hF⟩ := hp9
          refine Z_iload 237 7 dL_signs_235 rfl rfl ?_
          refine Z_iload 239 3 dL_signs_237 rfl rfl ?_
          refine Z_iadd 240 dL_signs_239 rfl ?_
          refine Z_icmp_ne 243 359 dL_signs_240 rfl rfl (fun c240 => absurd c240 (fun z => z hE2)) (fun c240 => ?_)
          refine Z_aload_n 244 13 dL_signs_243 rfl rfl ?_
          refine Z_bipush 246 (nI 8) dL_signs_244 rfl rfl ?_
          refine Z_callV 249 [_] 3 (v_count8 hF hk) dL_signs_246 rfl qL_13 kX3_count rfl rfl (Nat.le_of_ble_eq_true rfl) rfl rfl ⟨(Nat.le_of_ble_eq_true rfl), (Nat.le_of_ble_eq_true rfl)⟩ (Nat.le_of_ble_eq_true rfl) ⟨rfl, rfl⟩ ⟨(Nat.le_of_ble_eq_true rfl), (Nat.le_of_ble_eq_true rfl)⟩ (fun r9 w9 hp9 => ?_)
          obtain ⟨rfl, mm, rfl, hF⟩ := hp9
          refine Z_iload 251 6 dL_signs_249 rfl rfl ?_
          refine Z_iload 253 0 dL_signs_251 rfl rfl ?_
          refine Z_if_le 256 260 dL_signs_253 rfl rfl (fun c253 => ?_) (fun c253 => absurd (by decide) c253)
          refine Z_iconst 261 (nI 0) dL_signs_260 rfl rfl ?_
          refine Z_iadd 262 dL_signs_261 rfl ?_
          refine Z_icmp_ne 265 359 dL_signs_262 rfl rfl (fun c262 => absurd c262 (fun z => z (by rw [e12]; exact ad0 _))) (fun c262 => ?_)
          refine Z_iload 267 3 dL_signs_265 rfl rfl ?_
          refine Z_iload_n 268 12 dL_signs_267 rfl rfl ?_
          refine Z_icmp_ne 271 275 dL_signs_268 rfl rfl (fun c268 => ?_) (fun c268 => absurd (fun z => absurd (eqN z (by omega) (by omega)) (by omega)) c268)
          refine Z_iconst 276 (nI 0) dL_signs_275 rfl rfl ?_
          refine Z_iload 278 0 dL_signs_276 rfl rfl ?_
          refine Z_bipush 280 (-4) dL_signs_278 rfl rfl ?_
          refine Z_icmp_ne 283 287 dL_signs_280 rfl rfl (fun c280 => ?_) (fun c280 => absurd (by decide) c280)
          refine Z_iconst 288 (nI 0) dL_signs_287 rfl rfl ?_
          refine Z_icmp_ne 291 359 dL_signs_288 rfl rfl (fun c288 => absurd c288 (by decide)) (fun c288 => ?_)
          refine Z_iload 293 0 dL_signs_291 rfl rfl ?_
          refine Z_bipush 295 (-4) dL_signs_293 rfl rfl ?_
          refine Z_icmp_eq 298 355 dL_signs_295 rfl rfl (fun c295 => absurd c295 (by decide)) (fun c295 => ?_)
          refine Z_iload 300 0 dL_signs_298 rfl rfl ?_
          refine Z_iconst 301 (nI 1) dL_signs_300 rfl rfl ?_
          refine Z_icmp_eq 304 323 dL_signs_301 rfl rfl (fun c301 => absurd c301 (by decide)) (fun c301 => ?_)
          refine Z_iload 306 0 dL_signs_304 rfl rfl ?_
          refine Z_iconst 307 (nI 2) dL_signs_306 rfl rfl ?_
          refine Z_icmp_eq 310 323 dL_signs_307 rfl rfl (fun c307 => absurd c307 (by decide)) (fun c307 => ?_)
          refine Z_iload 312 0 dL_signs_310 rfl rfl ?_
          refine Z_iconst 313 (-1) dL_signs_312 rfl rfl ?_
          refine Z_icmp_eq 316 323 dL_signs_313 rfl rfl (fun c313 => absurd c313 (by decide)) (fun c313 => ?_)
          refine Z_iload 318 0 dL_signs_316 rfl rfl ?_
          refine Z_bipush 320 (-3) dL_signs_318 rfl rfl ?_
          refine Z_icmp_ne 323 359 dL_signs_320 rfl rfl (fun c320 => absurd c320 (by decide)) (fun c320 => ?_)
          refine Z_aload_n 324 13 dL_signs_323 rfl rfl ?_
          refine Z_iconst 325 (nI 1) dL_signs_324 rfl rfl ?_
          refine Z_callV 328 [_] 3 (v_why1 hF) dL_signs_325 rfl qL_75 kX3_why rfl rfl (Nat.le_of_ble_eq_true rfl) rfl rfl ⟨(Nat.le_of_ble_eq_true rfl), (Nat.le_of_ble_eq_true rfl)⟩ (Nat.le_of_ble_eq_true rfl) ⟨rfl, rfl⟩ ⟨(Nat.le_of_ble_eq_true rfl), (Nat.le_of_ble_eq_true rfl)⟩ (fun r9 w9 hp9 => ?_)
          obtain ⟨rfl, mm, rfl, hF⟩ := hp9
          refine Z_top (v' := .int (nI J)) (congrArg Value.int ((if_neg (by rw [e7]; decide)).trans e8)) ?_
          refine Z_iload 330 3 dL_signs_328 rfl rfl ?_
          refine Z_icmp_ne 333 359 dL_signs_330 rfl rfl (fun c330 => absurd c330 (fun z => z rfl)) (fun c330 => ?_)
          refine Z_aload_n 334 13 dL_signs_333 rfl rfl ?_
          refine Z_iconst 335 (nI 2) dL_signs_334 rfl rfl ?_
          refine Z_callV 338 [_] 3 (v_why2 hF) dL_signs_335 rfl qL_75 kX3_why rfl rfl (Nat.le_of_ble_eq_true rfl) rfl rfl ⟨(Nat.le_of_ble_eq_true rfl), (Nat.le_of_ble_eq_true rfl)⟩ (Nat.le_of_ble_eq_true rfl) ⟨rfl, rfl⟩ ⟨(Nat.le_of_ble_eq_true rfl), (Nat.le_of_ble_eq_true rfl)⟩ (fun r9 w9 hp9 => ?_)
          obtain ⟨rfl, mm, rfl, hF⟩ := hp9
          refine Z_top (v' := .int (nI (sq (hx (M 69) L) J))) (congrArg Value.int ((if_neg (by rw [e7]; decide)).trans e9)) ?_
          refine Z_iconst 339 (nI 4) dL_signs_338 rfl rfl ?_
          refine Z_iload 341 3 dL_signs_339 rfl rfl ?_
          refine Z_imul 342 dL_signs_341 rfl ?_
          refine Z_icmp_lt 345 359 dL_signs_342 rfl rfl (fun c342 => absurd c342 ((by rw [pk_mul]; exact nI_nlt q4 (by omega)))) (fun c342 => ?_)
          refine Z_aload_n 346 13 dL_signs_345 rfl rfl ?_
          refine Z_iconst 347 (nI 2) dL_signs_346 rfl rfl ?_
          refine Z_callV 350 [_] 3 (v_why2 hF) dL_signs_347 rfl qL_75 kX3_why rfl rfl (Nat.le_of_ble_eq_true rfl) rfl rfl ⟨(Nat.le_of_ble_eq_true rfl), (Nat.le_of_ble_eq_true rfl)⟩ (Nat.le_of_ble_eq_true rfl) ⟨rfl, rfl⟩ ⟨(Nat.le_of_ble_eq_true rfl), (Nat.le_of_ble_eq_true rfl)⟩ (fun r9 w9 hp9 => ?_)
          obtain ⟨rfl, mm, rfl, hF⟩ := hp9
          refine Z_top (v' := .int (nI (sq (hx (M 69) L) J))) (congrArg Value.int ((if_neg (by rw [e7]; decide)).trans e9)) ?_
          refine Z_iload 352 5 dL_signs_350 rfl rfl ?_
          refine Z_icmp_ge 355 359 dL_signs_352 rfl rfl (fun c352 => absurd c352 (nI_ge q2 (by omega))) (fun c352 => ?_)
          refine Z_iconst 356 (nI 1) dL_signs_355 rfl rfl ?_
          refine Z_goto 360 dL_signs_356 rfl ?_
          exact Z_zret dL_signs_360 rfl (by first | exact Or.inl rfl | exact Or.inr rfl | exact bI_01) (by first | exact actOk (hAct.v hF))
        · skip
          refine Z_iload 207 9 dL_signs_205 rfl rfl ?_
          refine Z_iconst 208 (nI 1) dL_signs_207 rfl rfl ?_
          refine Z_iadd 209 dL_signs_208 rfl ?_
          refine Z_goto 213 dL_signs_209 rfl ?_
          refine Z_icmp_ne 216 359 dL_signs_213 rfl rfl (fun c213 => absurd c213 ((by first | exact fun z => z (by rw [hA.1.st, sN_ge (fun y => absurd ((nI_leI (by omega) (by omega)).mp c202) (by omega))]) | exact fun z => z (by rw [hA.1.st, sN_lt (Nat.lt_of_not_le (fun y => c202 (nI_le y (by omega))))]; exact (nI_add s 1).symm)))) (fun c213 => ?_)
          refine Z_aload_n 217 13 dL_signs_216 rfl rfl ?_
          refine Z_iconst 218 (nI 1) dL_signs_217 rfl rfl ?_
          refine Z_callV 221 [_] 3 (v_count1 hF hk) dL_signs_218 rfl qL_13 kX3_count rfl rfl (Nat.le_of_ble_eq_true rfl) rfl rfl ⟨(Nat.le_of_ble_eq_true rfl), (Nat.le_of_ble_eq_true rfl)⟩ (Nat.le_of_ble_eq_true rfl) ⟨rfl, rfl⟩ ⟨(Nat.le_of_ble_eq_true rfl), (Nat.le_of_ble_eq_true rfl)⟩ (fun r9 w9 hp9 => ?_)
          obtain ⟨rfl, mm, rfl, hF⟩ := hp9
          refine Z_iload 223 8 dL_signs_221 rfl rfl ?_
          refine Z_iload 225 3 dL_signs_223 rfl rfl ?_
          refine Z_iadd 226 dL_signs_225 rfl ?_
          refine Z_icmp_ne 229 359 dL_signs_226 rfl rfl (fun c226 => absurd c226 (fun z => z (nI_add n J).symm)) (fun c226 => ?_)
          refine Z_aload_n 230 13 dL_signs_229 rfl rfl ?_
          refine Z_bipush 232 (nI 7) dL_signs_230 rfl rfl ?_
          refine Z_callV 235 [_] 3 (v_count7 hF hk) dL_signs_232 rfl qL_13 kX3_count rfl rfl (Nat.le_of_ble_eq_true rfl) rfl rfl ⟨(Nat.le_of_ble_eq_true rfl), (Nat.le_of_ble_eq_true rfl)⟩ (Nat.le_of_ble_eq_true rfl) ⟨rfl, rfl⟩ ⟨(Nat.le_of_ble_eq_true rfl), (Nat.le_of_ble_eq_true rfl)⟩ (fun r9 w9 hp9 => ?_)
          obtain ⟨rfl, mm, rfl, hF⟩ := hp9
          refine Z_iload 237 7 dL_signs_235 rfl rfl ?_
          refine Z_iload 239 3 dL_signs_237 rfl rfl ?_
          refine Z_iadd 240 dL_signs_239 rfl ?_
          refine Z_icmp_ne 243 359 dL_signs_240 rfl rfl (fun c240 => absurd c240 (fun z => z hE2)) (fun c240 => ?_)
          refine Z_aload_n 244 13 dL_signs_243 rfl rfl ?_
          refine Z_bipush 246 (nI 8) dL_signs_244 rfl rfl ?_
          refine Z_callV 249 [_] 3 (v_count8 hF hk) dL_signs_246 rfl qL_13 kX3_count rfl rfl (Nat.le_of_ble_eq_true rfl) rfl rfl ⟨(Nat.le_of_ble_eq_true rfl), (Nat.le_of_ble_eq_true rfl)⟩ (Nat.le_of_ble_eq_true rfl) ⟨rfl, rfl⟩ ⟨(Nat.le_of_ble_eq_true rfl), (Nat.le_of_ble_eq_true rfl)⟩ (fun r9 w9 hp9 => ?_)
          obtain ⟨rfl, mm, rfl, hF⟩ := hp9
          refine Z_iload 251 6 dL_signs_249 rfl rfl ?_
          refine Z_iload 253 0 dL_signs_251 rfl rfl ?_
          refine Z_if_le 256 260 dL_signs_253 rfl rfl (fun c253 => ?_) (fun c253 => absurd (by decide) c253)
          refine Z_iconst 261 (nI 0) dL_signs_260 rfl rfl ?_
          refine Z_iadd 262 dL_signs_261 rfl ?_
          refine Z_icmp_ne 265 359 dL_signs_262 rfl rfl (fun c262 => absurd c262 (fun z => z (by rw [e12]; exact ad0 _))) (fun c262 => ?_)
          refine Z_iload 267 3 dL_signs_265 rfl rfl ?_
          refine Z_iload_n 268 12 dL_signs_267 rfl rfl ?_
          refine Z_icmp_ne 271 275 dL_signs_268 rfl rfl (fun c268 => ?_) (fun c268 => absurd (fun z => absurd (eqN z (by omega) (by omega)) (by omega)) c268)
          refine Z_iconst 276 (nI 0) dL_signs_275 rfl rfl ?_
          refine Z_iload 278 0 dL_signs_276 rfl rfl ?_
          refine Z_bipush 280 (-4) dL_signs_278 rfl rfl ?_
          refine Z_icmp_ne 283 287 dL_signs_280 rfl rfl (fun c280 => ?_) (fun c280 => absurd (by decide) c280)
          refine Z_iconst 288 (nI 0) dL_signs_287 rfl rfl ?_
          refine Z_icmp_ne 291 359 dL_signs_288 rfl rfl (fun c288 => absurd c288 (by decide)) (fun c288 => ?_)
          refine Z_iload 293 0 dL_signs_291 rfl rfl ?_
          refine Z_bipush 295 (-4) dL_signs_293 rfl rfl ?_
          refine Z_icmp_eq 298 355 dL_signs_295 rfl rfl (fun c295 => absurd c295 (by decide)) (fun c295 => ?_)
          refine Z_iload 300 0 dL_signs_298 rfl rfl ?_
          refine Z_iconst 301 (nI 1) dL_signs_300 rfl rfl ?_
          refine Z_icmp_eq 304 323 dL_signs_301 rfl rfl (fun c301 => absurd c301 (by decide)) (fun c301 => ?_)
          refine Z_iload 306 0 dL_signs_304 rfl rfl ?_
          refine Z_iconst 307 (nI 2) dL_signs_306 rfl rfl ?_
          refine Z_icmp_eq 310 323 dL_signs_307 rfl rfl (fun c307 => absurd c307 (by decide)) (fun c307 => ?_)
          refine Z_iload 312 0 dL_signs_310 rfl rfl ?_
          refine Z_iconst 313 (-1) dL_signs_312 rfl rfl ?_
          refine Z_icmp_eq 316 323 dL_signs_313 rfl rfl (fun c313 => absurd c313 (by decide)) (fun c313 => ?_)
          refine Z_iload 318 0 dL_signs_316 rfl rfl ?_
          refine Z_bipush 320 (-3) dL_signs_318 rfl rfl ?_
          refine Z_icmp_ne 323 359 dL_signs_320 rfl rfl (fun c320 => absurd c320 (by decide)) (fun c320 => ?_)
          refine Z_aload_n 324 13 dL_signs_323 rfl rfl ?_
          refine Z_iconst 325 (nI 1) dL_signs_324 rfl rfl ?_
          refine Z_callV 328 [_] 3 (v_why1 hF) dL_signs_325 rfl qL_75 kX3_why rfl rfl (Nat.le_of_ble_eq_true rfl) rfl rfl ⟨(Nat.le_of_ble_eq_true rfl), (Nat.le_of_ble_eq_true rfl)⟩ (Nat.le_of_ble_eq_true rfl) ⟨rfl, rfl⟩ ⟨(Nat.le_of_ble_eq_true rfl), (Nat.le_of_ble_eq_true rfl)⟩ (fun r9 w9 hp9 => ?_)
          obtain ⟨rfl, mm, rfl, hF⟩ := hp9
          refine Z_top (v' := .int (nI J)) (congrArg Value.int ((if_neg (by rw [e7]; decide)).trans e8)) ?_
          refine Z_iload 330 3 dL_signs_328 rfl rfl ?_
          refine Z_icmp_ne 333 359 dL_signs_330 rfl rfl (fun c330 => absurd c330 (fun z => z rfl)) (fun c330 => ?_)
          refine Z_aload_n 334 13 dL_signs_333 rfl rfl ?_
          refine Z_iconst 335 (nI 2) dL_signs_334 rfl rfl ?_
          refine Z_callV 338 [_] 3 (v_why2 hF) dL_signs_335 rfl qL_75 kX3_why rfl rfl (Nat.le_of_ble_eq_true rfl) rfl rfl ⟨(Nat.le_of_ble_eq_true rfl), (Nat.le_of_ble_eq_true rfl)⟩ (Nat.le_of_ble_eq_true rfl) ⟨rfl, rfl⟩ ⟨(Nat.le_of_ble_eq_true rfl), (Nat.le_of_ble_eq_true rfl)⟩ (fun r9 w9 hp9 => ?_)
          obtain ⟨rfl, mm, rfl, hF⟩ := hp9
          refine Z_top (v' := .int (nI (sq (hx (M 69) L) J))) (congrArg Value.int ((if_neg (by rw [e7]; decide)).trans e9)) ?_
          refine Z_iconst 339 (nI 4) dL_signs_338 rfl rfl ?_
          refine Z_iload 341 3 dL_signs_339 rfl rfl ?_
          refine Z_imul 342 dL_signs_341 rfl ?_
          refine Z_icmp_lt 345 359 dL_signs_342 rfl rfl (fun c342 => absurd c342 ((by rw [pk_mul]; exact nI_nlt q4 (by omega)))) (fun c342 => ?_)
          refine Z_aload_n 346 13 dL_signs_345 rfl rfl ?_
          refine Z_iconst 347 (nI 2) dL_signs_346 rfl rfl ?_
          refine Z_callV 350 [_] 3 (v_why2 hF) dL_signs_347 rfl qL_75 kX3_why rfl rfl (Nat.le_of_ble_eq_true rfl) rfl rfl ⟨(Nat.le_of_ble_eq_true rfl), (Nat.le_of_ble_eq_true rfl)⟩ (Nat.le_of_ble_eq_true rfl) ⟨rfl, rfl⟩ ⟨(Nat.le_of_ble_eq_true rfl), (Nat.le_of_ble_eq_true rfl)⟩ (fun r9 w9 hp9 => ?_)
          obtain ⟨rfl, mm, rfl, hF⟩ := hp9
          refine Z_top (v' := .int (nI (sq (hx (M 69) L) J))) (congrArg Value.int ((if_neg (by rw [e7]; decide)).trans e9)) ?_
          refine Z_iload 352 5 dL_signs_350 rfl rfl ?_
          refine Z_icmp_ge 355 359 dL_signs_352 rfl rfl (fun c352 => absurd c352 (nI_ge q2 (by omega))) (fun c352 => ?_)
          refine Z_iconst 356 (nI 1) dL_signs_355 rfl rfl ?_
          refine Z_goto 360 dL_signs_356 rfl ?_
          exact Z_zret dL_signs_360 rfl (by first | exact Or.inl rfl | exact Or.inr rfl | exact bI_01) (by first | exact actOk (hAct.v hF))
      · skip
        refine Z_aload_n 171 12 dL_signs_170 rfl rfl ?_
        refine Z_iconst 172 (nI 0) dL_signs_171 rfl rfl ?_
        refine Z_callV 175 [_] 3 (v_why0 hF) dL_signs_172 rfl qL_75 kX3_why rfl rfl (Nat.le_of_ble_eq_true rfl) rfl rfl ⟨(Nat.le_of_ble_eq_true rfl), (Nat.le_of_ble_eq_true rfl)⟩ (Nat.le_of_ble_eq_true rfl) ⟨rfl, rfl⟩ ⟨(Nat.le_of_ble_eq_true rfl), (Nat.le_of_ble_eq_true rfl)⟩ (fun r9 w9 hp9 => ?_)
        obtain ⟨rfl, mm, rfl, hF⟩ := hp9
        refine Z_top (v' := .int (nI 1)) (congrArg Value.int ((if_neg (by rw [e7]; decide)).trans e7)) ?_
        refine Z_istore 177 [(15, _), (14, _), (13, _), (12, _), (11, _), (10, _), (9, _), (8, _), (7, _), (6, _), (4, _), (3, _), (2, _), (0, _), (1, _)] dL_signs_175 rfl (Nat.le_of_ble_eq_true rfl) rfl ?_
        refine Z_iload 179 1 dL_signs_177 rfl rfl ?_
        refine Z_if_eq 182 359 dL_signs_179 rfl rfl (fun c179 => absurd c179 (by decide)) (fun c179 => ?_)
        refine Z_iload 184 3 dL_signs_182 rfl rfl ?_
        refine Z_iload_n 185 12 dL_signs_184 rfl rfl ?_
        refine Z_icmp_gt 188 359 dL_signs_185 rfl rfl (fun c185 => absurd c185 (nI_nlt (by omega) (by omega))) (fun c185 => ?_)
        refine Z_iload 190 2 dL_signs_188 rfl rfl ?_
        refine Z_if_ne 193 359 dL_signs_190 rfl rfl (fun c190 => absurd c190 (by decide)) (fun c190 => ?_)
        refine Z_aload_n 194 13 dL_signs_193 rfl rfl ?_
        refine Z_bipush 196 (nI 12) dL_signs_194 rfl rfl ?_
        refine Z_callV 199 [_] 3 (v_count12 hF hk) dL_signs_196 rfl qL_13 kX3_count rfl rfl (Nat.le_of_ble_eq_true rfl) rfl rfl ⟨(Nat.le_of_ble_eq_true rfl), (Nat.le_of_ble_eq_true rfl)⟩ (Nat.le_of_ble_eq_true rfl) ⟨rfl, rfl⟩ ⟨(Nat.le_of_ble_eq_true rfl), (Nat.le_of_ble_eq_true rfl)⟩ (fun r9 w9 hp9 => ?_)
        obtain ⟨rfl, mm, rfl, hF⟩ := hp9
        refine Z_iload 201 9 dL_signs_199 rfl rfl ?_
        refine Z_iconst 202 (nI 4) dL_signs_201 rfl rfl ?_
        refine Z_icmp_ge 205 212 dL_signs_202 rfl rfl (fun c202 => ?_) (fun c202 => ?_)
        · skip
          refine Z_iconst 213 (nI 4) dL_signs_212 rfl rfl ?_
          refine Z_icmp_ne 216 359 dL_signs_213 rfl rfl (fun c213 => absurd c213 ((by first | exact fun z => z (by rw [hA.1.st, sN_ge (fun y => absurd ((nI_leI (by omega) (by omega)).mp c202) (by omega))]) | exact fun z => z (by rw [hA.1.st, sN_lt (Nat.lt_of_not_le (fun y => c202 (nI_le y (by omega))))]; exact (nI_add s 1).symm)))) (fun c213 => ?_)
          refine Z_aload_n 217 13 dL_signs_216 rfl rfl ?_
          refine Z_iconst 218 (nI 1) dL_signs_217 rfl rfl ?_
          refine Z_callV 221 [_] 3 (v_count1 hF hk) dL_signs_218 rfl qL_13 kX3_count rfl rfl (Nat.le_of_ble_eq_true rfl) rfl rfl ⟨(Nat.le_of_ble_eq_true rfl), (Nat.le_of_ble_eq_true rfl)⟩ (Nat.le_of_ble_eq_true rfl) ⟨rfl, rfl⟩ ⟨(Nat.le_of_ble_eq_true rfl), (Nat.le_of_ble_eq_true rfl)⟩ (fun r9 w9 hp9 => ?_)
          obtain ⟨rfl, mm, rfl, hF⟩ := hp9
          refine Z_iload 223 8 dL_signs_221 rfl rfl ?_
          refine Z_iload 225 3 dL_signs_223 rfl rfl ?_
          refine Z_iadd 226 dL_signs_225 rfl ?_
          refine Z_icmp_ne 229 359 dL_signs_226 rfl rfl (fun c226 => absurd c226 (fun z => z (nI_add n J).symm)) (fun c226 => ?_)
          refine Z_aload_n 230 13 dL_signs_229 rfl rfl ?_
          refine Z_bipush 232 (nI 7) dL_signs_230 rfl rfl ?_
          refine Z_callV 235 [_] 3 (v_count7 hF hk) dL_signs_232 rfl qL_13 kX3_count rfl rfl (Nat.le_of_ble_eq_true rfl) rfl rfl ⟨(Nat.le_of_ble_eq_true rfl), (Nat.le_of_ble_eq_true rfl)⟩ (Nat.le_of_ble_eq_true rfl) ⟨rfl, rfl⟩ ⟨(Nat.le_of_ble_eq_true rfl), (Nat.le_of_ble_eq_true rfl)⟩ (fun r9 w9 hp9 => ?_)
          obtain ⟨rfl, mm, rfl, hF⟩ := hp9
          refine Z_iload 237 7 dL_signs_235 rfl rfl ?_
          refine Z_iload 239 3 dL_signs_237 rfl rfl ?_
          refine Z_iadd 240 dL_signs_239 rfl ?_
          refine Z_icmp_ne 243 359 dL_signs_240 rfl rfl (fun c240 => absurd c240 (fun z => z hE2)) (fun c240 => ?_)
          refine Z_aload_n 244 13 dL_signs_243 rfl rfl ?_
          refine Z_bipush 246 (nI 8) dL_signs_244 rfl rfl ?_
          refine Z_callV 249 [_] 3 (v_count8 hF hk) dL_signs_246 rfl qL_13 kX3_count rfl rfl (Nat.le_of_ble_eq_true rfl) rfl rfl ⟨(Nat.le_of_ble_eq_true rfl), (Nat.le_of_ble_eq_true rfl)⟩ (Nat.le_of_ble_eq_true rfl) ⟨rfl, rfl⟩ ⟨(Nat.le_of_ble_eq_true rfl), (Nat.le_of_ble_eq_true rfl)⟩ (fun r9 w9 hp9 => ?_)
          obtain ⟨rfl, mm, rfl, hF⟩ := hp9
          refine Z_iload 251 6 dL_signs_249 rfl rfl ?_
          refine Z_iload 253 0 dL_signs_251 rfl rfl ?_
          refine Z_if_le 256 260 dL_signs_253 rfl rfl (fun c253 => absurd c253 (by decide)) (fun c253 => ?_)
          refine Z_iconst 257 (nI 1) dL_signs_256 rfl rfl ?_
          refine Z_goto 261 dL_signs_257 rfl ?_
          refine Z_iadd 262 dL_signs_261 rfl ?_
          refine Z_icmp_ne 265 359 dL_signs_262 rfl rfl (fun c262 => absurd c262 (fun z => z e12)) (fun c262 => ?_)
          refine Z_iload 267 3 dL_signs_265 rfl rfl ?_
          refine Z_iload_n 268 12 dL_signs_267 rfl rfl ?_
          refine Z_icmp_ne 271 275 dL_signs_268 rfl rfl (fun c268 => ?_) (fun c268 => absurd (fun z => absurd (eqN z (by omega) (by omega)) (by omega)) c268)
          refine Z_iconst 276 (nI 0) dL_signs_275 rfl rfl ?_
          refine Z_iload 278 0 dL_signs_276 rfl rfl ?_
          refine Z_bipush 280 (-4) dL_signs_278 rfl rfl ?_
          refine Z_icmp_ne 283 287 dL_signs_280 rfl rfl (fun c280 => ?_) (fun c280 => absurd (by decide) c280)
          refine Z_iconst 288 (nI 0) dL_signs_287 rfl rfl ?_
          refine Z_icmp_ne 291 359 dL_signs_288 rfl rfl (fun c288 => absurd c288 (by decide)) (fun c288 => ?_)
          refine Z_iload 293 0 dL_signs_291 rfl rfl ?_
          refine Z_bipush 295 (-4) dL_signs_293 rfl rfl ?_
          refine Z_icmp_eq 298 355 dL_signs_295 rfl rfl (fun c295 => absurd c295 (by decide)) (fun c295 => ?_)
          refine Z_iload 300 0 dL_signs_298 rfl rfl ?_
          refine Z_iconst 301 (nI 1) dL_signs_300 rfl rfl ?_
          refine Z_icmp_eq 304 323 dL_signs_301 rfl rfl (fun c301 => ?_) (fun c301 => absurd (by decide) c301)
          refine Z_aload_n 324 13 dL_signs_323 rfl rfl ?_
          refine Z_iconst 325 (nI 1) dL_signs_324 rfl rfl ?_
          refine Z_callV 328 [_] 3 (v_why1 hF) dL_signs_325 rfl qL_75 kX3_why rfl rfl (Nat.le_of_ble_eq_true rfl) rfl rfl ⟨(Nat.le_of_ble_eq_true rfl), (Nat.le_of_ble_eq_true rfl)⟩ (Nat.le_of_ble_eq_true rfl) ⟨rfl, rfl⟩ ⟨(Nat.le_of_ble_eq_true rfl), (Nat.le_of_ble_eq_true rfl)⟩ (fun r9 w9 hp9 => ?_)
          obtain ⟨rfl, mm, rfl, hF⟩ := hp9
          refine Z_top (v' := .int (nI J)) (congrArg Value.int ((if_neg (by rw [e7]; decide)).trans e8)) ?_
          refine Z_iload 330 3 dL_signs_328 rfl rfl ?_
          refine Z_icmp_ne 333 359 dL_signs_330 rfl rfl (fun c330 => absurd c330 (fun z => z rfl)) (fun c330 => ?_)
          refine Z_aload_n 334 13 dL_signs_333 rfl rfl ?_
          refine Z_iconst 335 (nI 2) dL_signs_334 rfl rfl ?_
          refine Z_callV 338 [_] 3 (v_why2 hF) dL_signs_335 rfl qL_75 kX3_why rfl rfl (Nat.le_of_ble_eq_true rfl) rfl rfl ⟨(Nat.le_of_ble_eq_true rfl), (Nat.le_of_ble_eq_true rfl)⟩ (Nat.le_of_ble_eq_true rfl) ⟨rfl, rfl⟩ ⟨(Nat.le_of_ble_eq_true rfl), (Nat.le_of_ble_eq_true rfl)⟩ (fun r9 w9 hp9 => ?_)
          obtain ⟨rfl, mm, rfl, hF⟩ := hp9
          refine Z_top (v' := .int (nI (sq (hx (M 69) L) J))) (congrArg Value.int ((if_neg (by rw [e7]; decide)).trans e9)) ?_
          refine Z_iconst 339 (nI 4) dL_signs_338 rfl rfl ?_
          refine Z_iload 341 3 dL_signs_339 rfl rfl ?_
          refine Z_imul 342 dL_signs_341 rfl ?_
          refine Z_icmp_lt 345 359 dL_signs_342 rfl rfl (fun c342 => absurd c342 ((by rw [pk_mul]; exact nI_nlt q4 (by omega)))) (fun c342 => ?_)
          refine Z_aload_n 346 13 dL_signs_345 rfl rfl ?_
          refine Z_iconst 347 (nI 2) dL_signs_346 rfl rfl ?_
          refine Z_callV 350 [_] 3 (v_why2 hF) dL_signs_347 rfl qL_75 kX3_why rfl rfl (Nat.le_of_ble_eq_true rfl) rfl rfl ⟨(Nat.le_of_ble_eq_true rfl), (Nat.le_of_ble_eq_true rfl)⟩ (Nat.le_of_ble_eq_true rfl) ⟨rfl, rfl⟩ ⟨(Nat.le_of_ble_eq_true rfl), (Nat.le_of_ble_eq_true rfl)⟩ (fun r9 w9 hp9 => ?_)
          obtain ⟨rfl, mm, rfl, hF⟩ := hp9
          refine Z_top (v' := .int (nI (sq (hx (M 69) L) J))) (congrArg Value.int ((if_neg (by rw [e7]; decide)).trans e9)) ?_
          refine Z_iload 352 5 dL_signs_350 rfl rfl ?_
          refine Z_icmp_ge 355 359 dL_signs_352 rfl rfl (fun c352 => absurd c352 (nI_ge q2 (by omega))) (fun c352 => ?_)
          refine Z_iconst 356 (nI 1) dL_signs_355 rfl rfl ?_
          refine Z_goto 360 dL_signs_356 rfl ?_
          exact Z_zret dL_signs_360 rfl (by first | exact Or.inl rfl | exact Or.inr rfl | exact bI_01) (by first | exact actOk (hAct.v hF))
        · skip
          refine Z_iload 207 9 dL_signs_205 rfl rfl ?_
          refine Z_iconst 208 (nI 1) dL_signs_207 rfl rfl ?_
          refine Z_iadd 209 dL_signs_208 rfl ?_
          refine Z_goto 213 dL_signs_209 rfl ?_
          refine Z_icmp_ne 216 359 dL_signs_213 rfl rfl (fun c213 => absurd c213 ((by first | exact fun z => z (by rw [hA.1.st, sN_ge (fun y => absurd ((nI_leI (by omega) (by omega)).mp c202) (by omega))]) | exact fun z => z (by rw [hA.1.st, sN_lt (Nat.lt_of_not_le (fun y => c202 (nI_le y (by omega))))]; exact (nI_add s 1).symm)))) (fun c213 => ?_)
          refine Z_aload_n 217 13 dL_signs_216 rfl rfl ?_
          refine Z_iconst 218 (nI 1) dL_signs_217 rfl rfl ?_
          refine Z_callV 221 [_] 3 (v_count1 hF hk) dL_signs_218 rfl qL_13 kX3_count rfl rfl (Nat.le_of_ble_eq_true rfl) rfl rfl ⟨(Nat.le_of_ble_eq_true rfl), (Nat.le_of_ble_eq_true rfl)⟩ (Nat.le_of_ble_eq_true rfl) ⟨rfl, rfl⟩ ⟨(Nat.le_of_ble_eq_true rfl), (Nat.le_of_ble_eq_true rfl)⟩ (fun r9 w9 hp9 => ?_)
          obtain ⟨rfl, mm, rfl, hF⟩ := hp9
          refine Z_iload 223 8 dL_signs_221 rfl rfl ?_
          refine Z_iload 225 3 dL_signs_223 rfl rfl ?_
          refine Z_iadd 226 dL_signs_225 rfl ?_
          refine Z_icmp_ne 229 359 dL_signs_226 rfl rfl (fun c226 => absurd c226 (fun z => z (nI_add n J).symm)) (fun c226 => ?_)
          refine Z_aload_n 230 13 dL_signs_229 rfl rfl ?_
          refine Z_bipush 232 (nI 7) dL_signs_230 rfl rfl ?_
          refine Z_callV 235 [_] 3 (v_count7 hF hk) dL_signs_232 rfl qL_13 kX3_count rfl rfl (Nat.le_of_ble_eq_true rfl) rfl rfl ⟨(Nat.le_of_ble_eq_true rfl), (Nat.le_of_ble_eq_true rfl)⟩ (Nat.le_of_ble_eq_true rfl) ⟨rfl, rfl⟩ ⟨(Nat.le_of_ble_eq_true rfl), (Nat.le_of_ble_eq_true rfl)⟩ (fun r9 w9 hp9 => ?_)
          obtain ⟨rfl, mm, rfl, hF⟩ := hp9
          refine Z_iload 237 7 dL_signs_235 rfl rfl ?_
          refine Z_iload 239 3 dL_signs_237 rfl rfl ?_
          refine Z_iadd 240 dL_signs_239 rfl ?_
          refine Z_icmp_ne 243 359 dL_signs_240 rfl rfl (fun c240 => absurd c240 (fun z => z hE2)) (fun c240 => ?_)
          refine Z_aload_n 244 13 dL_signs_243 rfl rfl ?_
          refine Z_bipush 246 (nI 8) dL_signs_244 rfl rfl ?_
          refine Z_callV 249 [_] 3 (v_count8 hF hk) dL_signs_246 rfl qL_13 kX3_count rfl rfl (Nat.le_of_ble_eq_true rfl) rfl rfl ⟨(Nat.le_of_ble_eq_true rfl), (Nat.le_of_ble_eq_true rfl)⟩ (Nat.le_of_ble_eq_true rfl) ⟨rfl, rfl⟩ ⟨(Nat.le_of_ble_eq_true rfl), (Nat.le_of_ble_eq_true rfl)⟩ (fun r9 w9 hp9 => ?_)
          obtain ⟨rfl, mm, rfl, hF⟩ := hp9
          refine Z_iload 251 6 dL_signs_249 rfl rfl ?_
          refine Z_iload 253 0 dL_signs_251 rfl rfl ?_
          refine Z_if_le 256 260 dL_signs_253 rfl rfl (fun c253 => absurd c253 (by decide)) (fun c253 => ?_)
          refine Z_iconst 257 (nI 1) dL_signs_256 rfl rfl ?_
          refine Z_goto 261 dL_signs_257 rfl ?_
          refine Z_iadd 262 dL_signs_261 rfl ?_
          refine Z_icmp_ne 265 359 dL_signs_262 rfl rfl (fun c262 => absurd c262 (fun z => z e12)) (fun c262 => ?_)
          refine Z_iload 267 3 dL_signs_265 rfl rfl ?_
          refine Z_iload_n 268 12 dL_signs_267 rfl rfl ?_
          refine Z_icmp_ne 271 275 dL_signs_268 rfl rfl (fun c268 => ?_) (fun c268 => absurd (fun z => absurd (eqN z (by omega) (by omega)) (by omega)) c268)
          refine Z_iconst 276 (nI 0) dL_signs_275 rfl rfl ?_
          refine Z_iload 278 0 dL_signs_276 rfl rfl ?_
          refine Z_bipush 280 (-4) dL_signs_278 rfl rfl ?_
          refine Z_icmp_ne 283 287 dL_signs_280 rfl rfl (fun c280 => ?_) (fun c280 => absurd (by decide) c280)
          refine Z_iconst 288 (nI 0) dL_signs_287 rfl rfl ?_
          refine Z_icmp_ne 291 359 dL_signs_288 rfl rfl (fun c288 => absurd c288 (by decide)) (fun c288 => ?_)
          refine Z_iload 293 0 dL_signs_291 rfl rfl ?_
          refine Z_bipush 295 (-4) dL_signs_293 rfl rfl ?_
          refine Z_icmp_eq 298 355 dL_signs_295 rfl rfl (fun c295 => absurd c295 (by decide)) (fun c295 => ?_)
          refine Z_iload 300 0 dL_signs_298 rfl rfl ?_
          refine Z_iconst 301 (nI 1) dL_signs_300 rfl rfl ?_
          refine Z_icmp_eq 304 323 dL_signs_301 rfl rfl (fun c301 => ?_) (fun c301 => absurd (by decide) c301)
          refine Z_aload_n 324 13 dL_signs_323 rfl rfl ?_
          refine Z_iconst 325 (nI 1) dL_signs_324 rfl rfl ?_
          refine Z_callV 328 [_] 3 (v_why1 hF) dL_signs_325 rfl qL_75 kX3_why rfl rfl (Nat.le_of_ble_eq_true rfl) rfl rfl ⟨(Nat.le_of_ble_eq_true rfl), (Nat.le_of_ble_eq_true rfl)⟩ (Nat.le_of_ble_eq_true rfl) ⟨rfl, rfl⟩ ⟨(Nat.le_of_ble_eq_true rfl), (Nat.le_of_ble_eq_true rfl)⟩ (fun r9 w9 hp9 => ?_)
          obtain ⟨rfl, mm, rfl, hF⟩ := hp9
          refine Z_top (v' := .int (nI J)) (congrArg Value.int ((if_neg (by rw [e7]; decide)).trans e8)) ?_
          refine Z_iload 330 3 dL_signs_328 rfl rfl ?_
          refine Z_icmp_ne 333 359 dL_signs_330 rfl rfl (fun c330 => absurd c330 (fun z => z rfl)) (fun c330 => ?_)
          refine Z_aload_n 334 13 dL_signs_333 rfl rfl ?_
          refine Z_iconst 335 (nI 2) dL_signs_334 rfl rfl ?_
          refine Z_callV 338 [_] 3 (v_why2 hF) dL_signs_335 rfl qL_75 kX3_why rfl rfl (Nat.le_of_ble_eq_true rfl) rfl rfl ⟨(Nat.le_of_ble_eq_true rfl), (Nat.le_of_ble_eq_true rfl)⟩ (Nat.le_of_ble_eq_true rfl) ⟨rfl, rfl⟩ ⟨(Nat.le_of_ble_eq_true rfl), (Nat.le_of_ble_eq_true rfl)⟩ (fun r9 w9 hp9 => ?_)
          obtain ⟨rfl, mm, rfl, hF⟩ := hp9
          refine Z_top (v' := .int (nI (sq (hx (M 69) L) J))) (congrArg Value.int ((if_neg (by rw [e7]; decide)).trans e9)) ?_
          refine Z_iconst 339 (nI 4) dL_signs_338 rfl rfl ?_
          refine Z_iload 341 3 dL_signs_339 rfl rfl ?_
          refine Z_imul 342 dL_signs_341 rfl ?_
          refine Z_icmp_lt 345 359 dL_signs_342 rfl rfl (fun c342 => absurd c342 ((by rw [pk_mul]; exact nI_nlt q4 (by omega)))) (fun c342 => ?_)
          refine Z_aload_n 346 13 dL_signs_345 rfl rfl ?_
          refine Z_iconst 347 (nI 2) dL_signs_346 rfl rfl ?_
          refine Z_callV 350 [_] 3 (v_why2 hF) dL_signs_347 rfl qL_75 kX3_why rfl rfl (Nat.le_of_ble_eq_true rfl) rfl rfl ⟨(Nat.le_of_ble_eq_true rfl), (Nat.le_of_ble_eq_true rfl)⟩ (Nat.le_of_ble_eq_true rfl) ⟨rfl, rfl⟩ ⟨(Nat.le_of_ble_eq_true rfl), (Nat.le_of_ble_eq_true rfl)⟩ (fun r9 w9 hp9 => ?_)
          obtain ⟨rfl, mm, rfl, hF⟩ := hp9
          refine Z_top (v' := .int (nI (sq (hx (M 69) L) J))) (congrArg Value.int ((if_neg (by rw [e7]; decide)).trans e9)) ?_
          refine Z_iload 352 5 dL_signs_350 rfl rfl ?_
          refine Z_icmp_ge 355 359 dL_signs_352 rfl rfl (fun c352 => absurd c352 (nI_ge q2 (by omega))) (fun c352 => ?_)
          refine Z_iconst 356 (nI 1) dL_signs_355 rfl rfl ?_
          refine Z_goto 360 dL_signs_356 rfl ?_
          exact Z_zret dL_signs_360 rfl (by first | exact Or.inl rfl | exact Or.inr rfl | exact bI_01) (by first | exact actOk (hAct.v hF))
      · skip
        refine Z_aload_n 171 12 dL_signs_170 rfl rfl ?_
        refine Z_iconst 172 (nI 0) dL_signs_171 rfl rfl ?_
        refine Z_callV 175 [_] 3 (v_why0 hF) dL_signs_172 rfl qL_75 kX3_why rfl rfl (Nat.le_of_ble_eq_true rfl) rfl rfl ⟨(Nat.le_of_ble_eq_true rfl), (Nat.le_of_ble_eq_true rfl)⟩ (Nat.le_of_ble_eq_true rfl) ⟨rfl, rfl⟩ ⟨(Nat.le_of_ble_eq_true rfl), (Nat.le_of_ble_eq_true rfl)⟩ (fun r9 w9 hp9 => ?_)
        obtain ⟨rfl, mm, rfl, hF⟩ := hp9
        refine Z_top (v' := .int (nI 2)) (congrArg Value.int ((if_neg (by rw [e7]; decide)).trans e7)) ?_
        refine Z_istore 177 [(15, _), (14, _), (13, _), (12, _), (11, _), (10, _), (9, _), (8, _), (7, _), (6, _), (4, _), (3, _), (2, _), (0, _), (1, _)] dL_signs_175 rfl (Nat.le_of_ble_eq_true rfl) rfl ?_
        refine Z_iload 179 1 dL_signs_177 rfl rfl ?_
        refine Z_if_eq 182 359 dL_signs_179 rfl rfl (fun c179 => absurd c179 (by decide)) (fun c179 => ?_)
        refine Z_iload 184 3 dL_signs_182 rfl rfl ?_
        refine Z_iload_n 185 12 dL_signs_184 rfl rfl ?_
        refine Z_icmp_gt 188 359 dL_signs_185 rfl rfl (fun c185 => absurd c185 (nI_nlt (by omega) (by omega))) (fun c185 => ?_)
        refine Z_iload 190 2 dL_signs_188 rfl rfl ?_
        refine Z_if_ne 193 359 dL_signs_190 rfl rfl (fun c190 => absurd c190 (by decide)) (fun c190 => ?_)
        refine Z_aload_n 194 13 dL_signs_193 rfl rfl ?_
        refine Z_bipush 196 (nI 12) dL_signs_194 rfl rfl ?_
        refine Z_callV 199 [_] 3 (v_count12 hF hk) dL_signs_196 rfl qL_13 kX3_count rfl rfl (Nat.le_of_ble_eq_true rfl) rfl rfl ⟨(Nat.le_of_ble_eq_true rfl), (Nat.le_of_ble_eq_true rfl)⟩ (Nat.le_of_ble_eq_true rfl) ⟨rfl, rfl⟩ ⟨(Nat.le_of_ble_eq_true rfl), (Nat.le_of_ble_eq_true rfl)⟩ (fun r9 w9 hp9 => ?_)
        obtain ⟨rfl, mm, rfl, hF⟩ := hp9
        refine Z_iload 201 9 dL_signs_199 rfl rfl ?_
        refine Z_iconst 202 (nI 4) dL_signs_201 rfl rfl ?_
        refine Z_icmp_ge 205 212 dL_signs_202 rfl rfl (fun c202 => ?_) (fun c202 => ?_)
        · skip
          refine Z_iconst 213 (nI 4) dL_signs_212 rfl rfl ?_
          refine Z_icmp_ne 216 359 dL_signs_213 rfl rfl (fun c213 => absurd c213 ((by first | exact fun z => z (by rw [hA.1.st, sN_ge (fun y => absurd ((nI_leI (by omega) (by omega)).mp c202) (by omega))]) | exact fun z => z (by rw [hA.1.st, sN_lt (Nat.lt_of_not_le (fun y => c202 (nI_le y (by omega))))]; exact (nI_add s 1).symm)))) (fun c213 => ?_)
          refine Z_aload_n 217 13 dL_signs_216 rfl rfl ?_
          refine Z_iconst 218 (nI 1) dL_signs_217 rfl rfl ?_
          refine Z_callV 221 [_] 3 (v_count1 hF hk) dL_signs_218 rfl qL_13 kX3_count rfl rfl (Nat.le_of_ble_eq_true rfl) rfl rfl ⟨(Nat.le_of_ble_eq_true rfl), (Nat.le_of_ble_eq_true rfl)⟩ (Nat.le_of_ble_eq_true rfl) ⟨rfl, rfl⟩ ⟨(Nat.le_of_ble_eq_true rfl), (Nat.le_of_ble_eq_true rfl)⟩ (fun r9 w9 hp9 => ?_)
          obtain ⟨rfl, mm, rfl, hF⟩ := hp9
          refine Z_iload 223 8 dL_signs_221 rfl rfl ?_
          refine Z_iload 225 3 dL_signs_223 rfl rfl ?_
          refine Z_iadd 226 dL_signs_225 rfl ?_
          refine Z_icmp_ne 229 359 dL_signs_226 rfl rfl (fun c226 => absurd c226 (fun z => z (nI_add n J).symm)) (fun c226 => ?_)
          refine Z_aload_n 230 13 dL_signs_229 rfl rfl ?_
          refine Z_bipush 232 (nI 7) dL_signs_230 rfl rfl ?_
          refine Z_callV 235 [_] 3 (v_count7 hF hk) dL_signs_232 rfl qL_13 kX3_count rfl rfl (Nat.le_of_ble_eq_true rfl) rfl rfl ⟨(Nat.le_of_ble_eq_true rfl), (Nat.le_of_ble_eq_true rfl)⟩ (Nat.le_of_ble_eq_true rfl) ⟨rfl, rfl⟩ ⟨(Nat.le_of_ble_eq_true rfl), (Nat.le_of_ble_eq_true rfl)⟩ (fun r9 w9 hp9 => ?_)
          obtain ⟨rfl, mm, rfl, hF⟩ := hp9
          refine Z_iload 237 7 dL_signs_235 rfl rfl ?_
          refine Z_iload 239 3 dL_signs_237 rfl rfl ?_
          refine Z_iadd 240 dL_signs_239 rfl ?_
          refine Z_icmp_ne 243 359 dL_signs_240 rfl rfl (fun c240 => absurd c240 (fun z => z hE2)) (fun c240 => ?_)
          refine Z_aload_n 244 13 dL_signs_243 rfl rfl ?_
          refine Z_bipush 246 (nI 8) dL_signs_244 rfl rfl ?_
          refine Z_callV 249 [_] 3 (v_count8 hF hk) dL_signs_246 rfl qL_13 kX3_count rfl rfl (Nat.le_of_ble_eq_true rfl) rfl rfl ⟨(Nat.le_of_ble_eq_true rfl), (Nat.le_of_ble_eq_true rfl)⟩ (Nat.le_of_ble_eq_true rfl) ⟨rfl, rfl⟩ ⟨(Nat.le_of_ble_eq_true rfl), (Nat.le_of_ble_eq_true rfl)⟩ (fun r9 w9 hp9 => ?_)
          obtain ⟨rfl, mm, rfl, hF⟩ := hp9
          refine Z_iload 251 6 dL_signs_249 rfl rfl ?_
          refine Z_iload 253 0 dL_signs_251 rfl rfl ?_
          refine Z_if_le 256 260 dL_signs_253 rfl rfl (fun c253 => absurd c253 (by decide)) (fun c253 => ?_)
          refine Z_iconst 257 (nI 1) dL_signs_256 rfl rfl ?_
          refine Z_goto 261 dL_signs_257 rfl ?_
          refine Z_iadd 262 dL_signs_261 rfl ?_
          refine Z_icmp_ne 265 359 dL_signs_262 rfl rfl (fun c262 => absurd c262 (fun z => z e12)) (fun c262 => ?_)
          refine Z_iload 267 3 dL_signs_265 rfl rfl ?_
          refine Z_iload_n 268 12 dL_signs_267 rfl rfl ?_
          refine Z_icmp_ne 271 275 dL_signs_268 rfl rfl (fun c268 => ?_) (fun c268 => absurd (fun z => absurd (eqN z (by omega) (by omega)) (by omega)) c268)
          refine Z_iconst 276 (nI 0) dL_signs_275 rfl rfl ?_
          refine Z_iload 278 0 dL_signs_276 rfl rfl ?_
          refine Z_bipush 280 (-4) dL_signs_278 rfl rfl ?_
          refine Z_icmp_ne 283 287 dL_signs_280 rfl rfl (fun c280 => ?_) (fun c280 => absurd (by decide) c280)
          refine Z_iconst 288 (nI 0) dL_signs_287 rfl rfl ?_
          refine Z_icmp_ne 291 359 dL_signs_288 rfl rfl (fun c288 => absurd c288 (by decide)) (fun c288 => ?_)
          refine Z_iload 293 0 dL_signs_291 rfl rfl ?_
          refine Z_bipush 295 (-4) dL_signs_293 rfl rfl ?_
          refine Z_icmp_eq 298 355 dL_signs_295 rfl rfl (fun c295 => absurd c295 (by decide)) (fun c295 => ?_)
          refine Z_iload 300 0 dL_signs_298 rfl rfl ?_
          refine Z_iconst 301 (nI 1) dL_signs_300 rfl rfl ?_
          refine Z_icmp_eq 304 323 dL_signs_301 rfl rfl (fun c301 => absurd c301 (by decide)) (fun c301 => ?_)
          refine Z_iload 306 0 dL_signs_304 rfl rfl ?_
          refine Z_iconst 307 (nI 2) dL_signs_306 rfl rfl ?_
          refine Z_icmp_eq 310 323 dL_signs_307 rfl rfl (fun c307 => ?_) (fun c307 => absurd (by decide) c307)
          refine Z_aload_n 324 13 dL_signs_323 rfl rfl ?_
          refine Z_iconst 325 (nI 1) dL_signs_324 rfl rfl ?_
          refine Z_callV 328 [_] 3 (v_why1 hF) dL_signs_325 rfl qL_75 kX3_why rfl rfl (Nat.le_of_ble_eq_true rfl) rfl rfl ⟨(Nat.le_of_ble_eq_true rfl), (Nat.le_of_ble_eq_true rfl)⟩ (Nat.le_of_ble_eq_true rfl) ⟨rfl, rfl⟩ ⟨(Nat.le_of_ble_eq_true rfl), (Nat.le_of_ble_eq_true rfl)⟩ (fun r9 w9 hp9 => ?_)
          obtain ⟨rfl, mm, rfl, hF⟩ := hp9
          refine Z_top (v' := .int (nI J)) (congrArg Value.int ((if_neg (by rw [e7]; decide)).trans e8)) ?_
          refine Z_iload 330 3 dL_signs_328 rfl rfl ?_
          refine Z_icmp_ne 333 359 dL_signs_330 rfl rfl (fun c330 => absurd c330 (fun z => z rfl)) (fun c330 => ?_)
          refine Z_aload_n 334 13 dL_signs_333 rfl rfl ?_
          refine Z_iconst 335 (nI 2) dL_signs_334 rfl rfl ?_
          refine Z_callV 338 [_] 3 (v_why2 hF) dL_signs_335 rfl qL_75 kX3_why rfl rfl (Nat.le_of_ble_eq_true rfl) rfl rfl ⟨(Nat.le_of_ble_eq_true rfl), (Nat.le_of_ble_eq_true rfl)⟩ (Nat.le_of_ble_eq_true rfl) ⟨rfl, rfl⟩ ⟨(Nat.le_of_ble_eq_true rfl), (Nat.le_of_ble_eq_true rfl)⟩ (fun r9 w9 hp9 => ?_)
          obtain ⟨rfl, mm, rfl, hF⟩ := hp9
          refine Z_top (v' := .int (nI (sq (hx (M 69) L) J))) (congrArg Value.int ((if_neg (by rw [e7]; decide)).trans e9)) ?_
          refine Z_iconst 339 (nI 4) dL_signs_338 rfl rfl ?_
          refine Z_iload 341 3 dL_signs_339 rfl rfl ?_
          refine Z_imul 342 dL_signs_341 rfl ?_
          refine Z_icmp_lt 345 359 dL_signs_342 rfl rfl (fun c342 => absurd c342 ((by rw [pk_mul]; exact nI_nlt q4 (by omega)))) (fun c342 => ?_)
          refine Z_aload_n 346 13 dL_signs_345 rfl rfl ?_
          refine Z_iconst 347 (nI 2) dL_signs_346 rfl rfl ?_
          refine Z_callV 350 [_] 3 (v_why2 hF) dL_signs_347 rfl qL_75 kX3_why rfl rfl (Nat.le_of_ble_eq_true rfl) rfl rfl ⟨(Nat.le_of_ble_eq_true rfl), (Nat.le_of_ble_eq_true rfl)⟩ (Nat.le_of_ble_eq_true rfl) ⟨rfl, rfl⟩ ⟨(Nat.le_of_ble_eq_true rfl), (Nat.le_of_ble_eq_true rfl)⟩ (fun r9 w9 hp9 => ?_)
          obtain ⟨rfl, mm, rfl, hF⟩ := hp9
          refine Z_top (v' := .int (nI (sq (hx (M 69) L) J))) (congrArg Value.int ((if_neg (by rw [e7]; decide)).trans e9)) ?_
          refine Z_iload 352 5 dL_signs_350 rfl rfl ?_
          refine Z_icmp_ge 355 359 dL_signs_352 rfl rfl (fun c352 => absurd c352 (nI_ge q2 (by omega))) (fun c352 => ?_)
          refine Z_iconst 356 (nI 1) dL_signs_355 rfl rfl ?_
          refine Z_goto 360 dL_signs_356 rfl ?_
          exact Z_zret dL_signs_360 rfl (by first | exact Or.inl rfl | exact Or.inr rfl | exact bI_01) (by first | exact actOk (hAct.v hF))
        · skip
          refine Z_iload 207 9 dL_signs_205 rfl rfl ?_
          refine Z_iconst 208 (nI 1) dL_signs_207 rfl rfl ?_
          refine Z_iadd 209 dL_signs_208 rfl ?_
          refine Z_goto 213 dL_signs_209 rfl ?_
          refine Z_icmp_ne 216 359 dL_signs_213 rfl rfl (fun c213 => absurd c213 ((by first | exact fun z => z (by rw [hA.1.st, sN_ge (fun y => absurd ((nI_leI (by omega) (by omega)).mp c202) (by omega))]) | exact fun z => z (by rw [hA.1.st, sN_lt (Nat.lt_of_not_le (fun y => c202 (nI_le y (by omega))))]; exact (nI_add s 1).symm)))) (fun c213 => ?_)
          refine Z_aload_n 217 13 dL_signs_216 rfl rfl ?_
          refine Z_iconst 218 (nI 1) dL_signs_217 rfl rfl ?_
          refine Z_callV 221 [_] 3 (v_count1 hF hk) dL_signs_218 rfl qL_13 kX3_count rfl rfl (Nat.le_of_ble_eq_true rfl) rfl rfl ⟨(Nat.le_of_ble_eq_true rfl), (Nat.le_of_ble_eq_true rfl)⟩ (Nat.le_of_ble_eq_true rfl) ⟨rfl, rfl⟩ ⟨(Nat.le_of_ble_eq_true rfl), (Nat.le_of_ble_eq_true rfl)⟩ (fun r9 w9 hp9 => ?_)
          obtain ⟨rfl, mm, rfl, hF⟩ := hp9
          refine Z_iload 223 8 dL_signs_221 rfl rfl ?_
          refine Z_iload 225 3 dL_signs_223 rfl rfl ?_
          refine Z_iadd 226 dL_signs_225 rfl ?_
          refine Z_icmp_ne 229 359 dL_signs_226 rfl rfl (fun c226 => absurd c226 (fun z => z (nI_add n J).symm)) (fun c226 => ?_)
          refine Z_aload_n 230 13 dL_signs_229 rfl rfl ?_
          refine Z_bipush 232 (nI 7) dL_signs_230 rfl rfl ?_
          refine Z_callV 235 [_] 3 (v_count7 hF hk) dL_signs_232 rfl qL_13 kX3_count rfl rfl (Nat.le_of_ble_eq_true rfl) rfl rfl ⟨(Nat.le_of_ble_eq_true rfl), (Nat.le_of_ble_eq_true rfl)⟩ (Nat.le_of_ble_eq_true rfl) ⟨rfl, rfl⟩ ⟨(Nat.le_of_ble_eq_true rfl), (Nat.le_of_ble_eq_true rfl)⟩ (fun r9 w9 hp9 => ?_)
          obtain ⟨rfl, mm, rfl, hF⟩ := hp9
          refine Z_iload 237 7 dL_signs_235 rfl rfl ?_
          refine Z_iload 239 3 dL_signs_237 rfl rfl ?_
          refine Z_iadd 240 dL_signs_239 rfl ?_
          refine Z_icmp_ne 243 359 dL_signs_240 rfl rfl (fun c240 => absurd c240 (fun z => z hE2)) (fun c240 => ?_)
          refine Z_aload_n 244 13 dL_signs_243 rfl rfl ?_
          refine Z_bipush 246 (nI 8) dL_signs_244 rfl rfl ?_
          refine Z_callV 249 [_] 3 (v_count8 hF hk) dL_signs_246 rfl qL_13 kX3_count rfl rfl (Nat.le_of_ble_eq_true rfl) rfl rfl ⟨(Nat.le_of_ble_eq_true rfl), (Nat.le_of_ble_eq_true rfl)⟩ (Nat.le_of_ble_eq_true rfl) ⟨rfl, rfl⟩ ⟨(Nat.le_of_ble_eq_true rfl), (Nat.le_of_ble_eq_true rfl)⟩ (fun r9 w9 hp9 => ?_)
          obtain ⟨rfl, mm, rfl, hF⟩ := hp9
          refine Z_iload 251 6 dL_signs_249 rfl rfl ?_
          refine Z_iload 253 0 dL_signs_251 rfl rfl ?_
          refine Z_if_le 256 260 dL_signs_253 rfl rfl (fun c253 => absurd c253 (by decide)) (fun c253 => ?_)
          refine Z_iconst 257 (nI 1) dL_signs_256 rfl rfl ?_
          refine Z_goto 261 dL_signs_257 rfl ?_
          refine Z_iadd 262 dL_signs_261 rfl ?_
          refine Z_icmp_ne 265 359 dL_signs_262 rfl rfl (fun c262 => absurd c262 (fun z => z e12)) (fun c262 => ?_)
          refine Z_iload 267 3 dL_signs_265 rfl rfl ?_
          refine Z_iload_n 268 12 dL_signs_267 rfl rfl ?_
          refine Z_icmp_ne 271 275 dL_signs_268 rfl rfl (fun c268 => ?_) (fun c268 => absurd (fun z => absurd (eqN z (by omega) (by omega)) (by omega)) c268)
          refine Z_iconst 276 (nI 0) dL_signs_275 rfl rfl ?_
          refine Z_iload 278 0 dL_signs_276 rfl rfl ?_
          refine Z_bipush 280 (-4) dL_signs_278 rfl rfl ?_
          refine Z_icmp_ne 283 287 dL_signs_280 rfl rfl (fun c280 => ?_) (fun c280 => absurd (by decide) c280)
          refine Z_iconst 288 (nI 0) dL_signs_287 rfl rfl ?_
          refine Z_icmp_ne 291 359 dL_signs_288 rfl rfl (fun c288 => absurd c288 (by decide)) (fun c288 => ?_)
          refine Z_iload 293 0 dL_signs_291 rfl rfl ?_
          refine Z_bipush 295 (-4) dL_signs_293 rfl rfl ?_
          refine Z_icmp_eq 298 355 dL_signs_295 rfl rfl (fun c295 => absurd c295 (by decide)) (fun c295 => ?_)
          refine Z_iload 300 0 dL_signs_298 rfl rfl ?_
          refine Z_iconst 301 (nI 1) dL_signs_300 rfl rfl ?_
          refine Z_icmp_eq 304 323 dL_signs_301 rfl rfl (fun c301 => absurd c301 (by decide)) (fun c301 => ?_)
          refine Z_iload 306 0 dL_signs_304 rfl rfl ?_
          refine Z_iconst 307 (nI 2) dL_signs_306 rfl rfl ?_
          refine Z_icmp_eq 310 323 dL_signs_307 rfl rfl (fun c307 => ?_) (fun c307 => absurd (by decide) c307)
          refine Z_aload_n 324 13 dL_signs_323 rfl rfl ?_
          refine Z_iconst 325 (nI 1) dL_signs_324 rfl rfl ?_
          refine Z_callV 328 [_] 3 (v_why1 hF) dL_signs_325 rfl qL_75 kX3_why rfl rfl (Nat.le_of_ble_eq_true rfl) rfl rfl ⟨(Nat.le_of_ble_eq_true rfl), (Nat.le_of_ble_eq_true rfl)⟩ (Nat.le_of_ble_eq_true rfl) ⟨rfl, rfl⟩ ⟨(Nat.le_of_ble_eq_true rfl), (Nat.le_of_ble_eq_true rfl)⟩ (fun r9 w9 hp9 => ?_)
          obtain ⟨rfl, mm, rfl, hF⟩ := hp9
          refine Z_top (v' := .int (nI J)) (congrArg Value.int ((if_neg (by rw [e7]; decide)).trans e8)) ?_
          refine Z_iload 330 3 dL_signs_328 rfl rfl ?_
          refine Z_icmp_ne 333 359 dL_signs_330 rfl rfl (fun c330 => absurd c330 (fun z => z rfl)) (fun c330 => ?_)
          refine Z_aload_n 334 13 dL_signs_333 rfl rfl ?_
          refine Z_iconst 335 (nI 2) dL_signs_334 rfl rfl ?_
          refine Z_callV 338 [_] 3 (v_why2 hF) dL_signs_335 rfl qL_75 kX3_why rfl rfl (Nat.le_of_ble_eq_true rfl) rfl rfl ⟨(Nat.le_of_ble_eq_true rfl), (Nat.le_of_ble_eq_true rfl)⟩ (Nat.le_of_ble_eq_true rfl) ⟨rfl, rfl⟩ ⟨(Nat.le_of_ble_eq_true rfl), (Nat.le_of_ble_eq_true rfl)⟩ (fun r9 w9 hp9 => ?_)
          obtain ⟨rfl, mm, rfl, hF⟩ := hp9
          refine Z_top (v' := .int (nI (sq (hx (M 69) L) J))) (congrArg Value.int ((if_neg (by rw [e7]; decide)).trans e9)) ?_
          refine Z_iconst 339 (nI 4) dL_signs_338 rfl rfl ?_
          refine Z_iload 341 3 dL_signs_339 rfl rfl ?_
          refine Z_imul 342 dL_signs_341 rfl ?_
          refine Z_icmp_lt 345 359 dL_signs_342 rfl rfl (fun c342 => absurd c342 ((by rw [pk_mul]; exact nI_nlt q4 (by omega)))) (fun c342 => ?_)
          refine Z_aload_n 346 13 dL_signs_345 rfl rfl ?_
          refine Z_iconst 347 (nI 2) dL_signs_346 rfl rfl ?_
          refine Z_callV 350 [_] 3 (v_why2 hF) dL_signs_347 rfl qL_75 kX3_why rfl rfl (Nat.le_of_ble_eq_true rfl) rfl rfl ⟨(Nat.le_of_ble_eq_true rfl), (Nat.le_of_ble_eq_true rfl)⟩ (Nat.le_of_ble_eq_true rfl) ⟨rfl, rfl⟩ ⟨(Nat.le_of_ble_eq_true rfl), (Nat.le_of_ble_eq_true rfl)⟩ (fun r9 w9 hp9 => ?_)
          obtain ⟨rfl, mm, rfl, hF⟩ := hp9
          refine Z_top (v' := .int (nI (sq (hx (M 69) L) J))) (congrArg Value.int ((if_neg (by rw [e7]; decide)).trans e9)) ?_
          refine Z_iload 352 5 dL_signs_350 rfl rfl ?_
          refine Z_icmp_ge 355 359 dL_signs_352 rfl rfl (fun c352 => absurd c352 (nI_ge q2 (by omega))) (fun c352 => ?_)
          refine Z_iconst 356 (nI 1) dL_signs_355 rfl rfl ?_
          refine Z_goto 360 dL_signs_356 rfl ?_
          exact Z_zret dL_signs_360 rfl (by first | exact Or.inl rfl | exact Or.inr rfl | exact bI_01) (by first | exact actOk (hAct.v hF))

