/-! longs, shifts, remainders; a callee that reads the script -/
section ZL
variable {G : zG} {M : zD} {E : State → Prop} {Qf : List Frame → Array Value → State → State → Prop} {l : Launch} {k j : Nat} {w : zW} {pc : Nat} {lv : List (Nat × Value)} {st : List Value}
theorem Z_ldc2 (pc' : Nat) {idx : Nat} (v : Int64) (hd : decode M.2.1 pc = .ok (.ldc2_w idx, 3)) (hp : pc + 3 = pc') (hk : Cond.constantLong M.1 idx v ∈ lw_ok) (kk : Z G M E Qf l k j w pc' lv (.long v :: st)) : Z G M E Qf l k j w pc lv st := by
  subst hp
  intro p e s m args below meth c H locs ls hc hE hb hH hS hl
  exact lv_ldc2 hc.1 hc.2.1 hc.2.2.2.1 (hc.2.2.2.2.1 _ hk) hd (kk p e s m args below meth c H locs ls hc hE hb hH hS hl)
theorem Z_lload (pc' : Nat) (q : Nat) {i : Nat} {x : Int64} (hd : decode M.2.1 pc = .ok (.lload i, 2)) (hp : pc + 2 = pc') (hq : lv[q]? = some (i, .long x)) (kk : Z G M E Qf l k j w pc' lv (.long x :: st)) : Z G M E Qf l k j w pc lv st := by
  subst hp
  intro p e s m args below meth c H locs ls hc hE hb hH hS hl
  exact lv_lload hc.1 hc.2.1 hd (lv_at hl q hq) (kk p e s m args below meth c H locs ls hc hE hb hH hS hl)
theorem Z_lload_n (pc' : Nat) (q : Nat) {i : Fin 4} {x : Int64} (hd : decode M.2.1 pc = .ok (.lload_n i, 1)) (hp : pc + 1 = pc') (hq : lv[q]? = some ((i : Nat), .long x)) (kk : Z G M E Qf l k j w pc' lv (.long x :: st)) : Z G M E Qf l k j w pc lv st := by
  subst hp
  intro p e s m args below meth c H locs ls hc hE hb hH hS hl
  exact lv_lload_n hc.1 hc.2.1 hd rfl (lv_at hl q hq) (kk p e s m args below meth c H locs ls hc hE hb hH hS hl)
theorem Z_lstore (pc' : Nat) (lv' : List (Nat × Value)) {i : Nat} {x : Int64} (hd : decode M.2.1 pc = .ok (.lstore i, 2)) (hp : pc + 2 = pc') (hn : i + 1 < M.2.2.1) (h' : (i, Value.long x) :: lv.filter (fun q => !(q.1 == i) && (!(q.1 == i + 1) && !(q.1 + 1 == i && q.2.category == 2))) = lv') (kk : Z G M E Qf l k j w pc' lv' st) : Z G M E Qf l k j w pc lv (.long x :: st) := by
  subst hp
  intro p e s m args below meth c H locs ls hc hE hb hH hS hl
  exact lv_lstore hc.1 hc.2.1 hd hl hn h' (fun ls' hl' => kk p e s m args below meth c H locs ls' hc hE hb hH hS hl')
theorem Z_lstore_n (pc' : Nat) (lv' : List (Nat × Value)) {i : Fin 4} {x : Int64} (hd : decode M.2.1 pc = .ok (.lstore_n i, 1)) (hp : pc + 1 = pc') (hn : (i : Nat) + 1 < M.2.2.1) (h' : ((i : Nat), Value.long x) :: lv.filter (fun q => !(q.1 == (i : Nat)) && (!(q.1 == (i : Nat) + 1) && !(q.1 + 1 == (i : Nat) && q.2.category == 2))) = lv') (kk : Z G M E Qf l k j w pc' lv' st) : Z G M E Qf l k j w pc lv (.long x :: st) := by
  subst hp
  intro p e s m args below meth c H locs ls hc hE hb hH hS hl
  exact lv_lstore_n hc.1 hc.2.1 hd rfl hl hn h' (fun ls' hl' => kk p e s m args below meth c H locs ls' hc hE hb hH hS hl')
theorem Z_ladd (pc' : Nat) {x y : Int64} (hd : decode M.2.1 pc = .ok (.ladd, 1)) (hp : pc + 1 = pc') (kk : Z G M E Qf l k j w pc' lv (.long (x + y) :: st)) : Z G M E Qf l k j w pc lv (.long y :: .long x :: st) := by
  subst hp
  intro p e s m args below meth c H locs ls hc hE hb hH hS hl
  exact lv_ladd hc.1 hc.2.1 hd (kk p e s m args below meth c H locs ls hc hE hb hH hS hl)
theorem Z_lmul (pc' : Nat) {x y : Int64} (hd : decode M.2.1 pc = .ok (.lmul, 1)) (hp : pc + 1 = pc') (kk : Z G M E Qf l k j w pc' lv (.long (x * y) :: st)) : Z G M E Qf l k j w pc lv (.long y :: .long x :: st) := by
  subst hp
  intro p e s m args below meth c H locs ls hc hE hb hH hS hl
  exact lv_lmul hc.1 hc.2.1 hd (kk p e s m args below meth c H locs ls hc hE hb hH hS hl)
theorem Z_i2l (pc' : Nat) {x : Int32} (hd : decode M.2.1 pc = .ok (.i2l, 1)) (hp : pc + 1 = pc') (kk : Z G M E Qf l k j w pc' lv (.long x.toInt64 :: st)) : Z G M E Qf l k j w pc lv (.int x :: st) := by
  subst hp
  intro p e s m args below meth c H locs ls hc hE hb hH hS hl
  exact lv_i2l hc.1 hc.2.1 hd rfl (kk p e s m args below meth c H locs ls hc hE hb hH hS hl)
theorem Z_ishr (pc' : Nat) {x y : Int32} (hd : decode M.2.1 pc = .ok (.ishr, 1)) (hp : pc + 1 = pc') (kk : Z G M E Qf l k j w pc' lv (.int (x >>> (y &&& 31)) :: st)) : Z G M E Qf l k j w pc lv (.int y :: .int x :: st) := by
  subst hp
  intro p e s m args below meth c H locs ls hc hE hb hH hS hl
  exact lv_ishr hc.1 hc.2.1 hd (kk p e s m args below meth c H locs ls hc hE hb hH hS hl)
theorem Z_irem (pc' : Nat) {x y : Int32} (hd : decode M.2.1 pc = .ok (.irem, 1)) (hp : pc + 1 = pc') (hne : ¬ y = 0) (kk : Z G M E Qf l k j w pc' lv (.int (x - x / y * y) :: st)) : Z G M E Qf l k j w pc lv (.int y :: .int x :: st) := by
  subst hp
  intro p e s m args below meth c H locs ls hc hE hb hH hS hl
  exact lv_irem hc.1 hc.2.1 hd hne (kk p e s m args below meth c H locs ls hc hE hb hH hS hl)
theorem Z_remN (pc' : Nat) {a d : Nat} (hd : decode M.2.1 pc = .ok (.irem, 1)) (hp : pc + 1 = pc') (ha : a < 2 ^ 31) (h0 : 0 < d) (hd2 : d < 2 ^ 31) (kk : Z G M E Qf l k j w pc' lv (.int (nI (a % d)) :: st)) : Z G M E Qf l k j w pc lv (.int (nI d) :: .int (nI a) :: st) := by
  refine Z_irem pc' hd hp (nI_ne0 h0 hd2) ?_
  rw [pk_rem ha h0 hd2]
  exact kk
theorem Z_lcmp (pc' : Nat) {x y : Int64} (hd : decode M.2.1 pc = .ok (.lcmp, 1)) (hp : pc + 1 = pc') (kk : Z G M E Qf l k j w pc' lv (.int (lg_cmp x y) :: st)) : Z G M E Qf l k j w pc lv (.long y :: .long x :: st) := by
  subst hp
  intro p e s m args below meth c H locs ls hc hE hb hH hS hl
  exact W.lcmp hc.1 hc.2.1 hd (kk p e s m args below meth c H locs ls hc hE hb hH hS hl)
/-- two longs that are one -/
theorem Z_lcmpE (pc' : Nat) {x y : Int64} (hd : decode M.2.1 pc = .ok (.lcmp, 1)) (hp : pc + 1 = pc') (he : x = y) (kk : Z G M E Qf l k j w pc' lv (.int 0 :: st)) : Z G M E Qf l k j w pc lv (.long y :: .long x :: st) := by
  subst he
  refine Z_lcmp pc' hd hp ?_
  rw [(lg_cmp_eq x x).mpr rfl]
  exact kk
theorem Z_lret {P : Option Value → zW → Prop} {v : Int64} (hd : decode M.2.1 pc = .ok (.lreturn, 1)) (hr : M.2.2.2.1 = some .long) (hP : P (some (.long v)) w) : Z G M E (zN G P k j) l k j w pc lv [.long v] := by
  intro p e s m args below meth c H locs ls hc hE hb hH hS hl
  exact W.lret hc.1 hc.2.1 (hc.2.2.2.2.2.1.trans hr) (fun t ht hW => ⟨⟨_, w, rfl, hP, by rw [ht]; exact hH.moved hW.alike⟩, hS.F ht⟩) hS.2.2 hd hc.2.2.2.2.2.2.1
/-- the script of L ints xs at the cell b, below the world -/
def zSc (G : zG) (b L : Nat) (xs : Nat → Int32) (U : State) : Prop := va_X b L xs U U.heap ∧ b < U.heap.size ∧ b < G.1
def zMetS (G : zG) (b L : Nat) (xs : Nat → Int32) (l : Launch) (y : MethodName) (M : zD) (as : List Value) (w : zW) (P : Option Value → zW → Prop) (mc ms : Nat) : Prop :=
  Met l y (Cond.code y M.2.1 M.2.2.1 M.2.2.2.1 :: lw_ok) M.2.2.2.2.2 (va_Pc as (fun U => (zH G w U U.heap ∧ zX U) ∧ zSc G b L xs U)) (zQ G P) mc ms (fun q => G.1 ≤ q)
theorem zMetS_of {y : MethodName} {b L : Nat} {xs : Nat → Int32} {as : List Value} {P : Option Value → zW → Prop} {mc ms : Nat} (lv : List (Nat × Value)) (hy : plainName y.cls = true) (ho : y.cls = M.1) (hn : M.2.2.2.2.1 = "" ∨ y.name = M.2.2.2.2.1) (hlen : (lg_sl as).length ≤ M.2.2.1) (hlv : lv_args 0 as = lv)
    (kk : Z G M (zSc G b L xs) (zN G P mc ms) l 0 0 w 0 lv []) : zMetS G b L xs l y M as w P mc ms := by
  refine Met.ofW (cc := M.2.1) (maxL := M.2.2.1) (ret := M.2.2.2.1) hy rfl ?_
  intro p e s m args below meth c s₁ B hml hv
  obtain ⟨rfl, ⟨hH, hX⟩, hSc⟩ := hv
  have hts := atoms_spec (ws := Cond.code y M.2.1 M.2.2.1 M.2.2.2.1 :: lw_ok) B.pre
  rw [lg_entry_eq]
  refine kk p e s m _ below meth c s.heap [] _ ⟨B.exec, B.bytes, hml, by rw [← ho]; exact findClass_of_methodNamed B.named, fun w hw => hts w (List.mem_cons_of_mem _ hw), B.returns, B.notSynchronized, ?_, hX⟩ hSc (by rw [hH.2.2]; exact Nat.le_add_right _ _) hH va_S.rf (by rw [← hlv]; exact lv_entry as hlen)
  rcases hn with h | h
  · exact Or.inl h
  · right
    rw [← h]
    exact (name_of_methodNamed B.named B.method).1
theorem Z_callSS (pc' : Nat) {b L : Nat} {xs : Nat → Int32} (hE9 : ∀ s, E s → zSc G b L xs s) {idx n : Nat} {y : MethodName} {M2 : zD} (As : List Value) {st0 : List Value} {P : Option Value → zW → Prop} {mc ms : Nat} (hM : zMetS G b L xs l y M2 As w P mc ms) (hd : decode M.2.1 pc = .ok (.invokestatic idx, 3)) (hp : pc + 3 = pc') (hq : zY M.1 idx y M2 n) (hq2 : Cond.static y ∈ lw_ok) (hst : st0 = As.reverse ++ st) (hn : As.length = n) (hroom : M2.2.2.2.2.2.frames + 1 ≤ M.2.2.2.2.2.frames ∧ 8 + (M2.2.2.1 + 11) + M2.2.2.2.2.2.locals ≤ M.2.2.2.2.2.locals) (hcat : (st.map fun v => v.category).sum ≤ 8) (hrc : M2.2.2.2.2.2.cells = mc ∧ M2.2.2.2.2.2.slots = ms) (hf : k + mc ≤ M.2.2.2.2.2.cells ∧ j + ms ≤ M.2.2.2.2.2.slots) (kk : ∀ (r : Option Value) (w' : zW), P r w' → Z G M E Qf l (k + mc) (j + ms) w' pc' lv (r.toList ++ st)) : Z G M E Qf l k j w pc lv st0 := by
  subst hp
  intro p e s m args below meth c H locs ls hc hE hb hH hS hl
  have hts := hc.2.2.2.2.1
  obtain ⟨x1, x2, x3⟩ := hE9 s hE
  exact zCore hc hE hb hH hS hl (va_runS (As := As) (rest := st) (n := n) ⟨hc.1, hc.2.1, hc.2.2.1, hc.2.2.2.1, hts⟩ hM ⟨callB_of n hts (zgood hq.2.2.1) rfl hrc.1 hrc.2 (hts _ hq.2.1) (hts _ hq.1) hq.2.2.2 hroom, hts _ hq2⟩ ⟨fun a U g mk q => ⟨q.1, ⟨q.2.1.1.moved (u := U) (U := U.calling g mk a) (Vm.Alike.refl U.vm), q.2.1.2.same (U := U.calling g mk a) rfl⟩, ⟨va_X.moved (u := U) (U := U.calling g mk a) (Vm.Alike.refl U.vm) q.2.2.1, q.2.2.2.1, q.2.2.2.2⟩⟩, fun U hU hW => ⟨rfl, ⟨by show zH G w U U.heap; rw [hU]; exact hH.moved hW.alike, hc.2.2.2.2.2.2.2.2.warm hW⟩, ⟨by rw [hU]; exact (va_X.moved hW.alike x1).kept (hS.2.1 b x2 (Nat.not_le.mpr x3)), by rw [hU]; exact Nat.lt_of_lt_of_le x2 hS.1, x3⟩⟩⟩ rfl hn hl.1 hst (lv_room hcat) hd hf) kk
end ZL
theorem kJ_9 : Cond.constantLong RL 9 487 ∈ lw_ok := lw_in 282 (by decide +kernel) (by decide +kernel)
theorem kJ_11 : Cond.constantLong RL 11 31 ∈ lw_ok := lw_in 283 (by decide +kernel) (by decide +kernel)
set_option maxRecDepth 100000 in
set_option maxHeartbeats 4000000 in
theorem zL_low {G : zG} {l : Launch} {w : zW} (v : Int32) (d : Nat) (hd : 0 < d ∧ d < 1000) : zMet G l yL_low mL_low [.int v, .int (nI d)] w (fun r w' => (∃ q, q < d ∧ r = some (.int (nI q))) ∧ w' = w) 0 0 := by
  refine zMet_of [(0, .int v), (1, .int (nI d))] (by decide +kernel) rfl (Or.inl rfl) (Nat.le_of_ble_eq_true rfl) rfl ?_
  refine Z_iload_n 1 0 dL_low_0 rfl rfl ?_
  refine Z_ldc 3 2147483647 dL_low_1 rfl kL_8 ?_
  refine Z_iand 4 dL_low_3 rfl ?_
  obtain ⟨q, hq, e⟩ := pk_andE v (m := 2147483647) 31 rfl
  rw [e]
  refine Z_iload_n 5 1 dL_low_4 rfl rfl ?_
  refine Z_remN 6 dL_low_5 rfl hq hd.1 (by omega) ?_
  exact Z_iret dL_low_6 rfl ⟨⟨_, Nat.mod_lt _ hd.1, rfl⟩, rfl⟩
set_option maxRecDepth 100000 in
set_option maxHeartbeats 4000000 in
theorem zL_lot {G : zG} {l : Launch} {w : zW} {b L : Nat} {xs : Nat → Int32} (k : Nat) (hk : k < 1000) (hL : L ≤ 260) : zMetS G b L xs l yL_lot mL_lot [.ref b, .int (nI k)] w (fun r w' => (∃ v, r = some (.int v)) ∧ w' = w) 0 0 := by
  refine zMetS_of [(0, .ref b), (1, .int (nI k))] (by decide +kernel) rfl (Or.inl rfl) (Nat.le_of_ble_eq_true rfl) rfl ?_
  refine Z_iload_n 1 1 dL_lot_0 rfl rfl ?_
  refine Z_aload_n 2 0 dL_lot_1 rfl rfl ?_
  refine Z_slen 3 (fun s h => h) dL_lot_2 rfl ?_
  refine Z_icmp_ge 6 12 dL_lot_3 rfl rfl (fun c3 => ?_) (fun c3 => ?_)
  · refine Z_ldc 14 673058413 dL_lot_12 rfl kL_7 ?_
    refine Z_iload_n 15 1 dL_lot_14 rfl rfl ?_
    refine Z_sipush 18 (nI 4831) dL_lot_15 rfl rfl ?_
    refine Z_iadd 19 dL_lot_18 rfl ?_
    refine Z_imul 20 dL_lot_19 rfl ?_
    refine Z_sipush 23 (nI 4621) dL_lot_20 rfl rfl ?_
    refine Z_iadd 24 dL_lot_23 rfl ?_
    exact Z_iret dL_lot_24 rfl ⟨⟨_, rfl⟩, rfl⟩
  · have hlt : k < L := by
      have h1 : nI k < nI L := Int32.not_le.mp c3
      exact (nI_ltI (by omega) (by omega)).mp h1
    refine Z_aload_n 7 0 dL_lot_6 rfl rfl ?_
    refine Z_iload_n 8 1 dL_lot_7 rfl rfl ?_
    refine Z_sld 9 (fun s h => h) dL_lot_8 rfl (vp_in_nI hlt (by omega)) ?_
    refine Z_goto 24 dL_lot_9 rfl ?_
    exact Z_iret dL_lot_24 rfl ⟨⟨_, rfl⟩, rfl⟩
