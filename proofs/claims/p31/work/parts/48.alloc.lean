/-! new cells -/
theorem zv_grow {G : zG} {w w' : zW} {s : State} {H H1 : Heap} {e : va_E} (hH : zH G w s H) (z1 : H1.size = H.size + 1) (o1 : ∀ q, q < H.size → H1[q]? = H[q]?) (he : va_at G.2.1 vwCl (H.size, e) H1) (hn : w'.1 = w.1 + 1) (hz : zcell G w' w.1 = e) (ho : ∀ q, q < w.1 → zcell G w' q = zcell G w q) : zH G w' s H1 := by
  refine ⟨?_, hH.2.1, by rw [z1, hH.2.2, hn]; rfl⟩
  have e1 := zws_push (G := G) hn hz ho
  rw [← e1]
  refine (hH.1.kept (fun k x hx => o1 x.1 ((hH.1 k x hx).lt))).app (fun k x hx => ?_)
  have h0 : k < 1 := (List.getElem?_eq_some_iff.mp hx).1
  rw [show k = 0 by omega] at hx
  cases hx
  have := he
  rw [hH.2.2] at this
  exact this
theorem zS_grow {b : Nat} {H0 H H1 : Heap} {locs : List Loc} (hS : va_S (fun q => b ≤ q) H0 H locs) (z1 : H.size ≤ H1.size) (o1 : ∀ q, q < H.size → H1[q]? = H[q]?) : va_S (fun q => b ≤ q) H0 H1 locs := ⟨Nat.le_trans hS.1 z1, fun x h1 h2 => (o1 x (Nat.lt_of_lt_of_le h1 hS.1)).trans (hS.2.1 x h1 h2), hS.2.2⟩
section
variable {G : zG} {M : zD} {E : State → Prop} {Qf : List Frame → Array Value → State → State → Prop} {l : Launch} {k j : Nat} {pc : Nat} {lv : List (Nat × Value)} {st : List Value}
theorem Z_newA (pc' : Nat) {n9 N : Nat} {sh : Nat → zK} {mm : zM} (hd : decode M.2.1 pc = .ok (.newarray .int, 2)) (hp : pc + 2 = pc') (hs : sh n9 = .inl N) (hm : mm n9 = fun _ => 0) (hN : N < 1000) (hR : k + 1 ≤ M.2.2.2.2.2.cells ∧ j + N ≤ M.2.2.2.2.2.slots) (kk : Z G M E Qf l (k + 1) (j + N) (n9 + 1, sh, mm) pc' lv (.ref (G.1 + n9) :: st)) : Z G M E Qf l k j (n9, sh, mm) pc lv (.int (nI N) :: st) := by
  subst hp
  intro p e s m args below meth c H locs ls hc hE hb hH hS hl
  refine va_newaK (atype := .int) hc.1 hc.2.1 (hc.2.2.2.2.1 _ karr) rfl hd rfl (nI_pos (by omega)) (nI_clamp (by omega)) (by show N * 4 ≤ 536870912; omega) hR.1 hR.2 hH.2.2 fun H1 cA e1 z1 o1 hAr hNm => ?_
  have ec : G.2.2.1 = cA := by
    have h2 : s.vm.findClass ("[" ++ FieldType.int.toString) = some G.2.2.1 := (hH.2.1.2 0 _ rfl).2
    exact Option.some.inj (h2.symm.trans hNm)
  have o2 : ∀ q, q < H.size → H1[q]? = H[q]? := fun q hq => o1 q (by rw [← hH.2.2]; exact hq)
  have z2 : H1.size = H.size + 1 := by rw [z1, hH.2.2]
  refine kk p e s m args below meth c H1 locs ls hc hE hb (zv_grow (w' := (n9 + 1, sh, mm)) hH z2 o2 (e := .inl (G.2.2.1, N, .inl (mm n9))) ?_ rfl (zcell_i hs) (fun q _ => zcell_same rfl rfl)) (zS_grow hS (by omega) o2) hl
  show H1[H.size]? = some (vp_cell G.2.2.1 (N, .inl (mm n9)))
  rw [vp_cell_i, hm, ec, hH.2.2]
  exact e1
theorem Z_newR (pc' : Nat) {n9 N idx : Nat} {sh : Nat → zK} {mm : zM} {f : Nat → Option Nat} (hd : decode M.2.1 pc = .ok (.anewarray idx, 3)) (hp : pc + 3 = pc') (hk : Cond.classLink M.1 idx RX1 ∈ lw_ok) (hs : sh n9 = .inr (.inl (false, N, f))) (hf : ∀ i, i < N → f i = none) (hN : N < 1000) (hR : k + 1 ≤ M.2.2.2.2.2.cells ∧ j + N ≤ M.2.2.2.2.2.slots) (kk : Z G M E Qf l (k + 1) (j + N) (n9 + 1, sh, mm) pc' lv (.ref (G.1 + n9) :: st)) : Z G M E Qf l k j (n9, sh, mm) pc lv (.int (nI N) :: st) := by
  subst hp
  intro p e s m args below meth c H locs ls hc hE hb hH hS hl
  have hcl : (nI N).toNatClampNeg = N := nI_clamp (by omega)
  refine W.anew (C := RX1) hc.1 hc.2.1 hc.2.2.2.1 (hc.2.2.2.2.1 _ hk) (va_AO.use hc.2.2.2.2.2.2.2.2.1) rfl hd rfl (nI_pos (by omega)) (by rw [hcl]; omega) hR.1 (by rw [hcl]; exact hR.2) fun cA kA comp f1 f2 f3 f4 => ?_
  rw [hcl]
  generalize hH1 : H.push ({ cls := cA, slots := Array.replicate N .null, vm := .none } : Cell) = H1
  have z1 : H1.size = H.size + 1 := by rw [← hH1, Array.size_push]
  have e1 : H1[H.size]? = some (arrV cA N (fun _ => .null)) := by rw [← hH1, Array.getElem?_push_size, ← arrV_new]
  have o1 : ∀ q : Nat, q < H.size → H1[q]? = H[q]? := fun q hq => by rw [← hH1, Array.getElem?_push, if_neg (Nat.ne_of_lt hq)]
  have ec : G.2.2.2.1 = cA := by
    obtain ⟨kA2, comp2, h1, h2, h3, h4⟩ := (hH.2.1.2 1 _ rfl).2
    exact Option.some.inj (h4.symm.trans f1)
  have key : zH G (n9 + 1, sh, mm) s H1 := by
    refine zv_grow (w' := (n9 + 1, sh, mm)) hH z1 o1 (e := .inl (G.2.2.2.1, N, .inr (.inr (.inr (.inr (fun i => (f i).map (fun q => G.1 + q))))))) ?_ rfl ?_ (fun q _ => zcell_same rfl rfl)
    · show H1[H.size]? = some (vp_cell G.2.2.2.1 (N, .inr (.inr (.inr (.inr (fun i => (f i).map (fun q => G.1 + q)))))))
      rw [vp_cell_q, ec, e1]
      refine congrArg some ?_
      unfold arrV
      congr 2
      funext i
      show Value.null = va_rf ((f i.1).map _)
      rw [hf i.1 i.2]
      rfl
    · rw [zcell_r (w := (n9 + 1, sh, mm)) hs]
      rfl
  have fin := kk p e s m args below meth c H1 locs ls hc hE hb key (zS_grow hS (by omega) o1) hl
  rw [show G.1 + n9 = H.size from hH.2.2.symm] at fin
  exact fin
theorem Z_newM (pc' : Nat) {n9 idx : Nat} {sh : Nat → zK} {mm : zM} (hd : decode M.2.1 pc = .ok (.multianewarray idx 2, 4)) (hp : pc + 4 = pc') (hk : Cond.classLink M.1 idx "[[I" ∈ lw_ok) (hs : sh n9 = .inr (.inl (true, 8, fun i => if i < 8 then some (n9 + 1 + i) else none))) (hs2 : ∀ i, i < 8 → sh (n9 + 1 + i) = .inl 8 ∧ mm (n9 + 1 + i) = fun _ => 0) (hR : k + (1 + 8) ≤ M.2.2.2.2.2.cells ∧ j + (8 + 8 * 8) ≤ M.2.2.2.2.2.slots) (kk : Z G M E Qf l (k + 1 + 8) (j + 8 + 8 * 8) (n9 + 9, sh, mm) pc' lv (.ref (G.1 + n9) :: st)) : Z G M E Qf l k j (n9, sh, mm) pc lv (.int (nI 8) :: .int (nI 8) :: st) := by
  subst hp
  intro p e s m args below meth c H locs ls hc hE hb hH hS hl
  intro T hT Xs
  have c8 : (nI 8).toNatClampNeg = 8 := rfl
  obtain ⟨vm₁, cA, comp, -, fA, fC, hO, -, X', step⟩ := Xs.multianewarray2F (ty := .int) hc.1 hc.2.2.2.1 (hc.2.2.2.2.1 _ hk) (show (Cond.arrayOver (.array .int)).before args s = true from hc.2.2.2.2.2.2.2.2.2.1) (hc.2.2.2.2.1 _ karr) (g := F0 m pc ls (.int (nI 8) :: .int (nI 8) :: st)) rfl (by rw [hc.2.1]; exact hd) rfl (by decide) (by decide) (by decide) (by decide) (by decide) rfl rfl hR.1 hR.2
  have h2 : s.vm.findClass ("[" ++ FieldType.int.toString) = some G.2.2.1 := (hH.2.1.2 0 _ rfl).2
  have h3 : s.vm.findClass ("[" ++ (FieldType.array .int).toString) = some G.2.2.2.2 := (hH.2.1.2 2 _ rfl).2
  have ec : comp = G.2.2.1 := Option.some.inj (fC.symm.trans h2)
  have eA : cA = G.2.2.2.2 := Option.some.inj (fA.symm.trans h3)
  subst ec
  subst eA
  rw [c8] at X' step
  generalize hF : Jvm.Free.Multi.fill (T.setVm vm₁) G.2.2.2.2 G.2.2.1 8 8 (defaultValue .int) 8 = F at X' step
  have hTh : (T.setVm vm₁).heap = H := hT
  obtain ⟨f1, f2, -, -⟩ := Jvm.Free.Multi.fill_facts (T.setVm vm₁) G.2.2.2.2 G.2.2.1 8 8 (defaultValue .int) 8
  rw [hF, hTh] at f1 f2
  have hold : ∀ x : Nat, x < H.size → F.heap[x]? = H[x]? := fun x hx => by
    have := Jvm.Free.Multi.fill_old (T.setVm vm₁) G.2.2.2.2 G.2.2.1 8 8 (defaultValue .int) (a := x) (by rw [hTh]; exact hx) 8
    rw [hF, hTh] at this
    exact this
  have hrow : ∀ i : Nat, i < 8 → F.heap[H.size + 1 + i]? = some (vp_cell G.2.2.1 (8, .inl (fun _ => 0))) := fun i hi => by
    have := Jvm.Free.Multi.fill_inner (T.setVm vm₁) G.2.2.2.2 G.2.2.1 8 8 (defaultValue .int) 8 i hi
    rw [hF, hTh] at this
    rw [this, vp_cell_i]
    exact congrArg some (arrV_new _ 8 (.int 0))
  have hout : Jvm.Free.Multi.outerC G.2.2.2.2 8 H.size 8 = vp_cell G.2.2.2.2 (8, .inr (.inr (.inr (.inr (fun i => if i < 8 then some (H.size + 1 + i) else none))))) := by
    rw [vp_cell_q]
    exact vr_outer G.2.2.2.2 8 H.size 8
  rw [hout] at f2
  have hsz : H.size = G.1 + n9 := hH.2.2
  have key : zH G (n9 + 9, sh, mm) s F.heap := by
    refine ⟨fun a x hx => ?_, hH.2.1, by rw [f1, hsz]; show G.1 + n9 + 1 + 8 = G.1 + (n9 + 9); omega⟩
    have ha : a < n9 + 9 := by
      have := (List.getElem?_eq_some_iff.mp hx).1
      simpa [zws] using this
    rw [zws_at (w := (n9 + 9, sh, mm)) ha] at hx
    cases hx
    by_cases g : a < n9
    · have h9 := hH.1 a _ (zws_at (w := (n9, sh, mm)) g)
      have h8 := h9.kept (H1 := F.heap) (hold _ h9.lt)
      rw [zcell_same (w := (n9, sh, mm)) (w' := (n9 + 9, sh, mm)) rfl rfl]
      exact h8
    · by_cases g2 : a = n9
      · subst g2
        rw [zcell_r (w := (a + 9, sh, mm)) hs]
        show F.heap[G.1 + a]? = some (vp_cell G.2.2.2.2 _)
        rw [← hsz, f2]
        refine congrArg (fun f => some (vp_cell G.2.2.2.2 (8, .inr (.inr (.inr (.inr f)))))) (funext fun i => ?_)
        by_cases h : i < 8
        · rw [if_pos h, if_pos h, hsz]
          show some (G.1 + a + 1 + i) = some (G.1 + (a + 1 + i))
          congr 1
          omega
        · rw [if_neg h, if_neg h]
          rfl
      · obtain ⟨i, hi, rfl⟩ : ∃ i, i < 8 ∧ a = n9 + 1 + i := ⟨a - n9 - 1, by omega, by omega⟩
        rw [zcell_i (w := (n9 + 9, sh, mm)) (hs2 i hi).1]
        show F.heap[G.1 + (n9 + 1 + i)]? = some (vp_cell G.2.2.1 (8, .inl (mm (n9 + 1 + i))))
        rw [(hs2 i hi).2, show G.1 + (n9 + 1 + i) = H.size + 1 + i by omega]
        exact hrow i hi
  obtain ⟨t, a1, b1⟩ := kk p e s m args below meth c F.heap locs ls hc hE hb key (zS_grow hS (by rw [f1]; omega) hold) hl F rfl X'
  refine ⟨t, step t ?_, b1⟩
  have e : T.heap.size = G.1 + n9 := by rw [hT, hsz]
  rw [e]
  exact a1
/-- what the tables say of a class that is to be made -/
def zNw (own : String) (idx ci : Nat) (rs : List (Option (Option Nat))) (N9 : Nat) : Prop := ∃ (C : String) (T : u_T) (N : Nat) (ty : Nat → FieldType), vwCl[ci]? = some (C, T, N) ∧ N = N9 ∧ (∀ w ∈ u_ws C T N, w ∈ lw_ok) ∧ (∀ q, q < N → parseFieldDescriptor (T q).2.2.1 = some (ty q)) ∧ Cond.classLink own idx C ∈ lw_ok ∧ Cond.instantiable C N ∈ lw_ok ∧ Cond.initialized C ∈ lw_ok ∧ ∀ (b q : Nat), q < N → defaultValue (ty q) = vp_V (flds b (fun _ => 0) 0 rs) q
theorem Z_newC (pc' : Nat) {n9 idx ci N : Nat} {sh : Nat → zK} {mm : zM} {rs : List (Option (Option Nat))} (hd : decode M.2.1 pc = .ok (.new idx, 3)) (hp : pc + 3 = pc') (hw : zNw M.1 idx ci rs N) (hs : sh n9 = .inr (.inr (ci, rs))) (hm : mm n9 = fun _ => 0) (hR : k + 1 ≤ M.2.2.2.2.2.cells ∧ j + N ≤ M.2.2.2.2.2.slots) (kk : Z G M E Qf l (k + 1) (j + N) (n9 + 1, sh, mm) pc' lv (.ref (G.1 + n9) :: st)) : Z G M E Qf l k j (n9, sh, mm) pc lv st := by
  subst hp
  intro p e s m args below meth c H locs ls hc hE hb hH hS hl
  obtain ⟨C, T9, N2, ty, g1, rfl, g3, g4, g5, g6, g7, g8⟩ := hw
  have hts := hc.2.2.2.2.1
  have hKn := hH.2.1.1 ci _ g1
  refine W.newcK hc.1 hc.2.1 hc.2.2.2.1 (hts _ g5) (hts _ g6) (hts _ g7) rfl hd hR.1 hR.2 hKn.2.1 rfl fun H1 kC hkC e1 z1 o1 => ?_
  have key : zH G (n9 + 1, sh, mm) s H1 := by
    refine zv_grow (w' := (n9 + 1, sh, mm)) hH z1 o1 (e := .inr (ci, flds G.1 (mm n9) 0 rs)) ?_ rfl (zcell_o hs) (fun q _ => zcell_same rfl rfl)
    rw [hm]
    exact ⟨_, g1, (u_born ty hts g3 hKn hkC e1 g4).to (fun q hq => g8 G.1 q hq)⟩
  have fin := kk p e s m args below meth c H1 locs ls hc hE hb key (zS_grow hS (by omega) o1) hl
  rw [show G.1 + n9 = H.size from hH.2.2.symm] at fin
  exact fin
/-- cells that are not made yet are free -/
theorem Z_wfr {n9 : Nat} {sh sh' : Nat → zK} {mm mm' : zM} (h : ∀ q, q < n9 → sh q = sh' q) (h2 : ∀ q, q < n9 → mm q = mm' q) (kk : Z G M E Qf l k j (n9, sh', mm') pc lv st) : Z G M E Qf l k j (n9, sh, mm) pc lv st := by
  intro p e s m args below meth c H locs ls hc hE hb hH hS hl
  refine kk p e s m args below meth c H locs ls hc hE hb ⟨?_, hH.2.1, hH.2.2⟩ hS hl
  have e9 : zws G (n9, sh', mm') = zws G (n9, sh, mm) := List.map_congr_left (fun a ha => by
    have := List.mem_range.mp ha
    rw [zcell_same (w := (n9, sh, mm)) (w' := (n9, sh', mm')) (h a this).symm (h2 a this).symm])
  rw [e9]
  exact hH.1
theorem Z_wsh {n9 : Nat} {sh sh' : Nat → zK} {mm : zM} (h : ∀ q, sh q = sh' q) (kk : Z G M E Qf l k j (n9, sh', mm) pc lv st) : Z G M E Qf l k j (n9, sh, mm) pc lv st := by
  rw [show sh = sh' from funext h]
  exact kk
/-- a call of a constructor that is private to a nest -/
theorem Z_callN (pc' : Nat) {idx n a : Nat} {y : MethodName} {M2 : zD} {host : String} {w : zW} (As : List Value) {st0 : List Value} {P : Option Value → zW → Prop} {mc ms : Nat} (hM : zMet G l y M2 (.ref (G.1 + a) :: As) w P mc ms) (hret : M2.2.2.2.1 = none) (hd : decode M.2.1 pc = .ok (.invokespecial idx, 3)) (hp : pc + 3 = pc') (hq : Cond.initialized y.cls ∈ lw_ok ∧ Cond.code y M2.2.1 M2.2.2.1 M2.2.2.2.1 ∈ lw_ok ∧ (y.cls ≠ "java/lang/invoke/MethodHandle" ∧ y.cls ≠ "java/lang/invoke/VarHandle" ∧ (parseMethodDescriptor y.desc).map (fun d => d.parameters.length) = some n)) (hx : ∀ U : State, zX U → va_Nw (.methodLinkNest M.1 idx y host) U) (hq2 : y.name = "<init>" ∧ Cond.instanceMethod y ∈ lw_ok) (hst : st0 = As.reverse ++ .ref (G.1 + a) :: st) (hn : As.length = n) (hroom : M2.2.2.2.2.2.frames + 1 ≤ M.2.2.2.2.2.frames ∧ 8 + (M2.2.2.1 + 11) + M2.2.2.2.2.2.locals ≤ M.2.2.2.2.2.locals) (hcat : (st.map fun v => v.category).sum ≤ 8) (hrc : M2.2.2.2.2.2.cells = mc ∧ M2.2.2.2.2.2.slots = ms) (hf : k + mc ≤ M.2.2.2.2.2.cells ∧ j + ms ≤ M.2.2.2.2.2.slots) (kk : ∀ (r : Option Value) (w' : zW), P r w' → Z G M E Qf l (k + mc) (j + ms) w' pc' lv (r.toList ++ st)) : Z G M E Qf l k j w pc lv st0 := by
  subst hp
  intro p e s m args below meth c H locs ls hc hE hb hH hS hl
  have hts := hc.2.2.2.2.1
  obtain ⟨o2, b2, n2, r2, nm2, R2⟩ := M2
  cases (show r2 = none from hret)
  exact zCore hc hE hb hH hS hl (va_runIN (As := As) (rest := st) (n := n) ⟨hc.1, hc.2.1, hc.2.2.1, hc.2.2.2.1, hts⟩ hM ⟨va_cnB n hts (zgood (M := (o2, b2, n2, none, nm2, R2)) hq.2.1) rfl hrc.1 hrc.2 (hx s hc.2.2.2.2.2.2.2.2) (hts _ hq.1) hq.2.2 hroom, hq2.1, hts _ hq2.2⟩ ⟨fun a U g mk q => ⟨q.1, q.2.1.moved (u := U) (U := U.calling g mk a) (Vm.Alike.refl U.vm), q.2.2.same (U := U.calling g mk a) rfl⟩, fun U hU hW => ⟨rfl, by show zH G w U U.heap; rw [hU]; exact hH.moved hW.alike, hc.2.2.2.2.2.2.2.2.warm hW⟩⟩ rfl hn hl.1 hst (lv_room hcat) hd hf) kk
end
