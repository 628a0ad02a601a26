/-! small worlds: all cells above a base; ints by cell and place; references by cell numbers relative to the base -/
abbrev zK : Type := Nat ⊕ ((Bool × Nat × (Nat → Option Nat)) ⊕ (Nat × List (Option (Option Nat))))
abbrev zG : Type := Nat × va_G × ClassId × ClassId × ClassId
abbrev zM : Type := Nat → Nat → Int32
abbrev zW : Type := Nat × (Nat → zK) × zM
def up2 (m : zM) (a k : Nat) (v : Int32) : zM := fun a' k' => if a' = a ∧ k' = k then v else m a' k'
theorem up2_eq (m : zM) (a k : Nat) (v : Int32) : up2 m a k v a k = v := by simp [up2]
theorem up2_ne (m : zM) {a k a' k' : Nat} (v : Int32) (h : ¬ (a' = a ∧ k' = k)) : up2 m a k v a' k' = m a' k' := by simp [up2, h]
theorem up2_ak (m : zM) (a k k' : Nat) (v : Int32) : up2 m a k v a k' = if k' = k then v else m a k' := by simp [up2]
theorem up2_na (m : zM) {a a' : Nat} (k : Nat) (v : Int32) (h : a' ≠ a) : up2 m a k v a' = m a' := by funext q; simp [up2, h]
def zr (b : Nat) (r : Option Nat) : Value := va_rf (r.map (fun q => b + q))
def flds (b : Nat) (m : Nat → Int32) : Nat → List (Option (Option Nat)) → List Value
  | _, [] => []
  | i, none :: r => .int (m i) :: flds b m (i + 1) r
  | i, some x :: r => zr b x :: flds b m (i + 1) r
theorem flds_int {b : Nat} {m : Nat → Int32} : ∀ (rs : List (Option (Option Nat))) (i k : Nat), rs[k]? = some none → (flds b m i rs)[k]? = some (.int (m (i + k)))
  | [], i, k, h => by simp at h
  | none :: r, i, 0, h => by simp [flds]
  | some x :: r, i, 0, h => by simp at h
  | none :: r, i, k + 1, h => by
    have h2 := flds_int (b := b) (m := m) r (i + 1) k (by simpa using h)
    simp only [flds, List.getElem?_cons_succ, h2]
    rw [show i + 1 + k = i + (k + 1) by omega]
  | some x :: r, i, k + 1, h => by
    have h2 := flds_int (b := b) (m := m) r (i + 1) k (by simpa using h)
    simp only [flds, List.getElem?_cons_succ, h2]
    rw [show i + 1 + k = i + (k + 1) by omega]
theorem flds_ref {b : Nat} {m : Nat → Int32} {x : Option Nat} : ∀ (rs : List (Option (Option Nat))) (i k : Nat), rs[k]? = some (some x) → (flds b m i rs)[k]? = some (zr b x)
  | [], i, k, h => by simp at h
  | none :: r, i, 0, h => by simp at h
  | some y :: r, i, 0, h => by
    simp at h
    subst h
    simp [flds]
  | none :: r, i, k + 1, h => by
    have h2 := flds_ref (b := b) (m := m) (x := x) r (i + 1) k (by simpa using h)
    simp only [flds, List.getElem?_cons_succ, h2]
  | some y :: r, i, k + 1, h => by
    have h2 := flds_ref (b := b) (m := m) (x := x) r (i + 1) k (by simpa using h)
    simp only [flds, List.getElem?_cons_succ, h2]
theorem flds_len {b : Nat} {m : Nat → Int32} : ∀ (rs : List (Option (Option Nat))) (i : Nat), (flds b m i rs).length = rs.length
  | [], i => rfl
  | none :: r, i => by simp [flds, flds_len r]
  | some x :: r, i => by simp [flds, flds_len r]
theorem flds_congr {b : Nat} {m m' : Nat → Int32} : ∀ (rs : List (Option (Option Nat))) (i : Nat), (∀ j, i ≤ j → m j = m' j) → flds b m i rs = flds b m' i rs
  | [], i, h => rfl
  | none :: r, i, h => by
    simp only [flds]
    rw [h i (Nat.le_refl i), flds_congr r (i + 1) (fun j hj => h j (by omega))]
  | some x :: r, i, h => by
    simp only [flds]
    rw [flds_congr r (i + 1) (fun j hj => h j (by omega))]
theorem flds_set {b : Nat} {m : Nat → Int32} {v : Int32} : ∀ (rs : List (Option (Option Nat))) (i k : Nat), rs[k]? = some none → (flds b m i rs).set k (.int v) = flds b (fun j => if j = i + k then v else m j) i rs
  | [], i, k, h => by simp at h
  | none :: r, i, 0, h => by
    simp only [flds, List.set_cons_zero]
    rw [flds_congr (m := m) (m' := fun j => if j = i + 0 then v else m j) r (i + 1) (fun j hj => by rw [if_neg (by omega)])]
    simp
  | some x :: r, i, 0, h => by simp at h
  | none :: r, i, k + 1, h => by
    have h2 := flds_set (b := b) (m := m) (v := v) r (i + 1) k (by simpa using h)
    simp only [flds, List.set_cons_succ]
    rw [h2, if_neg (by omega)]
    rw [show i + 1 + k = i + (k + 1) by omega]
  | some x :: r, i, k + 1, h => by
    have h2 := flds_set (b := b) (m := m) (v := v) r (i + 1) k (by simpa using h)
    simp only [flds, List.set_cons_succ]
    rw [h2]
    rw [show i + 1 + k = i + (k + 1) by omega]
theorem flds_setr {b : Nat} {m : Nat → Int32} {x y : Option Nat} : ∀ (rs : List (Option (Option Nat))) (i k : Nat), rs[k]? = some (some y) → (flds b m i rs).set k (zr b x) = flds b m i (rs.set k (some x))
  | [], i, k, h => by simp at h
  | none :: r, i, 0, h => by simp at h
  | some z :: r, i, 0, h => by simp [flds]
  | none :: r, i, k + 1, h => by
    have h2 := flds_setr (b := b) (m := m) (x := x) (y := y) r (i + 1) k (by simpa using h)
    simp only [flds, List.set_cons_succ, h2]
  | some z :: r, i, k + 1, h => by
    have h2 := flds_setr (b := b) (m := m) (x := x) (y := y) r (i + 1) k (by simpa using h)
    simp only [flds, List.set_cons_succ, h2]
/-- a cell of the world, as the kit has it -/
def zcell (G : zG) (w : zW) (a : Nat) : va_E := match w.2.1 a with
  | .inl n => .inl (G.2.2.1, n, .inl (w.2.2 a))
  | .inr (.inl (y, n, f)) => .inl (if y then G.2.2.2.2 else G.2.2.2.1, n, .inr (.inr (.inr (.inr (fun j => (f j).map (fun q => G.1 + q))))))
  | .inr (.inr (ci, rs)) => .inr (ci, flds G.1 (w.2.2 a) 0 rs)
theorem zcell_i {G : zG} {w : zW} {a n : Nat} (h : w.2.1 a = .inl n) : zcell G w a = .inl (G.2.2.1, n, .inl (w.2.2 a)) := by simp only [zcell, h]
theorem zcell_r {G : zG} {w : zW} {a n : Nat} {y : Bool} {f : Nat → Option Nat} (h : w.2.1 a = .inr (.inl (y, n, f))) : zcell G w a = .inl (if y then G.2.2.2.2 else G.2.2.2.1, n, .inr (.inr (.inr (.inr (fun j => (f j).map (fun q => G.1 + q)))))) := by simp only [zcell, h]
theorem zcell_o {G : zG} {w : zW} {a ci : Nat} {rs : List (Option (Option Nat))} (h : w.2.1 a = .inr (.inr (ci, rs))) : zcell G w a = .inr (ci, flds G.1 (w.2.2 a) 0 rs) := by simp only [zcell, h]
theorem zcell_same {G : zG} {w w' : zW} {a : Nat} (h1 : w'.2.1 a = w.2.1 a) (h2 : w'.2.2 a = w.2.2 a) : zcell G w' a = zcell G w a := by simp only [zcell, h1, h2]
def zws (G : zG) (w : zW) : va_W := (List.range w.1).map (fun a => (G.1 + a, zcell G w a))
theorem zws_at {G : zG} {w : zW} {a : Nat} (h : a < w.1) : (zws G w)[a]? = some (G.1 + a, zcell G w a) := by
  simp [zws, h]
theorem zws_key {G : zG} {w : zW} {k : Nat} {q : Nat × va_E} (h : (zws G w)[k]? = some q) : q.1 = G.1 + k := by
  by_cases hk : k < w.1
  · rw [zws_at hk] at h
    cases h
    rfl
  · have h2 : (zws G w)[k]? = none := List.getElem?_eq_none (by simp [zws]; omega)
    rw [h2] at h
    cases h
theorem zws_D {G : zG} {w : zW} : va_D (fun q => G.1 ≤ q) (zws G w) :=
  ⟨fun i j p q hi hj h => by
    have h1 := zws_key hi
    have h2 := zws_key hj
    omega, fun k q hk => by
    have h1 := zws_key hk
    show G.1 ≤ q.1
    omega⟩
theorem zws_set {G : zG} {w w' : zW} {a : Nat} {e : va_E} (hn : w'.1 = w.1) (he : zcell G w' a = e) (ho : ∀ q, q ≠ a → zcell G w' q = zcell G w q) : (zws G w).set a (G.1 + a, e) = zws G w' := by
  unfold zws
  rw [hn]
  apply List.ext_getElem?
  intro k
  rw [List.getElem?_set]
  by_cases hk : a = k
  · subst hk
    by_cases hl : a < w.1
    · simp [hl, he]
    · simp [hl]
  · rw [if_neg hk]
    by_cases hl : k < w.1
    · simp [hl, ho k (fun q => hk q.symm)]
    · simp [hl]
theorem zws_push {G : zG} {w w' : zW} {e : va_E} (hn : w'.1 = w.1 + 1) (he : zcell G w' w.1 = e) (ho : ∀ q, q < w.1 → zcell G w' q = zcell G w q) : zws G w ++ [(G.1 + w.1, e)] = zws G w' := by
  unfold zws
  rw [hn, List.range_succ, List.map_append]
  congr 1
  · apply List.map_congr_left
    intro a ha
    rw [ho a (List.mem_range.mp ha)]
  · simp [he]
/-- the world is held: every cell from the base on is one of it -/
def zH (G : zG) (w : zW) (U : State) (H : Heap) : Prop := va_P G.2.1 vwCl (zws G w) H ∧ va_K G.2.1 vwCl [(G.2.2.1, .int), (G.2.2.2.1, .object RX1), (G.2.2.2.2, .array .int)] U ∧ H.size = G.1 + w.1
theorem zH.moved {G : zG} {w : zW} {u U : State} {H : Heap} (hvm : u.vm.Alike U.vm) (h : zH G w u H) : zH G w U H := ⟨h.1, va_K.moved hvm h.2.1, h.2.2⟩
/-- the tables' words that a callee may be handed -/
def lw_ok : List Cond := lw_tbl.filter goodWord
theorem lw_in {w : Cond} (i : Nat) (h : lw_tbl[i]? = some w) (hg : goodWord w = true) : w ∈ lw_ok := List.mem_filter.mpr ⟨List.mem_of_getElem? h, hg⟩
/-- words that move with the tables by laws of their own -/
def zX (U : State) : Prop := va_AO RX1 U ∧ (Cond.arrayOver (.array .int)).before #[] U = true ∧ va_Nw (.methodLinkNest RX3 25 yX2_init RX3) U ∧ va_Nw (.methodLinkNest RX3 32 yX0_init RX3) U
theorem zAOi {u U : State} (hvm : u.vm.Alike U.vm) (h : (Cond.arrayOver (.array .int)).before #[] u = true) : (Cond.arrayOver (.array .int)).before #[] U = true := by
  obtain ⟨comp, c, k, h1, h2, h3, h4, h5⟩ := arrayOverA_spec h
  obtain ⟨k', hk', he⟩ := hvm.2.2 _ _ h3
  have hi : (U.vm.classes.findIdx? fun (x : Class) => match x.kind with | .array component _ => component == comp | _ => false) = some c := by
    rw [hvm.findIdx?_eq _ (fun _ => rfl)]
    exact h2
  have hkind : k'.kind = .array comp (.array .int) := by rw [he]; exact h4
  have f1 : U.vm.findClass (FieldType.array .int).toString = some comp := by rw [hvm.findClass]; exact h1
  have f2 : U.vm.findClass ("[" ++ (FieldType.array .int).toString) = some c := by rw [hvm.findClass]; exact h5
  unfold Cond.before Cond.holds
  simp only [Cond.value]
  rw [f1, Option.bind_some]
  refine (congrArg (fun o : Option Nat => (o.bind (fun c => (U.vm.classes[c]?).map fun (k : Class) => match k.kind with | .array _ ty => decide (ty = FieldType.array .int) && decide (U.vm.findClass ("[" ++ (FieldType.array .int).toString) = some c) | _ => false) == some true)) hi).trans ?_
  simp [hk', hkind, f2]
theorem zX.warm {s U : State} (hW : s.WarmedH U.vm) (h : zX s) : zX U := ⟨h.1.moved hW.alike, zAOi hW.alike h.2.1, va_Nw.warmM hW h.2.2.1, va_Nw.warmM hW h.2.2.2⟩
theorem zX.same {u U : State} (hvm : u.vm = U.vm) (h : zX u) : zX U := ⟨h.1.moved (by rw [hvm]; exact Vm.Alike.refl _), zAOi (by rw [hvm]; exact Vm.Alike.refl _) h.2.1, va_Nw.same rfl hvm h.2.2.1, va_Nw.same rfl hvm h.2.2.2⟩
/-- a method: its class, bytes, locals, what it returns, its name, its room -/
abbrev zD : Type := String × ByteArray × Nat × Option FieldType × String × Room
def zC (M : zD) (p : Program) (s : State) (m : MethodId) (args : Array Value) (meth : Method) (c : Code) : Prop :=
  p.tables.exec = Jvm.exec ∧ c.code = M.2.1 ∧ c.maxLocals = M.2.2.1 ∧ s.vm.findClass M.1 = some m.cls ∧ (∀ w ∈ lw_ok, w.before args s = true) ∧ meth.sig.returnType = M.2.2.2.1 ∧ meth.locks = false ∧ (M.2.2.2.2.1 = "" ∨ meth.name = M.2.2.2.2.1) ∧ zX s
def Z (G : zG) (M : zD) (E : State → Prop) (Qf : List Frame → Array Value → State → State → Prop) (l : Launch) (k j : Nat) (w : zW) (pc : Nat) (lv : List (Nat × Value)) (st : List Value) : Prop :=
  ∀ (p : Program) (e : Env) (s : State) (m : MethodId) (args : Array Value) (below : List Frame) (meth : Method) (c : Code) (H : Heap) (locs : List Loc) (ls : Array Slot),
    zC M p s m args meth c → E s → G.1 ≤ s.heap.size → zH G w s H → va_S (fun q => G.1 ≤ q) s.heap H locs → lv_has ls M.2.2.1 lv →
    W p l e M.2.2.2.2.2 s m args below meth c H locs k j (Qf below args s) (F0 m pc ls st)
section ZR
variable {G : zG} {M : zD} {E : State → Prop} {Qf : List Frame → Array Value → State → State → Prop} {l : Launch} {k j : Nat} {w : zW} {pc : Nat} {lv : List (Nat × Value)} {st : List Value}
theorem Z_at {pc' : Nat} (h : pc = pc') (kk : Z G M E Qf l k j w pc' lv st) : Z G M E Qf l k j w pc lv st := h ▸ kk
theorem Z_lv {lv' : List (Nat × Value)} (ks : List Nat) (h : lv_pick lv ks = lv') (kk : Z G M E Qf l k j w pc lv' st) : Z G M E Qf l k j w pc lv st := by
  intro p e s m args below meth c H locs ls hc hE hb hH hS hl
  exact kk p e s m args below meth c H locs ls hc hE hb hH hS (lv_sub hl ks h)
theorem Z_w {w' : zW} (h : w = w') (kk : Z G M E Qf l k j w' pc lv st) : Z G M E Qf l k j w pc lv st := h ▸ kk
theorem Z_wide {k' j' : Nat} (h1 : k ≤ k') (h2 : j ≤ j') (kk : Z G M E Qf l k' j' w pc lv st) : Z G M E Qf l k j w pc lv st := by
  intro p e s m args below meth c H locs ls hc hE hb hH hS hl
  exact W.widen h1 h2 (kk p e s m args below meth c H locs ls hc hE hb hH hS hl)
theorem Z_iconst (pc' : Nat) {n : Int} (v : Int32) (hd : decode M.2.1 pc = .ok (.iconst n, 1)) (hp : pc + 1 = pc') (hv : Int32.ofInt n = v) (kk : Z G M E Qf l k j w pc' lv (.int v :: st)) : Z G M E Qf l k j w pc lv st := by
  subst hp
  intro p e s m args below meth c H locs ls hc hE hb hH hS hl
  exact lv_iconst hc.1 hc.2.1 hd hv (kk p e s m args below meth c H locs ls hc hE hb hH hS hl)
theorem Z_bipush (pc' : Nat) {n : Int} (v : Int32) (hd : decode M.2.1 pc = .ok (.bipush n, 2)) (hp : pc + 2 = pc') (hv : (Int8.ofInt n).toInt32 = v) (kk : Z G M E Qf l k j w pc' lv (.int v :: st)) : Z G M E Qf l k j w pc lv st := by
  subst hp
  intro p e s m args below meth c H locs ls hc hE hb hH hS hl
  exact lv_bipush hc.1 hc.2.1 hd hv (kk p e s m args below meth c H locs ls hc hE hb hH hS hl)
theorem Z_sipush (pc' : Nat) {n : Int} (v : Int32) (hd : decode M.2.1 pc = .ok (.sipush n, 3)) (hp : pc + 3 = pc') (hv : (Int16.ofInt n).toInt32 = v) (kk : Z G M E Qf l k j w pc' lv (.int v :: st)) : Z G M E Qf l k j w pc lv st := by
  subst hp
  intro p e s m args below meth c H locs ls hc hE hb hH hS hl
  exact lv_sipush hc.1 hc.2.1 hd hv (kk p e s m args below meth c H locs ls hc hE hb hH hS hl)
theorem Z_ldc (pc' : Nat) {idx : Nat} (v : Int32) (hd : decode M.2.1 pc = .ok (.ldc idx, 2)) (hp : pc + 2 = pc') (hk : Cond.constant M.1 idx v ∈ lw_ok) (kk : Z G M E Qf l k j w pc' lv (.int v :: st)) : Z G M E Qf l k j w pc lv st := by
  subst hp
  intro p e s m args below meth c H locs ls hc hE hb hH hS hl
  exact lv_ldc hc.1 hc.2.1 hc.2.2.2.1 (hc.2.2.2.2.1 _ hk) hd (kk p e s m args below meth c H locs ls hc hE hb hH hS hl)
theorem Z_iload_n (pc' : Nat) (q : Nat) {i : Fin 4} {x : Int32} (hd : decode M.2.1 pc = .ok (.iload_n i, 1)) (hp : pc + 1 = pc') (hq : lv[q]? = some ((i : Nat), .int x)) (kk : Z G M E Qf l k j w pc' lv (.int x :: st)) : Z G M E Qf l k j w pc lv st := by
  subst hp
  intro p e s m args below meth c H locs ls hc hE hb hH hS hl
  exact lv_iload_n hc.1 hc.2.1 hd rfl (lv_at hl q hq) (kk p e s m args below meth c H locs ls hc hE hb hH hS hl)
theorem Z_iload (pc' : Nat) (q : Nat) {i : Nat} {x : Int32} (hd : decode M.2.1 pc = .ok (.iload i, 2)) (hp : pc + 2 = pc') (hq : lv[q]? = some (i, .int x)) (kk : Z G M E Qf l k j w pc' lv (.int x :: st)) : Z G M E Qf l k j w pc lv st := by
  subst hp
  intro p e s m args below meth c H locs ls hc hE hb hH hS hl
  exact lv_iload hc.1 hc.2.1 hd (lv_at hl q hq) (kk p e s m args below meth c H locs ls hc hE hb hH hS hl)
theorem Z_aload_n (pc' : Nat) (q : Nat) {i : Fin 4} {x : Nat} (hd : decode M.2.1 pc = .ok (.aload_n i, 1)) (hp : pc + 1 = pc') (hq : lv[q]? = some ((i : Nat), .ref x)) (kk : Z G M E Qf l k j w pc' lv (.ref x :: st)) : Z G M E Qf l k j w pc lv st := by
  subst hp
  intro p e s m args below meth c H locs ls hc hE hb hH hS hl
  exact lv_aload_n hc.1 hc.2.1 hd rfl (lv_at hl q hq) (kk p e s m args below meth c H locs ls hc hE hb hH hS hl)
theorem Z_aload (pc' : Nat) (q : Nat) {i : Nat} {x : Nat} (hd : decode M.2.1 pc = .ok (.aload i, 2)) (hp : pc + 2 = pc') (hq : lv[q]? = some (i, .ref x)) (kk : Z G M E Qf l k j w pc' lv (.ref x :: st)) : Z G M E Qf l k j w pc lv st := by
  subst hp
  intro p e s m args below meth c H locs ls hc hE hb hH hS hl
  exact lv_aload hc.1 hc.2.1 hd (lv_at hl q hq) (kk p e s m args below meth c H locs ls hc hE hb hH hS hl)
theorem Z_dload (pc' : Nat) (q : Nat) {i : Nat} {x : UInt64} (hd : decode M.2.1 pc = .ok (.dload i, 2)) (hp : pc + 2 = pc') (hq : lv[q]? = some (i, .double x)) (kk : Z G M E Qf l k j w pc' lv (.double x :: st)) : Z G M E Qf l k j w pc lv st := by
  subst hp
  intro p e s m args below meth c H locs ls hc hE hb hH hS hl
  exact lv_dload hc.1 hc.2.1 hd (lv_at hl q hq) (kk p e s m args below meth c H locs ls hc hE hb hH hS hl)
theorem Z_dload_n (pc' : Nat) (q : Nat) {i : Fin 4} {x : UInt64} (hd : decode M.2.1 pc = .ok (.dload_n i, 1)) (hp : pc + 1 = pc') (hq : lv[q]? = some ((i : Nat), .double x)) (kk : Z G M E Qf l k j w pc' lv (.double x :: st)) : Z G M E Qf l k j w pc lv st := by
  subst hp
  intro p e s m args below meth c H locs ls hc hE hb hH hS hl
  exact lv_dload_n hc.1 hc.2.1 hd rfl (lv_at hl q hq) (kk p e s m args below meth c H locs ls hc hE hb hH hS hl)
theorem Z_istore_n (pc' : Nat) (lv' : List (Nat × Value)) {i : Fin 4} {x : Int32} (hd : decode M.2.1 pc = .ok (.istore_n i, 1)) (hp : pc + 1 = pc') (hn : (i : Nat) < M.2.2.1) (h' : ((i : Nat), Value.int x) :: lv.filter (fun q => !(q.1 == (i : Nat)) && !(q.1 + 1 == (i : Nat) && q.2.category == 2)) = lv') (kk : Z G M E Qf l k j w pc' lv' st) : Z G M E Qf l k j w pc lv (.int x :: st) := by
  subst hp
  intro p e s m args below meth c H locs ls hc hE hb hH hS hl
  exact lv_istore_n hc.1 hc.2.1 hd rfl hl hn h' (fun ls' hl' => kk p e s m args below meth c H locs ls' hc hE hb hH hS hl')
theorem Z_istore (pc' : Nat) (lv' : List (Nat × Value)) {i : Nat} {x : Int32} (hd : decode M.2.1 pc = .ok (.istore i, 2)) (hp : pc + 2 = pc') (hn : i < M.2.2.1) (h' : (i, Value.int x) :: lv.filter (fun q => !(q.1 == i) && !(q.1 + 1 == i && q.2.category == 2)) = lv') (kk : Z G M E Qf l k j w pc' lv' st) : Z G M E Qf l k j w pc lv (.int x :: st) := by
  subst hp
  intro p e s m args below meth c H locs ls hc hE hb hH hS hl
  exact lv_istore hc.1 hc.2.1 hd hl hn h' (fun ls' hl' => kk p e s m args below meth c H locs ls' hc hE hb hH hS hl')
theorem Z_astore_n (pc' : Nat) (lv' : List (Nat × Value)) {i : Fin 4} {x : Nat} (hd : decode M.2.1 pc = .ok (.astore_n i, 1)) (hp : pc + 1 = pc') (hn : (i : Nat) < M.2.2.1) (h' : ((i : Nat), Value.ref x) :: lv.filter (fun q => !(q.1 == (i : Nat)) && !(q.1 + 1 == (i : Nat) && q.2.category == 2)) = lv') (kk : Z G M E Qf l k j w pc' lv' st) : Z G M E Qf l k j w pc lv (.ref x :: st) := by
  subst hp
  intro p e s m args below meth c H locs ls hc hE hb hH hS hl
  exact lv_astore_n hc.1 hc.2.1 hd rfl hl hn h' (fun ls' hl' => kk p e s m args below meth c H locs ls' hc hE hb hH hS hl')
theorem Z_astore (pc' : Nat) (lv' : List (Nat × Value)) {i : Nat} {x : Nat} (hd : decode M.2.1 pc = .ok (.astore i, 2)) (hp : pc + 2 = pc') (hn : i < M.2.2.1) (h' : (i, Value.ref x) :: lv.filter (fun q => !(q.1 == i) && !(q.1 + 1 == i && q.2.category == 2)) = lv') (kk : Z G M E Qf l k j w pc' lv' st) : Z G M E Qf l k j w pc lv (.ref x :: st) := by
  subst hp
  intro p e s m args below meth c H locs ls hc hE hb hH hS hl
  exact lv_astore hc.1 hc.2.1 hd hl hn h' (fun ls' hl' => kk p e s m args below meth c H locs ls' hc hE hb hH hS hl')
theorem Z_dstore (pc' : Nat) (lv' : List (Nat × Value)) {i : Nat} {x : UInt64} (hd : decode M.2.1 pc = .ok (.dstore i, 2)) (hp : pc + 2 = pc') (hn : i + 1 < M.2.2.1) (h' : (i, Value.double x) :: lv.filter (fun q => !(q.1 == i) && (!(q.1 == i + 1) && !(q.1 + 1 == i && q.2.category == 2))) = lv') (kk : Z G M E Qf l k j w pc' lv' st) : Z G M E Qf l k j w pc lv (.double x :: st) := by
  subst hp
  intro p e s m args below meth c H locs ls hc hE hb hH hS hl
  exact lv_dstore hc.1 hc.2.1 hd hl hn h' (fun ls' hl' => kk p e s m args below meth c H locs ls' hc hE hb hH hS hl')
theorem Z_dstore_n (pc' : Nat) (lv' : List (Nat × Value)) {i : Fin 4} {x : UInt64} (hd : decode M.2.1 pc = .ok (.dstore_n i, 1)) (hp : pc + 1 = pc') (hn : (i : Nat) + 1 < M.2.2.1) (h' : ((i : Nat), Value.double x) :: lv.filter (fun q => !(q.1 == (i : Nat)) && (!(q.1 == (i : Nat) + 1) && !(q.1 + 1 == (i : Nat) && q.2.category == 2))) = lv') (kk : Z G M E Qf l k j w pc' lv' st) : Z G M E Qf l k j w pc lv (.double x :: st) := by
  subst hp
  intro p e s m args below meth c H locs ls hc hE hb hH hS hl
  exact lv_dstore_n hc.1 hc.2.1 hd rfl hl hn h' (fun ls' hl' => kk p e s m args below meth c H locs ls' hc hE hb hH hS hl')
theorem Z_iinc (pc' : Nat) (lv' : List (Nat × Value)) (q : Nat) (v : Int32) {i : Nat} {n : Int} {x : Int32} (hd : decode M.2.1 pc = .ok (.iinc i n, 3)) (hp : pc + 3 = pc') (hn : i < M.2.2.1) (hq : lv[q]? = some (i, .int x)) (hv : x + Int32.ofInt n = v) (h' : (i, Value.int v) :: lv.filter (fun q => !(q.1 == i) && !(q.1 + 1 == i && q.2.category == 2)) = lv') (kk : Z G M E Qf l k j w pc' lv' st) : Z G M E Qf l k j w pc lv st := by
  subst hp
  intro p e s m args below meth c H locs ls hc hE hb hH hS hl
  exact lv_iinc hc.1 hc.2.1 hd hl hq hv hn h' (fun ls' hl' => kk p e s m args below meth c H locs ls' hc hE hb hH hS hl')
theorem Z_iadd (pc' : Nat) {x y : Int32} (hd : decode M.2.1 pc = .ok (.iadd, 1)) (hp : pc + 1 = pc') (kk : Z G M E Qf l k j w pc' lv (.int (x + y) :: st)) : Z G M E Qf l k j w pc lv (.int y :: .int x :: st) := by
  subst hp
  intro p e s m args below meth c H locs ls hc hE hb hH hS hl
  exact lv_iadd hc.1 hc.2.1 hd (kk p e s m args below meth c H locs ls hc hE hb hH hS hl)
theorem Z_isub (pc' : Nat) {x y : Int32} (hd : decode M.2.1 pc = .ok (.isub, 1)) (hp : pc + 1 = pc') (kk : Z G M E Qf l k j w pc' lv (.int (x - y) :: st)) : Z G M E Qf l k j w pc lv (.int y :: .int x :: st) := by
  subst hp
  intro p e s m args below meth c H locs ls hc hE hb hH hS hl
  exact lv_isub hc.1 hc.2.1 hd (kk p e s m args below meth c H locs ls hc hE hb hH hS hl)
theorem Z_imul (pc' : Nat) {x y : Int32} (hd : decode M.2.1 pc = .ok (.imul, 1)) (hp : pc + 1 = pc') (kk : Z G M E Qf l k j w pc' lv (.int (x * y) :: st)) : Z G M E Qf l k j w pc lv (.int y :: .int x :: st) := by
  subst hp
  intro p e s m args below meth c H locs ls hc hE hb hH hS hl
  exact lv_imul hc.1 hc.2.1 hd (kk p e s m args below meth c H locs ls hc hE hb hH hS hl)
theorem Z_iand (pc' : Nat) {x y : Int32} (hd : decode M.2.1 pc = .ok (.iand, 1)) (hp : pc + 1 = pc') (kk : Z G M E Qf l k j w pc' lv (.int (x &&& y) :: st)) : Z G M E Qf l k j w pc lv (.int y :: .int x :: st) := by
  subst hp
  intro p e s m args below meth c H locs ls hc hE hb hH hS hl
  exact lv_iand hc.1 hc.2.1 hd (kk p e s m args below meth c H locs ls hc hE hb hH hS hl)
theorem Z_idiv (pc' : Nat) {x y : Int32} (hd : decode M.2.1 pc = .ok (.idiv, 1)) (hp : pc + 1 = pc') (hne : ¬ y = 0) (kk : Z G M E Qf l k j w pc' lv (.int (x / y) :: st)) : Z G M E Qf l k j w pc lv (.int y :: .int x :: st) := by
  subst hp
  intro p e s m args below meth c H locs ls hc hE hb hH hS hl
  exact lv_idiv hc.1 hc.2.1 hd hne (kk p e s m args below meth c H locs ls hc hE hb hH hS hl)
theorem Z_ineg (pc' : Nat) {x : Int32} (hd : decode M.2.1 pc = .ok (.ineg, 1)) (hp : pc + 1 = pc') (kk : Z G M E Qf l k j w pc' lv (.int (-x) :: st)) : Z G M E Qf l k j w pc lv (.int x :: st) := by
  subst hp
  intro p e s m args below meth c H locs ls hc hE hb hH hS hl
  exact lv_ineg hc.1 hc.2.1 hd (kk p e s m args below meth c H locs ls hc hE hb hH hS hl)
theorem Z_dup (pc' : Nat) {v : Value} (hd : decode M.2.1 pc = .ok (.dup, 1)) (hp : pc + 1 = pc') (hv : v.category = 1) (kk : Z G M E Qf l k j w pc' lv (v :: v :: st)) : Z G M E Qf l k j w pc lv (v :: st) := by
  subst hp
  intro p e s m args below meth c H locs ls hc hE hb hH hS hl
  exact lv_dup hc.1 hc.2.1 hd hv (kk p e s m args below meth c H locs ls hc hE hb hH hS hl)
theorem Z_dup2 (pc' : Nat) {v u : Value} (hd : decode M.2.1 pc = .ok (.dup2, 1)) (hp : pc + 1 = pc') (hv : v.category = 1) (hu : u.category = 1) (kk : Z G M E Qf l k j w pc' lv (v :: u :: v :: u :: st)) : Z G M E Qf l k j w pc lv (v :: u :: st) := by
  subst hp
  intro p e s m args below meth c H locs ls hc hE hb hH hS hl
  exact lv_dup2_11 hc.1 hc.2.1 hd hv hu (kk p e s m args below meth c H locs ls hc hE hb hH hS hl)
theorem Z_i2d (pc' : Nat) {x : Int32} (hd : decode M.2.1 pc = .ok (.i2d, 1)) (hp : pc + 1 = pc') (kk : Z G M E Qf l k j w pc' lv (.double (FP.i2d x) :: st)) : Z G M E Qf l k j w pc lv (.int x :: st) := by
  subst hp
  intro p e s m args below meth c H locs ls hc hE hb hH hS hl
  exact lv_i2d hc.1 hc.2.1 hd (kk p e s m args below meth c H locs ls hc hE hb hH hS hl)
theorem Z_ddiv (pc' : Nat) {x y : UInt64} (hd : decode M.2.1 pc = .ok (.ddiv, 1)) (hp : pc + 1 = pc') (hne : vf_n64 (FP.ddiv x y)) (kk : Z G M E Qf l k j w pc' lv (.double (FP.ddiv x y) :: st)) : Z G M E Qf l k j w pc lv (.double y :: .double x :: st) := by
  subst hp
  intro p e s m args below meth c H locs ls hc hE hb hH hS hl
  exact lv_ddiv hc.1 hc.2.1 hd hne (kk p e s m args below meth c H locs ls hc hE hb hH hS hl)
theorem Z_dcmp (pc' : Nat) {x y : UInt64} {op : CmpOp} (hd : decode M.2.1 pc = .ok (.dcmp op, 1)) (hp : pc + 1 = pc') (kk : Z G M E Qf l k j w pc' lv (.int (Op.cmpValue (FP.dcmp x y) op) :: st)) : Z G M E Qf l k j w pc lv (.double y :: .double x :: st) := by
  subst hp
  intro p e s m args below meth c H locs ls hc hE hb hH hS hl
  exact lv_dcmp hc.1 hc.2.1 hd (kk p e s m args below meth c H locs ls hc hE hb hH hS hl)
theorem Z_dconst0 (pc' : Nat)  (hd : decode M.2.1 pc = .ok (.dconst 0, 1)) (hp : pc + 1 = pc') (kk : Z G M E Qf l k j w pc' lv (.double FP.dconst0 :: st)) : Z G M E Qf l k j w pc lv st := by
  subst hp
  intro p e s m args below meth c H locs ls hc hE hb hH hS hl
  exact lv_dconst0 hc.1 hc.2.1 hd (kk p e s m args below meth c H locs ls hc hE hb hH hS hl)
theorem Z_dconst1 (pc' : Nat)  (hd : decode M.2.1 pc = .ok (.dconst 1, 1)) (hp : pc + 1 = pc') (kk : Z G M E Qf l k j w pc' lv (.double FP.dconst1 :: st)) : Z G M E Qf l k j w pc lv st := by
  subst hp
  intro p e s m args below meth c H locs ls hc hE hb hH hS hl
  exact lv_dconst1 hc.1 hc.2.1 hd (kk p e s m args below meth c H locs ls hc hE hb hH hS hl)
theorem Z_if_eq (pc' tgt : Nat) {x : Int32} {off : Int} (hd : decode M.2.1 pc = .ok (.ifCond .eq off, 3)) (hp : pc + 3 = pc') (ht : (pc : Int) + off = (tgt : Int)) (kt : x = 0 → Z G M E Qf l k j w tgt lv st) (kf : ¬ (x = 0) → Z G M E Qf l k j w pc' lv st) : Z G M E Qf l k j w pc lv (.int x :: st) := by
  subst hp
  intro p e s m args below meth c H locs ls hc hE hb hH hS hl
  exact lv_if_eq hc.1 hc.2.1 hd ht (fun h => kt h p e s m args below meth c H locs ls hc hE hb hH hS hl) (fun h => kf (by simpa using h) p e s m args below meth c H locs ls hc hE hb hH hS hl)
theorem Z_if_ne (pc' tgt : Nat) {x : Int32} {off : Int} (hd : decode M.2.1 pc = .ok (.ifCond .ne off, 3)) (hp : pc + 3 = pc') (ht : (pc : Int) + off = (tgt : Int)) (kt : ¬ x = 0 → Z G M E Qf l k j w tgt lv st) (kf : ¬ (¬ x = 0) → Z G M E Qf l k j w pc' lv st) : Z G M E Qf l k j w pc lv (.int x :: st) := by
  subst hp
  intro p e s m args below meth c H locs ls hc hE hb hH hS hl
  exact lv_if_ne hc.1 hc.2.1 hd ht (fun h => kt h p e s m args below meth c H locs ls hc hE hb hH hS hl) (fun h => kf (by simpa using h) p e s m args below meth c H locs ls hc hE hb hH hS hl)
theorem Z_if_lt (pc' tgt : Nat) {x : Int32} {off : Int} (hd : decode M.2.1 pc = .ok (.ifCond .lt off, 3)) (hp : pc + 3 = pc') (ht : (pc : Int) + off = (tgt : Int)) (kt : x < 0 → Z G M E Qf l k j w tgt lv st) (kf : ¬ (x < 0) → Z G M E Qf l k j w pc' lv st) : Z G M E Qf l k j w pc lv (.int x :: st) := by
  subst hp
  intro p e s m args below meth c H locs ls hc hE hb hH hS hl
  exact lv_if_lt hc.1 hc.2.1 hd ht (fun h => kt h p e s m args below meth c H locs ls hc hE hb hH hS hl) (fun h => kf (by simpa using h) p e s m args below meth c H locs ls hc hE hb hH hS hl)
theorem Z_if_ge (pc' tgt : Nat) {x : Int32} {off : Int} (hd : decode M.2.1 pc = .ok (.ifCond .ge off, 3)) (hp : pc + 3 = pc') (ht : (pc : Int) + off = (tgt : Int)) (kt : 0 ≤ x → Z G M E Qf l k j w tgt lv st) (kf : ¬ (0 ≤ x) → Z G M E Qf l k j w pc' lv st) : Z G M E Qf l k j w pc lv (.int x :: st) := by
  subst hp
  intro p e s m args below meth c H locs ls hc hE hb hH hS hl
  exact lv_if_ge hc.1 hc.2.1 hd ht (fun h => kt h p e s m args below meth c H locs ls hc hE hb hH hS hl) (fun h => kf (by simpa using h) p e s m args below meth c H locs ls hc hE hb hH hS hl)
theorem Z_if_gt (pc' tgt : Nat) {x : Int32} {off : Int} (hd : decode M.2.1 pc = .ok (.ifCond .gt off, 3)) (hp : pc + 3 = pc') (ht : (pc : Int) + off = (tgt : Int)) (kt : 0 < x → Z G M E Qf l k j w tgt lv st) (kf : ¬ (0 < x) → Z G M E Qf l k j w pc' lv st) : Z G M E Qf l k j w pc lv (.int x :: st) := by
  subst hp
  intro p e s m args below meth c H locs ls hc hE hb hH hS hl
  exact lv_if_gt hc.1 hc.2.1 hd ht (fun h => kt h p e s m args below meth c H locs ls hc hE hb hH hS hl) (fun h => kf (by simpa using h) p e s m args below meth c H locs ls hc hE hb hH hS hl)
theorem Z_if_le (pc' tgt : Nat) {x : Int32} {off : Int} (hd : decode M.2.1 pc = .ok (.ifCond .le off, 3)) (hp : pc + 3 = pc') (ht : (pc : Int) + off = (tgt : Int)) (kt : x ≤ 0 → Z G M E Qf l k j w tgt lv st) (kf : ¬ (x ≤ 0) → Z G M E Qf l k j w pc' lv st) : Z G M E Qf l k j w pc lv (.int x :: st) := by
  subst hp
  intro p e s m args below meth c H locs ls hc hE hb hH hS hl
  exact lv_if_le hc.1 hc.2.1 hd ht (fun h => kt h p e s m args below meth c H locs ls hc hE hb hH hS hl) (fun h => kf (by simpa using h) p e s m args below meth c H locs ls hc hE hb hH hS hl)
theorem Z_icmp_eq (pc' tgt : Nat) {x y : Int32} {off : Int} (hd : decode M.2.1 pc = .ok (.if_icmp .eq off, 3)) (hp : pc + 3 = pc') (ht : (pc : Int) + off = (tgt : Int)) (kt : x = y → Z G M E Qf l k j w tgt lv st) (kf : ¬ (x = y) → Z G M E Qf l k j w pc' lv st) : Z G M E Qf l k j w pc lv (.int y :: .int x :: st) := by
  subst hp
  intro p e s m args below meth c H locs ls hc hE hb hH hS hl
  exact lv_icmp_eq hc.1 hc.2.1 hd ht (fun h => kt h p e s m args below meth c H locs ls hc hE hb hH hS hl) (fun h => kf (by simpa using h) p e s m args below meth c H locs ls hc hE hb hH hS hl)
theorem Z_icmp_ne (pc' tgt : Nat) {x y : Int32} {off : Int} (hd : decode M.2.1 pc = .ok (.if_icmp .ne off, 3)) (hp : pc + 3 = pc') (ht : (pc : Int) + off = (tgt : Int)) (kt : ¬ x = y → Z G M E Qf l k j w tgt lv st) (kf : ¬ (¬ x = y) → Z G M E Qf l k j w pc' lv st) : Z G M E Qf l k j w pc lv (.int y :: .int x :: st) := by
  subst hp
  intro p e s m args below meth c H locs ls hc hE hb hH hS hl
  exact lv_icmp_ne hc.1 hc.2.1 hd ht (fun h => kt h p e s m args below meth c H locs ls hc hE hb hH hS hl) (fun h => kf (by simpa using h) p e s m args below meth c H locs ls hc hE hb hH hS hl)
theorem Z_icmp_lt (pc' tgt : Nat) {x y : Int32} {off : Int} (hd : decode M.2.1 pc = .ok (.if_icmp .lt off, 3)) (hp : pc + 3 = pc') (ht : (pc : Int) + off = (tgt : Int)) (kt : x < y → Z G M E Qf l k j w tgt lv st) (kf : ¬ (x < y) → Z G M E Qf l k j w pc' lv st) : Z G M E Qf l k j w pc lv (.int y :: .int x :: st) := by
  subst hp
  intro p e s m args below meth c H locs ls hc hE hb hH hS hl
  exact lv_icmp_lt hc.1 hc.2.1 hd ht (fun h => kt h p e s m args below meth c H locs ls hc hE hb hH hS hl) (fun h => kf (by simpa using h) p e s m args below meth c H locs ls hc hE hb hH hS hl)
theorem Z_icmp_ge (pc' tgt : Nat) {x y : Int32} {off : Int} (hd : decode M.2.1 pc = .ok (.if_icmp .ge off, 3)) (hp : pc + 3 = pc') (ht : (pc : Int) + off = (tgt : Int)) (kt : y ≤ x → Z G M E Qf l k j w tgt lv st) (kf : ¬ (y ≤ x) → Z G M E Qf l k j w pc' lv st) : Z G M E Qf l k j w pc lv (.int y :: .int x :: st) := by
  subst hp
  intro p e s m args below meth c H locs ls hc hE hb hH hS hl
  exact lv_icmp_ge hc.1 hc.2.1 hd ht (fun h => kt h p e s m args below meth c H locs ls hc hE hb hH hS hl) (fun h => kf (by simpa using h) p e s m args below meth c H locs ls hc hE hb hH hS hl)
theorem Z_icmp_gt (pc' tgt : Nat) {x y : Int32} {off : Int} (hd : decode M.2.1 pc = .ok (.if_icmp .gt off, 3)) (hp : pc + 3 = pc') (ht : (pc : Int) + off = (tgt : Int)) (kt : y < x → Z G M E Qf l k j w tgt lv st) (kf : ¬ (y < x) → Z G M E Qf l k j w pc' lv st) : Z G M E Qf l k j w pc lv (.int y :: .int x :: st) := by
  subst hp
  intro p e s m args below meth c H locs ls hc hE hb hH hS hl
  exact lv_icmp_gt hc.1 hc.2.1 hd ht (fun h => kt h p e s m args below meth c H locs ls hc hE hb hH hS hl) (fun h => kf (by simpa using h) p e s m args below meth c H locs ls hc hE hb hH hS hl)
theorem Z_icmp_le (pc' tgt : Nat) {x y : Int32} {off : Int} (hd : decode M.2.1 pc = .ok (.if_icmp .le off, 3)) (hp : pc + 3 = pc') (ht : (pc : Int) + off = (tgt : Int)) (kt : x ≤ y → Z G M E Qf l k j w tgt lv st) (kf : ¬ (x ≤ y) → Z G M E Qf l k j w pc' lv st) : Z G M E Qf l k j w pc lv (.int y :: .int x :: st) := by
  subst hp
  intro p e s m args below meth c H locs ls hc hE hb hH hS hl
  exact lv_icmp_le hc.1 hc.2.1 hd ht (fun h => kt h p e s m args below meth c H locs ls hc hE hb hH hS hl) (fun h => kf (by simpa using h) p e s m args below meth c H locs ls hc hE hb hH hS hl)
theorem Z_goto (tgt : Nat) {off : Int} (hd : decode M.2.1 pc = .ok (.goto off, 3)) (ht : (pc : Int) + off = (tgt : Int)) (kk : Z G M E Qf l k j w tgt lv st) : Z G M E Qf l k j w pc lv st := by
  intro p e s m args below meth c H locs ls hc hE hb hH hS hl
  exact lv_goto hc.1 hc.2.1 hd ht (kk p e s m args below meth c H locs ls hc hE hb hH hS hl)
theorem Z_tabIn (tgt : Nat) {dflt lo hi : Int} {offs : Array Int} {len : Nat} {x : Int32} {off : Int} (hd : decode M.2.1 pc = .ok (.tableswitch dflt lo hi offs, len)) (h1 : ¬ x.toInt < lo) (h2 : ¬ hi < x.toInt) (ho : offs[(x.toInt - lo).toNat]? = some off) (ht : (pc : Int) + off = (tgt : Int)) (kk : Z G M E Qf l k j w tgt lv st) : Z G M E Qf l k j w pc lv (.int x :: st) := by
  intro p e s m args below meth c H locs ls hc hE hb hH hS hl
  exact lv_tableIn hc.1 hc.2.1 hd h1 h2 ho ht (kk p e s m args below meth c H locs ls hc hE hb hH hS hl)
theorem Z_tabOut (tgt : Nat) {dflt lo hi : Int} {offs : Array Int} {len : Nat} {x : Int32} (hd : decode M.2.1 pc = .ok (.tableswitch dflt lo hi offs, len)) (h : x.toInt < lo ∨ hi < x.toInt) (ht : (pc : Int) + dflt = (tgt : Int)) (kk : Z G M E Qf l k j w tgt lv st) : Z G M E Qf l k j w pc lv (.int x :: st) := by
  intro p e s m args below meth c H locs ls hc hE hb hH hS hl
  exact lv_tableOut hc.1 hc.2.1 hd h ht (kk p e s m args below meth c H locs ls hc hE hb hH hS hl)
theorem Z_look (tgt : Nat) {dflt : Int} {ps : Array (Int × Int)} {len : Nat} {x : Int32} {off : Int} (hd : decode M.2.1 pc = .ok (.lookupswitch dflt ps, len)) (hs : (ps.toList.zip (ps.toList.drop 1)).all (fun (a, next) => a.1 < next.1) = true) (ho : Op.lookupswitch.offset ps.toList dflt x.toInt = off) (ht : (pc : Int) + off = (tgt : Int)) (kk : Z G M E Qf l k j w tgt lv st) : Z G M E Qf l k j w pc lv (.int x :: st) := by
  intro p e s m args below meth c H locs ls hc hE hb hH hS hl
  exact lv_lookup hc.1 hc.2.1 hd hs ho ht (kk p e s m args below meth c H locs ls hc hE hb hH hS hl)
/-- what a pool entry of a class names: the field k of the class at place ci -/
def zF (own : String) (idx ci k : Nat) : Prop := ∃ (C : String) (T : u_T) (N : Nat) (ty : Nat → FieldType), vwCl[ci]? = some (C, T, N) ∧ k < N ∧ Cond.fieldLink own idx (T k).1 (T k).2.1 (T k).2.2.1 ∈ lw_ok ∧ (∀ w ∈ u_ws C T N, w ∈ lw_ok) ∧ (∀ q, q < N → parseFieldDescriptor (T q).2.2.1 = some (ty q)) ∧ (∀ a, a < N → ∀ b, b < N → a ≠ b → (T a).2.1 ≠ (T b).2.1)
def zFt (ci k : Nat) (f : (String × String × String × Bool) → Prop) : Prop := ∀ r : vw_C, vwCl[ci]? = some r → f (r.2.1 k)
theorem Z_getI (pc' : Nat) {n9 : Nat} {sh : Nat → zK} {mm : zM} {idx ci q a : Nat} {rs : List (Option (Option Nat))} (hd : decode M.2.1 pc = .ok (.getfield idx, 3)) (hp : pc + 3 = pc') (hf : zF M.1 idx ci q) (ha : a < n9) (hs : sh a = .inr (.inr (ci, rs))) (hr : rs[q]? = some none) (kk : Z G M E Qf l k j (n9, sh, mm) pc' lv (.int (mm a q) :: st)) : Z G M E Qf l k j (n9, sh, mm) pc lv (.ref (G.1 + a) :: st) := by
  subst hp
  intro p e s m args below meth c H locs ls hc hE hb hH hS hl
  obtain ⟨C, T, N, ty, f1, f2, f3, f4, f5, f6⟩ := hf
  exact va_get hc.1 hc.2.1 hc.2.2.2.2.1 f4 hc.2.2.2.1 hH.2.1 hH.1 a (by rw [zws_at (w := (n9, sh, mm)) ha, zcell_o (w := (n9, sh, mm)) hs]) f1 q f2 (hc.2.2.2.2.1 _ f3) (fun _ h => h) (by rw [flds_int rs 0 q hr, Nat.zero_add]) hd (kk p e s m args below meth c H locs ls hc hE hb hH hS hl)
theorem Z_getR (pc' : Nat) {n9 : Nat} {sh : Nat → zK} {mm : zM} {idx ci q a : Nat} {r : Nat} {rs : List (Option (Option Nat))} (hd : decode M.2.1 pc = .ok (.getfield idx, 3)) (hp : pc + 3 = pc') (hf : zF M.1 idx ci q) (ha : a < n9) (hs : sh a = .inr (.inr (ci, rs))) (hr : rs[q]? = some (some (some r))) (kk : Z G M E Qf l k j (n9, sh, mm) pc' lv (.ref (G.1 + r) :: st)) : Z G M E Qf l k j (n9, sh, mm) pc lv (.ref (G.1 + a) :: st) := by
  subst hp
  intro p e s m args below meth c H locs ls hc hE hb hH hS hl
  obtain ⟨C, T, N, ty, f1, f2, f3, f4, f5, f6⟩ := hf
  exact va_get hc.1 hc.2.1 hc.2.2.2.2.1 f4 hc.2.2.2.1 hH.2.1 hH.1 a (by rw [zws_at (w := (n9, sh, mm)) ha, zcell_o (w := (n9, sh, mm)) hs]) f1 q f2 (hc.2.2.2.2.1 _ f3) (fun _ h => h) (flds_ref rs 0 q hr) hd (kk p e s m args below meth c H locs ls hc hE hb hH hS hl)
theorem Z_putI (pc' : Nat) {n9 : Nat} {sh : Nat → zK} {mm : zM} (ft : FieldType) {idx ci q a : Nat} {v : Int32} {rs : List (Option (Option Nat))} (hd : decode M.2.1 pc = .ok (.putfield idx, 3)) (hp : pc + 3 = pc') (hf : zF M.1 idx ci q) (hft : zFt ci q (fun f => f.2.2.2 = false ∧ parseFieldDescriptor f.2.2.1 = some ft)) (ha : a < n9) (hs : sh a = .inr (.inr (ci, rs))) (hr : rs[q]? = some none) (hn : narrow ft (.int v) = .int v) (hfit : fits ft (.int v) = true) (kk : Z G M E Qf l k j (n9, sh, up2 mm a q v) pc' lv st) : Z G M E Qf l k j (n9, sh, mm) pc lv (.int v :: .ref (G.1 + a) :: st) := by
  subst hp
  intro p e s m args below meth c H locs ls hc hE hb hH hS hl
  obtain ⟨C, T, N, ty, f1, f2, f3, f4, f5, f6⟩ := hf
  have g := hft _ f1
  have hts := hc.2.2.2.2.1
  have he : (zws G (n9, sh, mm))[a]? = some (G.1 + a, .inr (ci, flds G.1 (mm a) 0 rs)) := by rw [zws_at (w := (n9, sh, mm)) ha, zcell_o (w := (n9, sh, mm)) hs]
  have hap := va_apart (own := M.1) hts f4 ty f5 f6 hH.2.1 f1
  obtain ⟨r9, h1, cell, q1, q2, q3, q4⟩ := hH.1 a _ he
  have hr9 : r9 = (C, T, N) := Option.some.inj (h1.symm.trans f1)
  subst hr9
  obtain ⟨hSl, hfc, kC, hkC, hkind⟩ := hH.2.1.1 ci _ f1
  obtain ⟨cf, kf, fi, f, hi, hsl⟩ := hSl q f2
  have hlay := hts _ (f4 _ (u_in_lay f2))
  unfold u_lay at hlay
  rw [if_neg (by rw [g.1]; decide)] at hlay
  have hst := (u_facts hfc hkC (u_lays hts f4 f2) hi).1
  have h6 := u_store hfc hkC hkind hlay hi g.2 hn hfit
  refine W.putK hc.1 hc.2.1 (f := f) ⟨hc.2.2.2.1, hts _ f3, ⟨_, _, _, hi⟩, hst⟩ (by rw [q2]; exact h6) q1 q3 (by rw [hsl]; exact k2_hasslot (q4 q f2)) rfl rfl hd fun H' e1 e2 e3 => ?_
  rw [hsl] at e1 ⊢
  have hlt : q < (flds G.1 (mm a) 0 rs).length := by rw [flds_len]; exact (List.getElem?_eq_some_iff.mp hr).1
  have hP1 : va_P G.2.1 vwCl ((zws G (n9, sh, mm)).set a (G.1 + a, .inr (ci, (flds G.1 (mm a) 0 rs).set q (.int v)))) H' := hH.1.set zws_D he ⟨_, f1, t_OB.to (V := updV (vp_V (flds G.1 (mm a) 0 rs)) q (.int v)) ⟨_, e1, q2, q3, t_set q4 hap f2 _⟩ (fun j _ => vp_updV_set hlt _ j)⟩ e3
  refine kk p e s m args below meth c H' _ ls hc hE hb ⟨?_, hH.2.1, e2.trans hH.2.2⟩ (hS.put e2 e3 (Nat.le_add_right _ _)) hl
  rw [flds_set rs 0 q hr] at hP1
  rw [zws_set (G := G) (w := (n9, sh, mm)) (w' := (n9, sh, up2 mm a q v)) rfl ((zcell_o (w := (n9, sh, up2 mm a q v)) hs).trans ?_) ?_] at hP1
  · exact hP1
  · congr 2
    congr 1
    funext z
    simp [up2]
  · intro q9 hq9
    exact zcell_same rfl (up2_na _ _ _ hq9)
theorem Z_putR (pc' : Nat) {n9 : Nat} {sh : Nat → zK} {mm : zM} (ft : FieldType) {idx ci q a r : Nat} {y : Option Nat} {rs : List (Option (Option Nat))} (hd : decode M.2.1 pc = .ok (.putfield idx, 3)) (hp : pc + 3 = pc') (hf : zF M.1 idx ci q) (hft : zFt ci q (fun f => f.1 = M.1 ∧ f.2.2.2 = true ∧ parseFieldDescriptor f.2.2.1 = some ft)) (hin : M.2.2.2.2.1 = "<init>") (ha : a < n9) (hs : sh a = .inr (.inr (ci, rs))) (hr : rs[q]? = some (some y)) (hn : ∀ z, narrow ft (.ref z) = .ref z) (hfit : ∀ z, fits ft (.ref z) = true) (kk : Z G M E Qf l k j (n9, (fun a9 => if a9 = a then .inr (.inr (ci, rs.set q (some (some r)))) else sh a9), mm) pc' lv st) : Z G M E Qf l k j (n9, sh, mm) pc lv (.ref (G.1 + r) :: .ref (G.1 + a) :: st) := by
  subst hp
  intro p e s m args below meth c H locs ls hc hE hb hH hS hl
  obtain ⟨C, T, N, ty, f1, f2, f3, f4, f5, f6⟩ := hf
  have g := hft _ f1
  have hts := hc.2.2.2.2.1
  have he : (zws G (n9, sh, mm))[a]? = some (G.1 + a, .inr (ci, flds G.1 (mm a) 0 rs)) := by rw [zws_at (w := (n9, sh, mm)) ha, zcell_o (w := (n9, sh, mm)) hs]
  have hap := va_apart (own := M.1) hts f4 ty f5 f6 hH.2.1 f1
  obtain ⟨r9, h1, cell, q1, q2, q3, q4⟩ := hH.1 a _ he
  have hr9 : r9 = (C, T, N) := Option.some.inj (h1.symm.trans f1)
  subst hr9
  obtain ⟨hSl, hfc, kC, hkC, hkind⟩ := hH.2.1.1 ci _ f1
  obtain ⟨cf, kf, fi, f, hi, hsl⟩ := hSl q f2
  have hlay := hts _ (f4 _ (u_in_lay f2))
  unfold u_lay at hlay
  rw [if_pos g.2.1] at hlay
  have hst := (u_facts hfc hkC (u_lays hts f4 f2) hi).1
  have hcf : m.cls = cf := by
    obtain ⟨_, _, c', _, _, _, -, -, hf', -, -, -, hown2, -⟩ := Cond.laysFinal_spec hlay
    have e1 : c' = cf := by have := hi.symm.trans hf'; simp at this; exact this.1.symm
    rw [g.1] at hown2
    rw [← e1]
    exact Option.some.inj (hc.2.2.2.1.symm.trans hown2)
  have h6 := u_fits hfc hkC hkind (Or.inr hlay) hi g.2.2 (hn (G.1 + r)) (hfit (G.1 + r))
  have hnm : meth.name = "<init>" := by
    rcases hc.2.2.2.2.2.2.2.1 with h | h
    · rw [hin] at h
      exact absurd h (by decide)
    · rw [h, hin]
  refine W.putFinK hc.1 hc.2.1 hc.2.2.2.1 (hts _ f3) hi hst hcf hnm (by rw [q2]; exact h6) q1 q3 (by rw [hsl]; exact k2_hasslot (q4 q f2)) rfl rfl hd fun H' e1 e2 e3 => ?_
  rw [hsl] at e1 ⊢
  have hlt : q < (flds G.1 (mm a) 0 rs).length := by rw [flds_len]; exact (List.getElem?_eq_some_iff.mp hr).1
  have hP1 : va_P G.2.1 vwCl ((zws G (n9, sh, mm)).set a (G.1 + a, .inr (ci, (flds G.1 (mm a) 0 rs).set q (.ref (G.1 + r))))) H' := hH.1.set zws_D he ⟨_, f1, t_OB.to (V := updV (vp_V (flds G.1 (mm a) 0 rs)) q (.ref (G.1 + r))) ⟨_, e1, q2, q3, t_set q4 hap f2 _⟩ (fun j _ => vp_updV_set hlt _ j)⟩ e3
  refine kk p e s m args below meth c H' _ ls hc hE hb ⟨?_, hH.2.1, e2.trans hH.2.2⟩ (hS.put e2 e3 (Nat.le_add_right _ _)) hl
  rw [show (Value.ref (G.1 + r)) = zr G.1 (some r) from rfl, flds_setr rs 0 q hr] at hP1
  rw [zws_set (G := G) (w := (n9, sh, mm)) (w' := (n9, (fun a9 => if a9 = a then .inr (.inr (ci, rs.set q (some (some r)))) else sh a9), mm)) rfl (zcell_o (by simp)) ?_] at hP1
  · exact hP1
  · intro q9 hq9
    exact zcell_same (by simp [hq9]) rfl
theorem vp_inN {jj n : Nat} (h : jj < n) (hn : n < 2 ^ 31) : vp_in (nI jj) n := by
  unfold vp_in
  rw [nI_clamp (by omega)]
  have h2 := nI_pos (n := jj) (by omega)
  intro h3
  rcases h3 with h3 | h3
  · exact h2 h3
  · omega
theorem Z_iald (pc' : Nat) {n9 : Nat} {sh : Nat → zK} {mm : zM} {a n : Nat} {i : Int32} (hd : decode M.2.1 pc = .ok (.iaload, 1)) (hp : pc + 1 = pc') (ha : a < n9) (hs : sh a = .inl n) (hin : vp_in i n) (kk : Z G M E Qf l k j (n9, sh, mm) pc' lv (.int (mm a i.toNatClampNeg) :: st)) : Z G M E Qf l k j (n9, sh, mm) pc lv (.int i :: .ref (G.1 + a) :: st) := by
  subst hp
  intro p e s m args below meth c H locs ls hc hE hb hH hS hl
  exact va_iald hc.1 hc.2.1 hH.2.1 hH.1 a 0 (by rw [zws_at (w := (n9, sh, mm)) ha, zcell_i (w := (n9, sh, mm)) hs]) rfl hin hd (kk p e s m args below meth c H locs ls hc hE hb hH hS hl)
theorem Z_ialn (pc' : Nat) {n9 : Nat} {sh : Nat → zK} {mm : zM} {a n jj : Nat} (hd : decode M.2.1 pc = .ok (.iaload, 1)) (hp : pc + 1 = pc') (ha : a < n9) (hs : sh a = .inl n) (hj : jj < n) (hn : n < 2 ^ 31) (kk : Z G M E Qf l k j (n9, sh, mm) pc' lv (.int (mm a jj) :: st)) : Z G M E Qf l k j (n9, sh, mm) pc lv (.int (nI jj) :: .ref (G.1 + a) :: st) := by
  refine Z_iald pc' hd hp ha hs (vp_inN hj hn) ?_
  rw [nI_clamp (by omega)]
  exact kk
theorem Z_iast (pc' : Nat) {n9 : Nat} {sh : Nat → zK} {mm : zM} {a n : Nat} {i v : Int32} (hd : decode M.2.1 pc = .ok (.iastore, 1)) (hp : pc + 1 = pc') (ha : a < n9) (hs : sh a = .inl n) (hin : vp_in i n) (kk : Z G M E Qf l k j (n9, sh, up2 mm a i.toNatClampNeg v) pc' lv st) : Z G M E Qf l k j (n9, sh, mm) pc lv (.int v :: .int i :: .ref (G.1 + a) :: st) := by
  subst hp
  intro p e s m args below meth c H locs ls hc hE hb hH hS hl
  have he : (zws G (n9, sh, mm))[a]? = some (G.1 + a, .inl (G.2.2.1, n, .inl (mm a))) := by rw [zws_at (w := (n9, sh, mm)) ha, zcell_i (w := (n9, sh, mm)) hs]
  refine W.iast hc.1 hc.2.1 (hH.1 a _ he) ((hH.2.1.2 0 _ rfl).1 n (fun j => .int (mm a j))) (fun q => by cases q) (by show ¬ (i < 0 ∨ (arrV _ _ _).slots.size ≤ _); rw [arrV_size]; exact hin) rfl rfl hd fun H1 e9 z oq => ?_
  have hP1 : va_P G.2.1 vwCl ((zws G (n9, sh, mm)).set a (G.1 + a, .inl (G.2.2.1, n, .inl (upd (mm a) i.toNatClampNeg v)))) H1 := by
    refine hH.1.set zws_D he ?_ oq
    show H1[G.1 + a]? = some (vp_cell _ _)
    rw [e9]
    rw [vp_cell_i, vp_cell_i, arrV_store]
    congr 2
    funext q
    by_cases hq : q = i.toNatClampNeg
    · subst hq
      simp [updV, upd]
    · simp [updV, upd, hq]
  refine kk p e s m args below meth c H1 _ ls hc hE hb ⟨?_, hH.2.1, z.trans hH.2.2⟩ (hS.put z oq (Nat.le_add_right _ _)) hl
  rw [zws_set (G := G) (w := (n9, sh, mm)) (w' := (n9, sh, up2 mm a i.toNatClampNeg v)) rfl ((zcell_i (w := (n9, sh, up2 mm a i.toNatClampNeg v)) hs).trans ?_) ?_] at hP1
  · exact hP1
  · refine congrArg (fun f => (Sum.inl (G.2.2.1, n, Sum.inl f) : va_E)) ?_
    funext z
    show up2 mm a i.toNatClampNeg v a z = _
    simp [up2, upd]
  · intro q9 hq9
    exact zcell_same rfl (up2_na _ _ _ hq9)
theorem Z_iasn (pc' : Nat) {n9 : Nat} {sh : Nat → zK} {mm : zM} {a n jj : Nat} {v : Int32} (hd : decode M.2.1 pc = .ok (.iastore, 1)) (hp : pc + 1 = pc') (ha : a < n9) (hs : sh a = .inl n) (hj : jj < n) (hn : n < 2 ^ 31) (kk : Z G M E Qf l k j (n9, sh, up2 mm a jj v) pc' lv st) : Z G M E Qf l k j (n9, sh, mm) pc lv (.int v :: .int (nI jj) :: .ref (G.1 + a) :: st) := by
  refine Z_iast pc' hd hp ha hs (vp_inN hj hn) ?_
  rw [nI_clamp (by omega)]
  exact kk
theorem Z_aaln (pc' : Nat) {n9 : Nat} {sh : Nat → zK} {mm : zM} {a n jj r : Nat} {y : Bool} {f : Nat → Option Nat} (hd : decode M.2.1 pc = .ok (.aaload, 1)) (hp : pc + 1 = pc') (ha : a < n9) (hs : sh a = .inr (.inl (y, n, f))) (hj : jj < n) (hn : n < 2 ^ 31) (hf : f jj = some r) (kk : Z G M E Qf l k j (n9, sh, mm) pc' lv (.ref (G.1 + r) :: st)) : Z G M E Qf l k j (n9, sh, mm) pc lv (.int (nI jj) :: .ref (G.1 + a) :: st) := by
  subst hp
  intro p e s m args below meth c H locs ls hc hE hb hH hS hl
  have he : (zws G (n9, sh, mm))[a]? = some (G.1 + a, .inl (if y then G.2.2.2.2 else G.2.2.2.1, n, .inr (.inr (.inr (.inr (fun j => (f j).map (fun q => G.1 + q))))))) := by rw [zws_at (w := (n9, sh, mm)) ha, zcell_r (w := (n9, sh, mm)) hs]
  have hcl : (nI jj).toNatClampNeg = jj := nI_clamp (by omega)
  have hv : va_rf ((f jj).map (fun q => G.1 + q)) = Value.ref (G.1 + r) := by rw [hf]; rfl
  cases y with
  | false => exact W.aald (v := .ref (G.1 + r)) (ty := .object RX1) hc.1 hc.2.1 (hH.1 a _ he) ((hH.2.1.2 1 _ rfl).1 n (fun j => va_rf ((f j).map (fun q => G.1 + q)))) rfl (fun q => by cases q) (by show ¬ (nI jj < 0 ∨ (arrV _ _ _).slots.size ≤ _); rw [arrV_size]; exact vp_inN hj hn) (by show (arrV _ _ _).slots[_]? = _; rw [hcl, arrV_read _ _ hj, hv]) rfl rfl hd (kk p e s m args below meth c H locs ls hc hE hb hH hS hl)
  | true => exact W.aald (v := .ref (G.1 + r)) (ty := .array .int) hc.1 hc.2.1 (hH.1 a _ he) ((hH.2.1.2 2 _ rfl).1 n (fun j => va_rf ((f j).map (fun q => G.1 + q)))) rfl (fun q => by cases q) (by show ¬ (nI jj < 0 ∨ (arrV _ _ _).slots.size ≤ _); rw [arrV_size]; exact vp_inN hj hn) (by show (arrV _ _ _).slots[_]? = _; rw [hcl, arrV_read _ _ hj, hv]) rfl rfl hd (kk p e s m args below meth c H locs ls hc hE hb hH hS hl)
theorem Z_aasn (pc' : Nat) {n9 : Nat} {sh : Nat → zK} {mm : zM} {a n jj r : Nat} {f : Nat → Option Nat} {rs : List (Option (Option Nat))} (hd : decode M.2.1 pc = .ok (.aastore, 1)) (hp : pc + 1 = pc') (ha : a < n9) (hs : sh a = .inr (.inl (false, n, f))) (hj : jj < n) (hn : n < 2 ^ 31) (hra : r < n9) (hrs : sh r = .inr (.inr (1, rs))) (kk : Z G M E Qf l k j (n9, (fun a9 => if a9 = a then .inr (.inl (false, n, fun j9 => if j9 = jj then some r else f j9)) else sh a9), mm) pc' lv st) : Z G M E Qf l k j (n9, sh, mm) pc lv (.ref (G.1 + r) :: .int (nI jj) :: .ref (G.1 + a) :: st) := by
  subst hp
  intro p e s m args below meth c H locs ls hc hE hb hH hS hl
  have he : (zws G (n9, sh, mm))[a]? = some (G.1 + a, .inl (G.2.2.2.1, n, .inr (.inr (.inr (.inr (fun j => (f j).map (fun q => G.1 + q))))))) := by rw [zws_at (w := (n9, sh, mm)) ha, zcell_r (w := (n9, sh, mm)) hs]; rfl
  have hv : (zws G (n9, sh, mm))[r]? = some (G.1 + r, .inr (1, flds G.1 (mm r) 0 rs)) := by rw [zws_at (w := (n9, sh, mm)) hra, zcell_o (w := (n9, sh, mm)) hrs]
  have hcl : (nI jj).toNatClampNeg = jj := nI_clamp (by omega)
  have h0 : ¬ nI jj < 0 := nI_pos (by omega)
  obtain ⟨r', hr', cellV, g1, g2, g3, -⟩ := hH.1 r _ hv
  have hcls := (hH.2.1.1 1 _ (rfl : vwCl[1]? = some (RX1, TX1, 14))).2
  obtain ⟨kA, comp, k1, k2, k3, -⟩ := (hH.2.1.2 1 _ rfl).2
  have hcomp : comp = G.2.1.1 1 := Option.some.inj (k3.symm.trans hcls.1)
  subst hcomp
  obtain ⟨kC, hkC, -⟩ := hcls.2
  refine W.aast hc.1 hc.2.1 (hH.1 a _ he) (fun q h => by cases h) (fun h => by cases h) k1 k2 rfl hkC ⟨h0, by show _ < (arrV _ _ _).slots.size; rw [arrV_size, hcl]; exact hj⟩ g1 (fun q h => by rw [g3] at h; cases h) (by rw [g2]; exact hkC) (by rw [g2]; exact va_assign hcls) rfl rfl hd fun H1 e9 z oq => ?_
  have hP1 : va_P G.2.1 vwCl ((zws G (n9, sh, mm)).set a (G.1 + a, .inl (G.2.2.2.1, n, .inr (.inr (.inr (.inr (fun j => (if j = jj then some r else f j).map (fun q => G.1 + q)))))))) H1 := by
    refine hH.1.set zws_D he ?_ oq
    show H1[G.1 + a]? = some (vp_cell _ _)
    rw [e9]
    rw [vp_cell_q, vp_cell_q, arrV_store, hcl]
    congr 2
    funext q
    by_cases hq : q = jj
    · subst hq
      simp [updV, va_rf]
    · simp [updV, hq]
  refine kk p e s m args below meth c H1 _ ls hc hE hb ⟨?_, hH.2.1, z.trans hH.2.2⟩ (hS.put z oq (Nat.le_add_right _ _)) hl
  have hz : zcell G (n9, (fun a9 => if a9 = a then .inr (.inl (false, n, fun j9 => if j9 = jj then some r else f j9)) else sh a9), mm) a = .inl (G.2.2.2.1, n, .inr (.inr (.inr (.inr (fun j => (if j = jj then some r else f j).map (fun q => G.1 + q)))))) := (zcell_r (y := false) (n := n) (f := fun j9 => if j9 = jj then some r else f j9) (by simp)).trans rfl
  rw [zws_set (G := G) (w := (n9, sh, mm)) (a := a) (w' := (n9, (fun a9 => if a9 = a then .inr (.inl (false, n, fun j9 => if j9 = jj then some r else f j9)) else sh a9), mm)) rfl hz ?_] at hP1
  · exact hP1
  · intro q9 hq9
    exact zcell_same (by simp [hq9]) rfl
theorem Z_alen (pc' : Nat) {n9 : Nat} {sh : Nat → zK} {mm : zM} {a n : Nat} (hd : decode M.2.1 pc = .ok (.arraylength, 1)) (hp : pc + 1 = pc') (ha : a < n9) (hs : sh a = .inl n) (kk : Z G M E Qf l k j (n9, sh, mm) pc' lv (.int (nI n) :: st)) : Z G M E Qf l k j (n9, sh, mm) pc lv (.ref (G.1 + a) :: st) := by
  subst hp
  intro p e s m args below meth c H locs ls hc hE hb hH hS hl
  exact va_alen hc.1 hc.2.1 hH.2.1 hH.1 a 0 (x := (n, .inl (mm a))) (by rw [zws_at (w := (n9, sh, mm)) ha, zcell_i (w := (n9, sh, mm)) hs]) rfl rfl hd (kk p e s m args below meth c H locs ls hc hE hb hH hS hl)
theorem Z_sld (pc' : Nat) {b9 L : Nat} {xs : Nat → Int32} {i : Int32} (hE9 : ∀ s, E s → va_X b9 L xs s s.heap ∧ b9 < s.heap.size ∧ b9 < G.1) (hd : decode M.2.1 pc = .ok (.iaload, 1)) (hp : pc + 1 = pc') (hin : vp_in i L) (kk : Z G M E Qf l k j w pc' lv (.int (xs i.toNatClampNeg) :: st)) : Z G M E Qf l k j w pc lv (.int i :: .ref b9 :: st) := by
  subst hp
  intro p e s m args below meth c H locs ls hc hE hb hH hS hl
  obtain ⟨g1, g2, g3⟩ := hE9 s hE
  exact va_sld hc.1 hc.2.1 g1 g2 (Nat.not_le.mpr g3) hS hin hd (kk p e s m args below meth c H locs ls hc hE hb hH hS hl)
theorem Z_slen (pc' : Nat) {b9 L : Nat} {xs : Nat → Int32} (hE9 : ∀ s, E s → va_X b9 L xs s s.heap ∧ b9 < s.heap.size ∧ b9 < G.1) (hd : decode M.2.1 pc = .ok (.arraylength, 1)) (hp : pc + 1 = pc') (kk : Z G M E Qf l k j w pc' lv (.int (nI L) :: st)) : Z G M E Qf l k j w pc lv (.ref b9 :: st) := by
  subst hp
  intro p e s m args below meth c H locs ls hc hE hb hH hS hl
  obtain ⟨g1, g2, g3⟩ := hE9 s hE
  exact va_slen hc.1 hc.2.1 g1 g2 (Nat.not_le.mpr g3) hS hd (kk p e s m args below meth c H locs ls hc hE hb hH hS hl)
theorem Z_min (pc' : Nat) {idx : Nat} {x y : Int32} (hd : decode M.2.1 pc = .ok (.invokestatic idx, 3)) (hp : pc + 3 = pc') (hk : Cond.methodLink M.1 idx Lib.Math.min.name ∈ lw_ok) (hk2 : Cond.static Lib.Math.min.name ∈ lw_ok ∧ Cond.initialized "java/lang/Math" ∈ lw_ok ∧ Cond.code Lib.Math.min.name Lib.Math.min.code 2 (some .int) ∈ lw_ok) (hR : 1 ≤ M.2.2.2.2.2.frames ∧ (st.map fun v => v.category).sum + 13 ≤ M.2.2.2.2.2.locals ∧ k ≤ M.2.2.2.2.2.cells ∧ j ≤ M.2.2.2.2.2.slots) (kk : Z G M E Qf l k j w pc' lv (.int (if y < x then y else x) :: st)) : Z G M E Qf l k j w pc lv (.int y :: .int x :: st) := by
  subst hp
  intro p e s m args below meth c H locs ls hc hE hb hH hS hl
  exact va_mmin hc.1 hc.2.1 (hc.2.2.1.trans hl.1.symm) hc.2.2.2.1 (hc.2.2.2.2.1 _ hk) (hc.2.2.2.2.1 _ hk2.1) (hc.2.2.2.2.1 _ hk2.2.1) (hc.2.2.2.2.1 _ hk2.2.2) hR.1 hR.2.1 hR.2.2.1 hR.2.2.2 hd (kk p e s m args below meth c H locs ls hc hE hb hH hS hl)
theorem Z_top {v v' : Value} (h : v = v') (kk : Z G M E Qf l k j w pc lv (v' :: st)) : Z G M E Qf l k j w pc lv (v :: st) := h ▸ kk
end ZR
/-- what a method's end says: the answer, the world then -/
def zQ (G : zG) (P : Option Value → zW → Prop) : Array Value → State → Outcome → State → Prop := fun _ st o t => (∃ (r : Option Value) (w' : zW), o = .returned r ∧ P r w' ∧ zH G w' t t.heap) ∧ va_F (fun q => G.1 ≤ q) st t
abbrev zN (G : zG) (P : Option Value → zW → Prop) (mc ms : Nat) : List Frame → Array Value → State → State → Prop := fun below args s => MQ below (zQ G P) args s mc ms (fun q => G.1 ≤ q)
/-- a contract: the method y, with bytes and room of M, on these arguments and this world -/
def zMet (G : zG) (l : Launch) (y : MethodName) (M : zD) (as : List Value) (w : zW) (P : Option Value → zW → Prop) (mc ms : Nat) : Prop :=
  Met l y (Cond.code y M.2.1 M.2.2.1 M.2.2.2.1 :: lw_ok) M.2.2.2.2.2 (va_Pc as (fun U => zH G w U U.heap ∧ zX U)) (zQ G P) mc ms (fun q => G.1 ≤ q)
theorem lw_good : lw_ok.all goodWord = true := by
  unfold lw_ok
  rw [List.all_eq_true]
  intro w hw
  exact (List.mem_filter.mp hw).2
theorem zgood {y : MethodName} {M : zD} (h : Cond.code y M.2.1 M.2.2.1 M.2.2.2.1 ∈ lw_ok) : GoodIn lw_ok (Cond.code y M.2.1 M.2.2.1 M.2.2.2.1 :: lw_ok) := by
  have key : ∀ w ∈ lw_ok, w ∈ lw_ok ∧ ((w.onTables && w.keeps) = true ∨ ∃ ty, w = .arrayClass ty) := fun w hw => ⟨hw, good_of_word (List.all_eq_true.mp lw_good w hw)⟩
  intro w hw
  rcases List.mem_cons.mp hw with e | hw
  · rw [e]
    exact key _ h
  · exact key w hw
/-- what the tables must hold for a call -/
def zY (own : String) (idx : Nat) (y : MethodName) (M : zD) (n : Nat) : Prop := Cond.methodLink own idx y ∈ lw_ok ∧ Cond.initialized y.cls ∈ lw_ok ∧ Cond.code y M.2.1 M.2.2.1 M.2.2.2.1 ∈ lw_ok ∧ (y.cls ≠ "java/lang/invoke/MethodHandle" ∧ y.cls ≠ "java/lang/invoke/VarHandle" ∧ (parseMethodDescriptor y.desc).map (fun d => d.parameters.length) = some n)
section ZCR
variable {G : zG} {M : zD} {E : State → Prop} {Qf : List Frame → Array Value → State → State → Prop} {l : Launch} {k j : Nat} {w : zW} {pc : Nat} {lv : List (Nat × Value)} {st : List Value}
theorem zMet_of {y : MethodName} {as : List Value} {P : Option Value → zW → Prop} {mc ms : Nat} (lv : List (Nat × Value)) (hy : plainName y.cls = true) (ho : y.cls = M.1) (hn : M.2.2.2.2.1 = "" ∨ y.name = M.2.2.2.2.1) (hlen : (lg_sl as).length ≤ M.2.2.1) (hlv : lv_args 0 as = lv)
    (kk : Z G M (fun _ => True) (zN G P mc ms) l 0 0 w 0 lv []) : zMet G l y M as w P mc ms := by
  refine Met.ofW (cc := M.2.1) (maxL := M.2.2.1) (ret := M.2.2.2.1) hy rfl ?_
  intro p e s m args below meth c s₁ B hml hv
  obtain ⟨rfl, hH, hX⟩ := hv
  have hts := atoms_spec (ws := Cond.code y M.2.1 M.2.2.1 M.2.2.2.1 :: lw_ok) B.pre
  rw [lg_entry_eq]
  refine kk p e s m _ below meth c s.heap [] _ ⟨B.exec, B.bytes, hml, by rw [← ho]; exact findClass_of_methodNamed B.named, fun w hw => hts w (List.mem_cons_of_mem _ hw), B.returns, B.notSynchronized, ?_, hX⟩ trivial (by rw [hH.2.2]; exact Nat.le_add_right _ _) hH va_S.rf (by rw [← hlv]; exact lv_entry as hlen)
  rcases hn with h | h
  · exact Or.inl h
  · right
    rw [← h]
    exact (name_of_methodNamed B.named B.method).1
theorem zCore {st0 : List Value} {a : Array Value} {P : Option Value → zW → Prop} {mc ms : Nat} {p : Program} {e : Env} {s : State} {m : MethodId} {args : Array Value} {below : List Frame} {meth : Method} {c : Code} {H : Heap} {locs : List Loc} {ls : Array Slot}
    (hc : zC M p s m args meth c) (hE : E s) (hb : G.1 ≤ s.heap.size) (hH : zH G w s H) (hS : va_S (fun q => G.1 ≤ q) s.heap H locs) (hl : lv_has ls M.2.2.1 lv)
    (hr : va_Run p l e M.2.2.2.2.2 s m args below meth c H locs k j mc ms (F0 m pc ls st0) st (zQ G P a) (fun q => G.1 ≤ q))
    (kk : ∀ (r : Option Value) (w' : zW), P r w' → Z G M E Qf l (k + mc) (j + ms) w' (pc + 3) lv (r.toList ++ st)) : W p l e M.2.2.2.2.2 s m args below meth c H locs k j (Qf below args s) (F0 m pc ls st0) := by
  intro T hT X
  obtain ⟨v, st₀, t, T', L, h0, X', hL, e1, e2, ⟨⟨r, w', hv, hP, hH'⟩, hz, hk⟩, stp⟩ := hr T hT X
  cases hv
  rw [h0] at hz hk
  have hal : t.vm.Alike s.vm := by
    have := X'.warmed.alike
    rw [e2] at this
    exact this.symm
  obtain ⟨t2, a1, b1⟩ := kk v w' hP p e s m args below meth c T'.heap (locs ++ L) ls hc hE hb (by rw [e1]; exact hH'.moved hal)
    ⟨Nat.le_trans hS.1 (by rw [e1]; exact hz), fun q h1 h2 => by rw [e1, hk q (Nat.lt_of_lt_of_le h1 hS.1) h2]; exact hS.2.1 q h1 h2, fun q hq => by
      rcases List.mem_append.mp hq with h | h
      · exact hS.2.2 q h
      · exact hL q h⟩ hl T' rfl X'
  exact ⟨t2, stp t2 a1, b1⟩
theorem Z_callV (pc' : Nat) {idx n a : Nat} {y : MethodName} {M2 : zD} (As : List Value) {st0 : List Value} {rs : List (Option (Option Nat))} {P : Option Value → zW → Prop} {mc ms : Nat} (ci : Nat) (hM : zMet G l y M2 (.ref (G.1 + a) :: As) w P mc ms) (hd : decode M.2.1 pc = .ok (.invokevirtual idx, 3)) (hp : pc + 3 = pc') (hq : zY M.1 idx y M2 n) (hq2 : Cond.instanceMethod y ∈ lw_ok ∧ Cond.selects y.cls y y ∈ lw_ok) (hst : st0 = As.reverse ++ .ref (G.1 + a) :: st) (hn : As.length = n) (ha : a < w.1) (hs : w.2.1 a = .inr (.inr (ci, rs))) (hci : (vwCl[ci]?).map (fun q => q.1) = some y.cls) (hroom : M2.2.2.2.2.2.frames + 1 ≤ M.2.2.2.2.2.frames ∧ 8 + (M2.2.2.1 + 11) + M2.2.2.2.2.2.locals ≤ M.2.2.2.2.2.locals) (hcat : (st.map fun v => v.category).sum ≤ 8) (hrc : M2.2.2.2.2.2.cells = mc ∧ M2.2.2.2.2.2.slots = ms) (hf : k + mc ≤ M.2.2.2.2.2.cells ∧ j + ms ≤ M.2.2.2.2.2.slots) (kk : ∀ (r : Option Value) (w' : zW), P r w' → Z G M E Qf l (k + mc) (j + ms) w' pc' lv (r.toList ++ st)) : Z G M E Qf l k j w pc lv st0 := by
  subst hp
  intro p e s m args below meth c H locs ls hc hE hb hH hS hl
  have hts := hc.2.2.2.2.1
  obtain ⟨r9, g1, g2⟩ : ∃ r9 : vw_C, vwCl[ci]? = some r9 ∧ r9.1 = y.cls := by
    cases hv : vwCl[ci]? with
    | none => rw [hv] at hci; cases hci
    | some r9 => rw [hv] at hci; exact ⟨r9, rfl, Option.some.inj hci⟩
  have he : (zws G w)[a]? = some (G.1 + a, .inr (ci, flds G.1 (w.2.2 a) 0 rs)) := by rw [zws_at ha, zcell_o hs]
  refine zCore hc hE hb hH hS hl (va_runV (C := y.cls) (As := As) (rest := st) (n := n) ⟨hc.1, hc.2.1, hc.2.2.1, hc.2.2.2.1, hts⟩ hM ⟨callB_of n hts (zgood hq.2.2.1) rfl hrc.1 hrc.2 (hts _ hq.2.1) (hts _ hq.1) hq.2.2.2 hroom, hts _ hq2.1, hts _ hq2.2⟩ ⟨fun a U g mk q => ⟨q.1, q.2.1.moved (u := U) (U := U.calling g mk a) (Vm.Alike.refl U.vm), q.2.2.same (U := U.calling g mk a) rfl⟩, ?_, fun U hU hW => ⟨rfl, by show zH G w U U.heap; rw [hU]; exact hH.moved hW.alike, hc.2.2.2.2.2.2.2.2.warm hW⟩⟩ rfl hn hl.1 hst (lv_room hcat) hd hf) kk
  have := va_recv hH.2.1 hH.1 g1 he
  rw [g2] at this
  exact this
theorem Z_callS (pc' : Nat) {idx n : Nat} {y : MethodName} {M2 : zD} (As : List Value) {st0 : List Value} {P : Option Value → zW → Prop} {mc ms : Nat} (hM : zMet G l y M2 As w P mc ms) (hd : decode M.2.1 pc = .ok (.invokestatic idx, 3)) (hp : pc + 3 = pc') (hq : zY M.1 idx y M2 n) (hq2 : Cond.static y ∈ lw_ok) (hst : st0 = As.reverse ++ st) (hn : As.length = n) (hroom : M2.2.2.2.2.2.frames + 1 ≤ M.2.2.2.2.2.frames ∧ 8 + (M2.2.2.1 + 11) + M2.2.2.2.2.2.locals ≤ M.2.2.2.2.2.locals) (hcat : (st.map fun v => v.category).sum ≤ 8) (hrc : M2.2.2.2.2.2.cells = mc ∧ M2.2.2.2.2.2.slots = ms) (hf : k + mc ≤ M.2.2.2.2.2.cells ∧ j + ms ≤ M.2.2.2.2.2.slots) (kk : ∀ (r : Option Value) (w' : zW), P r w' → Z G M E Qf l (k + mc) (j + ms) w' pc' lv (r.toList ++ st)) : Z G M E Qf l k j w pc lv st0 := by
  subst hp
  intro p e s m args below meth c H locs ls hc hE hb hH hS hl
  have hts := hc.2.2.2.2.1
  exact zCore hc hE hb hH hS hl (va_runS (As := As) (rest := st) (n := n) ⟨hc.1, hc.2.1, hc.2.2.1, hc.2.2.2.1, hts⟩ hM ⟨callB_of n hts (zgood hq.2.2.1) rfl hrc.1 hrc.2 (hts _ hq.2.1) (hts _ hq.1) hq.2.2.2 hroom, hts _ hq2⟩ ⟨fun a U g mk q => ⟨q.1, q.2.1.moved (u := U) (U := U.calling g mk a) (Vm.Alike.refl U.vm), q.2.2.same (U := U.calling g mk a) rfl⟩, fun U hU hW => ⟨rfl, by show zH G w U U.heap; rw [hU]; exact hH.moved hW.alike, hc.2.2.2.2.2.2.2.2.warm hW⟩⟩ rfl hn hl.1 hst (lv_room hcat) hd hf) kk
theorem Z_callI (pc' : Nat) {idx n a : Nat} {y : MethodName} {M2 : zD} (As : List Value) {st0 : List Value} {P : Option Value → zW → Prop} {mc ms : Nat} (hM : zMet G l y M2 (.ref (G.1 + a) :: As) w P mc ms) (hret : M2.2.2.2.1 = none) (hd : decode M.2.1 pc = .ok (.invokespecial idx, 3)) (hp : pc + 3 = pc') (hq : zY M.1 idx y M2 n) (hq2 : y.name = "<init>" ∧ Cond.instanceMethod y ∈ lw_ok) (hst : st0 = As.reverse ++ .ref (G.1 + a) :: st) (hn : As.length = n) (hroom : M2.2.2.2.2.2.frames + 1 ≤ M.2.2.2.2.2.frames ∧ 8 + (M2.2.2.1 + 11) + M2.2.2.2.2.2.locals ≤ M.2.2.2.2.2.locals) (hcat : (st.map fun v => v.category).sum ≤ 8) (hrc : M2.2.2.2.2.2.cells = mc ∧ M2.2.2.2.2.2.slots = ms) (hf : k + mc ≤ M.2.2.2.2.2.cells ∧ j + ms ≤ M.2.2.2.2.2.slots) (kk : ∀ (r : Option Value) (w' : zW), P r w' → Z G M E Qf l (k + mc) (j + ms) w' pc' lv (r.toList ++ st)) : Z G M E Qf l k j w pc lv st0 := by
  subst hp
  intro p e s m args below meth c H locs ls hc hE hb hH hS hl
  have hts := hc.2.2.2.2.1
  obtain ⟨o2, b2, n2, r2, nm2, R2⟩ := M2
  cases (show r2 = none from hret)
  exact zCore hc hE hb hH hS hl (va_runI (As := As) (rest := st) (n := n) ⟨hc.1, hc.2.1, hc.2.2.1, hc.2.2.2.1, hts⟩ hM ⟨callB_of n hts (zgood (M := (o2, b2, n2, none, nm2, R2)) hq.2.2.1) rfl hrc.1 hrc.2 (hts _ hq.2.1) (hts _ hq.1) hq.2.2.2 hroom, hq2.1, hts _ hq2.2⟩ ⟨fun a U g mk q => ⟨q.1, q.2.1.moved (u := U) (U := U.calling g mk a) (Vm.Alike.refl U.vm), q.2.2.same (U := U.calling g mk a) rfl⟩, fun U hU hW => ⟨rfl, by show zH G w U U.heap; rw [hU]; exact hH.moved hW.alike, hc.2.2.2.2.2.2.2.2.warm hW⟩⟩ rfl hn hl.1 hst (lv_room hcat) hd hf) kk
theorem Z_objInit (pc' : Nat) {idx a : Nat} (hd : decode M.2.1 pc = .ok (.invokespecial idx, 3)) (hp : pc + 3 = pc') (hk : Cond.methodLink M.1 idx objectInit ∈ lw_ok ∧ Cond.instanceMethod objectInit ∈ lw_ok ∧ Cond.code objectInit ⟨#[0xb1]⟩ 1 none ∈ lw_ok) (hR : 1 ≤ M.2.2.2.2.2.frames ∧ 12 ≤ M.2.2.2.2.2.locals) (hz : st = []) (hsl : k ≤ M.2.2.2.2.2.cells ∧ j ≤ M.2.2.2.2.2.slots) (kk : Z G M E Qf l k j w pc' lv []) : Z G M E Qf l k j w pc lv (.ref (G.1 + a) :: st) := by
  subst hp
  subst hz
  intro p e s m args below meth c H locs ls hc hE hb hH hS hl
  have hts := hc.2.2.2.2.1
  refine W.objInit hc.1 hc.2.1 hc.2.2.2.1 (hts _ hk.1) (hts _ hk.2.1) (hts _ hk.2.2) rfl (by rw [hc.2.2.1]; exact hl.1) rfl hd hR.1 ?_ ?_
  · exact hR.2
  · exact kk p e s m args below meth c H locs ls hc hE hb hH hS hl
theorem Z_iret {P : Option Value → zW → Prop} {v : Int32} (hd : decode M.2.1 pc = .ok (.ireturn, 1)) (hr : M.2.2.2.1 = some .int) (hP : P (some (.int v)) w) : Z G M E (zN G P k j) l k j w pc lv [.int v] := by
  intro p e s m args below meth c H locs ls hc hE hb hH hS hl
  exact W.iret hc.1 hc.2.1 (hc.2.2.2.2.2.1.trans hr) (fun t ht hW => ⟨⟨_, w, rfl, hP, by rw [ht]; exact hH.moved hW.alike⟩, hS.F ht⟩) hS.2.2 hd hc.2.2.2.2.2.2.1
theorem Z_dret {P : Option Value → zW → Prop} {v : UInt64} (hd : decode M.2.1 pc = .ok (.dreturn, 1)) (hr : M.2.2.2.1 = some .double) (hP : P (some (.double v)) w) : Z G M E (zN G P k j) l k j w pc lv [.double v] := by
  intro p e s m args below meth c H locs ls hc hE hb hH hS hl
  exact W.dret hc.1 hc.2.1 (hc.2.2.2.2.2.1.trans hr) (fun t ht hW => ⟨⟨_, w, rfl, hP, by rw [ht]; exact hH.moved hW.alike⟩, hS.F ht⟩) hS.2.2 hd hc.2.2.2.2.2.2.1
theorem Z_zret {P : Option Value → zW → Prop} {v : Int32} (hd : decode M.2.1 pc = .ok (.ireturn, 1)) (hr : M.2.2.2.1 = some .boolean) (hv : v = 0 ∨ v = 1) (hP : P (some (.int v)) w) : Z G M E (zN G P k j) l k j w pc lv [.int v] := by
  intro p e s m args below meth c H locs ls hc hE hb hH hS hl
  exact W.zret hc.1 hc.2.1 (hc.2.2.2.2.2.1.trans hr) (by rcases hv with rfl | rfl <;> rfl) (fun t ht hW => ⟨⟨_, w, rfl, hP, by rw [ht]; exact hH.moved hW.alike⟩, hS.F ht⟩) hS.2.2 hd hc.2.2.2.2.2.2.1
theorem Z_vret {P : Option Value → zW → Prop} (hd : decode M.2.1 pc = .ok (.return_, 1)) (hr : M.2.2.2.1 = none) (hP : P none w) : Z G M E (zN G P k j) l k j w pc lv [] := by
  intro p e s m args below meth c H locs ls hc hE hb hH hS hl
  exact W.vret hc.1 hc.2.1 (hc.2.2.2.2.2.1.trans hr) (fun t ht hW => ⟨⟨_, w, rfl, hP, by rw [ht]; exact hH.moved hW.alike⟩, hS.F ht⟩) hS.2.2 hd hc.2.2.2.2.2.2.1
end ZCR