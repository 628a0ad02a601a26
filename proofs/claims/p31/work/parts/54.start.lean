/-! the law from its entry -/
set_option maxRecDepth 100000 in
set_option maxHeartbeats 4000000 in
theorem whole_start {p : Program} {e : Env} {s : State} {m : MethodId} {below : List Frame} {meth : Method} {c : Code} (l : Launch) (hflags : l.flags = flags0) {b L : Nat} {xs : Nat → Int32} (hL : L ≤ 260) (C0 : lw_At p s m meth c b L xs) : W p l e room_1 s m #[Value.ref b] below meth c s.heap [] 0 0 (lw_Z below #[Value.ref b] s) (entryFrame m ([Value.ref b] : List Value).toArray 13) := by
  obtain ⟨hx, hb, hr, hml, hown, hts, hX, hbl, hlocks, hgv⟩ := id C0
  have htk : ∀ w ∈ lw_ok, w.before #[Value.ref b] s = true := fun w h => hts w (List.mem_filter.mp h).1
  obtain ⟨c0, i0, k0⟩ := u_known (C := RX0) (T := TX0) (N := 10) (n := 10) htk inK_0 (htk _ kn_0.1)
  obtain ⟨c1, i1, k1⟩ := u_known (C := RX1) (T := TX1) (N := 14) (n := 14) htk inK_1 (htk _ kn_1.1)
  obtain ⟨c2, i2, k2⟩ := u_known (C := RX2) (T := TX2) (N := 3) (n := 3) htk inK_2 (htk _ kn_2.1)
  obtain ⟨c3, i3, k3⟩ := u_known (C := RX3) (T := TX3) (N := 10) (n := 10) htk inK_3 (htk _ kn_3.1)
  obtain ⟨dC, dI, hKc⟩ : ∃ (dC : Nat → ClassId) (dI : Nat → Nat → Nat), ∀ (k : Nat) (q : vw_C), vwCl[k]? = some q → u_Kn s q.1 q.2.1 q.2.2 (dC k) (dI k) := by
    refine ⟨fun k => if k = 0 then c0 else if k = 1 then c1 else if k = 2 then c2 else c3, fun k => if k = 0 then i0 else if k = 1 then i1 else if k = 2 then i2 else i3, ?_⟩
    intro k q hq
    match k, hq with
    | 0, hq => cases hq; exact k0
    | 1, hq => cases hq; exact k1
    | 2, hq => cases hq; exact k2
    | 3, hq => cases hq; exact k3
    | k + 4, hq => simp [vwCl] at hq
  obtain ⟨cI, kI, cmI, a1, a2, a3⟩ := Cond.arrayClass_spec (htk _ karr)
  have wR : (Cond.arrayOver (.object RX1)).before #[Value.ref b] s = true := hts _ (List.mem_of_getElem? (i := 106) (by decide +kernel))
  have wA : (Cond.arrayOver (.array .int)).before #[Value.ref b] s = true := hts _ (List.mem_of_getElem? (i := 114) (by decide +kernel))
  have w25 : (Cond.methodLinkNest RX3 25 yX2_init RX3).before #[Value.ref b] s = true := hts _ (List.mem_of_getElem? (i := 109) (by decide +kernel))
  have w32 : (Cond.methodLinkNest RX3 32 yX0_init RX3).before #[Value.ref b] s = true := hts _ (List.mem_of_getElem? (i := 128) (by decide +kernel))
  obtain ⟨cmR, cR, kR, r1, r2, r3, r4, r5⟩ := Cond.arrayOver_spec wR
  obtain ⟨cmA, cA, kA, s1, s2, s3, s4, s5⟩ := arrayOverA_spec wA
  have hK : va_K (dC, dI) vwCl [(cI, .int), (cR, .object RX1), (cA, .array .int)] s := ⟨hKc, fun k q h => by
    match k, h with
    | 0, h => cases h; exact ⟨fun n z => ⟨(fun k h => by cases h), kI, a2, cmI, a3⟩, a1⟩
    | 1, h => cases h; exact ⟨fun n z => ⟨(fun k h => by cases h), kR, r3, cmR, r4⟩, kR, cmR, r3, r4, r1, r5⟩
    | 2, h => cases h; exact ⟨fun n z => ⟨(fun k h => by cases h), kA, s3, cmA, s4⟩, s5⟩
    | k + 3, h => simp at h⟩
  have hH : zH (s.heap.size, (dC, dI), cI, cR, cA) (0, oS rN3 ff0, mz0) s s.heap := ⟨fun k q h => by simp [zws] at h, hK, rfl⟩
  have hzx : zX s := ⟨va_AO.of wR, wA, va_Nw.of rfl w25, va_Nw.of rfl w32⟩
  have hl := lv_entry ([.ref b]) (n := 13) (Nat.le_of_ble_eq_true rfl)
  rw [lg_entry_eq]
  exact law_start hL p e s m #[Value.ref b] below meth c s.heap [] _ ⟨hx, hb, hml, hown, htk, hr, hlocks, Or.inl rfl, hzx⟩ ⟨⟨hX, hbl, hbl⟩, rfl⟩ (Nat.le_refl _) hH va_S.rf hl
