section
-- ===== PART A: goes FIRST, ahead of the names: the tables' words, and 'selects' of the private methods out of them =====
/-- a private method of a class that the tables say can be made, by its rows of tables_1 -/
def lw_okq (q : MethodName × Nat) : Prop := (q.1.cls ≠ "java/lang/invoke/MethodHandle" ∧ q.1.cls ≠ "java/lang/invoke/VarHandle") ∧ Cond.instantiable q.1.cls q.2 ∈ tables_1 ∧ Cond.privateMethod q.1 ∈ tables_1 ∧ Cond.instanceMethod q.1 ∈ tables_1
theorem lw_p0 : lw_okq (⟨"HedgeTreaties", "remember", "()V"⟩, 10) := ⟨⟨by decide +kernel, by decide +kernel⟩, List.mem_of_getElem? (i := 7) (by decide +kernel), List.mem_of_getElem? (i := 241) (by decide +kernel), List.mem_of_getElem? (i := 242) (by decide +kernel)⟩
theorem lw_p1 : lw_okq (⟨"HedgeTreaties", "dropOldestState", "()V"⟩, 10) := ⟨⟨by decide +kernel, by decide +kernel⟩, List.mem_of_getElem? (i := 7) (by decide +kernel), List.mem_of_getElem? (i := 245) (by decide +kernel), List.mem_of_getElem? (i := 246) (by decide +kernel)⟩
theorem lw_p2 : lw_okq (⟨"HedgeTreaties$Surveyor", "pressByTreaties", "(LHedgeTreaties$Street;Z)Z"⟩, 3) := ⟨⟨by decide +kernel, by decide +kernel⟩, List.mem_of_getElem? (i := 85) (by decide +kernel), List.mem_of_getElem? (i := 274) (by decide +kernel), List.mem_of_getElem? (i := 275) (by decide +kernel)⟩
theorem lw_p3 : lw_okq (⟨"HedgeTreaties$Surveyor", "press", "(III)Z"⟩, 3) := ⟨⟨by decide +kernel, by decide +kernel⟩, List.mem_of_getElem? (i := 85) (by decide +kernel), List.mem_of_getElem? (i := 279) (by decide +kernel), List.mem_of_getElem? (i := 280) (by decide +kernel)⟩
theorem lw_p4 : lw_okq (⟨"HedgeTreaties$Surveyor", "areLevelsAboveGround", "()Z"⟩, 3) := ⟨⟨by decide +kernel, by decide +kernel⟩, List.mem_of_getElem? (i := 85) (by decide +kernel), List.mem_of_getElem? (i := 283) (by decide +kernel), List.mem_of_getElem? (i := 284) (by decide +kernel)⟩
theorem lw_p5 : lw_okq (⟨"HedgeTreaties", "isTreaty", "(I)Z"⟩, 10) := ⟨⟨by decide +kernel, by decide +kernel⟩, List.mem_of_getElem? (i := 7) (by decide +kernel), List.mem_of_getElem? (i := 291) (by decide +kernel), List.mem_of_getElem? (i := 292) (by decide +kernel)⟩
theorem lw_p6 : lw_okq (⟨"HedgeTreaties", "isNothingNewBesideOthers", "(I)Z"⟩, 10) := ⟨⟨by decide +kernel, by decide +kernel⟩, List.mem_of_getElem? (i := 7) (by decide +kernel), List.mem_of_getElem? (i := 301) (by decide +kernel), List.mem_of_getElem? (i := 302) (by decide +kernel)⟩
theorem lw_p7 : lw_okq (⟨"HedgeTreaties$Surveyor", "shortenSums", "(LHedgeTreaties$Street;I)Z"⟩, 3) := ⟨⟨by decide +kernel, by decide +kernel⟩, List.mem_of_getElem? (i := 85) (by decide +kernel), List.mem_of_getElem? (i := 310) (by decide +kernel), List.mem_of_getElem? (i := 311) (by decide +kernel)⟩
theorem lw_p8 : lw_okq (⟨"HedgeTreaties$Surveyor", "findPairs", "(LHedgeTreaties$Street;)V"⟩, 3) := ⟨⟨by decide +kernel, by decide +kernel⟩, List.mem_of_getElem? (i := 85) (by decide +kernel), List.mem_of_getElem? (i := 325) (by decide +kernel), List.mem_of_getElem? (i := 326) (by decide +kernel)⟩
theorem lw_p9 : lw_okq (⟨"HedgeTreaties$Surveyor", "startPairs", "(LHedgeTreaties$Street;)V"⟩, 3) := ⟨⟨by decide +kernel, by decide +kernel⟩, List.mem_of_getElem? (i := 85) (by decide +kernel), List.mem_of_getElem? (i := 329) (by decide +kernel), List.mem_of_getElem? (i := 330) (by decide +kernel)⟩
theorem lw_p10 : lw_okq (⟨"HedgeTreaties$Surveyor", "joinPair", "(III)V"⟩, 3) := ⟨⟨by decide +kernel, by decide +kernel⟩, List.mem_of_getElem? (i := 85) (by decide +kernel), List.mem_of_getElem? (i := 334) (by decide +kernel), List.mem_of_getElem? (i := 335) (by decide +kernel)⟩
theorem lw_p11 : lw_okq (⟨"HedgeTreaties", "reasonAgainst", "(III)I"⟩, 10) := ⟨⟨by decide +kernel, by decide +kernel⟩, List.mem_of_getElem? (i := 7) (by decide +kernel), List.mem_of_getElem? (i := 361) (by decide +kernel), List.mem_of_getElem? (i := 362) (by decide +kernel)⟩
theorem lw_p12 : lw_okq (⟨"HedgeTreaties", "errorOfSigning", "(III)I"⟩, 10) := ⟨⟨by decide +kernel, by decide +kernel⟩, List.mem_of_getElem? (i := 7) (by decide +kernel), List.mem_of_getElem? (i := 392) (by decide +kernel), List.mem_of_getElem? (i := 393) (by decide +kernel)⟩
theorem lw_p13 : lw_okq (⟨"HedgeTreaties", "signOne", "(III)I"⟩, 10) := ⟨⟨by decide +kernel, by decide +kernel⟩, List.mem_of_getElem? (i := 7) (by decide +kernel), List.mem_of_getElem? (i := 396) (by decide +kernel), List.mem_of_getElem? (i := 397) (by decide +kernel)⟩
theorem lw_p14 : lw_okq (⟨"HedgeTreaties", "refuse", "(I)I"⟩, 10) := ⟨⟨by decide +kernel, by decide +kernel⟩, List.mem_of_getElem? (i := 7) (by decide +kernel), List.mem_of_getElem? (i := 400) (by decide +kernel), List.mem_of_getElem? (i := 401) (by decide +kernel)⟩
theorem lw_p15 : lw_okq (⟨"HedgeTreaties", "isNestInTheWay", "()Z"⟩, 10) := ⟨⟨by decide +kernel, by decide +kernel⟩, List.mem_of_getElem? (i := 7) (by decide +kernel), List.mem_of_getElem? (i := 454) (by decide +kernel), List.mem_of_getElem? (i := 455) (by decide +kernel)⟩
def lw_privs_1 : List (MethodName × Nat) := [(⟨"HedgeTreaties", "remember", "()V"⟩, 10), (⟨"HedgeTreaties", "dropOldestState", "()V"⟩, 10), (⟨"HedgeTreaties$Surveyor", "pressByTreaties", "(LHedgeTreaties$Street;Z)Z"⟩, 3), (⟨"HedgeTreaties$Surveyor", "press", "(III)Z"⟩, 3), (⟨"HedgeTreaties$Surveyor", "areLevelsAboveGround", "()Z"⟩, 3), (⟨"HedgeTreaties", "isTreaty", "(I)Z"⟩, 10), (⟨"HedgeTreaties", "isNothingNewBesideOthers", "(I)Z"⟩, 10), (⟨"HedgeTreaties$Surveyor", "shortenSums", "(LHedgeTreaties$Street;I)Z"⟩, 3), (⟨"HedgeTreaties$Surveyor", "findPairs", "(LHedgeTreaties$Street;)V"⟩, 3), (⟨"HedgeTreaties$Surveyor", "startPairs", "(LHedgeTreaties$Street;)V"⟩, 3), (⟨"HedgeTreaties$Surveyor", "joinPair", "(III)V"⟩, 3), (⟨"HedgeTreaties", "reasonAgainst", "(III)I"⟩, 10), (⟨"HedgeTreaties", "errorOfSigning", "(III)I"⟩, 10), (⟨"HedgeTreaties", "signOne", "(III)I"⟩, 10), (⟨"HedgeTreaties", "refuse", "(I)I"⟩, 10), (⟨"HedgeTreaties", "isNestInTheWay", "()Z"⟩, 10)]
theorem lw_r1 : ∀ q ∈ lw_privs_1, lw_okq q := List.forall_mem_cons.mpr ⟨lw_p0, List.forall_mem_cons.mpr ⟨lw_p1, List.forall_mem_cons.mpr ⟨lw_p2, List.forall_mem_cons.mpr ⟨lw_p3, List.forall_mem_cons.mpr ⟨lw_p4, List.forall_mem_cons.mpr ⟨lw_p5, List.forall_mem_cons.mpr ⟨lw_p6, List.forall_mem_cons.mpr ⟨lw_p7, List.forall_mem_cons.mpr ⟨lw_p8, List.forall_mem_cons.mpr ⟨lw_p9, List.forall_mem_cons.mpr ⟨lw_p10, List.forall_mem_cons.mpr ⟨lw_p11, List.forall_mem_cons.mpr ⟨lw_p12, List.forall_mem_cons.mpr ⟨lw_p13, List.forall_mem_cons.mpr ⟨lw_p14, List.forall_mem_cons.mpr ⟨lw_p15, fun _ h => absurd h List.not_mem_nil⟩⟩⟩⟩⟩⟩⟩⟩⟩⟩⟩⟩⟩⟩⟩⟩
theorem lw_p16 : lw_okq (⟨"HedgeTreaties$Pad", "placeBehind", "(II)I"⟩, 10) := ⟨⟨by decide +kernel, by decide +kernel⟩, List.mem_of_getElem? (i := 104) (by decide +kernel), List.mem_of_getElem? (i := 488) (by decide +kernel), List.mem_of_getElem? (i := 489) (by decide +kernel)⟩
theorem lw_p17 : lw_okq (⟨"HedgeTreaties$Pad", "startPart", "(I)I"⟩, 10) := ⟨⟨by decide +kernel, by decide +kernel⟩, List.mem_of_getElem? (i := 104) (by decide +kernel), List.mem_of_getElem? (i := 492) (by decide +kernel), List.mem_of_getElem? (i := 493) (by decide +kernel)⟩
theorem lw_p18 : lw_okq (⟨"HedgeTreaties$Pad", "takeOther", "(I)I"⟩, 10) := ⟨⟨by decide +kernel, by decide +kernel⟩, List.mem_of_getElem? (i := 104) (by decide +kernel), List.mem_of_getElem? (i := 499) (by decide +kernel), List.mem_of_getElem? (i := 500) (by decide +kernel)⟩
theorem lw_p19 : lw_okq (⟨"HedgeTreaties$Pad", "takeSign", "(I)I"⟩, 10) := ⟨⟨by decide +kernel, by decide +kernel⟩, List.mem_of_getElem? (i := 104) (by decide +kernel), List.mem_of_getElem? (i := 503) (by decide +kernel), List.mem_of_getElem? (i := 504) (by decide +kernel)⟩
theorem lw_p20 : lw_okq (⟨"HedgeTreaties$Pad", "startNumber", "(II)I"⟩, 10) := ⟨⟨by decide +kernel, by decide +kernel⟩, List.mem_of_getElem? (i := 104) (by decide +kernel), List.mem_of_getElem? (i := 507) (by decide +kernel), List.mem_of_getElem? (i := 508) (by decide +kernel)⟩
theorem lw_p21 : lw_okq (⟨"HedgeTreaties$Pad", "takeDigit", "(I)I"⟩, 10) := ⟨⟨by decide +kernel, by decide +kernel⟩, List.mem_of_getElem? (i := 104) (by decide +kernel), List.mem_of_getElem? (i := 511) (by decide +kernel), List.mem_of_getElem? (i := 512) (by decide +kernel)⟩
theorem lw_p22 : lw_okq (⟨"HedgeTreaties", "signPart", "(I)I"⟩, 10) := ⟨⟨by decide +kernel, by decide +kernel⟩, List.mem_of_getElem? (i := 7) (by decide +kernel), List.mem_of_getElem? (i := 519) (by decide +kernel), List.mem_of_getElem? (i := 520) (by decide +kernel)⟩
def lw_privs_2 : List (MethodName × Nat) := [(⟨"HedgeTreaties$Pad", "placeBehind", "(II)I"⟩, 10), (⟨"HedgeTreaties$Pad", "startPart", "(I)I"⟩, 10), (⟨"HedgeTreaties$Pad", "takeOther", "(I)I"⟩, 10), (⟨"HedgeTreaties$Pad", "takeSign", "(I)I"⟩, 10), (⟨"HedgeTreaties$Pad", "startNumber", "(II)I"⟩, 10), (⟨"HedgeTreaties$Pad", "takeDigit", "(I)I"⟩, 10), (⟨"HedgeTreaties", "signPart", "(I)I"⟩, 10)]
theorem lw_r2 : ∀ q ∈ lw_privs_2, lw_okq q := List.forall_mem_cons.mpr ⟨lw_p16, List.forall_mem_cons.mpr ⟨lw_p17, List.forall_mem_cons.mpr ⟨lw_p18, List.forall_mem_cons.mpr ⟨lw_p19, List.forall_mem_cons.mpr ⟨lw_p20, List.forall_mem_cons.mpr ⟨lw_p21, List.forall_mem_cons.mpr ⟨lw_p22, fun _ h => absurd h List.not_mem_nil⟩⟩⟩⟩⟩⟩⟩
def lw_privs : List (MethodName × Nat) := lw_privs_1 ++ (lw_privs_2)
def lw_tbl : List Cond := k2_sels lw_privs ++ tables_1
theorem lw_privs_ok : ∀ q ∈ lw_privs, lw_okq q := by
  show ∀ q ∈ lw_privs_1 ++ (lw_privs_2), lw_okq q
  exact List.forall_mem_append.mpr ⟨lw_r1, lw_r2⟩
/-- the streams that the claim lets the run draw from -/
abbrev lw_cs : List Choice := [Jvm.Choice.named "NaN.bits"]
theorem lw_bits : nanBits ∈ lw_cs := by first | decide | exact List.mem_cons_self | simp [lw_cs, nanBits]
end
section
/-! ===== BEGIN words of one list among another's, by their places ===== -/
theorem goodIn_r {big : List Cond} (ws : List Cond) (ps : List Nat) (hp : ws = ps.filterMap (fun i => big[i]?)) (h : ws.all goodWord = true) : GoodIn big ws := by
  intro w hw
  have h1 := List.all_eq_true.mp h w hw
  rw [hp] at hw
  obtain ⟨i, -, hi⟩ := List.mem_filterMap.mp hw
  have hm : w ∈ big := by first | exact List.mem_of_getElem? hi | exact List.getElem?_mem hi
  exact ⟨hm, good_of_word h1⟩
theorem goodIn_app {big a b : List Cond} (ha : GoodIn big a) (hb : GoodIn big b) : GoodIn big (a ++ b) := fun w h => (List.mem_append.mp h).elim (ha w) (hb w)
theorem goodIn_ca {big a b : List Cond} {c : Cond} (ha : GoodIn big (c :: a)) (hb : GoodIn big b) : GoodIn big (c :: (a ++ b)) := fun w h => (List.mem_cons.mp h).elim (fun e => ha w (List.mem_cons.mpr (Or.inl e))) (fun h => (List.mem_append.mp h).elim (fun h => ha w (List.mem_cons.mpr (Or.inr h))) (hb w))
theorem goodIn_sub {big ws : List Cond} (hm : ∀ w ∈ ws, w ∈ big) (h : ws.all goodWord = true) : GoodIn big ws := fun w hw => ⟨hm w hw, good_of_word (List.all_eq_true.mp h w hw)⟩
/-! ===== END ===== -/

/-! ===== BEGIN new T[n][m]: the outer array a place, the inner ones among the pooled ===== -/
/-- f, but v at every address of l -/
def vr_up {α : Type} (f : Nat → α) (l : List Nat) (v : α) : Nat → α := fun a => if a ∈ l then v else f a
theorem vr_up_in {α : Type} {f : Nat → α} {l : List Nat} {v : α} {a : Nat} (h : a ∈ l) : vr_up f l v a = v := if_pos h
theorem vr_up_ne {α : Type} {f : Nat → α} {l : List Nat} {v : α} {a : Nat} (h : a ∉ l) : vr_up f l v a = f a := if_neg h
theorem vr_rows {L l : List Nat} {f : Nat → va_E} {e : va_E} (h : ∀ a, a ∈ l → a ∉ L) : va_pl L f ++ l.map (fun a => (a, e)) = va_pl (L ++ l) (vr_up f l e) := by
  unfold va_pl
  rw [List.map_append]
  congr 1
  · apply List.map_congr_left
    intro a ha
    rw [vr_up_ne (fun q => h a q ha)]
  · apply List.map_congr_left
    intro a ha
    rw [vr_up_in ha]
theorem vr_lay {X rows : va_W} {x : Nat × va_E} {pl : va_W} {D : va_G} {cl : List vw_C} {H : Heap} (hP : va_P D cl (((X ++ pl) ++ [x]) ++ rows) H) : va_P D cl ((X ++ [x]) ++ (pl ++ rows)) H := by
  rw [List.append_assoc (X ++ pl)] at hP
  have h := va_P.swap hP
  rw [← List.append_assoc X] at h
  have h2 := va_P.swap h
  rw [List.append_assoc (X ++ [x])] at h2
  exact h2
theorem vr_layD {X rows : va_W} {x : Nat × va_E} {pl : va_W} {A : Nat → Prop} (hD : va_D A (((X ++ pl) ++ [x]) ++ rows)) : va_D A ((X ++ [x]) ++ (pl ++ rows)) := by
  rw [List.append_assoc (X ++ pl)] at hD
  have h := va_D.swap hD
  rw [← List.append_assoc X] at h
  have h2 := va_D.swap h
  rw [List.append_assoc (X ++ [x])] at h2
  exact h2
theorem vr_outer (c : ClassId) (N h0 : Nat) : ∀ i : Nat, Jvm.Free.Multi.outerC c N h0 i = arrV c N (fun j => va_rf (if j < i then some (h0 + 1 + j) else none))
  | 0 => by
    show ({ cls := c, slots := Array.replicate N .null, vm := .none } : Cell) = _
    rw [arrV_new]
    refine congrArg (arrV c N) (funext fun j => ?_)
    simp [va_rf]
  | i + 1 => by
    show (Jvm.Free.Multi.outerC c N h0 i).setSlot i (.ref (h0 + 1 + i)) = _
    rw [vr_outer c N h0 i, arrV_store]
    refine congrArg (arrV c N) (funext fun j => ?_)
    by_cases e : j = i
    · subst e
      simp [updV, va_rf]
    · by_cases h : j < i
      · simp [updV, e, h, Nat.lt_succ_of_lt h]
      · simp [updV, e, h, show ¬ j < i + 1 by omega]
/-! ===== END ===== -/
/-! ===== BEGIN printed: names, fields, word lists, decode rows ===== -/
def RX0 : String := "HedgeTreaties$Pad"
def TX0 : u_T := fun k => match k with
  | 0 => ("HedgeTreaties$Pad", "codes", "[I", true)
  | 1 => ("HedgeTreaties$Pad", "length", "I", false)
  | 2 => ("HedgeTreaties$Pad", "positions", "[I", true)
  | 3 => ("HedgeTreaties$Pad", "firsts", "[I", true)
  | 4 => ("HedgeTreaties$Pad", "others", "[I", true)
  | 5 => ("HedgeTreaties$Pad", "ds", "[I", true)
  | 6 => ("HedgeTreaties$Pad", "parts", "I", false)
  | 7 => ("HedgeTreaties$Pad", "sign", "I", false)
  | 8 => ("HedgeTreaties$Pad", "number", "I", false)
  | _ => ("HedgeTreaties$Pad", "mostNumber", "I", false)
def tyX0 : Nat → FieldType := fun k => match k with
  | 0 => .array .int
  | 1 => .int
  | 2 => .array .int
  | 3 => .array .int
  | 4 => .array .int
  | 5 => .array .int
  | 6 => .int
  | 7 => .int
  | 8 => .int
  | _ => .int
abbrev wsX00 : List Cond := u_ws RX0 TX0 10
theorem nmX0 : ∀ a, a < 10 → ∀ b, b < 10 → a ≠ b → (TX0 a).2.1 ≠ (TX0 b).2.1 := by decide +kernel
theorem tyX0_ok : ∀ k, k < 10 → parseFieldDescriptor (TX0 k).2.2.1 = some (tyX0 k) := by decide +kernel
abbrev cX0_init : ByteArray := prog_2_method_1_code
def yX0_init : MethodName := ⟨RX0, "<init>", "()V"⟩
abbrev cX0_read : ByteArray := prog_2_method_2_code
def yX0_read : MethodName := ⟨RX0, "read", "()I"⟩
abbrev cX0_placeBehind : ByteArray := prog_2_method_3_code
def yX0_placeBehind : MethodName := ⟨RX0, "placeBehind", "(II)I"⟩
abbrev cX0_isDigit : ByteArray := prog_2_method_4_code
def yX0_isDigit : MethodName := ⟨RX0, "isDigit", "(II)Z"⟩
abbrev cX0_startPart : ByteArray := prog_2_method_5_code
def yX0_startPart : MethodName := ⟨RX0, "startPart", "(I)I"⟩
abbrev cX0_takeOther : ByteArray := prog_2_method_6_code
def yX0_takeOther : MethodName := ⟨RX0, "takeOther", "(I)I"⟩
abbrev cX0_takeSign : ByteArray := prog_2_method_7_code
def yX0_takeSign : MethodName := ⟨RX0, "takeSign", "(I)I"⟩
abbrev cX0_startNumber : ByteArray := prog_2_method_8_code
def yX0_startNumber : MethodName := ⟨RX0, "startNumber", "(II)I"⟩
abbrev cX0_takeDigit : ByteArray := prog_2_method_9_code
def yX0_takeDigit : MethodName := ⟨RX0, "takeDigit", "(I)I"⟩
def RX1 : String := "HedgeTreaties$Street"
def TX1 : u_T := fun k => match k with
  | 0 => ("HedgeTreaties$Street", "heights", "[I", true)
  | 1 => ("HedgeTreaties$Street", "growths", "[I", true)
  | 2 => ("HedgeTreaties$Street", "nestedUntil", "[I", true)
  | 3 => ("HedgeTreaties$Street", "clippedOff", "[I", true)
  | 4 => ("HedgeTreaties$Street", "firsts", "[I", true)
  | 5 => ("HedgeTreaties$Street", "others", "[I", true)
  | 6 => ("HedgeTreaties$Street", "ds", "[I", true)
  | 7 => ("HedgeTreaties$Street", "frozenUntil", "[I", true)
  | 8 => ("HedgeTreaties$Street", "treaties", "I", false)
  | 9 => ("HedgeTreaties$Street", "today", "I", false)
  | 10 => ("HedgeTreaties$Street", "cakes", "I", false)
  | 11 => ("HedgeTreaties$Street", "signedSoFar", "I", false)
  | 12 => ("HedgeTreaties$Street", "refusedSoFar", "I", false)
  | _ => ("HedgeTreaties$Street", "clipsSoFar", "I", false)
def tyX1 : Nat → FieldType := fun k => match k with
  | 0 => .array .int
  | 1 => .array .int
  | 2 => .array .int
  | 3 => .array .int
  | 4 => .array .int
  | 5 => .array .int
  | 6 => .array .int
  | 7 => .array .int
  | 8 => .int
  | 9 => .int
  | 10 => .int
  | 11 => .int
  | 12 => .int
  | _ => .int
abbrev wsX10 : List Cond := u_ws RX1 TX1 14
theorem nmX1 : ∀ a, a < 14 → ∀ b, b < 14 → a ≠ b → (TX1 a).2.1 ≠ (TX1 b).2.1 := by decide +kernel
theorem tyX1_ok : ∀ k, k < 14 → parseFieldDescriptor (TX1 k).2.2.1 = some (tyX1 k) := by decide +kernel
abbrev cX1_init : ByteArray := prog_3_method_1_code
def yX1_init : MethodName := ⟨RX1, "<init>", "()V"⟩
abbrev cX1_copyFrom : ByteArray := prog_3_method_2_code
def yX1_copyFrom : MethodName := ⟨RX1, "copyFrom", "(LHedgeTreaties$Street;)V"⟩
abbrev cX1_isNested : ByteArray := prog_3_method_3_code
def yX1_isNested : MethodName := ⟨RX1, "isNested", "(I)Z"⟩
abbrev cX1_countNested : ByteArray := prog_3_method_4_code
def yX1_countNested : MethodName := ⟨RX1, "countNested", "()I"⟩
abbrev cX1_heightAfter : ByteArray := prog_3_method_5_code
def yX1_heightAfter : MethodName := ⟨RX1, "heightAfter", "(II)I"⟩
abbrev cX1_heightsAfter : ByteArray := prog_3_method_6_code
def yX1_heightsAfter : MethodName := ⟨RX1, "heightsAfter", "(I)I"⟩
abbrev cX1_passDay : ByteArray := prog_3_method_7_code
def yX1_passDay : MethodName := ⟨RX1, "passDay", "()V"⟩
abbrev cX1_cutOff : ByteArray := prog_3_method_8_code
def yX1_cutOff : MethodName := ⟨RX1, "cutOff", "(II)V"⟩
abbrev cX1_addTreaty : ByteArray := prog_3_method_9_code
def yX1_addTreaty : MethodName := ⟨RX1, "addTreaty", "(III)V"⟩
abbrev cX1_removeTreaty : ByteArray := prog_3_method_10_code
def yX1_removeTreaty : MethodName := ⟨RX1, "removeTreaty", "(I)V"⟩
abbrev cX1_isAbout : ByteArray := prog_3_method_11_code
def yX1_isAbout : MethodName := ⟨RX1, "isAbout", "(II)Z"⟩
abbrev cX1_isInForce : ByteArray := prog_3_method_12_code
def yX1_isInForce : MethodName := ⟨RX1, "isInForce", "(I)Z"⟩
abbrev cX1_countInForce : ByteArray := prog_3_method_13_code
def yX1_countInForce : MethodName := ⟨RX1, "countInForce", "(I)I"⟩
abbrev cX1_slackAfter : ByteArray := prog_3_method_14_code
def yX1_slackAfter : MethodName := ⟨RX1, "slackAfter", "(II)I"⟩
abbrev cX1_isBrokenAfter : ByteArray := prog_3_method_15_code
def yX1_isBrokenAfter : MethodName := ⟨RX1, "isBrokenAfter", "(II)Z"⟩
abbrev cX1_isBroken : ByteArray := prog_3_method_16_code
def yX1_isBroken : MethodName := ⟨RX1, "isBroken", "(I)Z"⟩
abbrev cX1_countBroken : ByteArray := prog_3_method_17_code
def yX1_countBroken : MethodName := ⟨RX1, "countBroken", "(II)I"⟩
def RX2 : String := "HedgeTreaties$Surveyor"
def TX2 : u_T := fun k => match k with
  | 0 => ("HedgeTreaties$Surveyor", "levels", "[I", true)
  | 1 => ("HedgeTreaties$Surveyor", "sums", "[I", true)
  | _ => ("HedgeTreaties$Surveyor", "pairs", "[[I", true)
def tyX2 : Nat → FieldType := fun k => match k with
  | 0 => .array .int
  | 1 => .array .int
  | _ => .array (.array .int)
abbrev wsX20 : List Cond := u_ws RX2 TX2 3
theorem nmX2 : ∀ a, a < 3 → ∀ b, b < 3 → a ≠ b → (TX2 a).2.1 ≠ (TX2 b).2.1 := by decide +kernel
theorem tyX2_ok : ∀ k, k < 3 → parseFieldDescriptor (TX2 k).2.2.1 = some (tyX2 k) := by decide +kernel
abbrev cX2_init : ByteArray := prog_4_method_1_code
def yX2_init : MethodName := ⟨RX2, "<init>", "()V"⟩
abbrev cX2_boundByTreaties : ByteArray := prog_4_method_2_code
def yX2_boundByTreaties : MethodName := ⟨RX2, "boundByTreaties", "(LHedgeTreaties$Street;III)I"⟩
abbrev cX2_shortenSums : ByteArray := prog_4_method_3_code
def yX2_shortenSums : MethodName := ⟨RX2, "shortenSums", "(LHedgeTreaties$Street;I)Z"⟩
abbrev cX2_boundByPairs : ByteArray := prog_4_method_4_code
def yX2_boundByPairs : MethodName := ⟨RX2, "boundByPairs", "(LHedgeTreaties$Street;II)I"⟩
abbrev cX2_findPairs : ByteArray := prog_4_method_5_code
def yX2_findPairs : MethodName := ⟨RX2, "findPairs", "(LHedgeTreaties$Street;)V"⟩
abbrev cX2_startPairs : ByteArray := prog_4_method_6_code
def yX2_startPairs : MethodName := ⟨RX2, "startPairs", "(LHedgeTreaties$Street;)V"⟩
abbrev cX2_joinPair : ByteArray := prog_4_method_7_code
def yX2_joinPair : MethodName := ⟨RX2, "joinPair", "(III)V"⟩
abbrev cX2_findLeastClipping : ByteArray := prog_4_method_8_code
def yX2_findLeastClipping : MethodName := ⟨RX2, "findLeastClipping", "(LHedgeTreaties$Street;)Z"⟩
abbrev cX2_findLeastClippingByBounds : ByteArray := prog_4_method_9_code
def yX2_findLeastClippingByBounds : MethodName := ⟨RX2, "findLeastClippingByBounds", "(LHedgeTreaties$Street;)Z"⟩
abbrev cX2_isPossibleWith : ByteArray := prog_4_method_10_code
def yX2_isPossibleWith : MethodName := ⟨RX2, "isPossibleWith", "(LHedgeTreaties$Street;III)Z"⟩
abbrev cX2_pressByTreaties : ByteArray := prog_4_method_11_code
def yX2_pressByTreaties : MethodName := ⟨RX2, "pressByTreaties", "(LHedgeTreaties$Street;Z)Z"⟩
abbrev cX2_press : ByteArray := prog_4_method_12_code
def yX2_press : MethodName := ⟨RX2, "press", "(III)Z"⟩
abbrev cX2_areLevelsAboveGround : ByteArray := prog_4_method_13_code
def yX2_areLevelsAboveGround : MethodName := ⟨RX2, "areLevelsAboveGround", "()Z"⟩
def RX3 : String := "HedgeTreaties"
def TX3 : u_T := fun k => match k with
  | 0 => ("HedgeTreaties", "street", "LHedgeTreaties$Street;", true)
  | 1 => ("HedgeTreaties", "snapshot", "LHedgeTreaties$Street;", true)
  | 2 => ("HedgeTreaties", "history", "[LHedgeTreaties$Street;", true)
  | 3 => ("HedgeTreaties", "surveyor", "LHedgeTreaties$Surveyor;", true)
  | 4 => ("HedgeTreaties", "pad", "LHedgeTreaties$Pad;", true)
  | 5 => ("HedgeTreaties", "states", "I", false)
  | 6 => ("HedgeTreaties", "saved", "Z", false)
  | 7 => ("HedgeTreaties", "stopAnswer", "I", false)
  | 8 => ("HedgeTreaties", "stopPart", "I", false)
  | _ => ("HedgeTreaties", "stopPosition", "I", false)
def tyX3 : Nat → FieldType := fun k => match k with
  | 0 => .object "HedgeTreaties$Street"
  | 1 => .object "HedgeTreaties$Street"
  | 2 => .array (.object "HedgeTreaties$Street")
  | 3 => .object "HedgeTreaties$Surveyor"
  | 4 => .object "HedgeTreaties$Pad"
  | 5 => .int
  | 6 => .boolean
  | 7 => .int
  | 8 => .int
  | _ => .int
abbrev wsX30 : List Cond := u_ws RX3 TX3 10
theorem nmX3 : ∀ a, a < 10 → ∀ b, b < 10 → a ≠ b → (TX3 a).2.1 ≠ (TX3 b).2.1 := by decide +kernel
theorem tyX3_ok : ∀ k, k < 10 → parseFieldDescriptor (TX3 k).2.2.1 = some (tyX3 k) := by decide +kernel
abbrev cX3_init : ByteArray := prog_1_method_1_code
def yX3_init : MethodName := ⟨RX3, "<init>", "()V"⟩
abbrev cX3_height : ByteArray := prog_1_method_2_code
def yX3_height : MethodName := ⟨RX3, "height", "(II)I"⟩
abbrev cX3_growth : ByteArray := prog_1_method_3_code
def yX3_growth : MethodName := ⟨RX3, "growth", "(II)I"⟩
abbrev cX3_nest : ByteArray := prog_1_method_4_code
def yX3_nest : MethodName := ⟨RX3, "nest", "(II)I"⟩
abbrev cX3_clip : ByteArray := prog_1_method_5_code
def yX3_clip : MethodName := ⟨RX3, "clip", "(II)I"⟩
abbrev cX3_plan : ByteArray := prog_1_method_6_code
def yX3_plan : MethodName := ⟨RX3, "plan", "()I"⟩
abbrev cX3_day : ByteArray := prog_1_method_7_code
def yX3_day : MethodName := ⟨RX3, "day", "()I"⟩
abbrev cX3_sign : ByteArray := prog_1_method_8_code
def yX3_sign : MethodName := ⟨RX3, "sign", "(III)I"⟩
abbrev cX3_cancel : ByteArray := prog_1_method_9_code
def yX3_cancel : MethodName := ⟨RX3, "cancel", "(I)I"⟩
abbrev cX3_freeze : ByteArray := prog_1_method_10_code
def yX3_freeze : MethodName := ⟨RX3, "freeze", "(II)I"⟩
abbrev cX3_thaw : ByteArray := prog_1_method_11_code
def yX3_thaw : MethodName := ⟨RX3, "thaw", "(I)I"⟩
abbrev cX3_append : ByteArray := prog_1_method_12_code
def yX3_append : MethodName := ⟨RX3, "append", "(I)I"⟩
abbrev cX3_clear : ByteArray := prog_1_method_13_code
def yX3_clear : MethodName := ⟨RX3, "clear", "()I"⟩
abbrev cX3_fault : ByteArray := prog_1_method_14_code
def yX3_fault : MethodName := ⟨RX3, "fault", "()I"⟩
abbrev cX3_signAll : ByteArray := prog_1_method_15_code
def yX3_signAll : MethodName := ⟨RX3, "signAll", "()I"⟩
abbrev cX3_why : ByteArray := prog_1_method_16_code
def yX3_why : MethodName := ⟨RX3, "why", "(I)I"⟩
abbrev cX3_hedge : ByteArray := prog_1_method_17_code
def yX3_hedge : MethodName := ⟨RX3, "hedge", "(II)I"⟩
abbrev cX3_treaty : ByteArray := prog_1_method_18_code
def yX3_treaty : MethodName := ⟨RX3, "treaty", "(II)I"⟩
abbrev cX3_bound : ByteArray := prog_1_method_19_code
def yX3_bound : MethodName := ⟨RX3, "bound", "(III)I"⟩
abbrev cX3_whyNot : ByteArray := prog_1_method_20_code
def yX3_whyNot : MethodName := ⟨RX3, "whyNot", "(III)I"⟩
abbrev cX3_clipping : ByteArray := prog_1_method_21_code
def yX3_clipping : MethodName := ⟨RX3, "clipping", "(I)I"⟩
abbrev cX3_count : ByteArray := prog_1_method_22_code
def yX3_count : MethodName := ⟨RX3, "count", "(I)I"⟩
abbrev cX3_peace : ByteArray := prog_1_method_23_code
def yX3_peace : MethodName := ⟨RX3, "peace", "()D"⟩
abbrev cX3_ifDays : ByteArray := prog_1_method_24_code
def yX3_ifDays : MethodName := ⟨RX3, "ifDays", "(II)I"⟩
abbrev cX3_breaksIn : ByteArray := prog_1_method_25_code
def yX3_breaksIn : MethodName := ⟨RX3, "breaksIn", "()I"⟩
abbrev cX3_tightest : ByteArray := prog_1_method_26_code
def yX3_tightest : MethodName := ⟨RX3, "tightest", "(II)I"⟩
abbrev cX3_undo : ByteArray := prog_1_method_27_code
def yX3_undo : MethodName := ⟨RX3, "undo", "()I"⟩
abbrev cX3_save : ByteArray := prog_1_method_28_code
def yX3_save : MethodName := ⟨RX3, "save", "()I"⟩
abbrev cX3_restore : ByteArray := prog_1_method_29_code
def yX3_restore : MethodName := ⟨RX3, "restore", "()I"⟩
abbrev cX3_isHedge : ByteArray := prog_1_method_30_code
def yX3_isHedge : MethodName := ⟨RX3, "isHedge", "(I)Z"⟩
abbrev cX3_isTreaty : ByteArray := prog_1_method_31_code
def yX3_isTreaty : MethodName := ⟨RX3, "isTreaty", "(I)Z"⟩
abbrev cX3_isAgreement : ByteArray := prog_1_method_32_code
def yX3_isAgreement : MethodName := ⟨RX3, "isAgreement", "(III)Z"⟩
abbrev cX3_sum : ByteArray := prog_1_method_33_code
def yX3_sum : MethodName := ⟨RX3, "sum", "([I)I"⟩
abbrev cX3_remember : ByteArray := prog_1_method_34_code
def yX3_remember : MethodName := ⟨RX3, "remember", "()V"⟩
abbrev cX3_dropOldestState : ByteArray := prog_1_method_35_code
def yX3_dropOldestState : MethodName := ⟨RX3, "dropOldestState", "()V"⟩
abbrev cX3_refuse : ByteArray := prog_1_method_36_code
def yX3_refuse : MethodName := ⟨RX3, "refuse", "(I)I"⟩
abbrev cX3_isNestInTheWay : ByteArray := prog_1_method_37_code
def yX3_isNestInTheWay : MethodName := ⟨RX3, "isNestInTheWay", "()Z"⟩
abbrev cX3_errorOfSigning : ByteArray := prog_1_method_38_code
def yX3_errorOfSigning : MethodName := ⟨RX3, "errorOfSigning", "(III)I"⟩
abbrev cX3_reasonAgainst : ByteArray := prog_1_method_39_code
def yX3_reasonAgainst : MethodName := ⟨RX3, "reasonAgainst", "(III)I"⟩
abbrev cX3_signOne : ByteArray := prog_1_method_40_code
def yX3_signOne : MethodName := ⟨RX3, "signOne", "(III)I"⟩
abbrev cX3_signPart : ByteArray := prog_1_method_41_code
def yX3_signPart : MethodName := ⟨RX3, "signPart", "(I)I"⟩
abbrev cX3_isNothingNewBesideOthers : ByteArray := prog_1_method_42_code
def yX3_isNothingNewBesideOthers : MethodName := ⟨RX3, "isNothingNewBesideOthers", "(I)Z"⟩
def RX4 : String := "HedgeTreatiesModel"
def TX4 : u_T := fun k => match k with
  | _ => ("", "", "", false)
def tyX4 : Nat → FieldType := fun k => match k with
  | _ => .int
abbrev wsX40 : List Cond := u_ws RX4 TX4 0
theorem nmX4 : ∀ a, a < 0 → ∀ b, b < 0 → a ≠ b → (TX4 a).2.1 ≠ (TX4 b).2.1 := by decide +kernel
theorem tyX4_ok : ∀ k, k < 0 → parseFieldDescriptor (TX4 k).2.2.1 = some (tyX4 k) := by decide +kernel
def RL : String := "HedgeTreatiesLaw"
abbrev cL_lot : ByteArray := method_2_code
def yL_lot : MethodName := ⟨RL, "lot", "([II)I"⟩
abbrev cL_low : ByteArray := method_3_code
def yL_low : MethodName := ⟨RL, "low", "(II)I"⟩
abbrev cL_look : ByteArray := method_4_code
def yL_look : MethodName := ⟨RL, "look", "(LHedgeTreaties;)J"⟩
abbrev cL_holds : ByteArray := method_5_code
def yL_holds : MethodName := ⟨RL, "holds", "(LHedgeTreaties;)Z"⟩
abbrev cL_would : ByteArray := method_6_code
def yL_would : MethodName := ⟨RL, "would", "(LHedgeTreaties;I)Z"⟩
abbrev cL_types : ByteArray := method_7_code
def yL_types : MethodName := ⟨RL, "types", "(LHedgeTreaties;I)Z"⟩
abbrev cL_signs : ByteArray := method_8_code
def yL_signs : MethodName := ⟨RL, "signs", "(LHedgeTreaties;I)Z"⟩
abbrev cL_garden : ByteArray := method_9_code
def yL_garden : MethodName := ⟨RL, "garden", "(LHedgeTreaties;II)Z"⟩
abbrev cL_talks : ByteArray := method_10_code
def yL_talks : MethodName := ⟨RL, "talks", "(LHedgeTreaties;II)Z"⟩
abbrev cL_acts : ByteArray := method_11_code
def yL_acts : MethodName := ⟨RL, "acts", "(LHedgeTreaties;II)Z"⟩
abbrev cL_law : ByteArray := code
def yL_law : MethodName := ⟨RL, "law", "([I)Z"⟩
abbrev vwCl : List vw_C := [(RX0, TX0, 10), (RX1, TX1, 14), (RX2, TX2, 3), (RX3, TX3, 10)]
end
section
theorem dX0_init_0 : decode cX0_init 0 = .ok (.aload_n 0, 1) := by decide +kernel
theorem dX0_init_1 : decode cX0_init 1 = .ok (.invokespecial 3, 3) := by decide +kernel
theorem dX0_init_4 : decode cX0_init 4 = .ok (.aload_n 0, 1) := by decide +kernel
theorem dX0_init_5 : decode cX0_init 5 = .ok (.bipush 60, 2) := by decide +kernel
theorem dX0_init_7 : decode cX0_init 7 = .ok (.newarray .int, 2) := by decide +kernel
theorem dX0_init_9 : decode cX0_init 9 = .ok (.putfield 9, 3) := by decide +kernel
theorem dX0_init_12 : decode cX0_init 12 = .ok (.aload_n 0, 1) := by decide +kernel
theorem dX0_init_13 : decode cX0_init 13 = .ok (.bipush 15, 2) := by decide +kernel
theorem dX0_init_15 : decode cX0_init 15 = .ok (.newarray .int, 2) := by decide +kernel
theorem dX0_init_17 : decode cX0_init 17 = .ok (.putfield 15, 3) := by decide +kernel
theorem dX0_init_20 : decode cX0_init 20 = .ok (.aload_n 0, 1) := by decide +kernel
theorem dX0_init_21 : decode cX0_init 21 = .ok (.bipush 15, 2) := by decide +kernel
theorem dX0_init_23 : decode cX0_init 23 = .ok (.newarray .int, 2) := by decide +kernel
theorem dX0_init_25 : decode cX0_init 25 = .ok (.putfield 18, 3) := by decide +kernel
theorem dX0_init_28 : decode cX0_init 28 = .ok (.aload_n 0, 1) := by decide +kernel
theorem dX0_init_29 : decode cX0_init 29 = .ok (.bipush 15, 2) := by decide +kernel
theorem dX0_init_31 : decode cX0_init 31 = .ok (.newarray .int, 2) := by decide +kernel
theorem dX0_init_33 : decode cX0_init 33 = .ok (.putfield 21, 3) := by decide +kernel
theorem dX0_init_36 : decode cX0_init 36 = .ok (.aload_n 0, 1) := by decide +kernel
theorem dX0_init_37 : decode cX0_init 37 = .ok (.bipush 15, 2) := by decide +kernel
theorem dX0_init_39 : decode cX0_init 39 = .ok (.newarray .int, 2) := by decide +kernel
theorem dX0_init_41 : decode cX0_init 41 = .ok (.putfield 24, 3) := by decide +kernel
theorem dX0_init_44 : decode cX0_init 44 = .ok (.return_, 1) := by decide +kernel
theorem dX0_read_0 : decode cX0_read 0 = .ok (.aload_n 0, 1) := by decide +kernel
theorem dX0_read_1 : decode cX0_read 1 = .ok (.iconst 0, 1) := by decide +kernel
theorem dX0_read_2 : decode cX0_read 2 = .ok (.putfield 27, 3) := by decide +kernel
theorem dX0_read_5 : decode cX0_read 5 = .ok (.iconst 1, 1) := by decide +kernel
theorem dX0_read_6 : decode cX0_read 6 = .ok (.istore_n 1, 1) := by decide +kernel
theorem dX0_read_7 : decode cX0_read 7 = .ok (.iconst 0, 1) := by decide +kernel
theorem dX0_read_8 : decode cX0_read 8 = .ok (.istore_n 2, 1) := by decide +kernel
theorem dX0_read_9 : decode cX0_read 9 = .ok (.iload_n 2, 1) := by decide +kernel
theorem dX0_read_10 : decode cX0_read 10 = .ok (.aload_n 0, 1) := by decide +kernel
theorem dX0_read_11 : decode cX0_read 11 = .ok (.getfield 31, 3) := by decide +kernel
theorem dX0_read_14 : decode cX0_read 14 = .ok (.if_icmp .ge 22, 3) := by decide +kernel
theorem dX0_read_17 : decode cX0_read 17 = .ok (.aload_n 0, 1) := by decide +kernel
theorem dX0_read_18 : decode cX0_read 18 = .ok (.iload_n 2, 1) := by decide +kernel
theorem dX0_read_19 : decode cX0_read 19 = .ok (.iload_n 1, 1) := by decide +kernel
theorem dX0_read_20 : decode cX0_read 20 = .ok (.invokevirtual 34, 3) := by decide +kernel
theorem dX0_read_23 : decode cX0_read 23 = .ok (.istore_n 1, 1) := by decide +kernel
theorem dX0_read_24 : decode cX0_read 24 = .ok (.iload_n 1, 1) := by decide +kernel
theorem dX0_read_25 : decode cX0_read 25 = .ok (.ifCond .ne 5, 3) := by decide +kernel
theorem dX0_read_28 : decode cX0_read 28 = .ok (.iload_n 2, 1) := by decide +kernel
theorem dX0_read_29 : decode cX0_read 29 = .ok (.ireturn, 1) := by decide +kernel
theorem dX0_read_30 : decode cX0_read 30 = .ok (.iinc 2 1, 3) := by decide +kernel
theorem dX0_read_33 : decode cX0_read 33 = .ok (.goto (-24), 3) := by decide +kernel
theorem dX0_read_36 : decode cX0_read 36 = .ok (.iload_n 1, 1) := by decide +kernel
theorem dX0_read_37 : decode cX0_read 37 = .ok (.iconst 4, 1) := by decide +kernel
theorem dX0_read_38 : decode cX0_read 38 = .ok (.if_icmp .eq 9, 3) := by decide +kernel
theorem dX0_read_41 : decode cX0_read 41 = .ok (.iload_n 1, 1) := by decide +kernel
theorem dX0_read_42 : decode cX0_read 42 = .ok (.bipush 6, 2) := by decide +kernel
theorem dX0_read_44 : decode cX0_read 44 = .ok (.if_icmp .ne 8, 3) := by decide +kernel
theorem dX0_read_47 : decode cX0_read 47 = .ok (.bipush (-4), 2) := by decide +kernel
theorem dX0_read_49 : decode cX0_read 49 = .ok (.goto 7, 3) := by decide +kernel
theorem dX0_read_52 : decode cX0_read 52 = .ok (.aload_n 0, 1) := by decide +kernel
theorem dX0_read_53 : decode cX0_read 53 = .ok (.getfield 31, 3) := by decide +kernel
theorem dX0_read_56 : decode cX0_read 56 = .ok (.ireturn, 1) := by decide +kernel
theorem dX0_placeBehind_0 : decode cX0_placeBehind 0 = .ok (.aload_n 0, 1) := by decide +kernel
theorem dX0_placeBehind_1 : decode cX0_placeBehind 1 = .ok (.getfield 9, 3) := by decide +kernel
theorem dX0_placeBehind_4 : decode cX0_placeBehind 4 = .ok (.iload_n 1, 1) := by decide +kernel
theorem dX0_placeBehind_5 : decode cX0_placeBehind 5 = .ok (.iaload, 1) := by decide +kernel
theorem dX0_placeBehind_6 : decode cX0_placeBehind 6 = .ok (.istore_n 3, 1) := by decide +kernel
theorem dX0_placeBehind_7 : decode cX0_placeBehind 7 = .ok (.iload_n 2, 1) := by decide +kernel
theorem dX0_placeBehind_8 : decode cX0_placeBehind 8 = .ok (.tableswitch 102 1 6 #[40, 46, 58, 64, 70, 86], 40) := by decide +kernel
theorem dX0_placeBehind_48 : decode cX0_placeBehind 48 = .ok (.aload_n 0, 1) := by decide +kernel
theorem dX0_placeBehind_49 : decode cX0_placeBehind 49 = .ok (.iload_n 1, 1) := by decide +kernel
theorem dX0_placeBehind_50 : decode cX0_placeBehind 50 = .ok (.invokevirtual 38, 3) := by decide +kernel
theorem dX0_placeBehind_53 : decode cX0_placeBehind 53 = .ok (.ireturn, 1) := by decide +kernel
theorem dX0_placeBehind_54 : decode cX0_placeBehind 54 = .ok (.iload_n 3, 1) := by decide +kernel
theorem dX0_placeBehind_55 : decode cX0_placeBehind 55 = .ok (.bipush 60, 2) := by decide +kernel
theorem dX0_placeBehind_57 : decode cX0_placeBehind 57 = .ok (.if_icmp .ne 7, 3) := by decide +kernel
theorem dX0_placeBehind_60 : decode cX0_placeBehind 60 = .ok (.iconst 3, 1) := by decide +kernel
theorem dX0_placeBehind_61 : decode cX0_placeBehind 61 = .ok (.goto 4, 3) := by decide +kernel
theorem dX0_placeBehind_64 : decode cX0_placeBehind 64 = .ok (.iconst 0, 1) := by decide +kernel
theorem dX0_placeBehind_65 : decode cX0_placeBehind 65 = .ok (.ireturn, 1) := by decide +kernel
theorem dX0_placeBehind_66 : decode cX0_placeBehind 66 = .ok (.aload_n 0, 1) := by decide +kernel
theorem dX0_placeBehind_67 : decode cX0_placeBehind 67 = .ok (.iload_n 3, 1) := by decide +kernel
theorem dX0_placeBehind_68 : decode cX0_placeBehind 68 = .ok (.invokevirtual 42, 3) := by decide +kernel
theorem dX0_placeBehind_71 : decode cX0_placeBehind 71 = .ok (.ireturn, 1) := by decide +kernel
theorem dX0_placeBehind_72 : decode cX0_placeBehind 72 = .ok (.aload_n 0, 1) := by decide +kernel
theorem dX0_placeBehind_73 : decode cX0_placeBehind 73 = .ok (.iload_n 3, 1) := by decide +kernel
theorem dX0_placeBehind_74 : decode cX0_placeBehind 74 = .ok (.invokevirtual 45, 3) := by decide +kernel
theorem dX0_placeBehind_77 : decode cX0_placeBehind 77 = .ok (.ireturn, 1) := by decide +kernel
theorem dX0_placeBehind_78 : decode cX0_placeBehind 78 = .ok (.iload_n 3, 1) := by decide +kernel
theorem dX0_placeBehind_79 : decode cX0_placeBehind 79 = .ok (.bipush 48, 2) := by decide +kernel
theorem dX0_placeBehind_81 : decode cX0_placeBehind 81 = .ok (.if_icmp .ne 7, 3) := by decide +kernel
theorem dX0_placeBehind_84 : decode cX0_placeBehind 84 = .ok (.iconst 0, 1) := by decide +kernel
theorem dX0_placeBehind_85 : decode cX0_placeBehind 85 = .ok (.goto 8, 3) := by decide +kernel
theorem dX0_placeBehind_88 : decode cX0_placeBehind 88 = .ok (.aload_n 0, 1) := by decide +kernel
theorem dX0_placeBehind_89 : decode cX0_placeBehind 89 = .ok (.iload_n 3, 1) := by decide +kernel
theorem dX0_placeBehind_90 : decode cX0_placeBehind 90 = .ok (.invokevirtual 48, 3) := by decide +kernel
theorem dX0_placeBehind_93 : decode cX0_placeBehind 93 = .ok (.ireturn, 1) := by decide +kernel
theorem dX0_placeBehind_94 : decode cX0_placeBehind 94 = .ok (.iload_n 3, 1) := by decide +kernel
theorem dX0_placeBehind_95 : decode cX0_placeBehind 95 = .ok (.bipush 59, 2) := by decide +kernel
theorem dX0_placeBehind_97 : decode cX0_placeBehind 97 = .ok (.if_icmp .ne 7, 3) := by decide +kernel
theorem dX0_placeBehind_100 : decode cX0_placeBehind 100 = .ok (.iconst 1, 1) := by decide +kernel
theorem dX0_placeBehind_101 : decode cX0_placeBehind 101 = .ok (.goto 8, 3) := by decide +kernel
theorem dX0_placeBehind_104 : decode cX0_placeBehind 104 = .ok (.aload_n 0, 1) := by decide +kernel
theorem dX0_placeBehind_105 : decode cX0_placeBehind 105 = .ok (.iload_n 3, 1) := by decide +kernel
theorem dX0_placeBehind_106 : decode cX0_placeBehind 106 = .ok (.invokevirtual 48, 3) := by decide +kernel
theorem dX0_placeBehind_109 : decode cX0_placeBehind 109 = .ok (.ireturn, 1) := by decide +kernel
theorem dX0_placeBehind_110 : decode cX0_placeBehind 110 = .ok (.iconst 0, 1) := by decide +kernel
theorem dX0_placeBehind_111 : decode cX0_placeBehind 111 = .ok (.ireturn, 1) := by decide +kernel
theorem dX0_isDigit_0 : decode cX0_isDigit 0 = .ok (.iload_n 0, 1) := by decide +kernel
theorem dX0_isDigit_1 : decode cX0_isDigit 1 = .ok (.bipush 48, 2) := by decide +kernel
theorem dX0_isDigit_3 : decode cX0_isDigit 3 = .ok (.if_icmp .lt 15, 3) := by decide +kernel
theorem dX0_isDigit_6 : decode cX0_isDigit 6 = .ok (.iload_n 0, 1) := by decide +kernel
theorem dX0_isDigit_7 : decode cX0_isDigit 7 = .ok (.bipush 48, 2) := by decide +kernel
theorem dX0_isDigit_9 : decode cX0_isDigit 9 = .ok (.isub, 1) := by decide +kernel
theorem dX0_isDigit_10 : decode cX0_isDigit 10 = .ok (.iload_n 1, 1) := by decide +kernel
theorem dX0_isDigit_11 : decode cX0_isDigit 11 = .ok (.if_icmp .gt 7, 3) := by decide +kernel
theorem dX0_isDigit_14 : decode cX0_isDigit 14 = .ok (.iconst 1, 1) := by decide +kernel
theorem dX0_isDigit_15 : decode cX0_isDigit 15 = .ok (.goto 4, 3) := by decide +kernel
theorem dX0_isDigit_18 : decode cX0_isDigit 18 = .ok (.iconst 0, 1) := by decide +kernel
theorem dX0_isDigit_19 : decode cX0_isDigit 19 = .ok (.ireturn, 1) := by decide +kernel
theorem dX0_startPart_0 : decode cX0_startPart 0 = .ok (.aload_n 0, 1) := by decide +kernel
theorem dX0_startPart_1 : decode cX0_startPart 1 = .ok (.getfield 9, 3) := by decide +kernel
theorem dX0_startPart_4 : decode cX0_startPart 4 = .ok (.iload_n 1, 1) := by decide +kernel
theorem dX0_startPart_5 : decode cX0_startPart 5 = .ok (.iaload, 1) := by decide +kernel
theorem dX0_startPart_6 : decode cX0_startPart 6 = .ok (.istore_n 2, 1) := by decide +kernel
theorem dX0_startPart_7 : decode cX0_startPart 7 = .ok (.iload_n 2, 1) := by decide +kernel
theorem dX0_startPart_8 : decode cX0_startPart 8 = .ok (.bipush 7, 2) := by decide +kernel
theorem dX0_startPart_10 : decode cX0_startPart 10 = .ok (.invokestatic 51, 3) := by decide +kernel
theorem dX0_startPart_13 : decode cX0_startPart 13 = .ok (.ifCond .eq 12, 3) := by decide +kernel
theorem dX0_startPart_16 : decode cX0_startPart 16 = .ok (.aload_n 0, 1) := by decide +kernel
theorem dX0_startPart_17 : decode cX0_startPart 17 = .ok (.getfield 27, 3) := by decide +kernel
theorem dX0_startPart_20 : decode cX0_startPart 20 = .ok (.bipush 15, 2) := by decide +kernel
theorem dX0_startPart_22 : decode cX0_startPart 22 = .ok (.if_icmp .lt 5, 3) := by decide +kernel
theorem dX0_startPart_25 : decode cX0_startPart 25 = .ok (.iconst 0, 1) := by decide +kernel
theorem dX0_startPart_26 : decode cX0_startPart 26 = .ok (.ireturn, 1) := by decide +kernel
theorem dX0_startPart_27 : decode cX0_startPart 27 = .ok (.aload_n 0, 1) := by decide +kernel
theorem dX0_startPart_28 : decode cX0_startPart 28 = .ok (.getfield 15, 3) := by decide +kernel
theorem dX0_startPart_31 : decode cX0_startPart 31 = .ok (.aload_n 0, 1) := by decide +kernel
theorem dX0_startPart_32 : decode cX0_startPart 32 = .ok (.getfield 27, 3) := by decide +kernel
theorem dX0_startPart_35 : decode cX0_startPart 35 = .ok (.iload_n 1, 1) := by decide +kernel
theorem dX0_startPart_36 : decode cX0_startPart 36 = .ok (.iastore, 1) := by decide +kernel
theorem dX0_startPart_37 : decode cX0_startPart 37 = .ok (.aload_n 0, 1) := by decide +kernel
theorem dX0_startPart_38 : decode cX0_startPart 38 = .ok (.getfield 18, 3) := by decide +kernel
theorem dX0_startPart_41 : decode cX0_startPart 41 = .ok (.aload_n 0, 1) := by decide +kernel
theorem dX0_startPart_42 : decode cX0_startPart 42 = .ok (.getfield 27, 3) := by decide +kernel
theorem dX0_startPart_45 : decode cX0_startPart 45 = .ok (.iload_n 2, 1) := by decide +kernel
theorem dX0_startPart_46 : decode cX0_startPart 46 = .ok (.bipush 48, 2) := by decide +kernel
theorem dX0_startPart_48 : decode cX0_startPart 48 = .ok (.isub, 1) := by decide +kernel
theorem dX0_startPart_49 : decode cX0_startPart 49 = .ok (.iastore, 1) := by decide +kernel
theorem dX0_startPart_50 : decode cX0_startPart 50 = .ok (.aload_n 0, 1) := by decide +kernel
theorem dX0_startPart_51 : decode cX0_startPart 51 = .ok (.getfield 24, 3) := by decide +kernel
theorem dX0_startPart_54 : decode cX0_startPart 54 = .ok (.aload_n 0, 1) := by decide +kernel
theorem dX0_startPart_55 : decode cX0_startPart 55 = .ok (.getfield 27, 3) := by decide +kernel
theorem dX0_startPart_58 : decode cX0_startPart 58 = .ok (.iconst 0, 1) := by decide +kernel
theorem dX0_startPart_59 : decode cX0_startPart 59 = .ok (.iastore, 1) := by decide +kernel
theorem dX0_startPart_60 : decode cX0_startPart 60 = .ok (.aload_n 0, 1) := by decide +kernel
theorem dX0_startPart_61 : decode cX0_startPart 61 = .ok (.dup, 1) := by decide +kernel
theorem dX0_startPart_62 : decode cX0_startPart 62 = .ok (.getfield 27, 3) := by decide +kernel
theorem dX0_startPart_65 : decode cX0_startPart 65 = .ok (.iconst 1, 1) := by decide +kernel
theorem dX0_startPart_66 : decode cX0_startPart 66 = .ok (.iadd, 1) := by decide +kernel
theorem dX0_startPart_67 : decode cX0_startPart 67 = .ok (.putfield 27, 3) := by decide +kernel
theorem dX0_startPart_70 : decode cX0_startPart 70 = .ok (.iconst 2, 1) := by decide +kernel
theorem dX0_startPart_71 : decode cX0_startPart 71 = .ok (.ireturn, 1) := by decide +kernel
theorem dX0_takeOther_0 : decode cX0_takeOther 0 = .ok (.iload_n 1, 1) := by decide +kernel
theorem dX0_takeOther_1 : decode cX0_takeOther 1 = .ok (.bipush 7, 2) := by decide +kernel
theorem dX0_takeOther_3 : decode cX0_takeOther 3 = .ok (.invokestatic 51, 3) := by decide +kernel
theorem dX0_takeOther_6 : decode cX0_takeOther 6 = .ok (.ifCond .ne 5, 3) := by decide +kernel
theorem dX0_takeOther_9 : decode cX0_takeOther 9 = .ok (.iconst 0, 1) := by decide +kernel
theorem dX0_takeOther_10 : decode cX0_takeOther 10 = .ok (.ireturn, 1) := by decide +kernel
theorem dX0_takeOther_11 : decode cX0_takeOther 11 = .ok (.aload_n 0, 1) := by decide +kernel
theorem dX0_takeOther_12 : decode cX0_takeOther 12 = .ok (.getfield 21, 3) := by decide +kernel
theorem dX0_takeOther_15 : decode cX0_takeOther 15 = .ok (.aload_n 0, 1) := by decide +kernel
theorem dX0_takeOther_16 : decode cX0_takeOther 16 = .ok (.getfield 27, 3) := by decide +kernel
theorem dX0_takeOther_19 : decode cX0_takeOther 19 = .ok (.iconst 1, 1) := by decide +kernel
theorem dX0_takeOther_20 : decode cX0_takeOther 20 = .ok (.isub, 1) := by decide +kernel
theorem dX0_takeOther_21 : decode cX0_takeOther 21 = .ok (.iload_n 1, 1) := by decide +kernel
theorem dX0_takeOther_22 : decode cX0_takeOther 22 = .ok (.bipush 48, 2) := by decide +kernel
theorem dX0_takeOther_24 : decode cX0_takeOther 24 = .ok (.isub, 1) := by decide +kernel
theorem dX0_takeOther_25 : decode cX0_takeOther 25 = .ok (.iastore, 1) := by decide +kernel
theorem dX0_takeOther_26 : decode cX0_takeOther 26 = .ok (.iconst 4, 1) := by decide +kernel
theorem dX0_takeOther_27 : decode cX0_takeOther 27 = .ok (.ireturn, 1) := by decide +kernel
theorem dX0_takeSign_0 : decode cX0_takeSign 0 = .ok (.iload_n 1, 1) := by decide +kernel
theorem dX0_takeSign_1 : decode cX0_takeSign 1 = .ok (.lookupswitch 53 #[(43, 37), (45, 45), (59, 35)], 35) := by decide +kernel
theorem dX0_takeSign_36 : decode cX0_takeSign 36 = .ok (.iconst 1, 1) := by decide +kernel
theorem dX0_takeSign_37 : decode cX0_takeSign 37 = .ok (.ireturn, 1) := by decide +kernel
theorem dX0_takeSign_38 : decode cX0_takeSign 38 = .ok (.aload_n 0, 1) := by decide +kernel
theorem dX0_takeSign_39 : decode cX0_takeSign 39 = .ok (.iconst 1, 1) := by decide +kernel
theorem dX0_takeSign_40 : decode cX0_takeSign 40 = .ok (.bipush 60, 2) := by decide +kernel
theorem dX0_takeSign_42 : decode cX0_takeSign 42 = .ok (.invokevirtual 55, 3) := by decide +kernel
theorem dX0_takeSign_45 : decode cX0_takeSign 45 = .ok (.ireturn, 1) := by decide +kernel
theorem dX0_takeSign_46 : decode cX0_takeSign 46 = .ok (.aload_n 0, 1) := by decide +kernel
theorem dX0_takeSign_47 : decode cX0_takeSign 47 = .ok (.iconst (-1), 1) := by decide +kernel
theorem dX0_takeSign_48 : decode cX0_takeSign 48 = .ok (.bipush 30, 2) := by decide +kernel
theorem dX0_takeSign_50 : decode cX0_takeSign 50 = .ok (.invokevirtual 55, 3) := by decide +kernel
theorem dX0_takeSign_53 : decode cX0_takeSign 53 = .ok (.ireturn, 1) := by decide +kernel
theorem dX0_takeSign_54 : decode cX0_takeSign 54 = .ok (.iconst 0, 1) := by decide +kernel
theorem dX0_takeSign_55 : decode cX0_takeSign 55 = .ok (.ireturn, 1) := by decide +kernel
theorem dX0_startNumber_0 : decode cX0_startNumber 0 = .ok (.aload_n 0, 1) := by decide +kernel
theorem dX0_startNumber_1 : decode cX0_startNumber 1 = .ok (.iload_n 1, 1) := by decide +kernel
theorem dX0_startNumber_2 : decode cX0_startNumber 2 = .ok (.putfield 58, 3) := by decide +kernel
theorem dX0_startNumber_5 : decode cX0_startNumber 5 = .ok (.aload_n 0, 1) := by decide +kernel
theorem dX0_startNumber_6 : decode cX0_startNumber 6 = .ok (.iconst 0, 1) := by decide +kernel
theorem dX0_startNumber_7 : decode cX0_startNumber 7 = .ok (.putfield 61, 3) := by decide +kernel
theorem dX0_startNumber_10 : decode cX0_startNumber 10 = .ok (.aload_n 0, 1) := by decide +kernel
theorem dX0_startNumber_11 : decode cX0_startNumber 11 = .ok (.iload_n 2, 1) := by decide +kernel
theorem dX0_startNumber_12 : decode cX0_startNumber 12 = .ok (.putfield 64, 3) := by decide +kernel
theorem dX0_startNumber_15 : decode cX0_startNumber 15 = .ok (.iconst 5, 1) := by decide +kernel
theorem dX0_startNumber_16 : decode cX0_startNumber 16 = .ok (.ireturn, 1) := by decide +kernel
theorem dX0_takeDigit_0 : decode cX0_takeDigit 0 = .ok (.iload_n 1, 1) := by decide +kernel
theorem dX0_takeDigit_1 : decode cX0_takeDigit 1 = .ok (.bipush 9, 2) := by decide +kernel
theorem dX0_takeDigit_3 : decode cX0_takeDigit 3 = .ok (.invokestatic 51, 3) := by decide +kernel
theorem dX0_takeDigit_6 : decode cX0_takeDigit 6 = .ok (.ifCond .ne 5, 3) := by decide +kernel
theorem dX0_takeDigit_9 : decode cX0_takeDigit 9 = .ok (.iconst 0, 1) := by decide +kernel
theorem dX0_takeDigit_10 : decode cX0_takeDigit 10 = .ok (.ireturn, 1) := by decide +kernel
theorem dX0_takeDigit_11 : decode cX0_takeDigit 11 = .ok (.aload_n 0, 1) := by decide +kernel
theorem dX0_takeDigit_12 : decode cX0_takeDigit 12 = .ok (.aload_n 0, 1) := by decide +kernel
theorem dX0_takeDigit_13 : decode cX0_takeDigit 13 = .ok (.getfield 61, 3) := by decide +kernel
theorem dX0_takeDigit_16 : decode cX0_takeDigit 16 = .ok (.bipush 10, 2) := by decide +kernel
theorem dX0_takeDigit_18 : decode cX0_takeDigit 18 = .ok (.imul, 1) := by decide +kernel
theorem dX0_takeDigit_19 : decode cX0_takeDigit 19 = .ok (.iload_n 1, 1) := by decide +kernel
theorem dX0_takeDigit_20 : decode cX0_takeDigit 20 = .ok (.iadd, 1) := by decide +kernel
theorem dX0_takeDigit_21 : decode cX0_takeDigit 21 = .ok (.bipush 48, 2) := by decide +kernel
theorem dX0_takeDigit_23 : decode cX0_takeDigit 23 = .ok (.isub, 1) := by decide +kernel
theorem dX0_takeDigit_24 : decode cX0_takeDigit 24 = .ok (.putfield 61, 3) := by decide +kernel
theorem dX0_takeDigit_27 : decode cX0_takeDigit 27 = .ok (.aload_n 0, 1) := by decide +kernel
theorem dX0_takeDigit_28 : decode cX0_takeDigit 28 = .ok (.getfield 61, 3) := by decide +kernel
theorem dX0_takeDigit_31 : decode cX0_takeDigit 31 = .ok (.aload_n 0, 1) := by decide +kernel
theorem dX0_takeDigit_32 : decode cX0_takeDigit 32 = .ok (.getfield 64, 3) := by decide +kernel
theorem dX0_takeDigit_35 : decode cX0_takeDigit 35 = .ok (.if_icmp .le 5, 3) := by decide +kernel
theorem dX0_takeDigit_38 : decode cX0_takeDigit 38 = .ok (.iconst 0, 1) := by decide +kernel
theorem dX0_takeDigit_39 : decode cX0_takeDigit 39 = .ok (.ireturn, 1) := by decide +kernel
theorem dX0_takeDigit_40 : decode cX0_takeDigit 40 = .ok (.aload_n 0, 1) := by decide +kernel
theorem dX0_takeDigit_41 : decode cX0_takeDigit 41 = .ok (.getfield 24, 3) := by decide +kernel
theorem dX0_takeDigit_44 : decode cX0_takeDigit 44 = .ok (.aload_n 0, 1) := by decide +kernel
theorem dX0_takeDigit_45 : decode cX0_takeDigit 45 = .ok (.getfield 27, 3) := by decide +kernel
theorem dX0_takeDigit_48 : decode cX0_takeDigit 48 = .ok (.iconst 1, 1) := by decide +kernel
theorem dX0_takeDigit_49 : decode cX0_takeDigit 49 = .ok (.isub, 1) := by decide +kernel
theorem dX0_takeDigit_50 : decode cX0_takeDigit 50 = .ok (.aload_n 0, 1) := by decide +kernel
theorem dX0_takeDigit_51 : decode cX0_takeDigit 51 = .ok (.getfield 58, 3) := by decide +kernel
theorem dX0_takeDigit_54 : decode cX0_takeDigit 54 = .ok (.aload_n 0, 1) := by decide +kernel
theorem dX0_takeDigit_55 : decode cX0_takeDigit 55 = .ok (.getfield 61, 3) := by decide +kernel
theorem dX0_takeDigit_58 : decode cX0_takeDigit 58 = .ok (.imul, 1) := by decide +kernel
theorem dX0_takeDigit_59 : decode cX0_takeDigit 59 = .ok (.iastore, 1) := by decide +kernel
theorem dX0_takeDigit_60 : decode cX0_takeDigit 60 = .ok (.bipush 6, 2) := by decide +kernel
theorem dX0_takeDigit_62 : decode cX0_takeDigit 62 = .ok (.ireturn, 1) := by decide +kernel
end
section
theorem dX1_init_0 : decode cX1_init 0 = .ok (.aload_n 0, 1) := by decide +kernel
theorem dX1_init_1 : decode cX1_init 1 = .ok (.invokespecial 3, 3) := by decide +kernel
theorem dX1_init_4 : decode cX1_init 4 = .ok (.aload_n 0, 1) := by decide +kernel
theorem dX1_init_5 : decode cX1_init 5 = .ok (.bipush 8, 2) := by decide +kernel
theorem dX1_init_7 : decode cX1_init 7 = .ok (.newarray .int, 2) := by decide +kernel
theorem dX1_init_9 : decode cX1_init 9 = .ok (.putfield 9, 3) := by decide +kernel
theorem dX1_init_12 : decode cX1_init 12 = .ok (.aload_n 0, 1) := by decide +kernel
theorem dX1_init_13 : decode cX1_init 13 = .ok (.bipush 8, 2) := by decide +kernel
theorem dX1_init_15 : decode cX1_init 15 = .ok (.newarray .int, 2) := by decide +kernel
theorem dX1_init_17 : decode cX1_init 17 = .ok (.putfield 15, 3) := by decide +kernel
theorem dX1_init_20 : decode cX1_init 20 = .ok (.aload_n 0, 1) := by decide +kernel
theorem dX1_init_21 : decode cX1_init 21 = .ok (.bipush 8, 2) := by decide +kernel
theorem dX1_init_23 : decode cX1_init 23 = .ok (.newarray .int, 2) := by decide +kernel
theorem dX1_init_25 : decode cX1_init 25 = .ok (.putfield 18, 3) := by decide +kernel
theorem dX1_init_28 : decode cX1_init 28 = .ok (.aload_n 0, 1) := by decide +kernel
theorem dX1_init_29 : decode cX1_init 29 = .ok (.bipush 8, 2) := by decide +kernel
theorem dX1_init_31 : decode cX1_init 31 = .ok (.newarray .int, 2) := by decide +kernel
theorem dX1_init_33 : decode cX1_init 33 = .ok (.putfield 21, 3) := by decide +kernel
theorem dX1_init_36 : decode cX1_init 36 = .ok (.aload_n 0, 1) := by decide +kernel
theorem dX1_init_37 : decode cX1_init 37 = .ok (.bipush 14, 2) := by decide +kernel
theorem dX1_init_39 : decode cX1_init 39 = .ok (.newarray .int, 2) := by decide +kernel
theorem dX1_init_41 : decode cX1_init 41 = .ok (.putfield 24, 3) := by decide +kernel
theorem dX1_init_44 : decode cX1_init 44 = .ok (.aload_n 0, 1) := by decide +kernel
theorem dX1_init_45 : decode cX1_init 45 = .ok (.bipush 14, 2) := by decide +kernel
theorem dX1_init_47 : decode cX1_init 47 = .ok (.newarray .int, 2) := by decide +kernel
theorem dX1_init_49 : decode cX1_init 49 = .ok (.putfield 27, 3) := by decide +kernel
theorem dX1_init_52 : decode cX1_init 52 = .ok (.aload_n 0, 1) := by decide +kernel
theorem dX1_init_53 : decode cX1_init 53 = .ok (.bipush 14, 2) := by decide +kernel
theorem dX1_init_55 : decode cX1_init 55 = .ok (.newarray .int, 2) := by decide +kernel
theorem dX1_init_57 : decode cX1_init 57 = .ok (.putfield 30, 3) := by decide +kernel
theorem dX1_init_60 : decode cX1_init 60 = .ok (.aload_n 0, 1) := by decide +kernel
theorem dX1_init_61 : decode cX1_init 61 = .ok (.bipush 14, 2) := by decide +kernel
theorem dX1_init_63 : decode cX1_init 63 = .ok (.newarray .int, 2) := by decide +kernel
theorem dX1_init_65 : decode cX1_init 65 = .ok (.putfield 33, 3) := by decide +kernel
theorem dX1_init_68 : decode cX1_init 68 = .ok (.aload_n 0, 1) := by decide +kernel
theorem dX1_init_69 : decode cX1_init 69 = .ok (.bipush 10, 2) := by decide +kernel
theorem dX1_init_71 : decode cX1_init 71 = .ok (.putfield 36, 3) := by decide +kernel
theorem dX1_init_74 : decode cX1_init 74 = .ok (.iconst 0, 1) := by decide +kernel
theorem dX1_init_75 : decode cX1_init 75 = .ok (.istore_n 1, 1) := by decide +kernel
theorem dX1_init_76 : decode cX1_init 76 = .ok (.iload_n 1, 1) := by decide +kernel
theorem dX1_init_77 : decode cX1_init 77 = .ok (.bipush 8, 2) := by decide +kernel
theorem dX1_init_79 : decode cX1_init 79 = .ok (.if_icmp .ge 24, 3) := by decide +kernel
theorem dX1_init_82 : decode cX1_init 82 = .ok (.aload_n 0, 1) := by decide +kernel
theorem dX1_init_83 : decode cX1_init 83 = .ok (.getfield 9, 3) := by decide +kernel
theorem dX1_init_86 : decode cX1_init 86 = .ok (.iload_n 1, 1) := by decide +kernel
theorem dX1_init_87 : decode cX1_init 87 = .ok (.bipush 10, 2) := by decide +kernel
theorem dX1_init_89 : decode cX1_init 89 = .ok (.iastore, 1) := by decide +kernel
theorem dX1_init_90 : decode cX1_init 90 = .ok (.aload_n 0, 1) := by decide +kernel
theorem dX1_init_91 : decode cX1_init 91 = .ok (.getfield 15, 3) := by decide +kernel
theorem dX1_init_94 : decode cX1_init 94 = .ok (.iload_n 1, 1) := by decide +kernel
theorem dX1_init_95 : decode cX1_init 95 = .ok (.iconst 1, 1) := by decide +kernel
theorem dX1_init_96 : decode cX1_init 96 = .ok (.iastore, 1) := by decide +kernel
theorem dX1_init_97 : decode cX1_init 97 = .ok (.iinc 1 1, 3) := by decide +kernel
theorem dX1_init_100 : decode cX1_init 100 = .ok (.goto (-24), 3) := by decide +kernel
theorem dX1_init_103 : decode cX1_init 103 = .ok (.return_, 1) := by decide +kernel
theorem dX1_copyFrom_0 : decode cX1_copyFrom 0 = .ok (.iconst 0, 1) := by decide +kernel
theorem dX1_copyFrom_1 : decode cX1_copyFrom 1 = .ok (.istore_n 2, 1) := by decide +kernel
theorem dX1_copyFrom_2 : decode cX1_copyFrom 2 = .ok (.iload_n 2, 1) := by decide +kernel
theorem dX1_copyFrom_3 : decode cX1_copyFrom 3 = .ok (.bipush 8, 2) := by decide +kernel
theorem dX1_copyFrom_5 : decode cX1_copyFrom 5 = .ok (.if_icmp .ge 57, 3) := by decide +kernel
theorem dX1_copyFrom_8 : decode cX1_copyFrom 8 = .ok (.aload_n 0, 1) := by decide +kernel
theorem dX1_copyFrom_9 : decode cX1_copyFrom 9 = .ok (.getfield 9, 3) := by decide +kernel
theorem dX1_copyFrom_12 : decode cX1_copyFrom 12 = .ok (.iload_n 2, 1) := by decide +kernel
theorem dX1_copyFrom_13 : decode cX1_copyFrom 13 = .ok (.aload_n 1, 1) := by decide +kernel
theorem dX1_copyFrom_14 : decode cX1_copyFrom 14 = .ok (.getfield 9, 3) := by decide +kernel
theorem dX1_copyFrom_17 : decode cX1_copyFrom 17 = .ok (.iload_n 2, 1) := by decide +kernel
theorem dX1_copyFrom_18 : decode cX1_copyFrom 18 = .ok (.iaload, 1) := by decide +kernel
theorem dX1_copyFrom_19 : decode cX1_copyFrom 19 = .ok (.iastore, 1) := by decide +kernel
theorem dX1_copyFrom_20 : decode cX1_copyFrom 20 = .ok (.aload_n 0, 1) := by decide +kernel
theorem dX1_copyFrom_21 : decode cX1_copyFrom 21 = .ok (.getfield 15, 3) := by decide +kernel
theorem dX1_copyFrom_24 : decode cX1_copyFrom 24 = .ok (.iload_n 2, 1) := by decide +kernel
theorem dX1_copyFrom_25 : decode cX1_copyFrom 25 = .ok (.aload_n 1, 1) := by decide +kernel
theorem dX1_copyFrom_26 : decode cX1_copyFrom 26 = .ok (.getfield 15, 3) := by decide +kernel
theorem dX1_copyFrom_29 : decode cX1_copyFrom 29 = .ok (.iload_n 2, 1) := by decide +kernel
theorem dX1_copyFrom_30 : decode cX1_copyFrom 30 = .ok (.iaload, 1) := by decide +kernel
theorem dX1_copyFrom_31 : decode cX1_copyFrom 31 = .ok (.iastore, 1) := by decide +kernel
theorem dX1_copyFrom_32 : decode cX1_copyFrom 32 = .ok (.aload_n 0, 1) := by decide +kernel
theorem dX1_copyFrom_33 : decode cX1_copyFrom 33 = .ok (.getfield 18, 3) := by decide +kernel
theorem dX1_copyFrom_36 : decode cX1_copyFrom 36 = .ok (.iload_n 2, 1) := by decide +kernel
theorem dX1_copyFrom_37 : decode cX1_copyFrom 37 = .ok (.aload_n 1, 1) := by decide +kernel
theorem dX1_copyFrom_38 : decode cX1_copyFrom 38 = .ok (.getfield 18, 3) := by decide +kernel
theorem dX1_copyFrom_41 : decode cX1_copyFrom 41 = .ok (.iload_n 2, 1) := by decide +kernel
theorem dX1_copyFrom_42 : decode cX1_copyFrom 42 = .ok (.iaload, 1) := by decide +kernel
theorem dX1_copyFrom_43 : decode cX1_copyFrom 43 = .ok (.iastore, 1) := by decide +kernel
theorem dX1_copyFrom_44 : decode cX1_copyFrom 44 = .ok (.aload_n 0, 1) := by decide +kernel
theorem dX1_copyFrom_45 : decode cX1_copyFrom 45 = .ok (.getfield 21, 3) := by decide +kernel
theorem dX1_copyFrom_48 : decode cX1_copyFrom 48 = .ok (.iload_n 2, 1) := by decide +kernel
theorem dX1_copyFrom_49 : decode cX1_copyFrom 49 = .ok (.aload_n 1, 1) := by decide +kernel
theorem dX1_copyFrom_50 : decode cX1_copyFrom 50 = .ok (.getfield 21, 3) := by decide +kernel
theorem dX1_copyFrom_53 : decode cX1_copyFrom 53 = .ok (.iload_n 2, 1) := by decide +kernel
theorem dX1_copyFrom_54 : decode cX1_copyFrom 54 = .ok (.iaload, 1) := by decide +kernel
theorem dX1_copyFrom_55 : decode cX1_copyFrom 55 = .ok (.iastore, 1) := by decide +kernel
theorem dX1_copyFrom_56 : decode cX1_copyFrom 56 = .ok (.iinc 2 1, 3) := by decide +kernel
theorem dX1_copyFrom_59 : decode cX1_copyFrom 59 = .ok (.goto (-57), 3) := by decide +kernel
theorem dX1_copyFrom_62 : decode cX1_copyFrom 62 = .ok (.iconst 0, 1) := by decide +kernel
theorem dX1_copyFrom_63 : decode cX1_copyFrom 63 = .ok (.istore_n 2, 1) := by decide +kernel
theorem dX1_copyFrom_64 : decode cX1_copyFrom 64 = .ok (.iload_n 2, 1) := by decide +kernel
theorem dX1_copyFrom_65 : decode cX1_copyFrom 65 = .ok (.bipush 14, 2) := by decide +kernel
theorem dX1_copyFrom_67 : decode cX1_copyFrom 67 = .ok (.if_icmp .ge 57, 3) := by decide +kernel
theorem dX1_copyFrom_70 : decode cX1_copyFrom 70 = .ok (.aload_n 0, 1) := by decide +kernel
theorem dX1_copyFrom_71 : decode cX1_copyFrom 71 = .ok (.getfield 24, 3) := by decide +kernel
theorem dX1_copyFrom_74 : decode cX1_copyFrom 74 = .ok (.iload_n 2, 1) := by decide +kernel
theorem dX1_copyFrom_75 : decode cX1_copyFrom 75 = .ok (.aload_n 1, 1) := by decide +kernel
theorem dX1_copyFrom_76 : decode cX1_copyFrom 76 = .ok (.getfield 24, 3) := by decide +kernel
theorem dX1_copyFrom_79 : decode cX1_copyFrom 79 = .ok (.iload_n 2, 1) := by decide +kernel
theorem dX1_copyFrom_80 : decode cX1_copyFrom 80 = .ok (.iaload, 1) := by decide +kernel
theorem dX1_copyFrom_81 : decode cX1_copyFrom 81 = .ok (.iastore, 1) := by decide +kernel
theorem dX1_copyFrom_82 : decode cX1_copyFrom 82 = .ok (.aload_n 0, 1) := by decide +kernel
theorem dX1_copyFrom_83 : decode cX1_copyFrom 83 = .ok (.getfield 27, 3) := by decide +kernel
theorem dX1_copyFrom_86 : decode cX1_copyFrom 86 = .ok (.iload_n 2, 1) := by decide +kernel
theorem dX1_copyFrom_87 : decode cX1_copyFrom 87 = .ok (.aload_n 1, 1) := by decide +kernel
theorem dX1_copyFrom_88 : decode cX1_copyFrom 88 = .ok (.getfield 27, 3) := by decide +kernel
theorem dX1_copyFrom_91 : decode cX1_copyFrom 91 = .ok (.iload_n 2, 1) := by decide +kernel
theorem dX1_copyFrom_92 : decode cX1_copyFrom 92 = .ok (.iaload, 1) := by decide +kernel
theorem dX1_copyFrom_93 : decode cX1_copyFrom 93 = .ok (.iastore, 1) := by decide +kernel
theorem dX1_copyFrom_94 : decode cX1_copyFrom 94 = .ok (.aload_n 0, 1) := by decide +kernel
theorem dX1_copyFrom_95 : decode cX1_copyFrom 95 = .ok (.getfield 30, 3) := by decide +kernel
theorem dX1_copyFrom_98 : decode cX1_copyFrom 98 = .ok (.iload_n 2, 1) := by decide +kernel
theorem dX1_copyFrom_99 : decode cX1_copyFrom 99 = .ok (.aload_n 1, 1) := by decide +kernel
theorem dX1_copyFrom_100 : decode cX1_copyFrom 100 = .ok (.getfield 30, 3) := by decide +kernel
theorem dX1_copyFrom_103 : decode cX1_copyFrom 103 = .ok (.iload_n 2, 1) := by decide +kernel
theorem dX1_copyFrom_104 : decode cX1_copyFrom 104 = .ok (.iaload, 1) := by decide +kernel
theorem dX1_copyFrom_105 : decode cX1_copyFrom 105 = .ok (.iastore, 1) := by decide +kernel
theorem dX1_copyFrom_106 : decode cX1_copyFrom 106 = .ok (.aload_n 0, 1) := by decide +kernel
theorem dX1_copyFrom_107 : decode cX1_copyFrom 107 = .ok (.getfield 33, 3) := by decide +kernel
theorem dX1_copyFrom_110 : decode cX1_copyFrom 110 = .ok (.iload_n 2, 1) := by decide +kernel
theorem dX1_copyFrom_111 : decode cX1_copyFrom 111 = .ok (.aload_n 1, 1) := by decide +kernel
theorem dX1_copyFrom_112 : decode cX1_copyFrom 112 = .ok (.getfield 33, 3) := by decide +kernel
theorem dX1_copyFrom_115 : decode cX1_copyFrom 115 = .ok (.iload_n 2, 1) := by decide +kernel
theorem dX1_copyFrom_116 : decode cX1_copyFrom 116 = .ok (.iaload, 1) := by decide +kernel
theorem dX1_copyFrom_117 : decode cX1_copyFrom 117 = .ok (.iastore, 1) := by decide +kernel
theorem dX1_copyFrom_118 : decode cX1_copyFrom 118 = .ok (.iinc 2 1, 3) := by decide +kernel
theorem dX1_copyFrom_121 : decode cX1_copyFrom 121 = .ok (.goto (-57), 3) := by decide +kernel
theorem dX1_copyFrom_124 : decode cX1_copyFrom 124 = .ok (.aload_n 0, 1) := by decide +kernel
theorem dX1_copyFrom_125 : decode cX1_copyFrom 125 = .ok (.aload_n 1, 1) := by decide +kernel
theorem dX1_copyFrom_126 : decode cX1_copyFrom 126 = .ok (.getfield 40, 3) := by decide +kernel
theorem dX1_copyFrom_129 : decode cX1_copyFrom 129 = .ok (.putfield 40, 3) := by decide +kernel
theorem dX1_copyFrom_132 : decode cX1_copyFrom 132 = .ok (.aload_n 0, 1) := by decide +kernel
theorem dX1_copyFrom_133 : decode cX1_copyFrom 133 = .ok (.aload_n 1, 1) := by decide +kernel
theorem dX1_copyFrom_134 : decode cX1_copyFrom 134 = .ok (.getfield 43, 3) := by decide +kernel
theorem dX1_copyFrom_137 : decode cX1_copyFrom 137 = .ok (.putfield 43, 3) := by decide +kernel
theorem dX1_copyFrom_140 : decode cX1_copyFrom 140 = .ok (.aload_n 0, 1) := by decide +kernel
theorem dX1_copyFrom_141 : decode cX1_copyFrom 141 = .ok (.aload_n 1, 1) := by decide +kernel
theorem dX1_copyFrom_142 : decode cX1_copyFrom 142 = .ok (.getfield 36, 3) := by decide +kernel
theorem dX1_copyFrom_145 : decode cX1_copyFrom 145 = .ok (.putfield 36, 3) := by decide +kernel
theorem dX1_copyFrom_148 : decode cX1_copyFrom 148 = .ok (.aload_n 0, 1) := by decide +kernel
theorem dX1_copyFrom_149 : decode cX1_copyFrom 149 = .ok (.aload_n 1, 1) := by decide +kernel
theorem dX1_copyFrom_150 : decode cX1_copyFrom 150 = .ok (.getfield 46, 3) := by decide +kernel
theorem dX1_copyFrom_153 : decode cX1_copyFrom 153 = .ok (.putfield 46, 3) := by decide +kernel
theorem dX1_copyFrom_156 : decode cX1_copyFrom 156 = .ok (.aload_n 0, 1) := by decide +kernel
theorem dX1_copyFrom_157 : decode cX1_copyFrom 157 = .ok (.aload_n 1, 1) := by decide +kernel
theorem dX1_copyFrom_158 : decode cX1_copyFrom 158 = .ok (.getfield 49, 3) := by decide +kernel
theorem dX1_copyFrom_161 : decode cX1_copyFrom 161 = .ok (.putfield 49, 3) := by decide +kernel
theorem dX1_copyFrom_164 : decode cX1_copyFrom 164 = .ok (.aload_n 0, 1) := by decide +kernel
theorem dX1_copyFrom_165 : decode cX1_copyFrom 165 = .ok (.aload_n 1, 1) := by decide +kernel
theorem dX1_copyFrom_166 : decode cX1_copyFrom 166 = .ok (.getfield 52, 3) := by decide +kernel
theorem dX1_copyFrom_169 : decode cX1_copyFrom 169 = .ok (.putfield 52, 3) := by decide +kernel
theorem dX1_copyFrom_172 : decode cX1_copyFrom 172 = .ok (.return_, 1) := by decide +kernel
theorem dX1_isNested_0 : decode cX1_isNested 0 = .ok (.aload_n 0, 1) := by decide +kernel
theorem dX1_isNested_1 : decode cX1_isNested 1 = .ok (.getfield 43, 3) := by decide +kernel
theorem dX1_isNested_4 : decode cX1_isNested 4 = .ok (.aload_n 0, 1) := by decide +kernel
theorem dX1_isNested_5 : decode cX1_isNested 5 = .ok (.getfield 18, 3) := by decide +kernel
theorem dX1_isNested_8 : decode cX1_isNested 8 = .ok (.iload_n 1, 1) := by decide +kernel
theorem dX1_isNested_9 : decode cX1_isNested 9 = .ok (.iaload, 1) := by decide +kernel
theorem dX1_isNested_10 : decode cX1_isNested 10 = .ok (.if_icmp .ge 7, 3) := by decide +kernel
theorem dX1_isNested_13 : decode cX1_isNested 13 = .ok (.iconst 1, 1) := by decide +kernel
theorem dX1_isNested_14 : decode cX1_isNested 14 = .ok (.goto 4, 3) := by decide +kernel
theorem dX1_isNested_17 : decode cX1_isNested 17 = .ok (.iconst 0, 1) := by decide +kernel
theorem dX1_isNested_18 : decode cX1_isNested 18 = .ok (.ireturn, 1) := by decide +kernel
theorem dX1_countNested_0 : decode cX1_countNested 0 = .ok (.iconst 0, 1) := by decide +kernel
theorem dX1_countNested_1 : decode cX1_countNested 1 = .ok (.istore_n 1, 1) := by decide +kernel
theorem dX1_countNested_2 : decode cX1_countNested 2 = .ok (.iconst 0, 1) := by decide +kernel
theorem dX1_countNested_3 : decode cX1_countNested 3 = .ok (.istore_n 2, 1) := by decide +kernel
theorem dX1_countNested_4 : decode cX1_countNested 4 = .ok (.iload_n 2, 1) := by decide +kernel
theorem dX1_countNested_5 : decode cX1_countNested 5 = .ok (.bipush 8, 2) := by decide +kernel
theorem dX1_countNested_7 : decode cX1_countNested 7 = .ok (.if_icmp .ge 25, 3) := by decide +kernel
theorem dX1_countNested_10 : decode cX1_countNested 10 = .ok (.iload_n 1, 1) := by decide +kernel
theorem dX1_countNested_11 : decode cX1_countNested 11 = .ok (.aload_n 0, 1) := by decide +kernel
theorem dX1_countNested_12 : decode cX1_countNested 12 = .ok (.iload_n 2, 1) := by decide +kernel
theorem dX1_countNested_13 : decode cX1_countNested 13 = .ok (.invokevirtual 55, 3) := by decide +kernel
theorem dX1_countNested_16 : decode cX1_countNested 16 = .ok (.ifCond .eq 7, 3) := by decide +kernel
theorem dX1_countNested_19 : decode cX1_countNested 19 = .ok (.iconst 1, 1) := by decide +kernel
theorem dX1_countNested_20 : decode cX1_countNested 20 = .ok (.goto 4, 3) := by decide +kernel
theorem dX1_countNested_23 : decode cX1_countNested 23 = .ok (.iconst 0, 1) := by decide +kernel
theorem dX1_countNested_24 : decode cX1_countNested 24 = .ok (.iadd, 1) := by decide +kernel
theorem dX1_countNested_25 : decode cX1_countNested 25 = .ok (.istore_n 1, 1) := by decide +kernel
theorem dX1_countNested_26 : decode cX1_countNested 26 = .ok (.iinc 2 1, 3) := by decide +kernel
theorem dX1_countNested_29 : decode cX1_countNested 29 = .ok (.goto (-25), 3) := by decide +kernel
theorem dX1_countNested_32 : decode cX1_countNested 32 = .ok (.iload_n 1, 1) := by decide +kernel
theorem dX1_countNested_33 : decode cX1_countNested 33 = .ok (.ireturn, 1) := by decide +kernel
theorem dX1_heightAfter_0 : decode cX1_heightAfter 0 = .ok (.bipush 99, 2) := by decide +kernel
theorem dX1_heightAfter_2 : decode cX1_heightAfter 2 = .ok (.aload_n 0, 1) := by decide +kernel
theorem dX1_heightAfter_3 : decode cX1_heightAfter 3 = .ok (.getfield 9, 3) := by decide +kernel
theorem dX1_heightAfter_6 : decode cX1_heightAfter 6 = .ok (.iload_n 1, 1) := by decide +kernel
theorem dX1_heightAfter_7 : decode cX1_heightAfter 7 = .ok (.iaload, 1) := by decide +kernel
theorem dX1_heightAfter_8 : decode cX1_heightAfter 8 = .ok (.aload_n 0, 1) := by decide +kernel
theorem dX1_heightAfter_9 : decode cX1_heightAfter 9 = .ok (.getfield 15, 3) := by decide +kernel
theorem dX1_heightAfter_12 : decode cX1_heightAfter 12 = .ok (.iload_n 1, 1) := by decide +kernel
theorem dX1_heightAfter_13 : decode cX1_heightAfter 13 = .ok (.iaload, 1) := by decide +kernel
theorem dX1_heightAfter_14 : decode cX1_heightAfter 14 = .ok (.iload_n 2, 1) := by decide +kernel
theorem dX1_heightAfter_15 : decode cX1_heightAfter 15 = .ok (.imul, 1) := by decide +kernel
theorem dX1_heightAfter_16 : decode cX1_heightAfter 16 = .ok (.iadd, 1) := by decide +kernel
theorem dX1_heightAfter_17 : decode cX1_heightAfter 17 = .ok (.invokestatic 59, 3) := by decide +kernel
theorem dX1_heightAfter_20 : decode cX1_heightAfter 20 = .ok (.ireturn, 1) := by decide +kernel
theorem dX1_heightsAfter_0 : decode cX1_heightsAfter 0 = .ok (.iconst 0, 1) := by decide +kernel
theorem dX1_heightsAfter_1 : decode cX1_heightsAfter 1 = .ok (.istore_n 2, 1) := by decide +kernel
theorem dX1_heightsAfter_2 : decode cX1_heightsAfter 2 = .ok (.iconst 0, 1) := by decide +kernel
theorem dX1_heightsAfter_3 : decode cX1_heightsAfter 3 = .ok (.istore_n 3, 1) := by decide +kernel
theorem dX1_heightsAfter_4 : decode cX1_heightsAfter 4 = .ok (.iload_n 3, 1) := by decide +kernel
theorem dX1_heightsAfter_5 : decode cX1_heightsAfter 5 = .ok (.bipush 8, 2) := by decide +kernel
theorem dX1_heightsAfter_7 : decode cX1_heightsAfter 7 = .ok (.if_icmp .ge 18, 3) := by decide +kernel
theorem dX1_heightsAfter_10 : decode cX1_heightsAfter 10 = .ok (.iload_n 2, 1) := by decide +kernel
theorem dX1_heightsAfter_11 : decode cX1_heightsAfter 11 = .ok (.aload_n 0, 1) := by decide +kernel
theorem dX1_heightsAfter_12 : decode cX1_heightsAfter 12 = .ok (.iload_n 3, 1) := by decide +kernel
theorem dX1_heightsAfter_13 : decode cX1_heightsAfter 13 = .ok (.iload_n 1, 1) := by decide +kernel
theorem dX1_heightsAfter_14 : decode cX1_heightsAfter 14 = .ok (.invokevirtual 65, 3) := by decide +kernel
theorem dX1_heightsAfter_17 : decode cX1_heightsAfter 17 = .ok (.iadd, 1) := by decide +kernel
theorem dX1_heightsAfter_18 : decode cX1_heightsAfter 18 = .ok (.istore_n 2, 1) := by decide +kernel
theorem dX1_heightsAfter_19 : decode cX1_heightsAfter 19 = .ok (.iinc 3 1, 3) := by decide +kernel
theorem dX1_heightsAfter_22 : decode cX1_heightsAfter 22 = .ok (.goto (-18), 3) := by decide +kernel
theorem dX1_heightsAfter_25 : decode cX1_heightsAfter 25 = .ok (.iload_n 2, 1) := by decide +kernel
theorem dX1_heightsAfter_26 : decode cX1_heightsAfter 26 = .ok (.ireturn, 1) := by decide +kernel
theorem dX1_passDay_0 : decode cX1_passDay 0 = .ok (.iconst 0, 1) := by decide +kernel
theorem dX1_passDay_1 : decode cX1_passDay 1 = .ok (.istore_n 1, 1) := by decide +kernel
theorem dX1_passDay_2 : decode cX1_passDay 2 = .ok (.iload_n 1, 1) := by decide +kernel
theorem dX1_passDay_3 : decode cX1_passDay 3 = .ok (.bipush 8, 2) := by decide +kernel
theorem dX1_passDay_5 : decode cX1_passDay 5 = .ok (.if_icmp .ge 21, 3) := by decide +kernel
theorem dX1_passDay_8 : decode cX1_passDay 8 = .ok (.aload_n 0, 1) := by decide +kernel
theorem dX1_passDay_9 : decode cX1_passDay 9 = .ok (.getfield 9, 3) := by decide +kernel
theorem dX1_passDay_12 : decode cX1_passDay 12 = .ok (.iload_n 1, 1) := by decide +kernel
theorem dX1_passDay_13 : decode cX1_passDay 13 = .ok (.aload_n 0, 1) := by decide +kernel
theorem dX1_passDay_14 : decode cX1_passDay 14 = .ok (.iload_n 1, 1) := by decide +kernel
theorem dX1_passDay_15 : decode cX1_passDay 15 = .ok (.iconst 1, 1) := by decide +kernel
theorem dX1_passDay_16 : decode cX1_passDay 16 = .ok (.invokevirtual 65, 3) := by decide +kernel
theorem dX1_passDay_19 : decode cX1_passDay 19 = .ok (.iastore, 1) := by decide +kernel
theorem dX1_passDay_20 : decode cX1_passDay 20 = .ok (.iinc 1 1, 3) := by decide +kernel
theorem dX1_passDay_23 : decode cX1_passDay 23 = .ok (.goto (-21), 3) := by decide +kernel
theorem dX1_passDay_26 : decode cX1_passDay 26 = .ok (.aload_n 0, 1) := by decide +kernel
theorem dX1_passDay_27 : decode cX1_passDay 27 = .ok (.dup, 1) := by decide +kernel
theorem dX1_passDay_28 : decode cX1_passDay 28 = .ok (.getfield 43, 3) := by decide +kernel
theorem dX1_passDay_31 : decode cX1_passDay 31 = .ok (.iconst 1, 1) := by decide +kernel
theorem dX1_passDay_32 : decode cX1_passDay 32 = .ok (.iadd, 1) := by decide +kernel
theorem dX1_passDay_33 : decode cX1_passDay 33 = .ok (.putfield 43, 3) := by decide +kernel
theorem dX1_passDay_36 : decode cX1_passDay 36 = .ok (.return_, 1) := by decide +kernel
theorem dX1_cutOff_0 : decode cX1_cutOff 0 = .ok (.aload_n 0, 1) := by decide +kernel
theorem dX1_cutOff_1 : decode cX1_cutOff 1 = .ok (.getfield 9, 3) := by decide +kernel
theorem dX1_cutOff_4 : decode cX1_cutOff 4 = .ok (.iload_n 1, 1) := by decide +kernel
theorem dX1_cutOff_5 : decode cX1_cutOff 5 = .ok (.dup2, 1) := by decide +kernel
theorem dX1_cutOff_6 : decode cX1_cutOff 6 = .ok (.iaload, 1) := by decide +kernel
theorem dX1_cutOff_7 : decode cX1_cutOff 7 = .ok (.iload_n 2, 1) := by decide +kernel
theorem dX1_cutOff_8 : decode cX1_cutOff 8 = .ok (.isub, 1) := by decide +kernel
theorem dX1_cutOff_9 : decode cX1_cutOff 9 = .ok (.iastore, 1) := by decide +kernel
theorem dX1_cutOff_10 : decode cX1_cutOff 10 = .ok (.aload_n 0, 1) := by decide +kernel
theorem dX1_cutOff_11 : decode cX1_cutOff 11 = .ok (.getfield 21, 3) := by decide +kernel
theorem dX1_cutOff_14 : decode cX1_cutOff 14 = .ok (.iload_n 1, 1) := by decide +kernel
theorem dX1_cutOff_15 : decode cX1_cutOff 15 = .ok (.dup2, 1) := by decide +kernel
theorem dX1_cutOff_16 : decode cX1_cutOff 16 = .ok (.iaload, 1) := by decide +kernel
theorem dX1_cutOff_17 : decode cX1_cutOff 17 = .ok (.iload_n 2, 1) := by decide +kernel
theorem dX1_cutOff_18 : decode cX1_cutOff 18 = .ok (.iadd, 1) := by decide +kernel
theorem dX1_cutOff_19 : decode cX1_cutOff 19 = .ok (.iastore, 1) := by decide +kernel
theorem dX1_cutOff_20 : decode cX1_cutOff 20 = .ok (.aload_n 0, 1) := by decide +kernel
theorem dX1_cutOff_21 : decode cX1_cutOff 21 = .ok (.dup, 1) := by decide +kernel
theorem dX1_cutOff_22 : decode cX1_cutOff 22 = .ok (.getfield 52, 3) := by decide +kernel
theorem dX1_cutOff_25 : decode cX1_cutOff 25 = .ok (.iconst 1, 1) := by decide +kernel
theorem dX1_cutOff_26 : decode cX1_cutOff 26 = .ok (.iadd, 1) := by decide +kernel
theorem dX1_cutOff_27 : decode cX1_cutOff 27 = .ok (.putfield 52, 3) := by decide +kernel
theorem dX1_cutOff_30 : decode cX1_cutOff 30 = .ok (.return_, 1) := by decide +kernel
theorem dX1_addTreaty_0 : decode cX1_addTreaty 0 = .ok (.aload_n 0, 1) := by decide +kernel
theorem dX1_addTreaty_1 : decode cX1_addTreaty 1 = .ok (.getfield 24, 3) := by decide +kernel
theorem dX1_addTreaty_4 : decode cX1_addTreaty 4 = .ok (.aload_n 0, 1) := by decide +kernel
theorem dX1_addTreaty_5 : decode cX1_addTreaty 5 = .ok (.getfield 40, 3) := by decide +kernel
theorem dX1_addTreaty_8 : decode cX1_addTreaty 8 = .ok (.iload_n 1, 1) := by decide +kernel
theorem dX1_addTreaty_9 : decode cX1_addTreaty 9 = .ok (.iastore, 1) := by decide +kernel
theorem dX1_addTreaty_10 : decode cX1_addTreaty 10 = .ok (.aload_n 0, 1) := by decide +kernel
theorem dX1_addTreaty_11 : decode cX1_addTreaty 11 = .ok (.getfield 27, 3) := by decide +kernel
theorem dX1_addTreaty_14 : decode cX1_addTreaty 14 = .ok (.aload_n 0, 1) := by decide +kernel
theorem dX1_addTreaty_15 : decode cX1_addTreaty 15 = .ok (.getfield 40, 3) := by decide +kernel
theorem dX1_addTreaty_18 : decode cX1_addTreaty 18 = .ok (.iload_n 2, 1) := by decide +kernel
theorem dX1_addTreaty_19 : decode cX1_addTreaty 19 = .ok (.iastore, 1) := by decide +kernel
theorem dX1_addTreaty_20 : decode cX1_addTreaty 20 = .ok (.aload_n 0, 1) := by decide +kernel
theorem dX1_addTreaty_21 : decode cX1_addTreaty 21 = .ok (.getfield 30, 3) := by decide +kernel
theorem dX1_addTreaty_24 : decode cX1_addTreaty 24 = .ok (.aload_n 0, 1) := by decide +kernel
theorem dX1_addTreaty_25 : decode cX1_addTreaty 25 = .ok (.getfield 40, 3) := by decide +kernel
theorem dX1_addTreaty_28 : decode cX1_addTreaty 28 = .ok (.iload_n 3, 1) := by decide +kernel
theorem dX1_addTreaty_29 : decode cX1_addTreaty 29 = .ok (.iastore, 1) := by decide +kernel
theorem dX1_addTreaty_30 : decode cX1_addTreaty 30 = .ok (.aload_n 0, 1) := by decide +kernel
theorem dX1_addTreaty_31 : decode cX1_addTreaty 31 = .ok (.getfield 33, 3) := by decide +kernel
theorem dX1_addTreaty_34 : decode cX1_addTreaty 34 = .ok (.aload_n 0, 1) := by decide +kernel
theorem dX1_addTreaty_35 : decode cX1_addTreaty 35 = .ok (.getfield 40, 3) := by decide +kernel
theorem dX1_addTreaty_38 : decode cX1_addTreaty 38 = .ok (.iconst 0, 1) := by decide +kernel
theorem dX1_addTreaty_39 : decode cX1_addTreaty 39 = .ok (.iastore, 1) := by decide +kernel
theorem dX1_addTreaty_40 : decode cX1_addTreaty 40 = .ok (.aload_n 0, 1) := by decide +kernel
theorem dX1_addTreaty_41 : decode cX1_addTreaty 41 = .ok (.dup, 1) := by decide +kernel
theorem dX1_addTreaty_42 : decode cX1_addTreaty 42 = .ok (.getfield 40, 3) := by decide +kernel
theorem dX1_addTreaty_45 : decode cX1_addTreaty 45 = .ok (.iconst 1, 1) := by decide +kernel
theorem dX1_addTreaty_46 : decode cX1_addTreaty 46 = .ok (.iadd, 1) := by decide +kernel
theorem dX1_addTreaty_47 : decode cX1_addTreaty 47 = .ok (.putfield 40, 3) := by decide +kernel
theorem dX1_addTreaty_50 : decode cX1_addTreaty 50 = .ok (.aload_n 0, 1) := by decide +kernel
theorem dX1_addTreaty_51 : decode cX1_addTreaty 51 = .ok (.dup, 1) := by decide +kernel
theorem dX1_addTreaty_52 : decode cX1_addTreaty 52 = .ok (.getfield 46, 3) := by decide +kernel
theorem dX1_addTreaty_55 : decode cX1_addTreaty 55 = .ok (.iconst 1, 1) := by decide +kernel
theorem dX1_addTreaty_56 : decode cX1_addTreaty 56 = .ok (.iadd, 1) := by decide +kernel
theorem dX1_addTreaty_57 : decode cX1_addTreaty 57 = .ok (.putfield 46, 3) := by decide +kernel
theorem dX1_addTreaty_60 : decode cX1_addTreaty 60 = .ok (.return_, 1) := by decide +kernel
theorem dX1_removeTreaty_0 : decode cX1_removeTreaty 0 = .ok (.iload_n 1, 1) := by decide +kernel
theorem dX1_removeTreaty_1 : decode cX1_removeTreaty 1 = .ok (.iconst 1, 1) := by decide +kernel
theorem dX1_removeTreaty_2 : decode cX1_removeTreaty 2 = .ok (.iadd, 1) := by decide +kernel
theorem dX1_removeTreaty_3 : decode cX1_removeTreaty 3 = .ok (.istore_n 2, 1) := by decide +kernel
theorem dX1_removeTreaty_4 : decode cX1_removeTreaty 4 = .ok (.iload_n 2, 1) := by decide +kernel
theorem dX1_removeTreaty_5 : decode cX1_removeTreaty 5 = .ok (.aload_n 0, 1) := by decide +kernel
theorem dX1_removeTreaty_6 : decode cX1_removeTreaty 6 = .ok (.getfield 40, 3) := by decide +kernel
theorem dX1_removeTreaty_9 : decode cX1_removeTreaty 9 = .ok (.if_icmp .ge 65, 3) := by decide +kernel
theorem dX1_removeTreaty_12 : decode cX1_removeTreaty 12 = .ok (.aload_n 0, 1) := by decide +kernel
theorem dX1_removeTreaty_13 : decode cX1_removeTreaty 13 = .ok (.getfield 24, 3) := by decide +kernel
theorem dX1_removeTreaty_16 : decode cX1_removeTreaty 16 = .ok (.iload_n 2, 1) := by decide +kernel
theorem dX1_removeTreaty_17 : decode cX1_removeTreaty 17 = .ok (.iconst 1, 1) := by decide +kernel
theorem dX1_removeTreaty_18 : decode cX1_removeTreaty 18 = .ok (.isub, 1) := by decide +kernel
theorem dX1_removeTreaty_19 : decode cX1_removeTreaty 19 = .ok (.aload_n 0, 1) := by decide +kernel
theorem dX1_removeTreaty_20 : decode cX1_removeTreaty 20 = .ok (.getfield 24, 3) := by decide +kernel
theorem dX1_removeTreaty_23 : decode cX1_removeTreaty 23 = .ok (.iload_n 2, 1) := by decide +kernel
theorem dX1_removeTreaty_24 : decode cX1_removeTreaty 24 = .ok (.iaload, 1) := by decide +kernel
theorem dX1_removeTreaty_25 : decode cX1_removeTreaty 25 = .ok (.iastore, 1) := by decide +kernel
theorem dX1_removeTreaty_26 : decode cX1_removeTreaty 26 = .ok (.aload_n 0, 1) := by decide +kernel
theorem dX1_removeTreaty_27 : decode cX1_removeTreaty 27 = .ok (.getfield 27, 3) := by decide +kernel
theorem dX1_removeTreaty_30 : decode cX1_removeTreaty 30 = .ok (.iload_n 2, 1) := by decide +kernel
theorem dX1_removeTreaty_31 : decode cX1_removeTreaty 31 = .ok (.iconst 1, 1) := by decide +kernel
theorem dX1_removeTreaty_32 : decode cX1_removeTreaty 32 = .ok (.isub, 1) := by decide +kernel
theorem dX1_removeTreaty_33 : decode cX1_removeTreaty 33 = .ok (.aload_n 0, 1) := by decide +kernel
theorem dX1_removeTreaty_34 : decode cX1_removeTreaty 34 = .ok (.getfield 27, 3) := by decide +kernel
theorem dX1_removeTreaty_37 : decode cX1_removeTreaty 37 = .ok (.iload_n 2, 1) := by decide +kernel
theorem dX1_removeTreaty_38 : decode cX1_removeTreaty 38 = .ok (.iaload, 1) := by decide +kernel
theorem dX1_removeTreaty_39 : decode cX1_removeTreaty 39 = .ok (.iastore, 1) := by decide +kernel
theorem dX1_removeTreaty_40 : decode cX1_removeTreaty 40 = .ok (.aload_n 0, 1) := by decide +kernel
theorem dX1_removeTreaty_41 : decode cX1_removeTreaty 41 = .ok (.getfield 30, 3) := by decide +kernel
theorem dX1_removeTreaty_44 : decode cX1_removeTreaty 44 = .ok (.iload_n 2, 1) := by decide +kernel
theorem dX1_removeTreaty_45 : decode cX1_removeTreaty 45 = .ok (.iconst 1, 1) := by decide +kernel
theorem dX1_removeTreaty_46 : decode cX1_removeTreaty 46 = .ok (.isub, 1) := by decide +kernel
theorem dX1_removeTreaty_47 : decode cX1_removeTreaty 47 = .ok (.aload_n 0, 1) := by decide +kernel
theorem dX1_removeTreaty_48 : decode cX1_removeTreaty 48 = .ok (.getfield 30, 3) := by decide +kernel
theorem dX1_removeTreaty_51 : decode cX1_removeTreaty 51 = .ok (.iload_n 2, 1) := by decide +kernel
theorem dX1_removeTreaty_52 : decode cX1_removeTreaty 52 = .ok (.iaload, 1) := by decide +kernel
theorem dX1_removeTreaty_53 : decode cX1_removeTreaty 53 = .ok (.iastore, 1) := by decide +kernel
theorem dX1_removeTreaty_54 : decode cX1_removeTreaty 54 = .ok (.aload_n 0, 1) := by decide +kernel
theorem dX1_removeTreaty_55 : decode cX1_removeTreaty 55 = .ok (.getfield 33, 3) := by decide +kernel
theorem dX1_removeTreaty_58 : decode cX1_removeTreaty 58 = .ok (.iload_n 2, 1) := by decide +kernel
theorem dX1_removeTreaty_59 : decode cX1_removeTreaty 59 = .ok (.iconst 1, 1) := by decide +kernel
theorem dX1_removeTreaty_60 : decode cX1_removeTreaty 60 = .ok (.isub, 1) := by decide +kernel
theorem dX1_removeTreaty_61 : decode cX1_removeTreaty 61 = .ok (.aload_n 0, 1) := by decide +kernel
theorem dX1_removeTreaty_62 : decode cX1_removeTreaty 62 = .ok (.getfield 33, 3) := by decide +kernel
theorem dX1_removeTreaty_65 : decode cX1_removeTreaty 65 = .ok (.iload_n 2, 1) := by decide +kernel
theorem dX1_removeTreaty_66 : decode cX1_removeTreaty 66 = .ok (.iaload, 1) := by decide +kernel
theorem dX1_removeTreaty_67 : decode cX1_removeTreaty 67 = .ok (.iastore, 1) := by decide +kernel
theorem dX1_removeTreaty_68 : decode cX1_removeTreaty 68 = .ok (.iinc 2 1, 3) := by decide +kernel
theorem dX1_removeTreaty_71 : decode cX1_removeTreaty 71 = .ok (.goto (-67), 3) := by decide +kernel
theorem dX1_removeTreaty_74 : decode cX1_removeTreaty 74 = .ok (.aload_n 0, 1) := by decide +kernel
theorem dX1_removeTreaty_75 : decode cX1_removeTreaty 75 = .ok (.dup, 1) := by decide +kernel
theorem dX1_removeTreaty_76 : decode cX1_removeTreaty 76 = .ok (.getfield 40, 3) := by decide +kernel
theorem dX1_removeTreaty_79 : decode cX1_removeTreaty 79 = .ok (.iconst 1, 1) := by decide +kernel
theorem dX1_removeTreaty_80 : decode cX1_removeTreaty 80 = .ok (.isub, 1) := by decide +kernel
theorem dX1_removeTreaty_81 : decode cX1_removeTreaty 81 = .ok (.putfield 40, 3) := by decide +kernel
theorem dX1_removeTreaty_84 : decode cX1_removeTreaty 84 = .ok (.return_, 1) := by decide +kernel
theorem dX1_isAbout_0 : decode cX1_isAbout 0 = .ok (.iload_n 2, 1) := by decide +kernel
theorem dX1_isAbout_1 : decode cX1_isAbout 1 = .ok (.iconst (-1), 1) := by decide +kernel
theorem dX1_isAbout_2 : decode cX1_isAbout 2 = .ok (.if_icmp .eq 23, 3) := by decide +kernel
theorem dX1_isAbout_5 : decode cX1_isAbout 5 = .ok (.aload_n 0, 1) := by decide +kernel
theorem dX1_isAbout_6 : decode cX1_isAbout 6 = .ok (.getfield 24, 3) := by decide +kernel
theorem dX1_isAbout_9 : decode cX1_isAbout 9 = .ok (.iload_n 1, 1) := by decide +kernel
theorem dX1_isAbout_10 : decode cX1_isAbout 10 = .ok (.iaload, 1) := by decide +kernel
theorem dX1_isAbout_11 : decode cX1_isAbout 11 = .ok (.iload_n 2, 1) := by decide +kernel
theorem dX1_isAbout_12 : decode cX1_isAbout 12 = .ok (.if_icmp .eq 13, 3) := by decide +kernel
theorem dX1_isAbout_15 : decode cX1_isAbout 15 = .ok (.aload_n 0, 1) := by decide +kernel
theorem dX1_isAbout_16 : decode cX1_isAbout 16 = .ok (.getfield 27, 3) := by decide +kernel
theorem dX1_isAbout_19 : decode cX1_isAbout 19 = .ok (.iload_n 1, 1) := by decide +kernel
theorem dX1_isAbout_20 : decode cX1_isAbout 20 = .ok (.iaload, 1) := by decide +kernel
theorem dX1_isAbout_21 : decode cX1_isAbout 21 = .ok (.iload_n 2, 1) := by decide +kernel
theorem dX1_isAbout_22 : decode cX1_isAbout 22 = .ok (.if_icmp .ne 7, 3) := by decide +kernel
theorem dX1_isAbout_25 : decode cX1_isAbout 25 = .ok (.iconst 1, 1) := by decide +kernel
theorem dX1_isAbout_26 : decode cX1_isAbout 26 = .ok (.goto 4, 3) := by decide +kernel
theorem dX1_isAbout_29 : decode cX1_isAbout 29 = .ok (.iconst 0, 1) := by decide +kernel
theorem dX1_isAbout_30 : decode cX1_isAbout 30 = .ok (.ireturn, 1) := by decide +kernel
theorem dX1_isInForce_0 : decode cX1_isInForce 0 = .ok (.aload_n 0, 1) := by decide +kernel
theorem dX1_isInForce_1 : decode cX1_isInForce 1 = .ok (.getfield 33, 3) := by decide +kernel
theorem dX1_isInForce_4 : decode cX1_isInForce 4 = .ok (.iload_n 1, 1) := by decide +kernel
theorem dX1_isInForce_5 : decode cX1_isInForce 5 = .ok (.iaload, 1) := by decide +kernel
theorem dX1_isInForce_6 : decode cX1_isInForce 6 = .ok (.aload_n 0, 1) := by decide +kernel
theorem dX1_isInForce_7 : decode cX1_isInForce 7 = .ok (.getfield 43, 3) := by decide +kernel
theorem dX1_isInForce_10 : decode cX1_isInForce 10 = .ok (.if_icmp .gt 7, 3) := by decide +kernel
theorem dX1_isInForce_13 : decode cX1_isInForce 13 = .ok (.iconst 1, 1) := by decide +kernel
theorem dX1_isInForce_14 : decode cX1_isInForce 14 = .ok (.goto 4, 3) := by decide +kernel
theorem dX1_isInForce_17 : decode cX1_isInForce 17 = .ok (.iconst 0, 1) := by decide +kernel
theorem dX1_isInForce_18 : decode cX1_isInForce 18 = .ok (.ireturn, 1) := by decide +kernel
theorem dX1_countInForce_0 : decode cX1_countInForce 0 = .ok (.iconst 0, 1) := by decide +kernel
theorem dX1_countInForce_1 : decode cX1_countInForce 1 = .ok (.istore_n 2, 1) := by decide +kernel
theorem dX1_countInForce_2 : decode cX1_countInForce 2 = .ok (.iconst 0, 1) := by decide +kernel
theorem dX1_countInForce_3 : decode cX1_countInForce 3 = .ok (.istore_n 3, 1) := by decide +kernel
theorem dX1_countInForce_4 : decode cX1_countInForce 4 = .ok (.iload_n 3, 1) := by decide +kernel
theorem dX1_countInForce_5 : decode cX1_countInForce 5 = .ok (.aload_n 0, 1) := by decide +kernel
theorem dX1_countInForce_6 : decode cX1_countInForce 6 = .ok (.getfield 40, 3) := by decide +kernel
theorem dX1_countInForce_9 : decode cX1_countInForce 9 = .ok (.if_icmp .ge 34, 3) := by decide +kernel
theorem dX1_countInForce_12 : decode cX1_countInForce 12 = .ok (.iload_n 2, 1) := by decide +kernel
theorem dX1_countInForce_13 : decode cX1_countInForce 13 = .ok (.aload_n 0, 1) := by decide +kernel
theorem dX1_countInForce_14 : decode cX1_countInForce 14 = .ok (.iload_n 3, 1) := by decide +kernel
theorem dX1_countInForce_15 : decode cX1_countInForce 15 = .ok (.iload_n 1, 1) := by decide +kernel
theorem dX1_countInForce_16 : decode cX1_countInForce 16 = .ok (.invokevirtual 68, 3) := by decide +kernel
theorem dX1_countInForce_19 : decode cX1_countInForce 19 = .ok (.ifCond .eq 15, 3) := by decide +kernel
theorem dX1_countInForce_22 : decode cX1_countInForce 22 = .ok (.aload_n 0, 1) := by decide +kernel
theorem dX1_countInForce_23 : decode cX1_countInForce 23 = .ok (.iload_n 3, 1) := by decide +kernel
theorem dX1_countInForce_24 : decode cX1_countInForce 24 = .ok (.invokevirtual 72, 3) := by decide +kernel
theorem dX1_countInForce_27 : decode cX1_countInForce 27 = .ok (.ifCond .eq 7, 3) := by decide +kernel
theorem dX1_countInForce_30 : decode cX1_countInForce 30 = .ok (.iconst 1, 1) := by decide +kernel
theorem dX1_countInForce_31 : decode cX1_countInForce 31 = .ok (.goto 4, 3) := by decide +kernel
theorem dX1_countInForce_34 : decode cX1_countInForce 34 = .ok (.iconst 0, 1) := by decide +kernel
theorem dX1_countInForce_35 : decode cX1_countInForce 35 = .ok (.iadd, 1) := by decide +kernel
theorem dX1_countInForce_36 : decode cX1_countInForce 36 = .ok (.istore_n 2, 1) := by decide +kernel
theorem dX1_countInForce_37 : decode cX1_countInForce 37 = .ok (.iinc 3 1, 3) := by decide +kernel
theorem dX1_countInForce_40 : decode cX1_countInForce 40 = .ok (.goto (-36), 3) := by decide +kernel
theorem dX1_countInForce_43 : decode cX1_countInForce 43 = .ok (.iload_n 2, 1) := by decide +kernel
theorem dX1_countInForce_44 : decode cX1_countInForce 44 = .ok (.ireturn, 1) := by decide +kernel
theorem dX1_slackAfter_0 : decode cX1_slackAfter 0 = .ok (.aload_n 0, 1) := by decide +kernel
theorem dX1_slackAfter_1 : decode cX1_slackAfter 1 = .ok (.aload_n 0, 1) := by decide +kernel
theorem dX1_slackAfter_2 : decode cX1_slackAfter 2 = .ok (.getfield 27, 3) := by decide +kernel
theorem dX1_slackAfter_5 : decode cX1_slackAfter 5 = .ok (.iload_n 1, 1) := by decide +kernel
theorem dX1_slackAfter_6 : decode cX1_slackAfter 6 = .ok (.iaload, 1) := by decide +kernel
theorem dX1_slackAfter_7 : decode cX1_slackAfter 7 = .ok (.iload_n 2, 1) := by decide +kernel
theorem dX1_slackAfter_8 : decode cX1_slackAfter 8 = .ok (.invokevirtual 65, 3) := by decide +kernel
theorem dX1_slackAfter_11 : decode cX1_slackAfter 11 = .ok (.aload_n 0, 1) := by decide +kernel
theorem dX1_slackAfter_12 : decode cX1_slackAfter 12 = .ok (.getfield 30, 3) := by decide +kernel
theorem dX1_slackAfter_15 : decode cX1_slackAfter 15 = .ok (.iload_n 1, 1) := by decide +kernel
theorem dX1_slackAfter_16 : decode cX1_slackAfter 16 = .ok (.iaload, 1) := by decide +kernel
theorem dX1_slackAfter_17 : decode cX1_slackAfter 17 = .ok (.iadd, 1) := by decide +kernel
theorem dX1_slackAfter_18 : decode cX1_slackAfter 18 = .ok (.istore_n 3, 1) := by decide +kernel
theorem dX1_slackAfter_19 : decode cX1_slackAfter 19 = .ok (.iload_n 3, 1) := by decide +kernel
theorem dX1_slackAfter_20 : decode cX1_slackAfter 20 = .ok (.aload_n 0, 1) := by decide +kernel
theorem dX1_slackAfter_21 : decode cX1_slackAfter 21 = .ok (.aload_n 0, 1) := by decide +kernel
theorem dX1_slackAfter_22 : decode cX1_slackAfter 22 = .ok (.getfield 24, 3) := by decide +kernel
theorem dX1_slackAfter_25 : decode cX1_slackAfter 25 = .ok (.iload_n 1, 1) := by decide +kernel
theorem dX1_slackAfter_26 : decode cX1_slackAfter 26 = .ok (.iaload, 1) := by decide +kernel
theorem dX1_slackAfter_27 : decode cX1_slackAfter 27 = .ok (.iload_n 2, 1) := by decide +kernel
theorem dX1_slackAfter_28 : decode cX1_slackAfter 28 = .ok (.invokevirtual 65, 3) := by decide +kernel
theorem dX1_slackAfter_31 : decode cX1_slackAfter 31 = .ok (.isub, 1) := by decide +kernel
theorem dX1_slackAfter_32 : decode cX1_slackAfter 32 = .ok (.ireturn, 1) := by decide +kernel
theorem dX1_isBrokenAfter_0 : decode cX1_isBrokenAfter 0 = .ok (.aload_n 0, 1) := by decide +kernel
theorem dX1_isBrokenAfter_1 : decode cX1_isBrokenAfter 1 = .ok (.getfield 33, 3) := by decide +kernel
theorem dX1_isBrokenAfter_4 : decode cX1_isBrokenAfter 4 = .ok (.iload_n 1, 1) := by decide +kernel
theorem dX1_isBrokenAfter_5 : decode cX1_isBrokenAfter 5 = .ok (.iaload, 1) := by decide +kernel
theorem dX1_isBrokenAfter_6 : decode cX1_isBrokenAfter 6 = .ok (.aload_n 0, 1) := by decide +kernel
theorem dX1_isBrokenAfter_7 : decode cX1_isBrokenAfter 7 = .ok (.getfield 43, 3) := by decide +kernel
theorem dX1_isBrokenAfter_10 : decode cX1_isBrokenAfter 10 = .ok (.iload_n 2, 1) := by decide +kernel
theorem dX1_isBrokenAfter_11 : decode cX1_isBrokenAfter 11 = .ok (.iadd, 1) := by decide +kernel
theorem dX1_isBrokenAfter_12 : decode cX1_isBrokenAfter 12 = .ok (.if_icmp .gt 16, 3) := by decide +kernel
theorem dX1_isBrokenAfter_15 : decode cX1_isBrokenAfter 15 = .ok (.aload_n 0, 1) := by decide +kernel
theorem dX1_isBrokenAfter_16 : decode cX1_isBrokenAfter 16 = .ok (.iload_n 1, 1) := by decide +kernel
theorem dX1_isBrokenAfter_17 : decode cX1_isBrokenAfter 17 = .ok (.iload_n 2, 1) := by decide +kernel
theorem dX1_isBrokenAfter_18 : decode cX1_isBrokenAfter 18 = .ok (.invokevirtual 75, 3) := by decide +kernel
theorem dX1_isBrokenAfter_21 : decode cX1_isBrokenAfter 21 = .ok (.ifCond .ge 7, 3) := by decide +kernel
theorem dX1_isBrokenAfter_24 : decode cX1_isBrokenAfter 24 = .ok (.iconst 1, 1) := by decide +kernel
theorem dX1_isBrokenAfter_25 : decode cX1_isBrokenAfter 25 = .ok (.goto 4, 3) := by decide +kernel
theorem dX1_isBrokenAfter_28 : decode cX1_isBrokenAfter 28 = .ok (.iconst 0, 1) := by decide +kernel
theorem dX1_isBrokenAfter_29 : decode cX1_isBrokenAfter 29 = .ok (.ireturn, 1) := by decide +kernel
theorem dX1_isBroken_0 : decode cX1_isBroken 0 = .ok (.aload_n 0, 1) := by decide +kernel
theorem dX1_isBroken_1 : decode cX1_isBroken 1 = .ok (.iload_n 1, 1) := by decide +kernel
theorem dX1_isBroken_2 : decode cX1_isBroken 2 = .ok (.iconst 0, 1) := by decide +kernel
theorem dX1_isBroken_3 : decode cX1_isBroken 3 = .ok (.invokevirtual 78, 3) := by decide +kernel
theorem dX1_isBroken_6 : decode cX1_isBroken 6 = .ok (.ireturn, 1) := by decide +kernel
theorem dX1_countBroken_0 : decode cX1_countBroken 0 = .ok (.iconst 0, 1) := by decide +kernel
theorem dX1_countBroken_1 : decode cX1_countBroken 1 = .ok (.istore_n 3, 1) := by decide +kernel
theorem dX1_countBroken_2 : decode cX1_countBroken 2 = .ok (.iconst 0, 1) := by decide +kernel
theorem dX1_countBroken_3 : decode cX1_countBroken 3 = .ok (.istore 4, 2) := by decide +kernel
theorem dX1_countBroken_5 : decode cX1_countBroken 5 = .ok (.iload 4, 2) := by decide +kernel
theorem dX1_countBroken_7 : decode cX1_countBroken 7 = .ok (.aload_n 0, 1) := by decide +kernel
theorem dX1_countBroken_8 : decode cX1_countBroken 8 = .ok (.getfield 40, 3) := by decide +kernel
theorem dX1_countBroken_11 : decode cX1_countBroken 11 = .ok (.if_icmp .ge 37, 3) := by decide +kernel
theorem dX1_countBroken_14 : decode cX1_countBroken 14 = .ok (.iload_n 3, 1) := by decide +kernel
theorem dX1_countBroken_15 : decode cX1_countBroken 15 = .ok (.aload_n 0, 1) := by decide +kernel
theorem dX1_countBroken_16 : decode cX1_countBroken 16 = .ok (.iload 4, 2) := by decide +kernel
theorem dX1_countBroken_18 : decode cX1_countBroken 18 = .ok (.iload_n 1, 1) := by decide +kernel
theorem dX1_countBroken_19 : decode cX1_countBroken 19 = .ok (.invokevirtual 68, 3) := by decide +kernel
theorem dX1_countBroken_22 : decode cX1_countBroken 22 = .ok (.ifCond .eq 17, 3) := by decide +kernel
theorem dX1_countBroken_25 : decode cX1_countBroken 25 = .ok (.aload_n 0, 1) := by decide +kernel
theorem dX1_countBroken_26 : decode cX1_countBroken 26 = .ok (.iload 4, 2) := by decide +kernel
theorem dX1_countBroken_28 : decode cX1_countBroken 28 = .ok (.iload_n 2, 1) := by decide +kernel
theorem dX1_countBroken_29 : decode cX1_countBroken 29 = .ok (.invokevirtual 78, 3) := by decide +kernel
theorem dX1_countBroken_32 : decode cX1_countBroken 32 = .ok (.ifCond .eq 7, 3) := by decide +kernel
theorem dX1_countBroken_35 : decode cX1_countBroken 35 = .ok (.iconst 1, 1) := by decide +kernel
theorem dX1_countBroken_36 : decode cX1_countBroken 36 = .ok (.goto 4, 3) := by decide +kernel
theorem dX1_countBroken_39 : decode cX1_countBroken 39 = .ok (.iconst 0, 1) := by decide +kernel
theorem dX1_countBroken_40 : decode cX1_countBroken 40 = .ok (.iadd, 1) := by decide +kernel
theorem dX1_countBroken_41 : decode cX1_countBroken 41 = .ok (.istore_n 3, 1) := by decide +kernel
theorem dX1_countBroken_42 : decode cX1_countBroken 42 = .ok (.iinc 4 1, 3) := by decide +kernel
theorem dX1_countBroken_45 : decode cX1_countBroken 45 = .ok (.goto (-40), 3) := by decide +kernel
theorem dX1_countBroken_48 : decode cX1_countBroken 48 = .ok (.iload_n 3, 1) := by decide +kernel
theorem dX1_countBroken_49 : decode cX1_countBroken 49 = .ok (.ireturn, 1) := by decide +kernel
end
section
theorem dX2_init_0 : decode cX2_init 0 = .ok (.aload_n 0, 1) := by decide +kernel
theorem dX2_init_1 : decode cX2_init 1 = .ok (.invokespecial 3, 3) := by decide +kernel
theorem dX2_init_4 : decode cX2_init 4 = .ok (.aload_n 0, 1) := by decide +kernel
theorem dX2_init_5 : decode cX2_init 5 = .ok (.bipush 8, 2) := by decide +kernel
theorem dX2_init_7 : decode cX2_init 7 = .ok (.newarray .int, 2) := by decide +kernel
theorem dX2_init_9 : decode cX2_init 9 = .ok (.putfield 9, 3) := by decide +kernel
theorem dX2_init_12 : decode cX2_init 12 = .ok (.aload_n 0, 1) := by decide +kernel
theorem dX2_init_13 : decode cX2_init 13 = .ok (.bipush 8, 2) := by decide +kernel
theorem dX2_init_15 : decode cX2_init 15 = .ok (.newarray .int, 2) := by decide +kernel
theorem dX2_init_17 : decode cX2_init 17 = .ok (.putfield 15, 3) := by decide +kernel
theorem dX2_init_20 : decode cX2_init 20 = .ok (.aload_n 0, 1) := by decide +kernel
theorem dX2_init_21 : decode cX2_init 21 = .ok (.bipush 8, 2) := by decide +kernel
theorem dX2_init_23 : decode cX2_init 23 = .ok (.bipush 8, 2) := by decide +kernel
theorem dX2_init_25 : decode cX2_init 25 = .ok (.multianewarray 18 2, 4) := by decide +kernel
theorem dX2_init_29 : decode cX2_init 29 = .ok (.putfield 20, 3) := by decide +kernel
theorem dX2_init_32 : decode cX2_init 32 = .ok (.return_, 1) := by decide +kernel
theorem dX2_boundByTreaties_0 : decode cX2_boundByTreaties 0 = .ok (.iconst 0, 1) := by decide +kernel
theorem dX2_boundByTreaties_1 : decode cX2_boundByTreaties 1 = .ok (.istore 5, 2) := by decide +kernel
theorem dX2_boundByTreaties_3 : decode cX2_boundByTreaties 3 = .ok (.iload 5, 2) := by decide +kernel
theorem dX2_boundByTreaties_5 : decode cX2_boundByTreaties 5 = .ok (.bipush 8, 2) := by decide +kernel
theorem dX2_boundByTreaties_7 : decode cX2_boundByTreaties 7 = .ok (.if_icmp .ge 28, 3) := by decide +kernel
theorem dX2_boundByTreaties_10 : decode cX2_boundByTreaties 10 = .ok (.aload_n 0, 1) := by decide +kernel
theorem dX2_boundByTreaties_11 : decode cX2_boundByTreaties 11 = .ok (.getfield 15, 3) := by decide +kernel
theorem dX2_boundByTreaties_14 : decode cX2_boundByTreaties 14 = .ok (.iload 5, 2) := by decide +kernel
theorem dX2_boundByTreaties_16 : decode cX2_boundByTreaties 16 = .ok (.iload 5, 2) := by decide +kernel
theorem dX2_boundByTreaties_18 : decode cX2_boundByTreaties 18 = .ok (.iload_n 2, 1) := by decide +kernel
theorem dX2_boundByTreaties_19 : decode cX2_boundByTreaties 19 = .ok (.if_icmp .ne 7, 3) := by decide +kernel
theorem dX2_boundByTreaties_22 : decode cX2_boundByTreaties 22 = .ok (.iconst 0, 1) := by decide +kernel
theorem dX2_boundByTreaties_23 : decode cX2_boundByTreaties 23 = .ok (.goto 5, 3) := by decide +kernel
theorem dX2_boundByTreaties_26 : decode cX2_boundByTreaties 26 = .ok (.ldc 23, 2) := by decide +kernel
theorem dX2_boundByTreaties_28 : decode cX2_boundByTreaties 28 = .ok (.iastore, 1) := by decide +kernel
theorem dX2_boundByTreaties_29 : decode cX2_boundByTreaties 29 = .ok (.iinc 5 1, 3) := by decide +kernel
theorem dX2_boundByTreaties_32 : decode cX2_boundByTreaties 32 = .ok (.goto (-29), 3) := by decide +kernel
theorem dX2_boundByTreaties_35 : decode cX2_boundByTreaties 35 = .ok (.iconst 1, 1) := by decide +kernel
theorem dX2_boundByTreaties_36 : decode cX2_boundByTreaties 36 = .ok (.istore 5, 2) := by decide +kernel
theorem dX2_boundByTreaties_38 : decode cX2_boundByTreaties 38 = .ok (.iconst 0, 1) := by decide +kernel
theorem dX2_boundByTreaties_39 : decode cX2_boundByTreaties 39 = .ok (.istore 6, 2) := by decide +kernel
theorem dX2_boundByTreaties_41 : decode cX2_boundByTreaties 41 = .ok (.iload 6, 2) := by decide +kernel
theorem dX2_boundByTreaties_43 : decode cX2_boundByTreaties 43 = .ok (.bipush 8, 2) := by decide +kernel
theorem dX2_boundByTreaties_45 : decode cX2_boundByTreaties 45 = .ok (.if_icmp .ge 23, 3) := by decide +kernel
theorem dX2_boundByTreaties_48 : decode cX2_boundByTreaties 48 = .ok (.iload 5, 2) := by decide +kernel
theorem dX2_boundByTreaties_50 : decode cX2_boundByTreaties 50 = .ok (.ifCond .eq 18, 3) := by decide +kernel
theorem dX2_boundByTreaties_53 : decode cX2_boundByTreaties 53 = .ok (.aload_n 0, 1) := by decide +kernel
theorem dX2_boundByTreaties_54 : decode cX2_boundByTreaties 54 = .ok (.aload_n 1, 1) := by decide +kernel
theorem dX2_boundByTreaties_55 : decode cX2_boundByTreaties 55 = .ok (.iload 4, 2) := by decide +kernel
theorem dX2_boundByTreaties_57 : decode cX2_boundByTreaties 57 = .ok (.invokevirtual 24, 3) := by decide +kernel
theorem dX2_boundByTreaties_60 : decode cX2_boundByTreaties 60 = .ok (.istore 5, 2) := by decide +kernel
theorem dX2_boundByTreaties_62 : decode cX2_boundByTreaties 62 = .ok (.iinc 6 1, 3) := by decide +kernel
theorem dX2_boundByTreaties_65 : decode cX2_boundByTreaties 65 = .ok (.goto (-24), 3) := by decide +kernel
theorem dX2_boundByTreaties_68 : decode cX2_boundByTreaties 68 = .ok (.aload_n 0, 1) := by decide +kernel
theorem dX2_boundByTreaties_69 : decode cX2_boundByTreaties 69 = .ok (.getfield 15, 3) := by decide +kernel
theorem dX2_boundByTreaties_72 : decode cX2_boundByTreaties 72 = .ok (.iload_n 3, 1) := by decide +kernel
theorem dX2_boundByTreaties_73 : decode cX2_boundByTreaties 73 = .ok (.iaload, 1) := by decide +kernel
theorem dX2_boundByTreaties_74 : decode cX2_boundByTreaties 74 = .ok (.ireturn, 1) := by decide +kernel
theorem dX2_shortenSums_0 : decode cX2_shortenSums 0 = .ok (.iconst 0, 1) := by decide +kernel
theorem dX2_shortenSums_1 : decode cX2_shortenSums 1 = .ok (.istore_n 3, 1) := by decide +kernel
theorem dX2_shortenSums_2 : decode cX2_shortenSums 2 = .ok (.iconst 0, 1) := by decide +kernel
theorem dX2_shortenSums_3 : decode cX2_shortenSums 3 = .ok (.istore 4, 2) := by decide +kernel
theorem dX2_shortenSums_5 : decode cX2_shortenSums 5 = .ok (.iload 4, 2) := by decide +kernel
theorem dX2_shortenSums_7 : decode cX2_shortenSums 7 = .ok (.aload_n 1, 1) := by decide +kernel
theorem dX2_shortenSums_8 : decode cX2_shortenSums 8 = .ok (.getfield 28, 3) := by decide +kernel
theorem dX2_shortenSums_11 : decode cX2_shortenSums 11 = .ok (.if_icmp .ge 92, 3) := by decide +kernel
theorem dX2_shortenSums_14 : decode cX2_shortenSums 14 = .ok (.aload_n 0, 1) := by decide +kernel
theorem dX2_shortenSums_15 : decode cX2_shortenSums 15 = .ok (.getfield 15, 3) := by decide +kernel
theorem dX2_shortenSums_18 : decode cX2_shortenSums 18 = .ok (.aload_n 1, 1) := by decide +kernel
theorem dX2_shortenSums_19 : decode cX2_shortenSums 19 = .ok (.getfield 34, 3) := by decide +kernel
theorem dX2_shortenSums_22 : decode cX2_shortenSums 22 = .ok (.iload 4, 2) := by decide +kernel
theorem dX2_shortenSums_24 : decode cX2_shortenSums 24 = .ok (.iaload, 1) := by decide +kernel
theorem dX2_shortenSums_25 : decode cX2_shortenSums 25 = .ok (.iaload, 1) := by decide +kernel
theorem dX2_shortenSums_26 : decode cX2_shortenSums 26 = .ok (.istore 5, 2) := by decide +kernel
theorem dX2_shortenSums_28 : decode cX2_shortenSums 28 = .ok (.iload 4, 2) := by decide +kernel
theorem dX2_shortenSums_30 : decode cX2_shortenSums 30 = .ok (.iload_n 2, 1) := by decide +kernel
theorem dX2_shortenSums_31 : decode cX2_shortenSums 31 = .ok (.if_icmp .eq 66, 3) := by decide +kernel
theorem dX2_shortenSums_34 : decode cX2_shortenSums 34 = .ok (.aload_n 1, 1) := by decide +kernel
theorem dX2_shortenSums_35 : decode cX2_shortenSums 35 = .ok (.iload 4, 2) := by decide +kernel
theorem dX2_shortenSums_37 : decode cX2_shortenSums 37 = .ok (.invokevirtual 37, 3) := by decide +kernel
theorem dX2_shortenSums_40 : decode cX2_shortenSums 40 = .ok (.ifCond .eq 57, 3) := by decide +kernel
theorem dX2_shortenSums_43 : decode cX2_shortenSums 43 = .ok (.iload 5, 2) := by decide +kernel
theorem dX2_shortenSums_45 : decode cX2_shortenSums 45 = .ok (.ldc 23, 2) := by decide +kernel
theorem dX2_shortenSums_47 : decode cX2_shortenSums 47 = .ok (.if_icmp .ne 6, 3) := by decide +kernel
theorem dX2_shortenSums_50 : decode cX2_shortenSums 50 = .ok (.goto 47, 3) := by decide +kernel
theorem dX2_shortenSums_53 : decode cX2_shortenSums 53 = .ok (.aload_n 1, 1) := by decide +kernel
theorem dX2_shortenSums_54 : decode cX2_shortenSums 54 = .ok (.getfield 41, 3) := by decide +kernel
theorem dX2_shortenSums_57 : decode cX2_shortenSums 57 = .ok (.iload 4, 2) := by decide +kernel
theorem dX2_shortenSums_59 : decode cX2_shortenSums 59 = .ok (.iaload, 1) := by decide +kernel
theorem dX2_shortenSums_60 : decode cX2_shortenSums 60 = .ok (.istore 6, 2) := by decide +kernel
theorem dX2_shortenSums_62 : decode cX2_shortenSums 62 = .ok (.iload 5, 2) := by decide +kernel
theorem dX2_shortenSums_64 : decode cX2_shortenSums 64 = .ok (.aload_n 1, 1) := by decide +kernel
theorem dX2_shortenSums_65 : decode cX2_shortenSums 65 = .ok (.getfield 44, 3) := by decide +kernel
theorem dX2_shortenSums_68 : decode cX2_shortenSums 68 = .ok (.iload 4, 2) := by decide +kernel
theorem dX2_shortenSums_70 : decode cX2_shortenSums 70 = .ok (.iaload, 1) := by decide +kernel
theorem dX2_shortenSums_71 : decode cX2_shortenSums 71 = .ok (.iadd, 1) := by decide +kernel
theorem dX2_shortenSums_72 : decode cX2_shortenSums 72 = .ok (.istore 7, 2) := by decide +kernel
theorem dX2_shortenSums_74 : decode cX2_shortenSums 74 = .ok (.iload 7, 2) := by decide +kernel
theorem dX2_shortenSums_76 : decode cX2_shortenSums 76 = .ok (.aload_n 0, 1) := by decide +kernel
theorem dX2_shortenSums_77 : decode cX2_shortenSums 77 = .ok (.getfield 15, 3) := by decide +kernel
theorem dX2_shortenSums_80 : decode cX2_shortenSums 80 = .ok (.iload 6, 2) := by decide +kernel
theorem dX2_shortenSums_82 : decode cX2_shortenSums 82 = .ok (.iaload, 1) := by decide +kernel
theorem dX2_shortenSums_83 : decode cX2_shortenSums 83 = .ok (.if_icmp .ge 14, 3) := by decide +kernel
theorem dX2_shortenSums_86 : decode cX2_shortenSums 86 = .ok (.aload_n 0, 1) := by decide +kernel
theorem dX2_shortenSums_87 : decode cX2_shortenSums 87 = .ok (.getfield 15, 3) := by decide +kernel
theorem dX2_shortenSums_90 : decode cX2_shortenSums 90 = .ok (.iload 6, 2) := by decide +kernel
theorem dX2_shortenSums_92 : decode cX2_shortenSums 92 = .ok (.iload 7, 2) := by decide +kernel
theorem dX2_shortenSums_94 : decode cX2_shortenSums 94 = .ok (.iastore, 1) := by decide +kernel
theorem dX2_shortenSums_95 : decode cX2_shortenSums 95 = .ok (.iconst 1, 1) := by decide +kernel
theorem dX2_shortenSums_96 : decode cX2_shortenSums 96 = .ok (.istore_n 3, 1) := by decide +kernel
theorem dX2_shortenSums_97 : decode cX2_shortenSums 97 = .ok (.iinc 4 1, 3) := by decide +kernel
theorem dX2_shortenSums_100 : decode cX2_shortenSums 100 = .ok (.goto (-95), 3) := by decide +kernel
theorem dX2_shortenSums_103 : decode cX2_shortenSums 103 = .ok (.iload_n 3, 1) := by decide +kernel
theorem dX2_shortenSums_104 : decode cX2_shortenSums 104 = .ok (.ireturn, 1) := by decide +kernel
theorem dX2_boundByPairs_0 : decode cX2_boundByPairs 0 = .ok (.aload_n 0, 1) := by decide +kernel
theorem dX2_boundByPairs_1 : decode cX2_boundByPairs 1 = .ok (.aload_n 1, 1) := by decide +kernel
theorem dX2_boundByPairs_2 : decode cX2_boundByPairs 2 = .ok (.invokevirtual 47, 3) := by decide +kernel
theorem dX2_boundByPairs_5 : decode cX2_boundByPairs 5 = .ok (.aload_n 0, 1) := by decide +kernel
theorem dX2_boundByPairs_6 : decode cX2_boundByPairs 6 = .ok (.getfield 20, 3) := by decide +kernel
theorem dX2_boundByPairs_9 : decode cX2_boundByPairs 9 = .ok (.iload_n 2, 1) := by decide +kernel
theorem dX2_boundByPairs_10 : decode cX2_boundByPairs 10 = .ok (.aaload, 1) := by decide +kernel
theorem dX2_boundByPairs_11 : decode cX2_boundByPairs 11 = .ok (.iload_n 3, 1) := by decide +kernel
theorem dX2_boundByPairs_12 : decode cX2_boundByPairs 12 = .ok (.iaload, 1) := by decide +kernel
theorem dX2_boundByPairs_13 : decode cX2_boundByPairs 13 = .ok (.ireturn, 1) := by decide +kernel
theorem dX2_findPairs_0 : decode cX2_findPairs 0 = .ok (.aload_n 0, 1) := by decide +kernel
theorem dX2_findPairs_1 : decode cX2_findPairs 1 = .ok (.aload_n 1, 1) := by decide +kernel
theorem dX2_findPairs_2 : decode cX2_findPairs 2 = .ok (.invokevirtual 51, 3) := by decide +kernel
theorem dX2_findPairs_5 : decode cX2_findPairs 5 = .ok (.iconst 0, 1) := by decide +kernel
theorem dX2_findPairs_6 : decode cX2_findPairs 6 = .ok (.istore_n 2, 1) := by decide +kernel
theorem dX2_findPairs_7 : decode cX2_findPairs 7 = .ok (.iload_n 2, 1) := by decide +kernel
theorem dX2_findPairs_8 : decode cX2_findPairs 8 = .ok (.bipush 8, 2) := by decide +kernel
theorem dX2_findPairs_10 : decode cX2_findPairs 10 = .ok (.if_icmp .ge 47, 3) := by decide +kernel
theorem dX2_findPairs_13 : decode cX2_findPairs 13 = .ok (.iconst 0, 1) := by decide +kernel
theorem dX2_findPairs_14 : decode cX2_findPairs 14 = .ok (.istore_n 3, 1) := by decide +kernel
theorem dX2_findPairs_15 : decode cX2_findPairs 15 = .ok (.iload_n 3, 1) := by decide +kernel
theorem dX2_findPairs_16 : decode cX2_findPairs 16 = .ok (.bipush 8, 2) := by decide +kernel
theorem dX2_findPairs_18 : decode cX2_findPairs 18 = .ok (.if_icmp .ge 33, 3) := by decide +kernel
theorem dX2_findPairs_21 : decode cX2_findPairs 21 = .ok (.iconst 0, 1) := by decide +kernel
theorem dX2_findPairs_22 : decode cX2_findPairs 22 = .ok (.istore 4, 2) := by decide +kernel
theorem dX2_findPairs_24 : decode cX2_findPairs 24 = .ok (.iload 4, 2) := by decide +kernel
theorem dX2_findPairs_26 : decode cX2_findPairs 26 = .ok (.bipush 8, 2) := by decide +kernel
theorem dX2_findPairs_28 : decode cX2_findPairs 28 = .ok (.if_icmp .ge 17, 3) := by decide +kernel
theorem dX2_findPairs_31 : decode cX2_findPairs 31 = .ok (.aload_n 0, 1) := by decide +kernel
theorem dX2_findPairs_32 : decode cX2_findPairs 32 = .ok (.iload_n 3, 1) := by decide +kernel
theorem dX2_findPairs_33 : decode cX2_findPairs 33 = .ok (.iload_n 2, 1) := by decide +kernel
theorem dX2_findPairs_34 : decode cX2_findPairs 34 = .ok (.iload 4, 2) := by decide +kernel
theorem dX2_findPairs_36 : decode cX2_findPairs 36 = .ok (.invokevirtual 54, 3) := by decide +kernel
theorem dX2_findPairs_39 : decode cX2_findPairs 39 = .ok (.iinc 4 1, 3) := by decide +kernel
theorem dX2_findPairs_42 : decode cX2_findPairs 42 = .ok (.goto (-18), 3) := by decide +kernel
theorem dX2_findPairs_45 : decode cX2_findPairs 45 = .ok (.iinc 3 1, 3) := by decide +kernel
theorem dX2_findPairs_48 : decode cX2_findPairs 48 = .ok (.goto (-33), 3) := by decide +kernel
theorem dX2_findPairs_51 : decode cX2_findPairs 51 = .ok (.iinc 2 1, 3) := by decide +kernel
theorem dX2_findPairs_54 : decode cX2_findPairs 54 = .ok (.goto (-47), 3) := by decide +kernel
theorem dX2_findPairs_57 : decode cX2_findPairs 57 = .ok (.return_, 1) := by decide +kernel
theorem dX2_startPairs_0 : decode cX2_startPairs 0 = .ok (.iconst 0, 1) := by decide +kernel
theorem dX2_startPairs_1 : decode cX2_startPairs 1 = .ok (.istore_n 2, 1) := by decide +kernel
theorem dX2_startPairs_2 : decode cX2_startPairs 2 = .ok (.iload_n 2, 1) := by decide +kernel
theorem dX2_startPairs_3 : decode cX2_startPairs 3 = .ok (.bipush 8, 2) := by decide +kernel
theorem dX2_startPairs_5 : decode cX2_startPairs 5 = .ok (.if_icmp .ge 42, 3) := by decide +kernel
theorem dX2_startPairs_8 : decode cX2_startPairs 8 = .ok (.iconst 0, 1) := by decide +kernel
theorem dX2_startPairs_9 : decode cX2_startPairs 9 = .ok (.istore_n 3, 1) := by decide +kernel
theorem dX2_startPairs_10 : decode cX2_startPairs 10 = .ok (.iload_n 3, 1) := by decide +kernel
theorem dX2_startPairs_11 : decode cX2_startPairs 11 = .ok (.bipush 8, 2) := by decide +kernel
theorem dX2_startPairs_13 : decode cX2_startPairs 13 = .ok (.if_icmp .ge 28, 3) := by decide +kernel
theorem dX2_startPairs_16 : decode cX2_startPairs 16 = .ok (.aload_n 0, 1) := by decide +kernel
theorem dX2_startPairs_17 : decode cX2_startPairs 17 = .ok (.getfield 20, 3) := by decide +kernel
theorem dX2_startPairs_20 : decode cX2_startPairs 20 = .ok (.iload_n 2, 1) := by decide +kernel
theorem dX2_startPairs_21 : decode cX2_startPairs 21 = .ok (.aaload, 1) := by decide +kernel
theorem dX2_startPairs_22 : decode cX2_startPairs 22 = .ok (.iload_n 3, 1) := by decide +kernel
theorem dX2_startPairs_23 : decode cX2_startPairs 23 = .ok (.iload_n 2, 1) := by decide +kernel
theorem dX2_startPairs_24 : decode cX2_startPairs 24 = .ok (.iload_n 3, 1) := by decide +kernel
theorem dX2_startPairs_25 : decode cX2_startPairs 25 = .ok (.if_icmp .ne 7, 3) := by decide +kernel
theorem dX2_startPairs_28 : decode cX2_startPairs 28 = .ok (.iconst 0, 1) := by decide +kernel
theorem dX2_startPairs_29 : decode cX2_startPairs 29 = .ok (.goto 5, 3) := by decide +kernel
theorem dX2_startPairs_32 : decode cX2_startPairs 32 = .ok (.ldc 23, 2) := by decide +kernel
theorem dX2_startPairs_34 : decode cX2_startPairs 34 = .ok (.iastore, 1) := by decide +kernel
theorem dX2_startPairs_35 : decode cX2_startPairs 35 = .ok (.iinc 3 1, 3) := by decide +kernel
theorem dX2_startPairs_38 : decode cX2_startPairs 38 = .ok (.goto (-28), 3) := by decide +kernel
theorem dX2_startPairs_41 : decode cX2_startPairs 41 = .ok (.iinc 2 1, 3) := by decide +kernel
theorem dX2_startPairs_44 : decode cX2_startPairs 44 = .ok (.goto (-42), 3) := by decide +kernel
theorem dX2_startPairs_47 : decode cX2_startPairs 47 = .ok (.iconst 0, 1) := by decide +kernel
theorem dX2_startPairs_48 : decode cX2_startPairs 48 = .ok (.istore_n 2, 1) := by decide +kernel
theorem dX2_startPairs_49 : decode cX2_startPairs 49 = .ok (.iload_n 2, 1) := by decide +kernel
theorem dX2_startPairs_50 : decode cX2_startPairs 50 = .ok (.aload_n 1, 1) := by decide +kernel
theorem dX2_startPairs_51 : decode cX2_startPairs 51 = .ok (.getfield 28, 3) := by decide +kernel
theorem dX2_startPairs_54 : decode cX2_startPairs 54 = .ok (.if_icmp .ge 59, 3) := by decide +kernel
theorem dX2_startPairs_57 : decode cX2_startPairs 57 = .ok (.aload_n 1, 1) := by decide +kernel
theorem dX2_startPairs_58 : decode cX2_startPairs 58 = .ok (.iload_n 2, 1) := by decide +kernel
theorem dX2_startPairs_59 : decode cX2_startPairs 59 = .ok (.invokevirtual 37, 3) := by decide +kernel
theorem dX2_startPairs_62 : decode cX2_startPairs 62 = .ok (.ifCond .eq 45, 3) := by decide +kernel
theorem dX2_startPairs_65 : decode cX2_startPairs 65 = .ok (.aload_n 1, 1) := by decide +kernel
theorem dX2_startPairs_66 : decode cX2_startPairs 66 = .ok (.getfield 34, 3) := by decide +kernel
theorem dX2_startPairs_69 : decode cX2_startPairs 69 = .ok (.iload_n 2, 1) := by decide +kernel
theorem dX2_startPairs_70 : decode cX2_startPairs 70 = .ok (.iaload, 1) := by decide +kernel
theorem dX2_startPairs_71 : decode cX2_startPairs 71 = .ok (.istore_n 3, 1) := by decide +kernel
theorem dX2_startPairs_72 : decode cX2_startPairs 72 = .ok (.aload_n 1, 1) := by decide +kernel
theorem dX2_startPairs_73 : decode cX2_startPairs 73 = .ok (.getfield 41, 3) := by decide +kernel
theorem dX2_startPairs_76 : decode cX2_startPairs 76 = .ok (.iload_n 2, 1) := by decide +kernel
theorem dX2_startPairs_77 : decode cX2_startPairs 77 = .ok (.iaload, 1) := by decide +kernel
theorem dX2_startPairs_78 : decode cX2_startPairs 78 = .ok (.istore 4, 2) := by decide +kernel
theorem dX2_startPairs_80 : decode cX2_startPairs 80 = .ok (.aload_n 0, 1) := by decide +kernel
theorem dX2_startPairs_81 : decode cX2_startPairs 81 = .ok (.getfield 20, 3) := by decide +kernel
theorem dX2_startPairs_84 : decode cX2_startPairs 84 = .ok (.iload_n 3, 1) := by decide +kernel
theorem dX2_startPairs_85 : decode cX2_startPairs 85 = .ok (.aaload, 1) := by decide +kernel
theorem dX2_startPairs_86 : decode cX2_startPairs 86 = .ok (.iload 4, 2) := by decide +kernel
theorem dX2_startPairs_88 : decode cX2_startPairs 88 = .ok (.aload_n 0, 1) := by decide +kernel
theorem dX2_startPairs_89 : decode cX2_startPairs 89 = .ok (.getfield 20, 3) := by decide +kernel
theorem dX2_startPairs_92 : decode cX2_startPairs 92 = .ok (.iload_n 3, 1) := by decide +kernel
theorem dX2_startPairs_93 : decode cX2_startPairs 93 = .ok (.aaload, 1) := by decide +kernel
theorem dX2_startPairs_94 : decode cX2_startPairs 94 = .ok (.iload 4, 2) := by decide +kernel
theorem dX2_startPairs_96 : decode cX2_startPairs 96 = .ok (.iaload, 1) := by decide +kernel
theorem dX2_startPairs_97 : decode cX2_startPairs 97 = .ok (.aload_n 1, 1) := by decide +kernel
theorem dX2_startPairs_98 : decode cX2_startPairs 98 = .ok (.getfield 44, 3) := by decide +kernel
theorem dX2_startPairs_101 : decode cX2_startPairs 101 = .ok (.iload_n 2, 1) := by decide +kernel
theorem dX2_startPairs_102 : decode cX2_startPairs 102 = .ok (.iaload, 1) := by decide +kernel
theorem dX2_startPairs_103 : decode cX2_startPairs 103 = .ok (.invokestatic 58, 3) := by decide +kernel
theorem dX2_startPairs_106 : decode cX2_startPairs 106 = .ok (.iastore, 1) := by decide +kernel
theorem dX2_startPairs_107 : decode cX2_startPairs 107 = .ok (.iinc 2 1, 3) := by decide +kernel
theorem dX2_startPairs_110 : decode cX2_startPairs 110 = .ok (.goto (-61), 3) := by decide +kernel
theorem dX2_startPairs_113 : decode cX2_startPairs 113 = .ok (.return_, 1) := by decide +kernel
theorem dX2_joinPair_0 : decode cX2_joinPair 0 = .ok (.aload_n 0, 1) := by decide +kernel
theorem dX2_joinPair_1 : decode cX2_joinPair 1 = .ok (.getfield 20, 3) := by decide +kernel
theorem dX2_joinPair_4 : decode cX2_joinPair 4 = .ok (.iload_n 1, 1) := by decide +kernel
theorem dX2_joinPair_5 : decode cX2_joinPair 5 = .ok (.aaload, 1) := by decide +kernel
theorem dX2_joinPair_6 : decode cX2_joinPair 6 = .ok (.iload_n 2, 1) := by decide +kernel
theorem dX2_joinPair_7 : decode cX2_joinPair 7 = .ok (.iaload, 1) := by decide +kernel
theorem dX2_joinPair_8 : decode cX2_joinPair 8 = .ok (.istore 4, 2) := by decide +kernel
theorem dX2_joinPair_10 : decode cX2_joinPair 10 = .ok (.aload_n 0, 1) := by decide +kernel
theorem dX2_joinPair_11 : decode cX2_joinPair 11 = .ok (.getfield 20, 3) := by decide +kernel
theorem dX2_joinPair_14 : decode cX2_joinPair 14 = .ok (.iload_n 2, 1) := by decide +kernel
theorem dX2_joinPair_15 : decode cX2_joinPair 15 = .ok (.aaload, 1) := by decide +kernel
theorem dX2_joinPair_16 : decode cX2_joinPair 16 = .ok (.iload_n 3, 1) := by decide +kernel
theorem dX2_joinPair_17 : decode cX2_joinPair 17 = .ok (.iaload, 1) := by decide +kernel
theorem dX2_joinPair_18 : decode cX2_joinPair 18 = .ok (.istore 5, 2) := by decide +kernel
theorem dX2_joinPair_20 : decode cX2_joinPair 20 = .ok (.iload 4, 2) := by decide +kernel
theorem dX2_joinPair_22 : decode cX2_joinPair 22 = .ok (.ldc 23, 2) := by decide +kernel
theorem dX2_joinPair_24 : decode cX2_joinPair 24 = .ok (.if_icmp .eq 39, 3) := by decide +kernel
theorem dX2_joinPair_27 : decode cX2_joinPair 27 = .ok (.iload 5, 2) := by decide +kernel
theorem dX2_joinPair_29 : decode cX2_joinPair 29 = .ok (.ldc 23, 2) := by decide +kernel
theorem dX2_joinPair_31 : decode cX2_joinPair 31 = .ok (.if_icmp .eq 32, 3) := by decide +kernel
theorem dX2_joinPair_34 : decode cX2_joinPair 34 = .ok (.iload 4, 2) := by decide +kernel
theorem dX2_joinPair_36 : decode cX2_joinPair 36 = .ok (.iload 5, 2) := by decide +kernel
theorem dX2_joinPair_38 : decode cX2_joinPair 38 = .ok (.iadd, 1) := by decide +kernel
theorem dX2_joinPair_39 : decode cX2_joinPair 39 = .ok (.aload_n 0, 1) := by decide +kernel
theorem dX2_joinPair_40 : decode cX2_joinPair 40 = .ok (.getfield 20, 3) := by decide +kernel
theorem dX2_joinPair_43 : decode cX2_joinPair 43 = .ok (.iload_n 1, 1) := by decide +kernel
theorem dX2_joinPair_44 : decode cX2_joinPair 44 = .ok (.aaload, 1) := by decide +kernel
theorem dX2_joinPair_45 : decode cX2_joinPair 45 = .ok (.iload_n 3, 1) := by decide +kernel
theorem dX2_joinPair_46 : decode cX2_joinPair 46 = .ok (.iaload, 1) := by decide +kernel
theorem dX2_joinPair_47 : decode cX2_joinPair 47 = .ok (.if_icmp .ge 16, 3) := by decide +kernel
theorem dX2_joinPair_50 : decode cX2_joinPair 50 = .ok (.aload_n 0, 1) := by decide +kernel
theorem dX2_joinPair_51 : decode cX2_joinPair 51 = .ok (.getfield 20, 3) := by decide +kernel
theorem dX2_joinPair_54 : decode cX2_joinPair 54 = .ok (.iload_n 1, 1) := by decide +kernel
theorem dX2_joinPair_55 : decode cX2_joinPair 55 = .ok (.aaload, 1) := by decide +kernel
theorem dX2_joinPair_56 : decode cX2_joinPair 56 = .ok (.iload_n 3, 1) := by decide +kernel
theorem dX2_joinPair_57 : decode cX2_joinPair 57 = .ok (.iload 4, 2) := by decide +kernel
theorem dX2_joinPair_59 : decode cX2_joinPair 59 = .ok (.iload 5, 2) := by decide +kernel
theorem dX2_joinPair_61 : decode cX2_joinPair 61 = .ok (.iadd, 1) := by decide +kernel
theorem dX2_joinPair_62 : decode cX2_joinPair 62 = .ok (.iastore, 1) := by decide +kernel
theorem dX2_joinPair_63 : decode cX2_joinPair 63 = .ok (.return_, 1) := by decide +kernel
theorem dX2_findLeastClipping_0 : decode cX2_findLeastClipping 0 = .ok (.iconst 0, 1) := by decide +kernel
theorem dX2_findLeastClipping_1 : decode cX2_findLeastClipping 1 = .ok (.istore_n 2, 1) := by decide +kernel
theorem dX2_findLeastClipping_2 : decode cX2_findLeastClipping 2 = .ok (.iload_n 2, 1) := by decide +kernel
theorem dX2_findLeastClipping_3 : decode cX2_findLeastClipping 3 = .ok (.bipush 8, 2) := by decide +kernel
theorem dX2_findLeastClipping_5 : decode cX2_findLeastClipping 5 = .ok (.if_icmp .ge 21, 3) := by decide +kernel
theorem dX2_findLeastClipping_8 : decode cX2_findLeastClipping 8 = .ok (.aload_n 0, 1) := by decide +kernel
theorem dX2_findLeastClipping_9 : decode cX2_findLeastClipping 9 = .ok (.getfield 9, 3) := by decide +kernel
theorem dX2_findLeastClipping_12 : decode cX2_findLeastClipping 12 = .ok (.iload_n 2, 1) := by decide +kernel
theorem dX2_findLeastClipping_13 : decode cX2_findLeastClipping 13 = .ok (.aload_n 1, 1) := by decide +kernel
theorem dX2_findLeastClipping_14 : decode cX2_findLeastClipping 14 = .ok (.getfield 64, 3) := by decide +kernel
theorem dX2_findLeastClipping_17 : decode cX2_findLeastClipping 17 = .ok (.iload_n 2, 1) := by decide +kernel
theorem dX2_findLeastClipping_18 : decode cX2_findLeastClipping 18 = .ok (.iaload, 1) := by decide +kernel
theorem dX2_findLeastClipping_19 : decode cX2_findLeastClipping 19 = .ok (.iastore, 1) := by decide +kernel
theorem dX2_findLeastClipping_20 : decode cX2_findLeastClipping 20 = .ok (.iinc 2 1, 3) := by decide +kernel
theorem dX2_findLeastClipping_23 : decode cX2_findLeastClipping 23 = .ok (.goto (-21), 3) := by decide +kernel
theorem dX2_findLeastClipping_26 : decode cX2_findLeastClipping 26 = .ok (.iconst 1, 1) := by decide +kernel
theorem dX2_findLeastClipping_27 : decode cX2_findLeastClipping 27 = .ok (.istore_n 2, 1) := by decide +kernel
theorem dX2_findLeastClipping_28 : decode cX2_findLeastClipping 28 = .ok (.iconst 0, 1) := by decide +kernel
theorem dX2_findLeastClipping_29 : decode cX2_findLeastClipping 29 = .ok (.istore_n 3, 1) := by decide +kernel
theorem dX2_findLeastClipping_30 : decode cX2_findLeastClipping 30 = .ok (.iload_n 3, 1) := by decide +kernel
theorem dX2_findLeastClipping_31 : decode cX2_findLeastClipping 31 = .ok (.bipush 8, 2) := by decide +kernel
theorem dX2_findLeastClipping_33 : decode cX2_findLeastClipping 33 = .ok (.if_icmp .ge 20, 3) := by decide +kernel
theorem dX2_findLeastClipping_36 : decode cX2_findLeastClipping 36 = .ok (.iload_n 2, 1) := by decide +kernel
theorem dX2_findLeastClipping_37 : decode cX2_findLeastClipping 37 = .ok (.ifCond .eq 16, 3) := by decide +kernel
theorem dX2_findLeastClipping_40 : decode cX2_findLeastClipping 40 = .ok (.aload_n 0, 1) := by decide +kernel
theorem dX2_findLeastClipping_41 : decode cX2_findLeastClipping 41 = .ok (.aload_n 1, 1) := by decide +kernel
theorem dX2_findLeastClipping_42 : decode cX2_findLeastClipping 42 = .ok (.iconst 0, 1) := by decide +kernel
theorem dX2_findLeastClipping_43 : decode cX2_findLeastClipping 43 = .ok (.invokevirtual 67, 3) := by decide +kernel
theorem dX2_findLeastClipping_46 : decode cX2_findLeastClipping 46 = .ok (.istore_n 2, 1) := by decide +kernel
theorem dX2_findLeastClipping_47 : decode cX2_findLeastClipping 47 = .ok (.iinc 3 1, 3) := by decide +kernel
theorem dX2_findLeastClipping_50 : decode cX2_findLeastClipping 50 = .ok (.goto (-20), 3) := by decide +kernel
theorem dX2_findLeastClipping_53 : decode cX2_findLeastClipping 53 = .ok (.iload_n 2, 1) := by decide +kernel
theorem dX2_findLeastClipping_54 : decode cX2_findLeastClipping 54 = .ok (.ifCond .ne 14, 3) := by decide +kernel
theorem dX2_findLeastClipping_57 : decode cX2_findLeastClipping 57 = .ok (.aload_n 0, 1) := by decide +kernel
theorem dX2_findLeastClipping_58 : decode cX2_findLeastClipping 58 = .ok (.invokevirtual 71, 3) := by decide +kernel
theorem dX2_findLeastClipping_61 : decode cX2_findLeastClipping 61 = .ok (.ifCond .eq 7, 3) := by decide +kernel
theorem dX2_findLeastClipping_64 : decode cX2_findLeastClipping 64 = .ok (.iconst 1, 1) := by decide +kernel
theorem dX2_findLeastClipping_65 : decode cX2_findLeastClipping 65 = .ok (.goto 4, 3) := by decide +kernel
theorem dX2_findLeastClipping_68 : decode cX2_findLeastClipping 68 = .ok (.iconst 0, 1) := by decide +kernel
theorem dX2_findLeastClipping_69 : decode cX2_findLeastClipping 69 = .ok (.ireturn, 1) := by decide +kernel
theorem dX2_findLeastClippingByBounds_0 : decode cX2_findLeastClippingByBounds 0 = .ok (.aload_n 0, 1) := by decide +kernel
theorem dX2_findLeastClippingByBounds_1 : decode cX2_findLeastClippingByBounds 1 = .ok (.aload_n 1, 1) := by decide +kernel
theorem dX2_findLeastClippingByBounds_2 : decode cX2_findLeastClippingByBounds 2 = .ok (.invokevirtual 47, 3) := by decide +kernel
theorem dX2_findLeastClippingByBounds_5 : decode cX2_findLeastClippingByBounds 5 = .ok (.iconst 0, 1) := by decide +kernel
theorem dX2_findLeastClippingByBounds_6 : decode cX2_findLeastClippingByBounds 6 = .ok (.istore_n 2, 1) := by decide +kernel
theorem dX2_findLeastClippingByBounds_7 : decode cX2_findLeastClippingByBounds 7 = .ok (.iload_n 2, 1) := by decide +kernel
theorem dX2_findLeastClippingByBounds_8 : decode cX2_findLeastClippingByBounds 8 = .ok (.bipush 8, 2) := by decide +kernel
theorem dX2_findLeastClippingByBounds_10 : decode cX2_findLeastClippingByBounds 10 = .ok (.if_icmp .ge 75, 3) := by decide +kernel
theorem dX2_findLeastClippingByBounds_13 : decode cX2_findLeastClippingByBounds 13 = .ok (.aload_n 1, 1) := by decide +kernel
theorem dX2_findLeastClippingByBounds_14 : decode cX2_findLeastClippingByBounds 14 = .ok (.getfield 64, 3) := by decide +kernel
theorem dX2_findLeastClippingByBounds_17 : decode cX2_findLeastClippingByBounds 17 = .ok (.iload_n 2, 1) := by decide +kernel
theorem dX2_findLeastClippingByBounds_18 : decode cX2_findLeastClippingByBounds 18 = .ok (.iaload, 1) := by decide +kernel
theorem dX2_findLeastClippingByBounds_19 : decode cX2_findLeastClippingByBounds 19 = .ok (.istore_n 3, 1) := by decide +kernel
theorem dX2_findLeastClippingByBounds_20 : decode cX2_findLeastClippingByBounds 20 = .ok (.iconst 0, 1) := by decide +kernel
theorem dX2_findLeastClippingByBounds_21 : decode cX2_findLeastClippingByBounds 21 = .ok (.istore 4, 2) := by decide +kernel
theorem dX2_findLeastClippingByBounds_23 : decode cX2_findLeastClippingByBounds 23 = .ok (.iload 4, 2) := by decide +kernel
theorem dX2_findLeastClippingByBounds_25 : decode cX2_findLeastClippingByBounds 25 = .ok (.bipush 8, 2) := by decide +kernel
theorem dX2_findLeastClippingByBounds_27 : decode cX2_findLeastClippingByBounds 27 = .ok (.if_icmp .ge 45, 3) := by decide +kernel
theorem dX2_findLeastClippingByBounds_30 : decode cX2_findLeastClippingByBounds 30 = .ok (.aload_n 0, 1) := by decide +kernel
theorem dX2_findLeastClippingByBounds_31 : decode cX2_findLeastClippingByBounds 31 = .ok (.getfield 20, 3) := by decide +kernel
theorem dX2_findLeastClippingByBounds_34 : decode cX2_findLeastClippingByBounds 34 = .ok (.iload_n 2, 1) := by decide +kernel
theorem dX2_findLeastClippingByBounds_35 : decode cX2_findLeastClippingByBounds 35 = .ok (.aaload, 1) := by decide +kernel
theorem dX2_findLeastClippingByBounds_36 : decode cX2_findLeastClippingByBounds 36 = .ok (.iload 4, 2) := by decide +kernel
theorem dX2_findLeastClippingByBounds_38 : decode cX2_findLeastClippingByBounds 38 = .ok (.iaload, 1) := by decide +kernel
theorem dX2_findLeastClippingByBounds_39 : decode cX2_findLeastClippingByBounds 39 = .ok (.ldc 23, 2) := by decide +kernel
theorem dX2_findLeastClippingByBounds_41 : decode cX2_findLeastClippingByBounds 41 = .ok (.if_icmp .eq 25, 3) := by decide +kernel
theorem dX2_findLeastClippingByBounds_44 : decode cX2_findLeastClippingByBounds 44 = .ok (.iload_n 3, 1) := by decide +kernel
theorem dX2_findLeastClippingByBounds_45 : decode cX2_findLeastClippingByBounds 45 = .ok (.aload_n 1, 1) := by decide +kernel
theorem dX2_findLeastClippingByBounds_46 : decode cX2_findLeastClippingByBounds 46 = .ok (.getfield 64, 3) := by decide +kernel
theorem dX2_findLeastClippingByBounds_49 : decode cX2_findLeastClippingByBounds 49 = .ok (.iload 4, 2) := by decide +kernel
theorem dX2_findLeastClippingByBounds_51 : decode cX2_findLeastClippingByBounds 51 = .ok (.iaload, 1) := by decide +kernel
theorem dX2_findLeastClippingByBounds_52 : decode cX2_findLeastClippingByBounds 52 = .ok (.aload_n 0, 1) := by decide +kernel
theorem dX2_findLeastClippingByBounds_53 : decode cX2_findLeastClippingByBounds 53 = .ok (.getfield 20, 3) := by decide +kernel
theorem dX2_findLeastClippingByBounds_56 : decode cX2_findLeastClippingByBounds 56 = .ok (.iload_n 2, 1) := by decide +kernel
theorem dX2_findLeastClippingByBounds_57 : decode cX2_findLeastClippingByBounds 57 = .ok (.aaload, 1) := by decide +kernel
theorem dX2_findLeastClippingByBounds_58 : decode cX2_findLeastClippingByBounds 58 = .ok (.iload 4, 2) := by decide +kernel
theorem dX2_findLeastClippingByBounds_60 : decode cX2_findLeastClippingByBounds 60 = .ok (.iaload, 1) := by decide +kernel
theorem dX2_findLeastClippingByBounds_61 : decode cX2_findLeastClippingByBounds 61 = .ok (.iadd, 1) := by decide +kernel
theorem dX2_findLeastClippingByBounds_62 : decode cX2_findLeastClippingByBounds 62 = .ok (.invokestatic 58, 3) := by decide +kernel
theorem dX2_findLeastClippingByBounds_65 : decode cX2_findLeastClippingByBounds 65 = .ok (.istore_n 3, 1) := by decide +kernel
theorem dX2_findLeastClippingByBounds_66 : decode cX2_findLeastClippingByBounds 66 = .ok (.iinc 4 1, 3) := by decide +kernel
theorem dX2_findLeastClippingByBounds_69 : decode cX2_findLeastClippingByBounds 69 = .ok (.goto (-46), 3) := by decide +kernel
theorem dX2_findLeastClippingByBounds_72 : decode cX2_findLeastClippingByBounds 72 = .ok (.aload_n 0, 1) := by decide +kernel
theorem dX2_findLeastClippingByBounds_73 : decode cX2_findLeastClippingByBounds 73 = .ok (.getfield 9, 3) := by decide +kernel
theorem dX2_findLeastClippingByBounds_76 : decode cX2_findLeastClippingByBounds 76 = .ok (.iload_n 2, 1) := by decide +kernel
theorem dX2_findLeastClippingByBounds_77 : decode cX2_findLeastClippingByBounds 77 = .ok (.iload_n 3, 1) := by decide +kernel
theorem dX2_findLeastClippingByBounds_78 : decode cX2_findLeastClippingByBounds 78 = .ok (.iastore, 1) := by decide +kernel
theorem dX2_findLeastClippingByBounds_79 : decode cX2_findLeastClippingByBounds 79 = .ok (.iinc 2 1, 3) := by decide +kernel
theorem dX2_findLeastClippingByBounds_82 : decode cX2_findLeastClippingByBounds 82 = .ok (.goto (-75), 3) := by decide +kernel
theorem dX2_findLeastClippingByBounds_85 : decode cX2_findLeastClippingByBounds 85 = .ok (.aload_n 0, 1) := by decide +kernel
theorem dX2_findLeastClippingByBounds_86 : decode cX2_findLeastClippingByBounds 86 = .ok (.invokevirtual 71, 3) := by decide +kernel
theorem dX2_findLeastClippingByBounds_89 : decode cX2_findLeastClippingByBounds 89 = .ok (.ireturn, 1) := by decide +kernel
theorem dX2_isPossibleWith_0 : decode cX2_isPossibleWith 0 = .ok (.iconst 0, 1) := by decide +kernel
theorem dX2_isPossibleWith_1 : decode cX2_isPossibleWith 1 = .ok (.istore 5, 2) := by decide +kernel
theorem dX2_isPossibleWith_3 : decode cX2_isPossibleWith 3 = .ok (.iload 5, 2) := by decide +kernel
theorem dX2_isPossibleWith_5 : decode cX2_isPossibleWith 5 = .ok (.bipush 8, 2) := by decide +kernel
theorem dX2_isPossibleWith_7 : decode cX2_isPossibleWith 7 = .ok (.if_icmp .ge 18, 3) := by decide +kernel
theorem dX2_isPossibleWith_10 : decode cX2_isPossibleWith 10 = .ok (.aload_n 0, 1) := by decide +kernel
theorem dX2_isPossibleWith_11 : decode cX2_isPossibleWith 11 = .ok (.getfield 9, 3) := by decide +kernel
theorem dX2_isPossibleWith_14 : decode cX2_isPossibleWith 14 = .ok (.iload 5, 2) := by decide +kernel
theorem dX2_isPossibleWith_16 : decode cX2_isPossibleWith 16 = .ok (.bipush 99, 2) := by decide +kernel
theorem dX2_isPossibleWith_18 : decode cX2_isPossibleWith 18 = .ok (.iastore, 1) := by decide +kernel
theorem dX2_isPossibleWith_19 : decode cX2_isPossibleWith 19 = .ok (.iinc 5 1, 3) := by decide +kernel
theorem dX2_isPossibleWith_22 : decode cX2_isPossibleWith 22 = .ok (.goto (-19), 3) := by decide +kernel
theorem dX2_isPossibleWith_25 : decode cX2_isPossibleWith 25 = .ok (.iconst 1, 1) := by decide +kernel
theorem dX2_isPossibleWith_26 : decode cX2_isPossibleWith 26 = .ok (.istore 5, 2) := by decide +kernel
theorem dX2_isPossibleWith_28 : decode cX2_isPossibleWith 28 = .ok (.iconst 0, 1) := by decide +kernel
theorem dX2_isPossibleWith_29 : decode cX2_isPossibleWith 29 = .ok (.istore 6, 2) := by decide +kernel
theorem dX2_isPossibleWith_31 : decode cX2_isPossibleWith 31 = .ok (.iload 6, 2) := by decide +kernel
theorem dX2_isPossibleWith_33 : decode cX2_isPossibleWith 33 = .ok (.bipush 8, 2) := by decide +kernel
theorem dX2_isPossibleWith_35 : decode cX2_isPossibleWith 35 = .ok (.if_icmp .ge 36, 3) := by decide +kernel
theorem dX2_isPossibleWith_38 : decode cX2_isPossibleWith 38 = .ok (.iload 5, 2) := by decide +kernel
theorem dX2_isPossibleWith_40 : decode cX2_isPossibleWith 40 = .ok (.ifCond .eq 31, 3) := by decide +kernel
theorem dX2_isPossibleWith_43 : decode cX2_isPossibleWith 43 = .ok (.aload_n 0, 1) := by decide +kernel
theorem dX2_isPossibleWith_44 : decode cX2_isPossibleWith 44 = .ok (.iload_n 2, 1) := by decide +kernel
theorem dX2_isPossibleWith_45 : decode cX2_isPossibleWith 45 = .ok (.iload_n 3, 1) := by decide +kernel
theorem dX2_isPossibleWith_46 : decode cX2_isPossibleWith 46 = .ok (.iload 4, 2) := by decide +kernel
theorem dX2_isPossibleWith_48 : decode cX2_isPossibleWith 48 = .ok (.invokevirtual 75, 3) := by decide +kernel
theorem dX2_isPossibleWith_51 : decode cX2_isPossibleWith 51 = .ok (.istore 5, 2) := by decide +kernel
theorem dX2_isPossibleWith_53 : decode cX2_isPossibleWith 53 = .ok (.aload_n 0, 1) := by decide +kernel
theorem dX2_isPossibleWith_54 : decode cX2_isPossibleWith 54 = .ok (.aload_n 1, 1) := by decide +kernel
theorem dX2_isPossibleWith_55 : decode cX2_isPossibleWith 55 = .ok (.iconst 1, 1) := by decide +kernel
theorem dX2_isPossibleWith_56 : decode cX2_isPossibleWith 56 = .ok (.invokevirtual 67, 3) := by decide +kernel
theorem dX2_isPossibleWith_59 : decode cX2_isPossibleWith 59 = .ok (.ifCond .eq 6, 3) := by decide +kernel
theorem dX2_isPossibleWith_62 : decode cX2_isPossibleWith 62 = .ok (.iconst 1, 1) := by decide +kernel
theorem dX2_isPossibleWith_63 : decode cX2_isPossibleWith 63 = .ok (.istore 5, 2) := by decide +kernel
theorem dX2_isPossibleWith_65 : decode cX2_isPossibleWith 65 = .ok (.iinc 6 1, 3) := by decide +kernel
theorem dX2_isPossibleWith_68 : decode cX2_isPossibleWith 68 = .ok (.goto (-37), 3) := by decide +kernel
theorem dX2_isPossibleWith_71 : decode cX2_isPossibleWith 71 = .ok (.iload 5, 2) := by decide +kernel
theorem dX2_isPossibleWith_73 : decode cX2_isPossibleWith 73 = .ok (.ifCond .ne 14, 3) := by decide +kernel
theorem dX2_isPossibleWith_76 : decode cX2_isPossibleWith 76 = .ok (.aload_n 0, 1) := by decide +kernel
theorem dX2_isPossibleWith_77 : decode cX2_isPossibleWith 77 = .ok (.invokevirtual 71, 3) := by decide +kernel
theorem dX2_isPossibleWith_80 : decode cX2_isPossibleWith 80 = .ok (.ifCond .eq 7, 3) := by decide +kernel
theorem dX2_isPossibleWith_83 : decode cX2_isPossibleWith 83 = .ok (.iconst 1, 1) := by decide +kernel
theorem dX2_isPossibleWith_84 : decode cX2_isPossibleWith 84 = .ok (.goto 4, 3) := by decide +kernel
theorem dX2_isPossibleWith_87 : decode cX2_isPossibleWith 87 = .ok (.iconst 0, 1) := by decide +kernel
theorem dX2_isPossibleWith_88 : decode cX2_isPossibleWith 88 = .ok (.ireturn, 1) := by decide +kernel
theorem dX2_pressByTreaties_0 : decode cX2_pressByTreaties 0 = .ok (.iconst 0, 1) := by decide +kernel
theorem dX2_pressByTreaties_1 : decode cX2_pressByTreaties 1 = .ok (.istore_n 3, 1) := by decide +kernel
theorem dX2_pressByTreaties_2 : decode cX2_pressByTreaties 2 = .ok (.iconst 0, 1) := by decide +kernel
theorem dX2_pressByTreaties_3 : decode cX2_pressByTreaties 3 = .ok (.istore 4, 2) := by decide +kernel
theorem dX2_pressByTreaties_5 : decode cX2_pressByTreaties 5 = .ok (.iload 4, 2) := by decide +kernel
theorem dX2_pressByTreaties_7 : decode cX2_pressByTreaties 7 = .ok (.aload_n 1, 1) := by decide +kernel
theorem dX2_pressByTreaties_8 : decode cX2_pressByTreaties 8 = .ok (.getfield 28, 3) := by decide +kernel
theorem dX2_pressByTreaties_11 : decode cX2_pressByTreaties 11 = .ok (.if_icmp .ge 55, 3) := by decide +kernel
theorem dX2_pressByTreaties_14 : decode cX2_pressByTreaties 14 = .ok (.iload_n 2, 1) := by decide +kernel
theorem dX2_pressByTreaties_15 : decode cX2_pressByTreaties 15 = .ok (.ifCond .ne 15, 3) := by decide +kernel
theorem dX2_pressByTreaties_18 : decode cX2_pressByTreaties 18 = .ok (.aload_n 1, 1) := by decide +kernel
theorem dX2_pressByTreaties_19 : decode cX2_pressByTreaties 19 = .ok (.iload 4, 2) := by decide +kernel
theorem dX2_pressByTreaties_21 : decode cX2_pressByTreaties 21 = .ok (.invokevirtual 37, 3) := by decide +kernel
theorem dX2_pressByTreaties_24 : decode cX2_pressByTreaties 24 = .ok (.ifCond .ne 6, 3) := by decide +kernel
theorem dX2_pressByTreaties_27 : decode cX2_pressByTreaties 27 = .ok (.goto 33, 3) := by decide +kernel
theorem dX2_pressByTreaties_30 : decode cX2_pressByTreaties 30 = .ok (.aload_n 0, 1) := by decide +kernel
theorem dX2_pressByTreaties_31 : decode cX2_pressByTreaties 31 = .ok (.aload_n 1, 1) := by decide +kernel
theorem dX2_pressByTreaties_32 : decode cX2_pressByTreaties 32 = .ok (.getfield 34, 3) := by decide +kernel
theorem dX2_pressByTreaties_35 : decode cX2_pressByTreaties 35 = .ok (.iload 4, 2) := by decide +kernel
theorem dX2_pressByTreaties_37 : decode cX2_pressByTreaties 37 = .ok (.iaload, 1) := by decide +kernel
theorem dX2_pressByTreaties_38 : decode cX2_pressByTreaties 38 = .ok (.aload_n 1, 1) := by decide +kernel
theorem dX2_pressByTreaties_39 : decode cX2_pressByTreaties 39 = .ok (.getfield 41, 3) := by decide +kernel
theorem dX2_pressByTreaties_42 : decode cX2_pressByTreaties 42 = .ok (.iload 4, 2) := by decide +kernel
theorem dX2_pressByTreaties_44 : decode cX2_pressByTreaties 44 = .ok (.iaload, 1) := by decide +kernel
theorem dX2_pressByTreaties_45 : decode cX2_pressByTreaties 45 = .ok (.aload_n 1, 1) := by decide +kernel
theorem dX2_pressByTreaties_46 : decode cX2_pressByTreaties 46 = .ok (.getfield 44, 3) := by decide +kernel
theorem dX2_pressByTreaties_49 : decode cX2_pressByTreaties 49 = .ok (.iload 4, 2) := by decide +kernel
theorem dX2_pressByTreaties_51 : decode cX2_pressByTreaties 51 = .ok (.iaload, 1) := by decide +kernel
theorem dX2_pressByTreaties_52 : decode cX2_pressByTreaties 52 = .ok (.invokevirtual 75, 3) := by decide +kernel
theorem dX2_pressByTreaties_55 : decode cX2_pressByTreaties 55 = .ok (.ifCond .eq 5, 3) := by decide +kernel
theorem dX2_pressByTreaties_58 : decode cX2_pressByTreaties 58 = .ok (.iconst 1, 1) := by decide +kernel
theorem dX2_pressByTreaties_59 : decode cX2_pressByTreaties 59 = .ok (.istore_n 3, 1) := by decide +kernel
theorem dX2_pressByTreaties_60 : decode cX2_pressByTreaties 60 = .ok (.iinc 4 1, 3) := by decide +kernel
theorem dX2_pressByTreaties_63 : decode cX2_pressByTreaties 63 = .ok (.goto (-58), 3) := by decide +kernel
theorem dX2_pressByTreaties_66 : decode cX2_pressByTreaties 66 = .ok (.iload_n 3, 1) := by decide +kernel
theorem dX2_pressByTreaties_67 : decode cX2_pressByTreaties 67 = .ok (.ireturn, 1) := by decide +kernel
theorem dX2_press_0 : decode cX2_press 0 = .ok (.aload_n 0, 1) := by decide +kernel
theorem dX2_press_1 : decode cX2_press 1 = .ok (.getfield 9, 3) := by decide +kernel
theorem dX2_press_4 : decode cX2_press 4 = .ok (.iload_n 2, 1) := by decide +kernel
theorem dX2_press_5 : decode cX2_press 5 = .ok (.iaload, 1) := by decide +kernel
theorem dX2_press_6 : decode cX2_press 6 = .ok (.iload_n 3, 1) := by decide +kernel
theorem dX2_press_7 : decode cX2_press 7 = .ok (.iadd, 1) := by decide +kernel
theorem dX2_press_8 : decode cX2_press 8 = .ok (.istore 4, 2) := by decide +kernel
theorem dX2_press_10 : decode cX2_press 10 = .ok (.aload_n 0, 1) := by decide +kernel
theorem dX2_press_11 : decode cX2_press 11 = .ok (.getfield 9, 3) := by decide +kernel
theorem dX2_press_14 : decode cX2_press 14 = .ok (.iload_n 1, 1) := by decide +kernel
theorem dX2_press_15 : decode cX2_press 15 = .ok (.iaload, 1) := by decide +kernel
theorem dX2_press_16 : decode cX2_press 16 = .ok (.iload 4, 2) := by decide +kernel
theorem dX2_press_18 : decode cX2_press 18 = .ok (.if_icmp .gt 5, 3) := by decide +kernel
theorem dX2_press_21 : decode cX2_press 21 = .ok (.iconst 0, 1) := by decide +kernel
theorem dX2_press_22 : decode cX2_press 22 = .ok (.ireturn, 1) := by decide +kernel
theorem dX2_press_23 : decode cX2_press 23 = .ok (.aload_n 0, 1) := by decide +kernel
theorem dX2_press_24 : decode cX2_press 24 = .ok (.getfield 9, 3) := by decide +kernel
theorem dX2_press_27 : decode cX2_press 27 = .ok (.iload_n 1, 1) := by decide +kernel
theorem dX2_press_28 : decode cX2_press 28 = .ok (.iload 4, 2) := by decide +kernel
theorem dX2_press_30 : decode cX2_press 30 = .ok (.iastore, 1) := by decide +kernel
theorem dX2_press_31 : decode cX2_press 31 = .ok (.iconst 1, 1) := by decide +kernel
theorem dX2_press_32 : decode cX2_press 32 = .ok (.ireturn, 1) := by decide +kernel
theorem dX2_areLevelsAboveGround_0 : decode cX2_areLevelsAboveGround 0 = .ok (.iconst 0, 1) := by decide +kernel
theorem dX2_areLevelsAboveGround_1 : decode cX2_areLevelsAboveGround 1 = .ok (.istore_n 1, 1) := by decide +kernel
theorem dX2_areLevelsAboveGround_2 : decode cX2_areLevelsAboveGround 2 = .ok (.iload_n 1, 1) := by decide +kernel
theorem dX2_areLevelsAboveGround_3 : decode cX2_areLevelsAboveGround 3 = .ok (.bipush 8, 2) := by decide +kernel
theorem dX2_areLevelsAboveGround_5 : decode cX2_areLevelsAboveGround 5 = .ok (.if_icmp .ge 20, 3) := by decide +kernel
theorem dX2_areLevelsAboveGround_8 : decode cX2_areLevelsAboveGround 8 = .ok (.aload_n 0, 1) := by decide +kernel
theorem dX2_areLevelsAboveGround_9 : decode cX2_areLevelsAboveGround 9 = .ok (.getfield 9, 3) := by decide +kernel
theorem dX2_areLevelsAboveGround_12 : decode cX2_areLevelsAboveGround 12 = .ok (.iload_n 1, 1) := by decide +kernel
theorem dX2_areLevelsAboveGround_13 : decode cX2_areLevelsAboveGround 13 = .ok (.iaload, 1) := by decide +kernel
theorem dX2_areLevelsAboveGround_14 : decode cX2_areLevelsAboveGround 14 = .ok (.ifCond .ge 5, 3) := by decide +kernel
theorem dX2_areLevelsAboveGround_17 : decode cX2_areLevelsAboveGround 17 = .ok (.iconst 0, 1) := by decide +kernel
theorem dX2_areLevelsAboveGround_18 : decode cX2_areLevelsAboveGround 18 = .ok (.ireturn, 1) := by decide +kernel
theorem dX2_areLevelsAboveGround_19 : decode cX2_areLevelsAboveGround 19 = .ok (.iinc 1 1, 3) := by decide +kernel
theorem dX2_areLevelsAboveGround_22 : decode cX2_areLevelsAboveGround 22 = .ok (.goto (-20), 3) := by decide +kernel
theorem dX2_areLevelsAboveGround_25 : decode cX2_areLevelsAboveGround 25 = .ok (.iconst 1, 1) := by decide +kernel
theorem dX2_areLevelsAboveGround_26 : decode cX2_areLevelsAboveGround 26 = .ok (.ireturn, 1) := by decide +kernel
end
section
theorem dX3_init_0 : decode cX3_init 0 = .ok (.aload_n 0, 1) := by decide +kernel
theorem dX3_init_1 : decode cX3_init 1 = .ok (.invokespecial 1, 3) := by decide +kernel
theorem dX3_init_4 : decode cX3_init 4 = .ok (.aload_n 0, 1) := by decide +kernel
theorem dX3_init_5 : decode cX3_init 5 = .ok (.new 7, 3) := by decide +kernel
theorem dX3_init_8 : decode cX3_init 8 = .ok (.dup, 1) := by decide +kernel
theorem dX3_init_9 : decode cX3_init 9 = .ok (.invokespecial 9, 3) := by decide +kernel
theorem dX3_init_12 : decode cX3_init 12 = .ok (.putfield 10, 3) := by decide +kernel
theorem dX3_init_15 : decode cX3_init 15 = .ok (.aload_n 0, 1) := by decide +kernel
theorem dX3_init_16 : decode cX3_init 16 = .ok (.new 7, 3) := by decide +kernel
theorem dX3_init_19 : decode cX3_init 19 = .ok (.dup, 1) := by decide +kernel
theorem dX3_init_20 : decode cX3_init 20 = .ok (.invokespecial 9, 3) := by decide +kernel
theorem dX3_init_23 : decode cX3_init 23 = .ok (.putfield 16, 3) := by decide +kernel
theorem dX3_init_26 : decode cX3_init 26 = .ok (.aload_n 0, 1) := by decide +kernel
theorem dX3_init_27 : decode cX3_init 27 = .ok (.iconst 4, 1) := by decide +kernel
theorem dX3_init_28 : decode cX3_init 28 = .ok (.anewarray 7, 3) := by decide +kernel
theorem dX3_init_31 : decode cX3_init 31 = .ok (.putfield 19, 3) := by decide +kernel
theorem dX3_init_34 : decode cX3_init 34 = .ok (.iconst 0, 1) := by decide +kernel
theorem dX3_init_35 : decode cX3_init 35 = .ok (.istore_n 1, 1) := by decide +kernel
theorem dX3_init_36 : decode cX3_init 36 = .ok (.iload_n 1, 1) := by decide +kernel
theorem dX3_init_37 : decode cX3_init 37 = .ok (.iconst 4, 1) := by decide +kernel
theorem dX3_init_38 : decode cX3_init 38 = .ok (.if_icmp .ge 22, 3) := by decide +kernel
theorem dX3_init_41 : decode cX3_init 41 = .ok (.aload_n 0, 1) := by decide +kernel
theorem dX3_init_42 : decode cX3_init 42 = .ok (.getfield 19, 3) := by decide +kernel
theorem dX3_init_45 : decode cX3_init 45 = .ok (.iload_n 1, 1) := by decide +kernel
theorem dX3_init_46 : decode cX3_init 46 = .ok (.new 7, 3) := by decide +kernel
theorem dX3_init_49 : decode cX3_init 49 = .ok (.dup, 1) := by decide +kernel
theorem dX3_init_50 : decode cX3_init 50 = .ok (.invokespecial 9, 3) := by decide +kernel
theorem dX3_init_53 : decode cX3_init 53 = .ok (.aastore, 1) := by decide +kernel
theorem dX3_init_54 : decode cX3_init 54 = .ok (.iinc 1 1, 3) := by decide +kernel
theorem dX3_init_57 : decode cX3_init 57 = .ok (.goto (-21), 3) := by decide +kernel
theorem dX3_init_60 : decode cX3_init 60 = .ok (.aload_n 0, 1) := by decide +kernel
theorem dX3_init_61 : decode cX3_init 61 = .ok (.new 23, 3) := by decide +kernel
theorem dX3_init_64 : decode cX3_init 64 = .ok (.dup, 1) := by decide +kernel
theorem dX3_init_65 : decode cX3_init 65 = .ok (.invokespecial 25, 3) := by decide +kernel
theorem dX3_init_68 : decode cX3_init 68 = .ok (.putfield 26, 3) := by decide +kernel
theorem dX3_init_71 : decode cX3_init 71 = .ok (.aload_n 0, 1) := by decide +kernel
theorem dX3_init_72 : decode cX3_init 72 = .ok (.new 30, 3) := by decide +kernel
theorem dX3_init_75 : decode cX3_init 75 = .ok (.dup, 1) := by decide +kernel
theorem dX3_init_76 : decode cX3_init 76 = .ok (.invokespecial 32, 3) := by decide +kernel
theorem dX3_init_79 : decode cX3_init 79 = .ok (.putfield 33, 3) := by decide +kernel
theorem dX3_init_82 : decode cX3_init 82 = .ok (.return_, 1) := by decide +kernel
theorem dX3_height_0 : decode cX3_height 0 = .ok (.iload_n 1, 1) := by decide +kernel
theorem dX3_height_1 : decode cX3_height 1 = .ok (.invokestatic 37, 3) := by decide +kernel
theorem dX3_height_4 : decode cX3_height 4 = .ok (.ifCond .eq 13, 3) := by decide +kernel
theorem dX3_height_7 : decode cX3_height 7 = .ok (.iload_n 2, 1) := by decide +kernel
theorem dX3_height_8 : decode cX3_height 8 = .ok (.ifCond .lt 9, 3) := by decide +kernel
theorem dX3_height_11 : decode cX3_height 11 = .ok (.iload_n 2, 1) := by decide +kernel
theorem dX3_height_12 : decode cX3_height 12 = .ok (.bipush 99, 2) := by decide +kernel
theorem dX3_height_14 : decode cX3_height 14 = .ok (.if_icmp .le 5, 3) := by decide +kernel
theorem dX3_height_17 : decode cX3_height 17 = .ok (.iconst (-1), 1) := by decide +kernel
theorem dX3_height_18 : decode cX3_height 18 = .ok (.ireturn, 1) := by decide +kernel
theorem dX3_height_19 : decode cX3_height 19 = .ok (.aload_n 0, 1) := by decide +kernel
theorem dX3_height_20 : decode cX3_height 20 = .ok (.invokevirtual 41, 3) := by decide +kernel
theorem dX3_height_23 : decode cX3_height 23 = .ok (.aload_n 0, 1) := by decide +kernel
theorem dX3_height_24 : decode cX3_height 24 = .ok (.getfield 10, 3) := by decide +kernel
theorem dX3_height_27 : decode cX3_height 27 = .ok (.getfield 44, 3) := by decide +kernel
theorem dX3_height_30 : decode cX3_height 30 = .ok (.iload_n 1, 1) := by decide +kernel
theorem dX3_height_31 : decode cX3_height 31 = .ok (.iaload, 1) := by decide +kernel
theorem dX3_height_32 : decode cX3_height 32 = .ok (.istore_n 3, 1) := by decide +kernel
theorem dX3_height_33 : decode cX3_height 33 = .ok (.aload_n 0, 1) := by decide +kernel
theorem dX3_height_34 : decode cX3_height 34 = .ok (.getfield 10, 3) := by decide +kernel
theorem dX3_height_37 : decode cX3_height 37 = .ok (.getfield 44, 3) := by decide +kernel
theorem dX3_height_40 : decode cX3_height 40 = .ok (.iload_n 1, 1) := by decide +kernel
theorem dX3_height_41 : decode cX3_height 41 = .ok (.iload_n 2, 1) := by decide +kernel
theorem dX3_height_42 : decode cX3_height 42 = .ok (.iastore, 1) := by decide +kernel
theorem dX3_height_43 : decode cX3_height 43 = .ok (.iload_n 3, 1) := by decide +kernel
theorem dX3_height_44 : decode cX3_height 44 = .ok (.ireturn, 1) := by decide +kernel
theorem dX3_growth_0 : decode cX3_growth 0 = .ok (.iload_n 1, 1) := by decide +kernel
theorem dX3_growth_1 : decode cX3_growth 1 = .ok (.invokestatic 37, 3) := by decide +kernel
theorem dX3_growth_4 : decode cX3_growth 4 = .ok (.ifCond .eq 12, 3) := by decide +kernel
theorem dX3_growth_7 : decode cX3_growth 7 = .ok (.iload_n 2, 1) := by decide +kernel
theorem dX3_growth_8 : decode cX3_growth 8 = .ok (.ifCond .lt 8, 3) := by decide +kernel
theorem dX3_growth_11 : decode cX3_growth 11 = .ok (.iload_n 2, 1) := by decide +kernel
theorem dX3_growth_12 : decode cX3_growth 12 = .ok (.iconst 5, 1) := by decide +kernel
theorem dX3_growth_13 : decode cX3_growth 13 = .ok (.if_icmp .le 5, 3) := by decide +kernel
theorem dX3_growth_16 : decode cX3_growth 16 = .ok (.iconst (-1), 1) := by decide +kernel
theorem dX3_growth_17 : decode cX3_growth 17 = .ok (.ireturn, 1) := by decide +kernel
theorem dX3_growth_18 : decode cX3_growth 18 = .ok (.aload_n 0, 1) := by decide +kernel
theorem dX3_growth_19 : decode cX3_growth 19 = .ok (.invokevirtual 41, 3) := by decide +kernel
theorem dX3_growth_22 : decode cX3_growth 22 = .ok (.aload_n 0, 1) := by decide +kernel
theorem dX3_growth_23 : decode cX3_growth 23 = .ok (.getfield 10, 3) := by decide +kernel
theorem dX3_growth_26 : decode cX3_growth 26 = .ok (.getfield 48, 3) := by decide +kernel
theorem dX3_growth_29 : decode cX3_growth 29 = .ok (.iload_n 1, 1) := by decide +kernel
theorem dX3_growth_30 : decode cX3_growth 30 = .ok (.iaload, 1) := by decide +kernel
theorem dX3_growth_31 : decode cX3_growth 31 = .ok (.istore_n 3, 1) := by decide +kernel
theorem dX3_growth_32 : decode cX3_growth 32 = .ok (.aload_n 0, 1) := by decide +kernel
theorem dX3_growth_33 : decode cX3_growth 33 = .ok (.getfield 10, 3) := by decide +kernel
theorem dX3_growth_36 : decode cX3_growth 36 = .ok (.getfield 48, 3) := by decide +kernel
theorem dX3_growth_39 : decode cX3_growth 39 = .ok (.iload_n 1, 1) := by decide +kernel
theorem dX3_growth_40 : decode cX3_growth 40 = .ok (.iload_n 2, 1) := by decide +kernel
theorem dX3_growth_41 : decode cX3_growth 41 = .ok (.iastore, 1) := by decide +kernel
theorem dX3_growth_42 : decode cX3_growth 42 = .ok (.iload_n 3, 1) := by decide +kernel
theorem dX3_growth_43 : decode cX3_growth 43 = .ok (.ireturn, 1) := by decide +kernel
theorem dX3_nest_0 : decode cX3_nest 0 = .ok (.iload_n 1, 1) := by decide +kernel
theorem dX3_nest_1 : decode cX3_nest 1 = .ok (.invokestatic 37, 3) := by decide +kernel
theorem dX3_nest_4 : decode cX3_nest 4 = .ok (.ifCond .eq 13, 3) := by decide +kernel
theorem dX3_nest_7 : decode cX3_nest 7 = .ok (.iload_n 2, 1) := by decide +kernel
theorem dX3_nest_8 : decode cX3_nest 8 = .ok (.ifCond .lt 9, 3) := by decide +kernel
theorem dX3_nest_11 : decode cX3_nest 11 = .ok (.iload_n 2, 1) := by decide +kernel
theorem dX3_nest_12 : decode cX3_nest 12 = .ok (.bipush 30, 2) := by decide +kernel
theorem dX3_nest_14 : decode cX3_nest 14 = .ok (.if_icmp .le 5, 3) := by decide +kernel
theorem dX3_nest_17 : decode cX3_nest 17 = .ok (.iconst (-1), 1) := by decide +kernel
theorem dX3_nest_18 : decode cX3_nest 18 = .ok (.ireturn, 1) := by decide +kernel
theorem dX3_nest_19 : decode cX3_nest 19 = .ok (.aload_n 0, 1) := by decide +kernel
theorem dX3_nest_20 : decode cX3_nest 20 = .ok (.invokevirtual 41, 3) := by decide +kernel
theorem dX3_nest_23 : decode cX3_nest 23 = .ok (.aload_n 0, 1) := by decide +kernel
theorem dX3_nest_24 : decode cX3_nest 24 = .ok (.getfield 10, 3) := by decide +kernel
theorem dX3_nest_27 : decode cX3_nest 27 = .ok (.getfield 51, 3) := by decide +kernel
theorem dX3_nest_30 : decode cX3_nest 30 = .ok (.iload_n 1, 1) := by decide +kernel
theorem dX3_nest_31 : decode cX3_nest 31 = .ok (.iaload, 1) := by decide +kernel
theorem dX3_nest_32 : decode cX3_nest 32 = .ok (.istore_n 3, 1) := by decide +kernel
theorem dX3_nest_33 : decode cX3_nest 33 = .ok (.aload_n 0, 1) := by decide +kernel
theorem dX3_nest_34 : decode cX3_nest 34 = .ok (.getfield 10, 3) := by decide +kernel
theorem dX3_nest_37 : decode cX3_nest 37 = .ok (.getfield 51, 3) := by decide +kernel
theorem dX3_nest_40 : decode cX3_nest 40 = .ok (.iload_n 1, 1) := by decide +kernel
theorem dX3_nest_41 : decode cX3_nest 41 = .ok (.aload_n 0, 1) := by decide +kernel
theorem dX3_nest_42 : decode cX3_nest 42 = .ok (.getfield 10, 3) := by decide +kernel
theorem dX3_nest_45 : decode cX3_nest 45 = .ok (.getfield 54, 3) := by decide +kernel
theorem dX3_nest_48 : decode cX3_nest 48 = .ok (.iload_n 2, 1) := by decide +kernel
theorem dX3_nest_49 : decode cX3_nest 49 = .ok (.iadd, 1) := by decide +kernel
theorem dX3_nest_50 : decode cX3_nest 50 = .ok (.iastore, 1) := by decide +kernel
theorem dX3_nest_51 : decode cX3_nest 51 = .ok (.iload_n 3, 1) := by decide +kernel
theorem dX3_nest_52 : decode cX3_nest 52 = .ok (.ireturn, 1) := by decide +kernel
theorem dX3_clip_0 : decode cX3_clip 0 = .ok (.iload_n 1, 1) := by decide +kernel
theorem dX3_clip_1 : decode cX3_clip 1 = .ok (.invokestatic 37, 3) := by decide +kernel
theorem dX3_clip_4 : decode cX3_clip 4 = .ok (.ifCond .eq 14, 3) := by decide +kernel
theorem dX3_clip_7 : decode cX3_clip 7 = .ok (.iload_n 2, 1) := by decide +kernel
theorem dX3_clip_8 : decode cX3_clip 8 = .ok (.iconst 1, 1) := by decide +kernel
theorem dX3_clip_9 : decode cX3_clip 9 = .ok (.if_icmp .lt 9, 3) := by decide +kernel
theorem dX3_clip_12 : decode cX3_clip 12 = .ok (.iload_n 2, 1) := by decide +kernel
theorem dX3_clip_13 : decode cX3_clip 13 = .ok (.bipush 99, 2) := by decide +kernel
theorem dX3_clip_15 : decode cX3_clip 15 = .ok (.if_icmp .le 5, 3) := by decide +kernel
theorem dX3_clip_18 : decode cX3_clip 18 = .ok (.iconst (-1), 1) := by decide +kernel
theorem dX3_clip_19 : decode cX3_clip 19 = .ok (.ireturn, 1) := by decide +kernel
theorem dX3_clip_20 : decode cX3_clip 20 = .ok (.aload_n 0, 1) := by decide +kernel
theorem dX3_clip_21 : decode cX3_clip 21 = .ok (.invokevirtual 41, 3) := by decide +kernel
theorem dX3_clip_24 : decode cX3_clip 24 = .ok (.aload_n 0, 1) := by decide +kernel
theorem dX3_clip_25 : decode cX3_clip 25 = .ok (.getfield 10, 3) := by decide +kernel
theorem dX3_clip_28 : decode cX3_clip 28 = .ok (.iload_n 1, 1) := by decide +kernel
theorem dX3_clip_29 : decode cX3_clip 29 = .ok (.invokevirtual 58, 3) := by decide +kernel
theorem dX3_clip_32 : decode cX3_clip 32 = .ok (.ifCond .eq 9, 3) := by decide +kernel
theorem dX3_clip_35 : decode cX3_clip 35 = .ok (.aload_n 0, 1) := by decide +kernel
theorem dX3_clip_36 : decode cX3_clip 36 = .ok (.iconst 3, 1) := by decide +kernel
theorem dX3_clip_37 : decode cX3_clip 37 = .ok (.invokevirtual 61, 3) := by decide +kernel
theorem dX3_clip_40 : decode cX3_clip 40 = .ok (.ireturn, 1) := by decide +kernel
theorem dX3_clip_41 : decode cX3_clip 41 = .ok (.iload_n 2, 1) := by decide +kernel
theorem dX3_clip_42 : decode cX3_clip 42 = .ok (.aload_n 0, 1) := by decide +kernel
theorem dX3_clip_43 : decode cX3_clip 43 = .ok (.getfield 10, 3) := by decide +kernel
theorem dX3_clip_46 : decode cX3_clip 46 = .ok (.getfield 44, 3) := by decide +kernel
theorem dX3_clip_49 : decode cX3_clip 49 = .ok (.iload_n 1, 1) := by decide +kernel
theorem dX3_clip_50 : decode cX3_clip 50 = .ok (.iaload, 1) := by decide +kernel
theorem dX3_clip_51 : decode cX3_clip 51 = .ok (.if_icmp .le 9, 3) := by decide +kernel
theorem dX3_clip_54 : decode cX3_clip 54 = .ok (.aload_n 0, 1) := by decide +kernel
theorem dX3_clip_55 : decode cX3_clip 55 = .ok (.iconst 4, 1) := by decide +kernel
theorem dX3_clip_56 : decode cX3_clip 56 = .ok (.invokevirtual 61, 3) := by decide +kernel
theorem dX3_clip_59 : decode cX3_clip 59 = .ok (.ireturn, 1) := by decide +kernel
theorem dX3_clip_60 : decode cX3_clip 60 = .ok (.aload_n 0, 1) := by decide +kernel
theorem dX3_clip_61 : decode cX3_clip 61 = .ok (.getfield 10, 3) := by decide +kernel
theorem dX3_clip_64 : decode cX3_clip 64 = .ok (.iload_n 1, 1) := by decide +kernel
theorem dX3_clip_65 : decode cX3_clip 65 = .ok (.iload_n 2, 1) := by decide +kernel
theorem dX3_clip_66 : decode cX3_clip 66 = .ok (.invokevirtual 65, 3) := by decide +kernel
theorem dX3_clip_69 : decode cX3_clip 69 = .ok (.bipush 10, 2) := by decide +kernel
theorem dX3_clip_71 : decode cX3_clip 71 = .ok (.aload_n 0, 1) := by decide +kernel
theorem dX3_clip_72 : decode cX3_clip 72 = .ok (.getfield 10, 3) := by decide +kernel
theorem dX3_clip_75 : decode cX3_clip 75 = .ok (.getfield 44, 3) := by decide +kernel
theorem dX3_clip_78 : decode cX3_clip 78 = .ok (.iload_n 1, 1) := by decide +kernel
theorem dX3_clip_79 : decode cX3_clip 79 = .ok (.iaload, 1) := by decide +kernel
theorem dX3_clip_80 : decode cX3_clip 80 = .ok (.iadd, 1) := by decide +kernel
theorem dX3_clip_81 : decode cX3_clip 81 = .ok (.ireturn, 1) := by decide +kernel
theorem dX3_plan_0 : decode cX3_plan 0 = .ok (.aload_n 0, 1) := by decide +kernel
theorem dX3_plan_1 : decode cX3_plan 1 = .ok (.invokevirtual 41, 3) := by decide +kernel
theorem dX3_plan_4 : decode cX3_plan 4 = .ok (.aload_n 0, 1) := by decide +kernel
theorem dX3_plan_5 : decode cX3_plan 5 = .ok (.getfield 26, 3) := by decide +kernel
theorem dX3_plan_8 : decode cX3_plan 8 = .ok (.aload_n 0, 1) := by decide +kernel
theorem dX3_plan_9 : decode cX3_plan 9 = .ok (.getfield 10, 3) := by decide +kernel
theorem dX3_plan_12 : decode cX3_plan 12 = .ok (.invokevirtual 69, 3) := by decide +kernel
theorem dX3_plan_15 : decode cX3_plan 15 = .ok (.ifCond .ne 9, 3) := by decide +kernel
theorem dX3_plan_18 : decode cX3_plan 18 = .ok (.aload_n 0, 1) := by decide +kernel
theorem dX3_plan_19 : decode cX3_plan 19 = .ok (.iconst 4, 1) := by decide +kernel
theorem dX3_plan_20 : decode cX3_plan 20 = .ok (.invokevirtual 61, 3) := by decide +kernel
theorem dX3_plan_23 : decode cX3_plan 23 = .ok (.ireturn, 1) := by decide +kernel
theorem dX3_plan_24 : decode cX3_plan 24 = .ok (.aload_n 0, 1) := by decide +kernel
theorem dX3_plan_25 : decode cX3_plan 25 = .ok (.invokevirtual 73, 3) := by decide +kernel
theorem dX3_plan_28 : decode cX3_plan 28 = .ok (.ifCond .eq 9, 3) := by decide +kernel
theorem dX3_plan_31 : decode cX3_plan 31 = .ok (.aload_n 0, 1) := by decide +kernel
theorem dX3_plan_32 : decode cX3_plan 32 = .ok (.iconst 3, 1) := by decide +kernel
theorem dX3_plan_33 : decode cX3_plan 33 = .ok (.invokevirtual 61, 3) := by decide +kernel
theorem dX3_plan_36 : decode cX3_plan 36 = .ok (.ireturn, 1) := by decide +kernel
theorem dX3_plan_37 : decode cX3_plan 37 = .ok (.iconst 0, 1) := by decide +kernel
theorem dX3_plan_38 : decode cX3_plan 38 = .ok (.istore_n 1, 1) := by decide +kernel
theorem dX3_plan_39 : decode cX3_plan 39 = .ok (.iconst 0, 1) := by decide +kernel
theorem dX3_plan_40 : decode cX3_plan 40 = .ok (.istore_n 2, 1) := by decide +kernel
theorem dX3_plan_41 : decode cX3_plan 41 = .ok (.iload_n 2, 1) := by decide +kernel
theorem dX3_plan_42 : decode cX3_plan 42 = .ok (.bipush 8, 2) := by decide +kernel
theorem dX3_plan_44 : decode cX3_plan 44 = .ok (.if_icmp .ge 46, 3) := by decide +kernel
theorem dX3_plan_47 : decode cX3_plan 47 = .ok (.aload_n 0, 1) := by decide +kernel
theorem dX3_plan_48 : decode cX3_plan 48 = .ok (.getfield 10, 3) := by decide +kernel
theorem dX3_plan_51 : decode cX3_plan 51 = .ok (.getfield 44, 3) := by decide +kernel
theorem dX3_plan_54 : decode cX3_plan 54 = .ok (.iload_n 2, 1) := by decide +kernel
theorem dX3_plan_55 : decode cX3_plan 55 = .ok (.iaload, 1) := by decide +kernel
theorem dX3_plan_56 : decode cX3_plan 56 = .ok (.aload_n 0, 1) := by decide +kernel
theorem dX3_plan_57 : decode cX3_plan 57 = .ok (.getfield 26, 3) := by decide +kernel
theorem dX3_plan_60 : decode cX3_plan 60 = .ok (.getfield 77, 3) := by decide +kernel
theorem dX3_plan_63 : decode cX3_plan 63 = .ok (.iload_n 2, 1) := by decide +kernel
theorem dX3_plan_64 : decode cX3_plan 64 = .ok (.iaload, 1) := by decide +kernel
theorem dX3_plan_65 : decode cX3_plan 65 = .ok (.isub, 1) := by decide +kernel
theorem dX3_plan_66 : decode cX3_plan 66 = .ok (.istore_n 3, 1) := by decide +kernel
theorem dX3_plan_67 : decode cX3_plan 67 = .ok (.iload_n 3, 1) := by decide +kernel
theorem dX3_plan_68 : decode cX3_plan 68 = .ok (.ifCond .le 16, 3) := by decide +kernel
theorem dX3_plan_71 : decode cX3_plan 71 = .ok (.aload_n 0, 1) := by decide +kernel
theorem dX3_plan_72 : decode cX3_plan 72 = .ok (.getfield 10, 3) := by decide +kernel
theorem dX3_plan_75 : decode cX3_plan 75 = .ok (.iload_n 2, 1) := by decide +kernel
theorem dX3_plan_76 : decode cX3_plan 76 = .ok (.iload_n 3, 1) := by decide +kernel
theorem dX3_plan_77 : decode cX3_plan 77 = .ok (.invokevirtual 65, 3) := by decide +kernel
theorem dX3_plan_80 : decode cX3_plan 80 = .ok (.iload_n 1, 1) := by decide +kernel
theorem dX3_plan_81 : decode cX3_plan 81 = .ok (.iload_n 3, 1) := by decide +kernel
theorem dX3_plan_82 : decode cX3_plan 82 = .ok (.iadd, 1) := by decide +kernel
theorem dX3_plan_83 : decode cX3_plan 83 = .ok (.istore_n 1, 1) := by decide +kernel
theorem dX3_plan_84 : decode cX3_plan 84 = .ok (.iinc 2 1, 3) := by decide +kernel
theorem dX3_plan_87 : decode cX3_plan 87 = .ok (.goto (-46), 3) := by decide +kernel
theorem dX3_plan_90 : decode cX3_plan 90 = .ok (.bipush 10, 2) := by decide +kernel
theorem dX3_plan_92 : decode cX3_plan 92 = .ok (.iload_n 1, 1) := by decide +kernel
theorem dX3_plan_93 : decode cX3_plan 93 = .ok (.iadd, 1) := by decide +kernel
theorem dX3_plan_94 : decode cX3_plan 94 = .ok (.ireturn, 1) := by decide +kernel
theorem dX3_day_0 : decode cX3_day 0 = .ok (.aload_n 0, 1) := by decide +kernel
theorem dX3_day_1 : decode cX3_day 1 = .ok (.invokevirtual 41, 3) := by decide +kernel
theorem dX3_day_4 : decode cX3_day 4 = .ok (.aload_n 0, 1) := by decide +kernel
theorem dX3_day_5 : decode cX3_day 5 = .ok (.getfield 10, 3) := by decide +kernel
theorem dX3_day_8 : decode cX3_day 8 = .ok (.invokevirtual 80, 3) := by decide +kernel
theorem dX3_day_11 : decode cX3_day 11 = .ok (.aload_n 0, 1) := by decide +kernel
theorem dX3_day_12 : decode cX3_day 12 = .ok (.getfield 10, 3) := by decide +kernel
theorem dX3_day_15 : decode cX3_day 15 = .ok (.iconst (-1), 1) := by decide +kernel
theorem dX3_day_16 : decode cX3_day 16 = .ok (.iconst 0, 1) := by decide +kernel
theorem dX3_day_17 : decode cX3_day 17 = .ok (.invokevirtual 83, 3) := by decide +kernel
theorem dX3_day_20 : decode cX3_day 20 = .ok (.ireturn, 1) := by decide +kernel
theorem dX3_sign_0 : decode cX3_sign 0 = .ok (.aload_n 0, 1) := by decide +kernel
theorem dX3_sign_1 : decode cX3_sign 1 = .ok (.iload_n 1, 1) := by decide +kernel
theorem dX3_sign_2 : decode cX3_sign 2 = .ok (.iload_n 2, 1) := by decide +kernel
theorem dX3_sign_3 : decode cX3_sign 3 = .ok (.iload_n 3, 1) := by decide +kernel
theorem dX3_sign_4 : decode cX3_sign 4 = .ok (.invokevirtual 87, 3) := by decide +kernel
theorem dX3_sign_7 : decode cX3_sign 7 = .ok (.istore 4, 2) := by decide +kernel
theorem dX3_sign_9 : decode cX3_sign 9 = .ok (.iload 4, 2) := by decide +kernel
theorem dX3_sign_11 : decode cX3_sign 11 = .ok (.ifCond .eq 6, 3) := by decide +kernel
theorem dX3_sign_14 : decode cX3_sign 14 = .ok (.iload 4, 2) := by decide +kernel
theorem dX3_sign_16 : decode cX3_sign 16 = .ok (.ireturn, 1) := by decide +kernel
theorem dX3_sign_17 : decode cX3_sign 17 = .ok (.aload_n 0, 1) := by decide +kernel
theorem dX3_sign_18 : decode cX3_sign 18 = .ok (.invokevirtual 41, 3) := by decide +kernel
theorem dX3_sign_21 : decode cX3_sign 21 = .ok (.aload_n 0, 1) := by decide +kernel
theorem dX3_sign_22 : decode cX3_sign 22 = .ok (.iload_n 1, 1) := by decide +kernel
theorem dX3_sign_23 : decode cX3_sign 23 = .ok (.iload_n 2, 1) := by decide +kernel
theorem dX3_sign_24 : decode cX3_sign 24 = .ok (.iload_n 3, 1) := by decide +kernel
theorem dX3_sign_25 : decode cX3_sign 25 = .ok (.invokevirtual 91, 3) := by decide +kernel
theorem dX3_sign_28 : decode cX3_sign 28 = .ok (.ireturn, 1) := by decide +kernel
theorem dX3_cancel_0 : decode cX3_cancel 0 = .ok (.aload_n 0, 1) := by decide +kernel
theorem dX3_cancel_1 : decode cX3_cancel 1 = .ok (.iload_n 1, 1) := by decide +kernel
theorem dX3_cancel_2 : decode cX3_cancel 2 = .ok (.invokevirtual 94, 3) := by decide +kernel
theorem dX3_cancel_5 : decode cX3_cancel 5 = .ok (.ifCond .ne 5, 3) := by decide +kernel
theorem dX3_cancel_8 : decode cX3_cancel 8 = .ok (.iconst (-1), 1) := by decide +kernel
theorem dX3_cancel_9 : decode cX3_cancel 9 = .ok (.ireturn, 1) := by decide +kernel
theorem dX3_cancel_10 : decode cX3_cancel 10 = .ok (.aload_n 0, 1) := by decide +kernel
theorem dX3_cancel_11 : decode cX3_cancel 11 = .ok (.invokevirtual 41, 3) := by decide +kernel
theorem dX3_cancel_14 : decode cX3_cancel 14 = .ok (.aload_n 0, 1) := by decide +kernel
theorem dX3_cancel_15 : decode cX3_cancel 15 = .ok (.getfield 10, 3) := by decide +kernel
theorem dX3_cancel_18 : decode cX3_cancel 18 = .ok (.iload_n 1, 1) := by decide +kernel
theorem dX3_cancel_19 : decode cX3_cancel 19 = .ok (.invokevirtual 97, 3) := by decide +kernel
theorem dX3_cancel_22 : decode cX3_cancel 22 = .ok (.aload_n 0, 1) := by decide +kernel
theorem dX3_cancel_23 : decode cX3_cancel 23 = .ok (.getfield 10, 3) := by decide +kernel
theorem dX3_cancel_26 : decode cX3_cancel 26 = .ok (.getfield 101, 3) := by decide +kernel
theorem dX3_cancel_29 : decode cX3_cancel 29 = .ok (.ireturn, 1) := by decide +kernel
theorem dX3_freeze_0 : decode cX3_freeze 0 = .ok (.aload_n 0, 1) := by decide +kernel
theorem dX3_freeze_1 : decode cX3_freeze 1 = .ok (.iload_n 1, 1) := by decide +kernel
theorem dX3_freeze_2 : decode cX3_freeze 2 = .ok (.invokevirtual 94, 3) := by decide +kernel
theorem dX3_freeze_5 : decode cX3_freeze 5 = .ok (.ifCond .eq 14, 3) := by decide +kernel
theorem dX3_freeze_8 : decode cX3_freeze 8 = .ok (.iload_n 2, 1) := by decide +kernel
theorem dX3_freeze_9 : decode cX3_freeze 9 = .ok (.iconst 1, 1) := by decide +kernel
theorem dX3_freeze_10 : decode cX3_freeze 10 = .ok (.if_icmp .lt 9, 3) := by decide +kernel
theorem dX3_freeze_13 : decode cX3_freeze 13 = .ok (.iload_n 2, 1) := by decide +kernel
theorem dX3_freeze_14 : decode cX3_freeze 14 = .ok (.bipush 30, 2) := by decide +kernel
theorem dX3_freeze_16 : decode cX3_freeze 16 = .ok (.if_icmp .le 5, 3) := by decide +kernel
theorem dX3_freeze_19 : decode cX3_freeze 19 = .ok (.iconst (-1), 1) := by decide +kernel
theorem dX3_freeze_20 : decode cX3_freeze 20 = .ok (.ireturn, 1) := by decide +kernel
theorem dX3_freeze_21 : decode cX3_freeze 21 = .ok (.aload_n 0, 1) := by decide +kernel
theorem dX3_freeze_22 : decode cX3_freeze 22 = .ok (.invokevirtual 41, 3) := by decide +kernel
theorem dX3_freeze_25 : decode cX3_freeze 25 = .ok (.aload_n 0, 1) := by decide +kernel
theorem dX3_freeze_26 : decode cX3_freeze 26 = .ok (.getfield 10, 3) := by decide +kernel
theorem dX3_freeze_29 : decode cX3_freeze 29 = .ok (.iload_n 1, 1) := by decide +kernel
theorem dX3_freeze_30 : decode cX3_freeze 30 = .ok (.invokevirtual 104, 3) := by decide +kernel
theorem dX3_freeze_33 : decode cX3_freeze 33 = .ok (.ifCond .eq 16, 3) := by decide +kernel
theorem dX3_freeze_36 : decode cX3_freeze 36 = .ok (.aload_n 0, 1) := by decide +kernel
theorem dX3_freeze_37 : decode cX3_freeze 37 = .ok (.getfield 10, 3) := by decide +kernel
theorem dX3_freeze_40 : decode cX3_freeze 40 = .ok (.dup, 1) := by decide +kernel
theorem dX3_freeze_41 : decode cX3_freeze 41 = .ok (.getfield 107, 3) := by decide +kernel
theorem dX3_freeze_44 : decode cX3_freeze 44 = .ok (.iconst 1, 1) := by decide +kernel
theorem dX3_freeze_45 : decode cX3_freeze 45 = .ok (.iadd, 1) := by decide +kernel
theorem dX3_freeze_46 : decode cX3_freeze 46 = .ok (.putfield 107, 3) := by decide +kernel
theorem dX3_freeze_49 : decode cX3_freeze 49 = .ok (.aload_n 0, 1) := by decide +kernel
theorem dX3_freeze_50 : decode cX3_freeze 50 = .ok (.getfield 10, 3) := by decide +kernel
theorem dX3_freeze_53 : decode cX3_freeze 53 = .ok (.getfield 110, 3) := by decide +kernel
theorem dX3_freeze_56 : decode cX3_freeze 56 = .ok (.iload_n 1, 1) := by decide +kernel
theorem dX3_freeze_57 : decode cX3_freeze 57 = .ok (.aload_n 0, 1) := by decide +kernel
theorem dX3_freeze_58 : decode cX3_freeze 58 = .ok (.getfield 10, 3) := by decide +kernel
theorem dX3_freeze_61 : decode cX3_freeze 61 = .ok (.getfield 54, 3) := by decide +kernel
theorem dX3_freeze_64 : decode cX3_freeze 64 = .ok (.iload_n 2, 1) := by decide +kernel
theorem dX3_freeze_65 : decode cX3_freeze 65 = .ok (.iadd, 1) := by decide +kernel
theorem dX3_freeze_66 : decode cX3_freeze 66 = .ok (.iastore, 1) := by decide +kernel
theorem dX3_freeze_67 : decode cX3_freeze 67 = .ok (.aload_n 0, 1) := by decide +kernel
theorem dX3_freeze_68 : decode cX3_freeze 68 = .ok (.getfield 10, 3) := by decide +kernel
theorem dX3_freeze_71 : decode cX3_freeze 71 = .ok (.getfield 107, 3) := by decide +kernel
theorem dX3_freeze_74 : decode cX3_freeze 74 = .ok (.ireturn, 1) := by decide +kernel
theorem dX3_thaw_0 : decode cX3_thaw 0 = .ok (.aload_n 0, 1) := by decide +kernel
theorem dX3_thaw_1 : decode cX3_thaw 1 = .ok (.iload_n 1, 1) := by decide +kernel
theorem dX3_thaw_2 : decode cX3_thaw 2 = .ok (.invokevirtual 94, 3) := by decide +kernel
theorem dX3_thaw_5 : decode cX3_thaw 5 = .ok (.ifCond .ne 5, 3) := by decide +kernel
theorem dX3_thaw_8 : decode cX3_thaw 8 = .ok (.iconst (-1), 1) := by decide +kernel
theorem dX3_thaw_9 : decode cX3_thaw 9 = .ok (.ireturn, 1) := by decide +kernel
theorem dX3_thaw_10 : decode cX3_thaw 10 = .ok (.aload_n 0, 1) := by decide +kernel
theorem dX3_thaw_11 : decode cX3_thaw 11 = .ok (.invokevirtual 41, 3) := by decide +kernel
theorem dX3_thaw_14 : decode cX3_thaw 14 = .ok (.aload_n 0, 1) := by decide +kernel
theorem dX3_thaw_15 : decode cX3_thaw 15 = .ok (.getfield 10, 3) := by decide +kernel
theorem dX3_thaw_18 : decode cX3_thaw 18 = .ok (.iload_n 1, 1) := by decide +kernel
theorem dX3_thaw_19 : decode cX3_thaw 19 = .ok (.invokevirtual 113, 3) := by decide +kernel
theorem dX3_thaw_22 : decode cX3_thaw 22 = .ok (.ifCond .eq 9, 3) := by decide +kernel
theorem dX3_thaw_25 : decode cX3_thaw 25 = .ok (.aload_n 0, 1) := by decide +kernel
theorem dX3_thaw_26 : decode cX3_thaw 26 = .ok (.iconst 5, 1) := by decide +kernel
theorem dX3_thaw_27 : decode cX3_thaw 27 = .ok (.invokevirtual 61, 3) := by decide +kernel
theorem dX3_thaw_30 : decode cX3_thaw 30 = .ok (.ireturn, 1) := by decide +kernel
theorem dX3_thaw_31 : decode cX3_thaw 31 = .ok (.aload_n 0, 1) := by decide +kernel
theorem dX3_thaw_32 : decode cX3_thaw 32 = .ok (.getfield 10, 3) := by decide +kernel
theorem dX3_thaw_35 : decode cX3_thaw 35 = .ok (.getfield 110, 3) := by decide +kernel
theorem dX3_thaw_38 : decode cX3_thaw 38 = .ok (.iload_n 1, 1) := by decide +kernel
theorem dX3_thaw_39 : decode cX3_thaw 39 = .ok (.iaload, 1) := by decide +kernel
theorem dX3_thaw_40 : decode cX3_thaw 40 = .ok (.aload_n 0, 1) := by decide +kernel
theorem dX3_thaw_41 : decode cX3_thaw 41 = .ok (.getfield 10, 3) := by decide +kernel
theorem dX3_thaw_44 : decode cX3_thaw 44 = .ok (.getfield 54, 3) := by decide +kernel
theorem dX3_thaw_47 : decode cX3_thaw 47 = .ok (.isub, 1) := by decide +kernel
theorem dX3_thaw_48 : decode cX3_thaw 48 = .ok (.istore_n 2, 1) := by decide +kernel
theorem dX3_thaw_49 : decode cX3_thaw 49 = .ok (.iload_n 2, 1) := by decide +kernel
theorem dX3_thaw_50 : decode cX3_thaw 50 = .ok (.aload_n 0, 1) := by decide +kernel
theorem dX3_thaw_51 : decode cX3_thaw 51 = .ok (.getfield 10, 3) := by decide +kernel
theorem dX3_thaw_54 : decode cX3_thaw 54 = .ok (.getfield 107, 3) := by decide +kernel
theorem dX3_thaw_57 : decode cX3_thaw 57 = .ok (.if_icmp .le 10, 3) := by decide +kernel
theorem dX3_thaw_60 : decode cX3_thaw 60 = .ok (.aload_n 0, 1) := by decide +kernel
theorem dX3_thaw_61 : decode cX3_thaw 61 = .ok (.bipush 6, 2) := by decide +kernel
theorem dX3_thaw_63 : decode cX3_thaw 63 = .ok (.invokevirtual 61, 3) := by decide +kernel
theorem dX3_thaw_66 : decode cX3_thaw 66 = .ok (.ireturn, 1) := by decide +kernel
theorem dX3_thaw_67 : decode cX3_thaw 67 = .ok (.aload_n 0, 1) := by decide +kernel
theorem dX3_thaw_68 : decode cX3_thaw 68 = .ok (.getfield 10, 3) := by decide +kernel
theorem dX3_thaw_71 : decode cX3_thaw 71 = .ok (.dup, 1) := by decide +kernel
theorem dX3_thaw_72 : decode cX3_thaw 72 = .ok (.getfield 107, 3) := by decide +kernel
theorem dX3_thaw_75 : decode cX3_thaw 75 = .ok (.iload_n 2, 1) := by decide +kernel
theorem dX3_thaw_76 : decode cX3_thaw 76 = .ok (.isub, 1) := by decide +kernel
theorem dX3_thaw_77 : decode cX3_thaw 77 = .ok (.putfield 107, 3) := by decide +kernel
theorem dX3_thaw_80 : decode cX3_thaw 80 = .ok (.aload_n 0, 1) := by decide +kernel
theorem dX3_thaw_81 : decode cX3_thaw 81 = .ok (.getfield 10, 3) := by decide +kernel
theorem dX3_thaw_84 : decode cX3_thaw 84 = .ok (.getfield 110, 3) := by decide +kernel
theorem dX3_thaw_87 : decode cX3_thaw 87 = .ok (.iload_n 1, 1) := by decide +kernel
theorem dX3_thaw_88 : decode cX3_thaw 88 = .ok (.aload_n 0, 1) := by decide +kernel
theorem dX3_thaw_89 : decode cX3_thaw 89 = .ok (.getfield 10, 3) := by decide +kernel
theorem dX3_thaw_92 : decode cX3_thaw 92 = .ok (.getfield 54, 3) := by decide +kernel
theorem dX3_thaw_95 : decode cX3_thaw 95 = .ok (.iastore, 1) := by decide +kernel
theorem dX3_thaw_96 : decode cX3_thaw 96 = .ok (.bipush 10, 2) := by decide +kernel
theorem dX3_thaw_98 : decode cX3_thaw 98 = .ok (.aload_n 0, 1) := by decide +kernel
theorem dX3_thaw_99 : decode cX3_thaw 99 = .ok (.getfield 10, 3) := by decide +kernel
theorem dX3_thaw_102 : decode cX3_thaw 102 = .ok (.getfield 107, 3) := by decide +kernel
theorem dX3_thaw_105 : decode cX3_thaw 105 = .ok (.iadd, 1) := by decide +kernel
theorem dX3_thaw_106 : decode cX3_thaw 106 = .ok (.ireturn, 1) := by decide +kernel
theorem dX3_append_0 : decode cX3_append 0 = .ok (.iload_n 1, 1) := by decide +kernel
theorem dX3_append_1 : decode cX3_append 1 = .ok (.bipush 33, 2) := by decide +kernel
theorem dX3_append_3 : decode cX3_append 3 = .ok (.if_icmp .lt 9, 3) := by decide +kernel
theorem dX3_append_6 : decode cX3_append 6 = .ok (.iload_n 1, 1) := by decide +kernel
theorem dX3_append_7 : decode cX3_append 7 = .ok (.bipush 126, 2) := by decide +kernel
theorem dX3_append_9 : decode cX3_append 9 = .ok (.if_icmp .le 5, 3) := by decide +kernel
theorem dX3_append_12 : decode cX3_append 12 = .ok (.iconst (-1), 1) := by decide +kernel
theorem dX3_append_13 : decode cX3_append 13 = .ok (.ireturn, 1) := by decide +kernel
theorem dX3_append_14 : decode cX3_append 14 = .ok (.aload_n 0, 1) := by decide +kernel
theorem dX3_append_15 : decode cX3_append 15 = .ok (.getfield 33, 3) := by decide +kernel
theorem dX3_append_18 : decode cX3_append 18 = .ok (.getfield 116, 3) := by decide +kernel
theorem dX3_append_21 : decode cX3_append 21 = .ok (.bipush 60, 2) := by decide +kernel
theorem dX3_append_23 : decode cX3_append 23 = .ok (.if_icmp .lt 6, 3) := by decide +kernel
theorem dX3_append_26 : decode cX3_append 26 = .ok (.bipush (-3), 2) := by decide +kernel
theorem dX3_append_28 : decode cX3_append 28 = .ok (.ireturn, 1) := by decide +kernel
theorem dX3_append_29 : decode cX3_append 29 = .ok (.aload_n 0, 1) := by decide +kernel
theorem dX3_append_30 : decode cX3_append 30 = .ok (.getfield 33, 3) := by decide +kernel
theorem dX3_append_33 : decode cX3_append 33 = .ok (.getfield 119, 3) := by decide +kernel
theorem dX3_append_36 : decode cX3_append 36 = .ok (.aload_n 0, 1) := by decide +kernel
theorem dX3_append_37 : decode cX3_append 37 = .ok (.getfield 33, 3) := by decide +kernel
theorem dX3_append_40 : decode cX3_append 40 = .ok (.getfield 116, 3) := by decide +kernel
theorem dX3_append_43 : decode cX3_append 43 = .ok (.iload_n 1, 1) := by decide +kernel
theorem dX3_append_44 : decode cX3_append 44 = .ok (.iastore, 1) := by decide +kernel
theorem dX3_append_45 : decode cX3_append 45 = .ok (.aload_n 0, 1) := by decide +kernel
theorem dX3_append_46 : decode cX3_append 46 = .ok (.getfield 33, 3) := by decide +kernel
theorem dX3_append_49 : decode cX3_append 49 = .ok (.dup, 1) := by decide +kernel
theorem dX3_append_50 : decode cX3_append 50 = .ok (.getfield 116, 3) := by decide +kernel
theorem dX3_append_53 : decode cX3_append 53 = .ok (.iconst 1, 1) := by decide +kernel
theorem dX3_append_54 : decode cX3_append 54 = .ok (.iadd, 1) := by decide +kernel
theorem dX3_append_55 : decode cX3_append 55 = .ok (.putfield 116, 3) := by decide +kernel
theorem dX3_append_58 : decode cX3_append 58 = .ok (.aload_n 0, 1) := by decide +kernel
theorem dX3_append_59 : decode cX3_append 59 = .ok (.getfield 33, 3) := by decide +kernel
theorem dX3_append_62 : decode cX3_append 62 = .ok (.getfield 116, 3) := by decide +kernel
theorem dX3_append_65 : decode cX3_append 65 = .ok (.ireturn, 1) := by decide +kernel
theorem dX3_clear_0 : decode cX3_clear 0 = .ok (.aload_n 0, 1) := by decide +kernel
theorem dX3_clear_1 : decode cX3_clear 1 = .ok (.getfield 33, 3) := by decide +kernel
theorem dX3_clear_4 : decode cX3_clear 4 = .ok (.getfield 116, 3) := by decide +kernel
theorem dX3_clear_7 : decode cX3_clear 7 = .ok (.istore_n 1, 1) := by decide +kernel
theorem dX3_clear_8 : decode cX3_clear 8 = .ok (.aload_n 0, 1) := by decide +kernel
theorem dX3_clear_9 : decode cX3_clear 9 = .ok (.getfield 33, 3) := by decide +kernel
theorem dX3_clear_12 : decode cX3_clear 12 = .ok (.iconst 0, 1) := by decide +kernel
theorem dX3_clear_13 : decode cX3_clear 13 = .ok (.putfield 116, 3) := by decide +kernel
theorem dX3_clear_16 : decode cX3_clear 16 = .ok (.iload_n 1, 1) := by decide +kernel
theorem dX3_clear_17 : decode cX3_clear 17 = .ok (.ireturn, 1) := by decide +kernel
theorem dX3_fault_0 : decode cX3_fault 0 = .ok (.aload_n 0, 1) := by decide +kernel
theorem dX3_fault_1 : decode cX3_fault 1 = .ok (.getfield 33, 3) := by decide +kernel
theorem dX3_fault_4 : decode cX3_fault 4 = .ok (.invokevirtual 122, 3) := by decide +kernel
theorem dX3_fault_7 : decode cX3_fault 7 = .ok (.ireturn, 1) := by decide +kernel
theorem dX3_signAll_0 : decode cX3_signAll 0 = .ok (.aload_n 0, 1) := by decide +kernel
theorem dX3_signAll_1 : decode cX3_signAll 1 = .ok (.getfield 33, 3) := by decide +kernel
theorem dX3_signAll_4 : decode cX3_signAll 4 = .ok (.invokevirtual 122, 3) := by decide +kernel
theorem dX3_signAll_7 : decode cX3_signAll 7 = .ok (.bipush (-4), 2) := by decide +kernel
theorem dX3_signAll_9 : decode cX3_signAll 9 = .ok (.if_icmp .eq 6, 3) := by decide +kernel
theorem dX3_signAll_12 : decode cX3_signAll 12 = .ok (.bipush (-2), 2) := by decide +kernel
theorem dX3_signAll_14 : decode cX3_signAll 14 = .ok (.ireturn, 1) := by decide +kernel
theorem dX3_signAll_15 : decode cX3_signAll 15 = .ok (.aload_n 0, 1) := by decide +kernel
theorem dX3_signAll_16 : decode cX3_signAll 16 = .ok (.invokevirtual 41, 3) := by decide +kernel
theorem dX3_signAll_19 : decode cX3_signAll 19 = .ok (.aload_n 0, 1) := by decide +kernel
theorem dX3_signAll_20 : decode cX3_signAll 20 = .ok (.iconst 0, 1) := by decide +kernel
theorem dX3_signAll_21 : decode cX3_signAll 21 = .ok (.putfield 126, 3) := by decide +kernel
theorem dX3_signAll_24 : decode cX3_signAll 24 = .ok (.iconst 0, 1) := by decide +kernel
theorem dX3_signAll_25 : decode cX3_signAll 25 = .ok (.istore_n 1, 1) := by decide +kernel
theorem dX3_signAll_26 : decode cX3_signAll 26 = .ok (.iconst 0, 1) := by decide +kernel
theorem dX3_signAll_27 : decode cX3_signAll 27 = .ok (.istore_n 2, 1) := by decide +kernel
theorem dX3_signAll_28 : decode cX3_signAll 28 = .ok (.iload_n 2, 1) := by decide +kernel
theorem dX3_signAll_29 : decode cX3_signAll 29 = .ok (.aload_n 0, 1) := by decide +kernel
theorem dX3_signAll_30 : decode cX3_signAll 30 = .ok (.getfield 33, 3) := by decide +kernel
theorem dX3_signAll_33 : decode cX3_signAll 33 = .ok (.getfield 129, 3) := by decide +kernel
theorem dX3_signAll_36 : decode cX3_signAll 36 = .ok (.if_icmp .ge 57, 3) := by decide +kernel
theorem dX3_signAll_39 : decode cX3_signAll 39 = .ok (.aload_n 0, 1) := by decide +kernel
theorem dX3_signAll_40 : decode cX3_signAll 40 = .ok (.getfield 126, 3) := by decide +kernel
theorem dX3_signAll_43 : decode cX3_signAll 43 = .ok (.ifCond .ne 50, 3) := by decide +kernel
theorem dX3_signAll_46 : decode cX3_signAll 46 = .ok (.aload_n 0, 1) := by decide +kernel
theorem dX3_signAll_47 : decode cX3_signAll 47 = .ok (.iload_n 2, 1) := by decide +kernel
theorem dX3_signAll_48 : decode cX3_signAll 48 = .ok (.invokevirtual 132, 3) := by decide +kernel
theorem dX3_signAll_51 : decode cX3_signAll 51 = .ok (.istore_n 3, 1) := by decide +kernel
theorem dX3_signAll_52 : decode cX3_signAll 52 = .ok (.iload_n 3, 1) := by decide +kernel
theorem dX3_signAll_53 : decode cX3_signAll 53 = .ok (.bipush 10, 2) := by decide +kernel
theorem dX3_signAll_55 : decode cX3_signAll 55 = .ok (.if_icmp .lt 9, 3) := by decide +kernel
theorem dX3_signAll_58 : decode cX3_signAll 58 = .ok (.iinc 1 1, 3) := by decide +kernel
theorem dX3_signAll_61 : decode cX3_signAll 61 = .ok (.goto 26, 3) := by decide +kernel
theorem dX3_signAll_64 : decode cX3_signAll 64 = .ok (.aload_n 0, 1) := by decide +kernel
theorem dX3_signAll_65 : decode cX3_signAll 65 = .ok (.iload_n 3, 1) := by decide +kernel
theorem dX3_signAll_66 : decode cX3_signAll 66 = .ok (.putfield 126, 3) := by decide +kernel
theorem dX3_signAll_69 : decode cX3_signAll 69 = .ok (.aload_n 0, 1) := by decide +kernel
theorem dX3_signAll_70 : decode cX3_signAll 70 = .ok (.iload_n 2, 1) := by decide +kernel
theorem dX3_signAll_71 : decode cX3_signAll 71 = .ok (.putfield 135, 3) := by decide +kernel
theorem dX3_signAll_74 : decode cX3_signAll 74 = .ok (.aload_n 0, 1) := by decide +kernel
theorem dX3_signAll_75 : decode cX3_signAll 75 = .ok (.aload_n 0, 1) := by decide +kernel
theorem dX3_signAll_76 : decode cX3_signAll 76 = .ok (.getfield 33, 3) := by decide +kernel
theorem dX3_signAll_79 : decode cX3_signAll 79 = .ok (.getfield 138, 3) := by decide +kernel
theorem dX3_signAll_82 : decode cX3_signAll 82 = .ok (.iload_n 2, 1) := by decide +kernel
theorem dX3_signAll_83 : decode cX3_signAll 83 = .ok (.iaload, 1) := by decide +kernel
theorem dX3_signAll_84 : decode cX3_signAll 84 = .ok (.putfield 141, 3) := by decide +kernel
theorem dX3_signAll_87 : decode cX3_signAll 87 = .ok (.iinc 2 1, 3) := by decide +kernel
theorem dX3_signAll_90 : decode cX3_signAll 90 = .ok (.goto (-62), 3) := by decide +kernel
theorem dX3_signAll_93 : decode cX3_signAll 93 = .ok (.aload_n 0, 1) := by decide +kernel
theorem dX3_signAll_94 : decode cX3_signAll 94 = .ok (.getfield 33, 3) := by decide +kernel
theorem dX3_signAll_97 : decode cX3_signAll 97 = .ok (.iconst 0, 1) := by decide +kernel
theorem dX3_signAll_98 : decode cX3_signAll 98 = .ok (.putfield 116, 3) := by decide +kernel
theorem dX3_signAll_101 : decode cX3_signAll 101 = .ok (.iload_n 1, 1) := by decide +kernel
theorem dX3_signAll_102 : decode cX3_signAll 102 = .ok (.ireturn, 1) := by decide +kernel
theorem dX3_why_0 : decode cX3_why 0 = .ok (.iload_n 1, 1) := by decide +kernel
theorem dX3_why_1 : decode cX3_why 1 = .ok (.ifCond .lt 8, 3) := by decide +kernel
theorem dX3_why_4 : decode cX3_why 4 = .ok (.iload_n 1, 1) := by decide +kernel
theorem dX3_why_5 : decode cX3_why 5 = .ok (.iconst 2, 1) := by decide +kernel
theorem dX3_why_6 : decode cX3_why 6 = .ok (.if_icmp .le 5, 3) := by decide +kernel
theorem dX3_why_9 : decode cX3_why 9 = .ok (.iconst (-1), 1) := by decide +kernel
theorem dX3_why_10 : decode cX3_why 10 = .ok (.ireturn, 1) := by decide +kernel
theorem dX3_why_11 : decode cX3_why 11 = .ok (.aload_n 0, 1) := by decide +kernel
theorem dX3_why_12 : decode cX3_why 12 = .ok (.getfield 126, 3) := by decide +kernel
theorem dX3_why_15 : decode cX3_why 15 = .ok (.ifCond .ne 6, 3) := by decide +kernel
theorem dX3_why_18 : decode cX3_why 18 = .ok (.bipush (-4), 2) := by decide +kernel
theorem dX3_why_20 : decode cX3_why 20 = .ok (.ireturn, 1) := by decide +kernel
theorem dX3_why_21 : decode cX3_why 21 = .ok (.iload_n 1, 1) := by decide +kernel
theorem dX3_why_22 : decode cX3_why 22 = .ok (.lookupswitch 36 #[(0, 26), (1, 31)], 26) := by decide +kernel
theorem dX3_why_48 : decode cX3_why 48 = .ok (.aload_n 0, 1) := by decide +kernel
theorem dX3_why_49 : decode cX3_why 49 = .ok (.getfield 126, 3) := by decide +kernel
theorem dX3_why_52 : decode cX3_why 52 = .ok (.ireturn, 1) := by decide +kernel
theorem dX3_why_53 : decode cX3_why 53 = .ok (.aload_n 0, 1) := by decide +kernel
theorem dX3_why_54 : decode cX3_why 54 = .ok (.getfield 135, 3) := by decide +kernel
theorem dX3_why_57 : decode cX3_why 57 = .ok (.ireturn, 1) := by decide +kernel
theorem dX3_why_58 : decode cX3_why 58 = .ok (.aload_n 0, 1) := by decide +kernel
theorem dX3_why_59 : decode cX3_why 59 = .ok (.getfield 141, 3) := by decide +kernel
theorem dX3_why_62 : decode cX3_why 62 = .ok (.ireturn, 1) := by decide +kernel
theorem dX3_hedge_0 : decode cX3_hedge 0 = .ok (.iload_n 1, 1) := by decide +kernel
theorem dX3_hedge_1 : decode cX3_hedge 1 = .ok (.invokestatic 37, 3) := by decide +kernel
theorem dX3_hedge_4 : decode cX3_hedge 4 = .ok (.ifCond .ne 5, 3) := by decide +kernel
theorem dX3_hedge_7 : decode cX3_hedge 7 = .ok (.iconst (-1), 1) := by decide +kernel
theorem dX3_hedge_8 : decode cX3_hedge 8 = .ok (.ireturn, 1) := by decide +kernel
theorem dX3_hedge_9 : decode cX3_hedge 9 = .ok (.iload_n 2, 1) := by decide +kernel
theorem dX3_hedge_10 : decode cX3_hedge 10 = .ok (.tableswitch 151 0 7 #[46, 56, 66, 83, 93, 122, 132, 141], 46) := by decide +kernel
theorem dX3_hedge_56 : decode cX3_hedge 56 = .ok (.aload_n 0, 1) := by decide +kernel
theorem dX3_hedge_57 : decode cX3_hedge 57 = .ok (.getfield 10, 3) := by decide +kernel
theorem dX3_hedge_60 : decode cX3_hedge 60 = .ok (.getfield 44, 3) := by decide +kernel
theorem dX3_hedge_63 : decode cX3_hedge 63 = .ok (.iload_n 1, 1) := by decide +kernel
theorem dX3_hedge_64 : decode cX3_hedge 64 = .ok (.iaload, 1) := by decide +kernel
theorem dX3_hedge_65 : decode cX3_hedge 65 = .ok (.ireturn, 1) := by decide +kernel
theorem dX3_hedge_66 : decode cX3_hedge 66 = .ok (.aload_n 0, 1) := by decide +kernel
theorem dX3_hedge_67 : decode cX3_hedge 67 = .ok (.getfield 10, 3) := by decide +kernel
theorem dX3_hedge_70 : decode cX3_hedge 70 = .ok (.getfield 48, 3) := by decide +kernel
theorem dX3_hedge_73 : decode cX3_hedge 73 = .ok (.iload_n 1, 1) := by decide +kernel
theorem dX3_hedge_74 : decode cX3_hedge 74 = .ok (.iaload, 1) := by decide +kernel
theorem dX3_hedge_75 : decode cX3_hedge 75 = .ok (.ireturn, 1) := by decide +kernel
theorem dX3_hedge_76 : decode cX3_hedge 76 = .ok (.aload_n 0, 1) := by decide +kernel
theorem dX3_hedge_77 : decode cX3_hedge 77 = .ok (.getfield 10, 3) := by decide +kernel
theorem dX3_hedge_80 : decode cX3_hedge 80 = .ok (.iload_n 1, 1) := by decide +kernel
theorem dX3_hedge_81 : decode cX3_hedge 81 = .ok (.invokevirtual 58, 3) := by decide +kernel
theorem dX3_hedge_84 : decode cX3_hedge 84 = .ok (.ifCond .eq 7, 3) := by decide +kernel
theorem dX3_hedge_87 : decode cX3_hedge 87 = .ok (.iconst 1, 1) := by decide +kernel
theorem dX3_hedge_88 : decode cX3_hedge 88 = .ok (.goto 4, 3) := by decide +kernel
theorem dX3_hedge_91 : decode cX3_hedge 91 = .ok (.iconst 0, 1) := by decide +kernel
theorem dX3_hedge_92 : decode cX3_hedge 92 = .ok (.ireturn, 1) := by decide +kernel
theorem dX3_hedge_93 : decode cX3_hedge 93 = .ok (.aload_n 0, 1) := by decide +kernel
theorem dX3_hedge_94 : decode cX3_hedge 94 = .ok (.getfield 10, 3) := by decide +kernel
theorem dX3_hedge_97 : decode cX3_hedge 97 = .ok (.getfield 51, 3) := by decide +kernel
theorem dX3_hedge_100 : decode cX3_hedge 100 = .ok (.iload_n 1, 1) := by decide +kernel
theorem dX3_hedge_101 : decode cX3_hedge 101 = .ok (.iaload, 1) := by decide +kernel
theorem dX3_hedge_102 : decode cX3_hedge 102 = .ok (.ireturn, 1) := by decide +kernel
theorem dX3_hedge_103 : decode cX3_hedge 103 = .ok (.aload_n 0, 1) := by decide +kernel
theorem dX3_hedge_104 : decode cX3_hedge 104 = .ok (.getfield 26, 3) := by decide +kernel
theorem dX3_hedge_107 : decode cX3_hedge 107 = .ok (.aload_n 0, 1) := by decide +kernel
theorem dX3_hedge_108 : decode cX3_hedge 108 = .ok (.getfield 10, 3) := by decide +kernel
theorem dX3_hedge_111 : decode cX3_hedge 111 = .ok (.invokevirtual 69, 3) := by decide +kernel
theorem dX3_hedge_114 : decode cX3_hedge 114 = .ok (.ifCond .eq 15, 3) := by decide +kernel
theorem dX3_hedge_117 : decode cX3_hedge 117 = .ok (.aload_n 0, 1) := by decide +kernel
theorem dX3_hedge_118 : decode cX3_hedge 118 = .ok (.getfield 26, 3) := by decide +kernel
theorem dX3_hedge_121 : decode cX3_hedge 121 = .ok (.getfield 77, 3) := by decide +kernel
theorem dX3_hedge_124 : decode cX3_hedge 124 = .ok (.iload_n 1, 1) := by decide +kernel
theorem dX3_hedge_125 : decode cX3_hedge 125 = .ok (.iaload, 1) := by decide +kernel
theorem dX3_hedge_126 : decode cX3_hedge 126 = .ok (.goto 5, 3) := by decide +kernel
theorem dX3_hedge_129 : decode cX3_hedge 129 = .ok (.bipush (-4), 2) := by decide +kernel
theorem dX3_hedge_131 : decode cX3_hedge 131 = .ok (.ireturn, 1) := by decide +kernel
theorem dX3_hedge_132 : decode cX3_hedge 132 = .ok (.aload_n 0, 1) := by decide +kernel
theorem dX3_hedge_133 : decode cX3_hedge 133 = .ok (.getfield 10, 3) := by decide +kernel
theorem dX3_hedge_136 : decode cX3_hedge 136 = .ok (.iload_n 1, 1) := by decide +kernel
theorem dX3_hedge_137 : decode cX3_hedge 137 = .ok (.iconst 0, 1) := by decide +kernel
theorem dX3_hedge_138 : decode cX3_hedge 138 = .ok (.invokevirtual 83, 3) := by decide +kernel
theorem dX3_hedge_141 : decode cX3_hedge 141 = .ok (.ireturn, 1) := by decide +kernel
theorem dX3_hedge_142 : decode cX3_hedge 142 = .ok (.aload_n 0, 1) := by decide +kernel
theorem dX3_hedge_143 : decode cX3_hedge 143 = .ok (.getfield 10, 3) := by decide +kernel
theorem dX3_hedge_146 : decode cX3_hedge 146 = .ok (.iload_n 1, 1) := by decide +kernel
theorem dX3_hedge_147 : decode cX3_hedge 147 = .ok (.invokevirtual 144, 3) := by decide +kernel
theorem dX3_hedge_150 : decode cX3_hedge 150 = .ok (.ireturn, 1) := by decide +kernel
theorem dX3_hedge_151 : decode cX3_hedge 151 = .ok (.aload_n 0, 1) := by decide +kernel
theorem dX3_hedge_152 : decode cX3_hedge 152 = .ok (.getfield 10, 3) := by decide +kernel
theorem dX3_hedge_155 : decode cX3_hedge 155 = .ok (.getfield 147, 3) := by decide +kernel
theorem dX3_hedge_158 : decode cX3_hedge 158 = .ok (.iload_n 1, 1) := by decide +kernel
theorem dX3_hedge_159 : decode cX3_hedge 159 = .ok (.iaload, 1) := by decide +kernel
theorem dX3_hedge_160 : decode cX3_hedge 160 = .ok (.ireturn, 1) := by decide +kernel
theorem dX3_hedge_161 : decode cX3_hedge 161 = .ok (.iconst (-1), 1) := by decide +kernel
theorem dX3_hedge_162 : decode cX3_hedge 162 = .ok (.ireturn, 1) := by decide +kernel
theorem dX3_treaty_0 : decode cX3_treaty 0 = .ok (.aload_n 0, 1) := by decide +kernel
theorem dX3_treaty_1 : decode cX3_treaty 1 = .ok (.iload_n 1, 1) := by decide +kernel
theorem dX3_treaty_2 : decode cX3_treaty 2 = .ok (.invokevirtual 94, 3) := by decide +kernel
theorem dX3_treaty_5 : decode cX3_treaty 5 = .ok (.ifCond .ne 5, 3) := by decide +kernel
theorem dX3_treaty_8 : decode cX3_treaty 8 = .ok (.iconst (-1), 1) := by decide +kernel
theorem dX3_treaty_9 : decode cX3_treaty 9 = .ok (.ireturn, 1) := by decide +kernel
theorem dX3_treaty_10 : decode cX3_treaty 10 = .ok (.iload_n 2, 1) := by decide +kernel
theorem dX3_treaty_11 : decode cX3_treaty 11 = .ok (.tableswitch 150 0 7 #[45, 55, 65, 78, 95, 112, 126, 136], 45) := by decide +kernel
theorem dX3_treaty_56 : decode cX3_treaty 56 = .ok (.aload_n 0, 1) := by decide +kernel
theorem dX3_treaty_57 : decode cX3_treaty 57 = .ok (.getfield 10, 3) := by decide +kernel
theorem dX3_treaty_60 : decode cX3_treaty 60 = .ok (.getfield 150, 3) := by decide +kernel
theorem dX3_treaty_63 : decode cX3_treaty 63 = .ok (.iload_n 1, 1) := by decide +kernel
theorem dX3_treaty_64 : decode cX3_treaty 64 = .ok (.iaload, 1) := by decide +kernel
theorem dX3_treaty_65 : decode cX3_treaty 65 = .ok (.ireturn, 1) := by decide +kernel
theorem dX3_treaty_66 : decode cX3_treaty 66 = .ok (.aload_n 0, 1) := by decide +kernel
theorem dX3_treaty_67 : decode cX3_treaty 67 = .ok (.getfield 10, 3) := by decide +kernel
theorem dX3_treaty_70 : decode cX3_treaty 70 = .ok (.getfield 153, 3) := by decide +kernel
theorem dX3_treaty_73 : decode cX3_treaty 73 = .ok (.iload_n 1, 1) := by decide +kernel
theorem dX3_treaty_74 : decode cX3_treaty 74 = .ok (.iaload, 1) := by decide +kernel
theorem dX3_treaty_75 : decode cX3_treaty 75 = .ok (.ireturn, 1) := by decide +kernel
theorem dX3_treaty_76 : decode cX3_treaty 76 = .ok (.aload_n 0, 1) := by decide +kernel
theorem dX3_treaty_77 : decode cX3_treaty 77 = .ok (.getfield 10, 3) := by decide +kernel
theorem dX3_treaty_80 : decode cX3_treaty 80 = .ok (.getfield 156, 3) := by decide +kernel
theorem dX3_treaty_83 : decode cX3_treaty 83 = .ok (.iload_n 1, 1) := by decide +kernel
theorem dX3_treaty_84 : decode cX3_treaty 84 = .ok (.iaload, 1) := by decide +kernel
theorem dX3_treaty_85 : decode cX3_treaty 85 = .ok (.bipush 100, 2) := by decide +kernel
theorem dX3_treaty_87 : decode cX3_treaty 87 = .ok (.iadd, 1) := by decide +kernel
theorem dX3_treaty_88 : decode cX3_treaty 88 = .ok (.ireturn, 1) := by decide +kernel
theorem dX3_treaty_89 : decode cX3_treaty 89 = .ok (.aload_n 0, 1) := by decide +kernel
theorem dX3_treaty_90 : decode cX3_treaty 90 = .ok (.getfield 10, 3) := by decide +kernel
theorem dX3_treaty_93 : decode cX3_treaty 93 = .ok (.iload_n 1, 1) := by decide +kernel
theorem dX3_treaty_94 : decode cX3_treaty 94 = .ok (.invokevirtual 113, 3) := by decide +kernel
theorem dX3_treaty_97 : decode cX3_treaty 97 = .ok (.ifCond .eq 7, 3) := by decide +kernel
theorem dX3_treaty_100 : decode cX3_treaty 100 = .ok (.iconst 1, 1) := by decide +kernel
theorem dX3_treaty_101 : decode cX3_treaty 101 = .ok (.goto 4, 3) := by decide +kernel
theorem dX3_treaty_104 : decode cX3_treaty 104 = .ok (.iconst 0, 1) := by decide +kernel
theorem dX3_treaty_105 : decode cX3_treaty 105 = .ok (.ireturn, 1) := by decide +kernel
theorem dX3_treaty_106 : decode cX3_treaty 106 = .ok (.aload_n 0, 1) := by decide +kernel
theorem dX3_treaty_107 : decode cX3_treaty 107 = .ok (.getfield 10, 3) := by decide +kernel
theorem dX3_treaty_110 : decode cX3_treaty 110 = .ok (.iload_n 1, 1) := by decide +kernel
theorem dX3_treaty_111 : decode cX3_treaty 111 = .ok (.invokevirtual 104, 3) := by decide +kernel
theorem dX3_treaty_114 : decode cX3_treaty 114 = .ok (.ifCond .eq 7, 3) := by decide +kernel
theorem dX3_treaty_117 : decode cX3_treaty 117 = .ok (.iconst 1, 1) := by decide +kernel
theorem dX3_treaty_118 : decode cX3_treaty 118 = .ok (.goto 4, 3) := by decide +kernel
theorem dX3_treaty_121 : decode cX3_treaty 121 = .ok (.iconst 0, 1) := by decide +kernel
theorem dX3_treaty_122 : decode cX3_treaty 122 = .ok (.ireturn, 1) := by decide +kernel
theorem dX3_treaty_123 : decode cX3_treaty 123 = .ok (.aload_n 0, 1) := by decide +kernel
theorem dX3_treaty_124 : decode cX3_treaty 124 = .ok (.getfield 10, 3) := by decide +kernel
theorem dX3_treaty_127 : decode cX3_treaty 127 = .ok (.iload_n 1, 1) := by decide +kernel
theorem dX3_treaty_128 : decode cX3_treaty 128 = .ok (.iconst 0, 1) := by decide +kernel
theorem dX3_treaty_129 : decode cX3_treaty 129 = .ok (.invokevirtual 159, 3) := by decide +kernel
theorem dX3_treaty_132 : decode cX3_treaty 132 = .ok (.sipush 1000, 3) := by decide +kernel
theorem dX3_treaty_135 : decode cX3_treaty 135 = .ok (.iadd, 1) := by decide +kernel
theorem dX3_treaty_136 : decode cX3_treaty 136 = .ok (.ireturn, 1) := by decide +kernel
theorem dX3_treaty_137 : decode cX3_treaty 137 = .ok (.aload_n 0, 1) := by decide +kernel
theorem dX3_treaty_138 : decode cX3_treaty 138 = .ok (.getfield 10, 3) := by decide +kernel
theorem dX3_treaty_141 : decode cX3_treaty 141 = .ok (.getfield 110, 3) := by decide +kernel
theorem dX3_treaty_144 : decode cX3_treaty 144 = .ok (.iload_n 1, 1) := by decide +kernel
theorem dX3_treaty_145 : decode cX3_treaty 145 = .ok (.iaload, 1) := by decide +kernel
theorem dX3_treaty_146 : decode cX3_treaty 146 = .ok (.ireturn, 1) := by decide +kernel
theorem dX3_treaty_147 : decode cX3_treaty 147 = .ok (.aload_n 0, 1) := by decide +kernel
theorem dX3_treaty_148 : decode cX3_treaty 148 = .ok (.iload_n 1, 1) := by decide +kernel
theorem dX3_treaty_149 : decode cX3_treaty 149 = .ok (.invokevirtual 162, 3) := by decide +kernel
theorem dX3_treaty_152 : decode cX3_treaty 152 = .ok (.ifCond .eq 7, 3) := by decide +kernel
theorem dX3_treaty_155 : decode cX3_treaty 155 = .ok (.iconst 1, 1) := by decide +kernel
theorem dX3_treaty_156 : decode cX3_treaty 156 = .ok (.goto 4, 3) := by decide +kernel
theorem dX3_treaty_159 : decode cX3_treaty 159 = .ok (.iconst 0, 1) := by decide +kernel
theorem dX3_treaty_160 : decode cX3_treaty 160 = .ok (.ireturn, 1) := by decide +kernel
theorem dX3_treaty_161 : decode cX3_treaty 161 = .ok (.iconst (-1), 1) := by decide +kernel
theorem dX3_treaty_162 : decode cX3_treaty 162 = .ok (.ireturn, 1) := by decide +kernel
theorem dX3_bound_0 : decode cX3_bound 0 = .ok (.iload_n 1, 1) := by decide +kernel
theorem dX3_bound_1 : decode cX3_bound 1 = .ok (.invokestatic 37, 3) := by decide +kernel
theorem dX3_bound_4 : decode cX3_bound 4 = .ok (.ifCond .eq 19, 3) := by decide +kernel
theorem dX3_bound_7 : decode cX3_bound 7 = .ok (.iload_n 2, 1) := by decide +kernel
theorem dX3_bound_8 : decode cX3_bound 8 = .ok (.invokestatic 37, 3) := by decide +kernel
theorem dX3_bound_11 : decode cX3_bound 11 = .ok (.ifCond .eq 12, 3) := by decide +kernel
theorem dX3_bound_14 : decode cX3_bound 14 = .ok (.iload_n 3, 1) := by decide +kernel
theorem dX3_bound_15 : decode cX3_bound 15 = .ok (.ifCond .lt 8, 3) := by decide +kernel
theorem dX3_bound_18 : decode cX3_bound 18 = .ok (.iload_n 3, 1) := by decide +kernel
theorem dX3_bound_19 : decode cX3_bound 19 = .ok (.iconst 1, 1) := by decide +kernel
theorem dX3_bound_20 : decode cX3_bound 20 = .ok (.if_icmp .le 5, 3) := by decide +kernel
theorem dX3_bound_23 : decode cX3_bound 23 = .ok (.iconst (-1), 1) := by decide +kernel
theorem dX3_bound_24 : decode cX3_bound 24 = .ok (.ireturn, 1) := by decide +kernel
theorem dX3_bound_25 : decode cX3_bound 25 = .ok (.iload_n 3, 1) := by decide +kernel
theorem dX3_bound_26 : decode cX3_bound 26 = .ok (.ifCond .ne 20, 3) := by decide +kernel
theorem dX3_bound_29 : decode cX3_bound 29 = .ok (.aload_n 0, 1) := by decide +kernel
theorem dX3_bound_30 : decode cX3_bound 30 = .ok (.getfield 26, 3) := by decide +kernel
theorem dX3_bound_33 : decode cX3_bound 33 = .ok (.aload_n 0, 1) := by decide +kernel
theorem dX3_bound_34 : decode cX3_bound 34 = .ok (.getfield 10, 3) := by decide +kernel
theorem dX3_bound_37 : decode cX3_bound 37 = .ok (.iload_n 1, 1) := by decide +kernel
theorem dX3_bound_38 : decode cX3_bound 38 = .ok (.iload_n 2, 1) := by decide +kernel
theorem dX3_bound_39 : decode cX3_bound 39 = .ok (.iconst (-1), 1) := by decide +kernel
theorem dX3_bound_40 : decode cX3_bound 40 = .ok (.invokevirtual 165, 3) := by decide +kernel
theorem dX3_bound_43 : decode cX3_bound 43 = .ok (.goto 16, 3) := by decide +kernel
theorem dX3_bound_46 : decode cX3_bound 46 = .ok (.aload_n 0, 1) := by decide +kernel
theorem dX3_bound_47 : decode cX3_bound 47 = .ok (.getfield 26, 3) := by decide +kernel
theorem dX3_bound_50 : decode cX3_bound 50 = .ok (.aload_n 0, 1) := by decide +kernel
theorem dX3_bound_51 : decode cX3_bound 51 = .ok (.getfield 10, 3) := by decide +kernel
theorem dX3_bound_54 : decode cX3_bound 54 = .ok (.iload_n 1, 1) := by decide +kernel
theorem dX3_bound_55 : decode cX3_bound 55 = .ok (.iload_n 2, 1) := by decide +kernel
theorem dX3_bound_56 : decode cX3_bound 56 = .ok (.invokevirtual 169, 3) := by decide +kernel
theorem dX3_bound_59 : decode cX3_bound 59 = .ok (.istore 4, 2) := by decide +kernel
theorem dX3_bound_61 : decode cX3_bound 61 = .ok (.iload 4, 2) := by decide +kernel
theorem dX3_bound_63 : decode cX3_bound 63 = .ok (.ldc 173, 2) := by decide +kernel
theorem dX3_bound_65 : decode cX3_bound 65 = .ok (.if_icmp .ne 8, 3) := by decide +kernel
theorem dX3_bound_68 : decode cX3_bound 68 = .ok (.bipush (-4), 2) := by decide +kernel
theorem dX3_bound_70 : decode cX3_bound 70 = .ok (.goto 9, 3) := by decide +kernel
theorem dX3_bound_73 : decode cX3_bound 73 = .ok (.iload 4, 2) := by decide +kernel
theorem dX3_bound_75 : decode cX3_bound 75 = .ok (.sipush 1000, 3) := by decide +kernel
theorem dX3_bound_78 : decode cX3_bound 78 = .ok (.iadd, 1) := by decide +kernel
theorem dX3_bound_79 : decode cX3_bound 79 = .ok (.ireturn, 1) := by decide +kernel
theorem dX3_whyNot_0 : decode cX3_whyNot 0 = .ok (.iload_n 1, 1) := by decide +kernel
theorem dX3_whyNot_1 : decode cX3_whyNot 1 = .ok (.iload_n 2, 1) := by decide +kernel
theorem dX3_whyNot_2 : decode cX3_whyNot 2 = .ok (.iload_n 3, 1) := by decide +kernel
theorem dX3_whyNot_3 : decode cX3_whyNot 3 = .ok (.invokestatic 174, 3) := by decide +kernel
theorem dX3_whyNot_6 : decode cX3_whyNot 6 = .ok (.ifCond .eq 13, 3) := by decide +kernel
theorem dX3_whyNot_9 : decode cX3_whyNot 9 = .ok (.aload_n 0, 1) := by decide +kernel
theorem dX3_whyNot_10 : decode cX3_whyNot 10 = .ok (.iload_n 1, 1) := by decide +kernel
theorem dX3_whyNot_11 : decode cX3_whyNot 11 = .ok (.iload_n 2, 1) := by decide +kernel
theorem dX3_whyNot_12 : decode cX3_whyNot 12 = .ok (.iload_n 3, 1) := by decide +kernel
theorem dX3_whyNot_13 : decode cX3_whyNot 13 = .ok (.invokevirtual 178, 3) := by decide +kernel
theorem dX3_whyNot_16 : decode cX3_whyNot 16 = .ok (.goto 4, 3) := by decide +kernel
theorem dX3_whyNot_19 : decode cX3_whyNot 19 = .ok (.iconst (-1), 1) := by decide +kernel
theorem dX3_whyNot_20 : decode cX3_whyNot 20 = .ok (.ireturn, 1) := by decide +kernel
theorem dX3_clipping_0 : decode cX3_clipping 0 = .ok (.iload_n 1, 1) := by decide +kernel
theorem dX3_clipping_1 : decode cX3_clipping 1 = .ok (.ifCond .lt 8, 3) := by decide +kernel
theorem dX3_clipping_4 : decode cX3_clipping 4 = .ok (.iload_n 1, 1) := by decide +kernel
theorem dX3_clipping_5 : decode cX3_clipping 5 = .ok (.iconst 1, 1) := by decide +kernel
theorem dX3_clipping_6 : decode cX3_clipping 6 = .ok (.if_icmp .le 5, 3) := by decide +kernel
theorem dX3_clipping_9 : decode cX3_clipping 9 = .ok (.iconst (-1), 1) := by decide +kernel
theorem dX3_clipping_10 : decode cX3_clipping 10 = .ok (.ireturn, 1) := by decide +kernel
theorem dX3_clipping_11 : decode cX3_clipping 11 = .ok (.iload_n 1, 1) := by decide +kernel
theorem dX3_clipping_12 : decode cX3_clipping 12 = .ok (.ifCond .ne 17, 3) := by decide +kernel
theorem dX3_clipping_15 : decode cX3_clipping 15 = .ok (.aload_n 0, 1) := by decide +kernel
theorem dX3_clipping_16 : decode cX3_clipping 16 = .ok (.getfield 26, 3) := by decide +kernel
theorem dX3_clipping_19 : decode cX3_clipping 19 = .ok (.aload_n 0, 1) := by decide +kernel
theorem dX3_clipping_20 : decode cX3_clipping 20 = .ok (.getfield 10, 3) := by decide +kernel
theorem dX3_clipping_23 : decode cX3_clipping 23 = .ok (.invokevirtual 69, 3) := by decide +kernel
theorem dX3_clipping_26 : decode cX3_clipping 26 = .ok (.goto 14, 3) := by decide +kernel
theorem dX3_clipping_29 : decode cX3_clipping 29 = .ok (.aload_n 0, 1) := by decide +kernel
theorem dX3_clipping_30 : decode cX3_clipping 30 = .ok (.getfield 26, 3) := by decide +kernel
theorem dX3_clipping_33 : decode cX3_clipping 33 = .ok (.aload_n 0, 1) := by decide +kernel
theorem dX3_clipping_34 : decode cX3_clipping 34 = .ok (.getfield 10, 3) := by decide +kernel
theorem dX3_clipping_37 : decode cX3_clipping 37 = .ok (.invokevirtual 181, 3) := by decide +kernel
theorem dX3_clipping_40 : decode cX3_clipping 40 = .ok (.istore_n 2, 1) := by decide +kernel
theorem dX3_clipping_41 : decode cX3_clipping 41 = .ok (.iload_n 2, 1) := by decide +kernel
theorem dX3_clipping_42 : decode cX3_clipping 42 = .ok (.ifCond .eq 27, 3) := by decide +kernel
theorem dX3_clipping_45 : decode cX3_clipping 45 = .ok (.aload_n 0, 1) := by decide +kernel
theorem dX3_clipping_46 : decode cX3_clipping 46 = .ok (.getfield 10, 3) := by decide +kernel
theorem dX3_clipping_49 : decode cX3_clipping 49 = .ok (.getfield 44, 3) := by decide +kernel
theorem dX3_clipping_52 : decode cX3_clipping 52 = .ok (.invokestatic 184, 3) := by decide +kernel
theorem dX3_clipping_55 : decode cX3_clipping 55 = .ok (.aload_n 0, 1) := by decide +kernel
theorem dX3_clipping_56 : decode cX3_clipping 56 = .ok (.getfield 26, 3) := by decide +kernel
theorem dX3_clipping_59 : decode cX3_clipping 59 = .ok (.getfield 77, 3) := by decide +kernel
theorem dX3_clipping_62 : decode cX3_clipping 62 = .ok (.invokestatic 184, 3) := by decide +kernel
theorem dX3_clipping_65 : decode cX3_clipping 65 = .ok (.isub, 1) := by decide +kernel
theorem dX3_clipping_66 : decode cX3_clipping 66 = .ok (.goto 5, 3) := by decide +kernel
theorem dX3_clipping_69 : decode cX3_clipping 69 = .ok (.bipush (-4), 2) := by decide +kernel
theorem dX3_clipping_71 : decode cX3_clipping 71 = .ok (.ireturn, 1) := by decide +kernel
theorem dX3_count_0 : decode cX3_count 0 = .ok (.iload_n 1, 1) := by decide +kernel
theorem dX3_count_1 : decode cX3_count 1 = .ok (.tableswitch 177 0 12 #[67, 75, 83, 92, 102, 113, 121, 129, 137, 145, 153, 164, 172], 67) := by decide +kernel
theorem dX3_count_68 : decode cX3_count 68 = .ok (.aload_n 0, 1) := by decide +kernel
theorem dX3_count_69 : decode cX3_count 69 = .ok (.getfield 10, 3) := by decide +kernel
theorem dX3_count_72 : decode cX3_count 72 = .ok (.getfield 54, 3) := by decide +kernel
theorem dX3_count_75 : decode cX3_count 75 = .ok (.ireturn, 1) := by decide +kernel
theorem dX3_count_76 : decode cX3_count 76 = .ok (.aload_n 0, 1) := by decide +kernel
theorem dX3_count_77 : decode cX3_count 77 = .ok (.getfield 10, 3) := by decide +kernel
theorem dX3_count_80 : decode cX3_count 80 = .ok (.getfield 101, 3) := by decide +kernel
theorem dX3_count_83 : decode cX3_count 83 = .ok (.ireturn, 1) := by decide +kernel
theorem dX3_count_84 : decode cX3_count 84 = .ok (.aload_n 0, 1) := by decide +kernel
theorem dX3_count_85 : decode cX3_count 85 = .ok (.getfield 10, 3) := by decide +kernel
theorem dX3_count_88 : decode cX3_count 88 = .ok (.iconst (-1), 1) := by decide +kernel
theorem dX3_count_89 : decode cX3_count 89 = .ok (.invokevirtual 144, 3) := by decide +kernel
theorem dX3_count_92 : decode cX3_count 92 = .ok (.ireturn, 1) := by decide +kernel
theorem dX3_count_93 : decode cX3_count 93 = .ok (.aload_n 0, 1) := by decide +kernel
theorem dX3_count_94 : decode cX3_count 94 = .ok (.getfield 10, 3) := by decide +kernel
theorem dX3_count_97 : decode cX3_count 97 = .ok (.iconst (-1), 1) := by decide +kernel
theorem dX3_count_98 : decode cX3_count 98 = .ok (.iconst 0, 1) := by decide +kernel
theorem dX3_count_99 : decode cX3_count 99 = .ok (.invokevirtual 83, 3) := by decide +kernel
theorem dX3_count_102 : decode cX3_count 102 = .ok (.ireturn, 1) := by decide +kernel
theorem dX3_count_103 : decode cX3_count 103 = .ok (.aload_n 0, 1) := by decide +kernel
theorem dX3_count_104 : decode cX3_count 104 = .ok (.getfield 10, 3) := by decide +kernel
theorem dX3_count_107 : decode cX3_count 107 = .ok (.getfield 44, 3) := by decide +kernel
theorem dX3_count_110 : decode cX3_count 110 = .ok (.invokestatic 184, 3) := by decide +kernel
theorem dX3_count_113 : decode cX3_count 113 = .ok (.ireturn, 1) := by decide +kernel
theorem dX3_count_114 : decode cX3_count 114 = .ok (.aload_n 0, 1) := by decide +kernel
theorem dX3_count_115 : decode cX3_count 115 = .ok (.getfield 10, 3) := by decide +kernel
theorem dX3_count_118 : decode cX3_count 118 = .ok (.invokevirtual 188, 3) := by decide +kernel
theorem dX3_count_121 : decode cX3_count 121 = .ok (.ireturn, 1) := by decide +kernel
theorem dX3_count_122 : decode cX3_count 122 = .ok (.aload_n 0, 1) := by decide +kernel
theorem dX3_count_123 : decode cX3_count 123 = .ok (.getfield 10, 3) := by decide +kernel
theorem dX3_count_126 : decode cX3_count 126 = .ok (.getfield 107, 3) := by decide +kernel
theorem dX3_count_129 : decode cX3_count 129 = .ok (.ireturn, 1) := by decide +kernel
theorem dX3_count_130 : decode cX3_count 130 = .ok (.aload_n 0, 1) := by decide +kernel
theorem dX3_count_131 : decode cX3_count 131 = .ok (.getfield 10, 3) := by decide +kernel
theorem dX3_count_134 : decode cX3_count 134 = .ok (.getfield 191, 3) := by decide +kernel
theorem dX3_count_137 : decode cX3_count 137 = .ok (.ireturn, 1) := by decide +kernel
theorem dX3_count_138 : decode cX3_count 138 = .ok (.aload_n 0, 1) := by decide +kernel
theorem dX3_count_139 : decode cX3_count 139 = .ok (.getfield 10, 3) := by decide +kernel
theorem dX3_count_142 : decode cX3_count 142 = .ok (.getfield 194, 3) := by decide +kernel
theorem dX3_count_145 : decode cX3_count 145 = .ok (.ireturn, 1) := by decide +kernel
theorem dX3_count_146 : decode cX3_count 146 = .ok (.aload_n 0, 1) := by decide +kernel
theorem dX3_count_147 : decode cX3_count 147 = .ok (.getfield 10, 3) := by decide +kernel
theorem dX3_count_150 : decode cX3_count 150 = .ok (.getfield 197, 3) := by decide +kernel
theorem dX3_count_153 : decode cX3_count 153 = .ok (.ireturn, 1) := by decide +kernel
theorem dX3_count_154 : decode cX3_count 154 = .ok (.aload_n 0, 1) := by decide +kernel
theorem dX3_count_155 : decode cX3_count 155 = .ok (.getfield 10, 3) := by decide +kernel
theorem dX3_count_158 : decode cX3_count 158 = .ok (.getfield 147, 3) := by decide +kernel
theorem dX3_count_161 : decode cX3_count 161 = .ok (.invokestatic 184, 3) := by decide +kernel
theorem dX3_count_164 : decode cX3_count 164 = .ok (.ireturn, 1) := by decide +kernel
theorem dX3_count_165 : decode cX3_count 165 = .ok (.aload_n 0, 1) := by decide +kernel
theorem dX3_count_166 : decode cX3_count 166 = .ok (.getfield 33, 3) := by decide +kernel
theorem dX3_count_169 : decode cX3_count 169 = .ok (.getfield 116, 3) := by decide +kernel
theorem dX3_count_172 : decode cX3_count 172 = .ok (.ireturn, 1) := by decide +kernel
theorem dX3_count_173 : decode cX3_count 173 = .ok (.aload_n 0, 1) := by decide +kernel
theorem dX3_count_174 : decode cX3_count 174 = .ok (.getfield 200, 3) := by decide +kernel
theorem dX3_count_177 : decode cX3_count 177 = .ok (.ireturn, 1) := by decide +kernel
theorem dX3_count_178 : decode cX3_count 178 = .ok (.iconst (-1), 1) := by decide +kernel
theorem dX3_count_179 : decode cX3_count 179 = .ok (.ireturn, 1) := by decide +kernel
theorem dX3_peace_0 : decode cX3_peace 0 = .ok (.aload_n 0, 1) := by decide +kernel
theorem dX3_peace_1 : decode cX3_peace 1 = .ok (.getfield 10, 3) := by decide +kernel
theorem dX3_peace_4 : decode cX3_peace 4 = .ok (.iconst (-1), 1) := by decide +kernel
theorem dX3_peace_5 : decode cX3_peace 5 = .ok (.invokevirtual 144, 3) := by decide +kernel
theorem dX3_peace_8 : decode cX3_peace 8 = .ok (.istore_n 1, 1) := by decide +kernel
theorem dX3_peace_9 : decode cX3_peace 9 = .ok (.iload_n 1, 1) := by decide +kernel
theorem dX3_peace_10 : decode cX3_peace 10 = .ok (.ifCond .gt 5, 3) := by decide +kernel
theorem dX3_peace_13 : decode cX3_peace 13 = .ok (.dconst 1, 1) := by decide +kernel
theorem dX3_peace_14 : decode cX3_peace 14 = .ok (.dreturn, 1) := by decide +kernel
theorem dX3_peace_15 : decode cX3_peace 15 = .ok (.iload_n 1, 1) := by decide +kernel
theorem dX3_peace_16 : decode cX3_peace 16 = .ok (.aload_n 0, 1) := by decide +kernel
theorem dX3_peace_17 : decode cX3_peace 17 = .ok (.getfield 10, 3) := by decide +kernel
theorem dX3_peace_20 : decode cX3_peace 20 = .ok (.iconst (-1), 1) := by decide +kernel
theorem dX3_peace_21 : decode cX3_peace 21 = .ok (.iconst 0, 1) := by decide +kernel
theorem dX3_peace_22 : decode cX3_peace 22 = .ok (.invokevirtual 83, 3) := by decide +kernel
theorem dX3_peace_25 : decode cX3_peace 25 = .ok (.isub, 1) := by decide +kernel
theorem dX3_peace_26 : decode cX3_peace 26 = .ok (.i2d, 1) := by decide +kernel
theorem dX3_peace_27 : decode cX3_peace 27 = .ok (.iload_n 1, 1) := by decide +kernel
theorem dX3_peace_28 : decode cX3_peace 28 = .ok (.i2d, 1) := by decide +kernel
theorem dX3_peace_29 : decode cX3_peace 29 = .ok (.ddiv, 1) := by decide +kernel
theorem dX3_peace_30 : decode cX3_peace 30 = .ok (.dreturn, 1) := by decide +kernel
theorem dX3_ifDays_0 : decode cX3_ifDays 0 = .ok (.iload_n 1, 1) := by decide +kernel
theorem dX3_ifDays_1 : decode cX3_ifDays 1 = .ok (.iconst 1, 1) := by decide +kernel
theorem dX3_ifDays_2 : decode cX3_ifDays 2 = .ok (.if_icmp .lt 9, 3) := by decide +kernel
theorem dX3_ifDays_5 : decode cX3_ifDays 5 = .ok (.iload_n 1, 1) := by decide +kernel
theorem dX3_ifDays_6 : decode cX3_ifDays 6 = .ok (.bipush 30, 2) := by decide +kernel
theorem dX3_ifDays_8 : decode cX3_ifDays 8 = .ok (.if_icmp .le 5, 3) := by decide +kernel
theorem dX3_ifDays_11 : decode cX3_ifDays 11 = .ok (.iconst (-1), 1) := by decide +kernel
theorem dX3_ifDays_12 : decode cX3_ifDays 12 = .ok (.ireturn, 1) := by decide +kernel
theorem dX3_ifDays_13 : decode cX3_ifDays 13 = .ok (.iload_n 2, 1) := by decide +kernel
theorem dX3_ifDays_14 : decode cX3_ifDays 14 = .ok (.lookupswitch 45 #[(0, 26), (1, 36)], 26) := by decide +kernel
theorem dX3_ifDays_40 : decode cX3_ifDays 40 = .ok (.aload_n 0, 1) := by decide +kernel
theorem dX3_ifDays_41 : decode cX3_ifDays 41 = .ok (.getfield 10, 3) := by decide +kernel
theorem dX3_ifDays_44 : decode cX3_ifDays 44 = .ok (.iconst (-1), 1) := by decide +kernel
theorem dX3_ifDays_45 : decode cX3_ifDays 45 = .ok (.iload_n 1, 1) := by decide +kernel
theorem dX3_ifDays_46 : decode cX3_ifDays 46 = .ok (.invokevirtual 83, 3) := by decide +kernel
theorem dX3_ifDays_49 : decode cX3_ifDays 49 = .ok (.ireturn, 1) := by decide +kernel
theorem dX3_ifDays_50 : decode cX3_ifDays 50 = .ok (.aload_n 0, 1) := by decide +kernel
theorem dX3_ifDays_51 : decode cX3_ifDays 51 = .ok (.getfield 10, 3) := by decide +kernel
theorem dX3_ifDays_54 : decode cX3_ifDays 54 = .ok (.iload_n 1, 1) := by decide +kernel
theorem dX3_ifDays_55 : decode cX3_ifDays 55 = .ok (.invokevirtual 203, 3) := by decide +kernel
theorem dX3_ifDays_58 : decode cX3_ifDays 58 = .ok (.ireturn, 1) := by decide +kernel
theorem dX3_ifDays_59 : decode cX3_ifDays 59 = .ok (.iconst (-1), 1) := by decide +kernel
theorem dX3_ifDays_60 : decode cX3_ifDays 60 = .ok (.ireturn, 1) := by decide +kernel
theorem dX3_breaksIn_0 : decode cX3_breaksIn 0 = .ok (.iconst 0, 1) := by decide +kernel
theorem dX3_breaksIn_1 : decode cX3_breaksIn 1 = .ok (.istore_n 1, 1) := by decide +kernel
theorem dX3_breaksIn_2 : decode cX3_breaksIn 2 = .ok (.iload_n 1, 1) := by decide +kernel
theorem dX3_breaksIn_3 : decode cX3_breaksIn 3 = .ok (.bipush 60, 2) := by decide +kernel
theorem dX3_breaksIn_5 : decode cX3_breaksIn 5 = .ok (.if_icmp .gt 23, 3) := by decide +kernel
theorem dX3_breaksIn_8 : decode cX3_breaksIn 8 = .ok (.aload_n 0, 1) := by decide +kernel
theorem dX3_breaksIn_9 : decode cX3_breaksIn 9 = .ok (.getfield 10, 3) := by decide +kernel
theorem dX3_breaksIn_12 : decode cX3_breaksIn 12 = .ok (.iconst (-1), 1) := by decide +kernel
theorem dX3_breaksIn_13 : decode cX3_breaksIn 13 = .ok (.iload_n 1, 1) := by decide +kernel
theorem dX3_breaksIn_14 : decode cX3_breaksIn 14 = .ok (.invokevirtual 83, 3) := by decide +kernel
theorem dX3_breaksIn_17 : decode cX3_breaksIn 17 = .ok (.ifCond .le 5, 3) := by decide +kernel
theorem dX3_breaksIn_20 : decode cX3_breaksIn 20 = .ok (.iload_n 1, 1) := by decide +kernel
theorem dX3_breaksIn_21 : decode cX3_breaksIn 21 = .ok (.ireturn, 1) := by decide +kernel
theorem dX3_breaksIn_22 : decode cX3_breaksIn 22 = .ok (.iinc 1 1, 3) := by decide +kernel
theorem dX3_breaksIn_25 : decode cX3_breaksIn 25 = .ok (.goto (-23), 3) := by decide +kernel
theorem dX3_breaksIn_28 : decode cX3_breaksIn 28 = .ok (.bipush (-4), 2) := by decide +kernel
theorem dX3_breaksIn_30 : decode cX3_breaksIn 30 = .ok (.ireturn, 1) := by decide +kernel
theorem dX3_tightest_0 : decode cX3_tightest 0 = .ok (.iload_n 1, 1) := by decide +kernel
theorem dX3_tightest_1 : decode cX3_tightest 1 = .ok (.iload_n 2, 1) := by decide +kernel
theorem dX3_tightest_2 : decode cX3_tightest 2 = .ok (.bipush 60, 2) := by decide +kernel
theorem dX3_tightest_4 : decode cX3_tightest 4 = .ok (.invokestatic 174, 3) := by decide +kernel
theorem dX3_tightest_7 : decode cX3_tightest 7 = .ok (.ifCond .ne 5, 3) := by decide +kernel
theorem dX3_tightest_10 : decode cX3_tightest 10 = .ok (.iconst (-1), 1) := by decide +kernel
theorem dX3_tightest_11 : decode cX3_tightest 11 = .ok (.ireturn, 1) := by decide +kernel
theorem dX3_tightest_12 : decode cX3_tightest 12 = .ok (.aload_n 0, 1) := by decide +kernel
theorem dX3_tightest_13 : decode cX3_tightest 13 = .ok (.getfield 26, 3) := by decide +kernel
theorem dX3_tightest_16 : decode cX3_tightest 16 = .ok (.aload_n 0, 1) := by decide +kernel
theorem dX3_tightest_17 : decode cX3_tightest 17 = .ok (.getfield 10, 3) := by decide +kernel
theorem dX3_tightest_20 : decode cX3_tightest 20 = .ok (.iload_n 1, 1) := by decide +kernel
theorem dX3_tightest_21 : decode cX3_tightest 21 = .ok (.iload_n 2, 1) := by decide +kernel
theorem dX3_tightest_22 : decode cX3_tightest 22 = .ok (.bipush 60, 2) := by decide +kernel
theorem dX3_tightest_24 : decode cX3_tightest 24 = .ok (.invokevirtual 206, 3) := by decide +kernel
theorem dX3_tightest_27 : decode cX3_tightest 27 = .ok (.ifCond .ne 6, 3) := by decide +kernel
theorem dX3_tightest_30 : decode cX3_tightest 30 = .ok (.bipush (-4), 2) := by decide +kernel
theorem dX3_tightest_32 : decode cX3_tightest 32 = .ok (.ireturn, 1) := by decide +kernel
theorem dX3_tightest_33 : decode cX3_tightest 33 = .ok (.bipush 60, 2) := by decide +kernel
theorem dX3_tightest_35 : decode cX3_tightest 35 = .ok (.istore_n 3, 1) := by decide +kernel
theorem dX3_tightest_36 : decode cX3_tightest 36 = .ok (.bipush 64, 2) := by decide +kernel
theorem dX3_tightest_38 : decode cX3_tightest 38 = .ok (.istore 4, 2) := by decide +kernel
theorem dX3_tightest_40 : decode cX3_tightest 40 = .ok (.iload 4, 2) := by decide +kernel
theorem dX3_tightest_42 : decode cX3_tightest 42 = .ok (.ifCond .le 46, 3) := by decide +kernel
theorem dX3_tightest_45 : decode cX3_tightest 45 = .ok (.iload_n 3, 1) := by decide +kernel
theorem dX3_tightest_46 : decode cX3_tightest 46 = .ok (.iload 4, 2) := by decide +kernel
theorem dX3_tightest_48 : decode cX3_tightest 48 = .ok (.isub, 1) := by decide +kernel
theorem dX3_tightest_49 : decode cX3_tightest 49 = .ok (.istore 5, 2) := by decide +kernel
theorem dX3_tightest_51 : decode cX3_tightest 51 = .ok (.iload 5, 2) := by decide +kernel
theorem dX3_tightest_53 : decode cX3_tightest 53 = .ok (.bipush (-30), 2) := by decide +kernel
theorem dX3_tightest_55 : decode cX3_tightest 55 = .ok (.if_icmp .lt 24, 3) := by decide +kernel
theorem dX3_tightest_58 : decode cX3_tightest 58 = .ok (.aload_n 0, 1) := by decide +kernel
theorem dX3_tightest_59 : decode cX3_tightest 59 = .ok (.getfield 26, 3) := by decide +kernel
theorem dX3_tightest_62 : decode cX3_tightest 62 = .ok (.aload_n 0, 1) := by decide +kernel
theorem dX3_tightest_63 : decode cX3_tightest 63 = .ok (.getfield 10, 3) := by decide +kernel
theorem dX3_tightest_66 : decode cX3_tightest 66 = .ok (.iload_n 1, 1) := by decide +kernel
theorem dX3_tightest_67 : decode cX3_tightest 67 = .ok (.iload_n 2, 1) := by decide +kernel
theorem dX3_tightest_68 : decode cX3_tightest 68 = .ok (.iload 5, 2) := by decide +kernel
theorem dX3_tightest_70 : decode cX3_tightest 70 = .ok (.invokevirtual 206, 3) := by decide +kernel
theorem dX3_tightest_73 : decode cX3_tightest 73 = .ok (.ifCond .eq 6, 3) := by decide +kernel
theorem dX3_tightest_76 : decode cX3_tightest 76 = .ok (.iload 5, 2) := by decide +kernel
theorem dX3_tightest_78 : decode cX3_tightest 78 = .ok (.istore_n 3, 1) := by decide +kernel
theorem dX3_tightest_79 : decode cX3_tightest 79 = .ok (.iload 4, 2) := by decide +kernel
theorem dX3_tightest_81 : decode cX3_tightest 81 = .ok (.iconst 2, 1) := by decide +kernel
theorem dX3_tightest_82 : decode cX3_tightest 82 = .ok (.idiv, 1) := by decide +kernel
theorem dX3_tightest_83 : decode cX3_tightest 83 = .ok (.istore 4, 2) := by decide +kernel
theorem dX3_tightest_85 : decode cX3_tightest 85 = .ok (.goto (-45), 3) := by decide +kernel
theorem dX3_tightest_88 : decode cX3_tightest 88 = .ok (.iload_n 3, 1) := by decide +kernel
theorem dX3_tightest_89 : decode cX3_tightest 89 = .ok (.bipush 100, 2) := by decide +kernel
theorem dX3_tightest_91 : decode cX3_tightest 91 = .ok (.iadd, 1) := by decide +kernel
theorem dX3_tightest_92 : decode cX3_tightest 92 = .ok (.ireturn, 1) := by decide +kernel
theorem dX3_undo_0 : decode cX3_undo 0 = .ok (.aload_n 0, 1) := by decide +kernel
theorem dX3_undo_1 : decode cX3_undo 1 = .ok (.getfield 200, 3) := by decide +kernel
theorem dX3_undo_4 : decode cX3_undo 4 = .ok (.ifCond .gt 6, 3) := by decide +kernel
theorem dX3_undo_7 : decode cX3_undo 7 = .ok (.bipush (-2), 2) := by decide +kernel
theorem dX3_undo_9 : decode cX3_undo 9 = .ok (.ireturn, 1) := by decide +kernel
theorem dX3_undo_10 : decode cX3_undo 10 = .ok (.aload_n 0, 1) := by decide +kernel
theorem dX3_undo_11 : decode cX3_undo 11 = .ok (.dup, 1) := by decide +kernel
theorem dX3_undo_12 : decode cX3_undo 12 = .ok (.getfield 200, 3) := by decide +kernel
theorem dX3_undo_15 : decode cX3_undo 15 = .ok (.iconst 1, 1) := by decide +kernel
theorem dX3_undo_16 : decode cX3_undo 16 = .ok (.isub, 1) := by decide +kernel
theorem dX3_undo_17 : decode cX3_undo 17 = .ok (.putfield 200, 3) := by decide +kernel
theorem dX3_undo_20 : decode cX3_undo 20 = .ok (.aload_n 0, 1) := by decide +kernel
theorem dX3_undo_21 : decode cX3_undo 21 = .ok (.getfield 10, 3) := by decide +kernel
theorem dX3_undo_24 : decode cX3_undo 24 = .ok (.aload_n 0, 1) := by decide +kernel
theorem dX3_undo_25 : decode cX3_undo 25 = .ok (.getfield 19, 3) := by decide +kernel
theorem dX3_undo_28 : decode cX3_undo 28 = .ok (.aload_n 0, 1) := by decide +kernel
theorem dX3_undo_29 : decode cX3_undo 29 = .ok (.getfield 200, 3) := by decide +kernel
theorem dX3_undo_32 : decode cX3_undo 32 = .ok (.aaload, 1) := by decide +kernel
theorem dX3_undo_33 : decode cX3_undo 33 = .ok (.invokevirtual 210, 3) := by decide +kernel
theorem dX3_undo_36 : decode cX3_undo 36 = .ok (.aload_n 0, 1) := by decide +kernel
theorem dX3_undo_37 : decode cX3_undo 37 = .ok (.getfield 200, 3) := by decide +kernel
theorem dX3_undo_40 : decode cX3_undo 40 = .ok (.ireturn, 1) := by decide +kernel
theorem dX3_save_0 : decode cX3_save 0 = .ok (.aload_n 0, 1) := by decide +kernel
theorem dX3_save_1 : decode cX3_save 1 = .ok (.getfield 16, 3) := by decide +kernel
theorem dX3_save_4 : decode cX3_save 4 = .ok (.aload_n 0, 1) := by decide +kernel
theorem dX3_save_5 : decode cX3_save 5 = .ok (.getfield 10, 3) := by decide +kernel
theorem dX3_save_8 : decode cX3_save 8 = .ok (.invokevirtual 210, 3) := by decide +kernel
theorem dX3_save_11 : decode cX3_save 11 = .ok (.aload_n 0, 1) := by decide +kernel
theorem dX3_save_12 : decode cX3_save 12 = .ok (.iconst 1, 1) := by decide +kernel
theorem dX3_save_13 : decode cX3_save 13 = .ok (.putfield 214, 3) := by decide +kernel
theorem dX3_save_16 : decode cX3_save 16 = .ok (.aload_n 0, 1) := by decide +kernel
theorem dX3_save_17 : decode cX3_save 17 = .ok (.getfield 10, 3) := by decide +kernel
theorem dX3_save_20 : decode cX3_save 20 = .ok (.getfield 101, 3) := by decide +kernel
theorem dX3_save_23 : decode cX3_save 23 = .ok (.ireturn, 1) := by decide +kernel
theorem dX3_restore_0 : decode cX3_restore 0 = .ok (.aload_n 0, 1) := by decide +kernel
theorem dX3_restore_1 : decode cX3_restore 1 = .ok (.getfield 214, 3) := by decide +kernel
theorem dX3_restore_4 : decode cX3_restore 4 = .ok (.ifCond .ne 6, 3) := by decide +kernel
theorem dX3_restore_7 : decode cX3_restore 7 = .ok (.bipush (-2), 2) := by decide +kernel
theorem dX3_restore_9 : decode cX3_restore 9 = .ok (.ireturn, 1) := by decide +kernel
theorem dX3_restore_10 : decode cX3_restore 10 = .ok (.aload_n 0, 1) := by decide +kernel
theorem dX3_restore_11 : decode cX3_restore 11 = .ok (.invokevirtual 41, 3) := by decide +kernel
theorem dX3_restore_14 : decode cX3_restore 14 = .ok (.aload_n 0, 1) := by decide +kernel
theorem dX3_restore_15 : decode cX3_restore 15 = .ok (.getfield 10, 3) := by decide +kernel
theorem dX3_restore_18 : decode cX3_restore 18 = .ok (.aload_n 0, 1) := by decide +kernel
theorem dX3_restore_19 : decode cX3_restore 19 = .ok (.getfield 16, 3) := by decide +kernel
theorem dX3_restore_22 : decode cX3_restore 22 = .ok (.invokevirtual 210, 3) := by decide +kernel
theorem dX3_restore_25 : decode cX3_restore 25 = .ok (.aload_n 0, 1) := by decide +kernel
theorem dX3_restore_26 : decode cX3_restore 26 = .ok (.getfield 10, 3) := by decide +kernel
theorem dX3_restore_29 : decode cX3_restore 29 = .ok (.getfield 101, 3) := by decide +kernel
theorem dX3_restore_32 : decode cX3_restore 32 = .ok (.ireturn, 1) := by decide +kernel
theorem dX3_isHedge_0 : decode cX3_isHedge 0 = .ok (.iload_n 0, 1) := by decide +kernel
theorem dX3_isHedge_1 : decode cX3_isHedge 1 = .ok (.ifCond .lt 13, 3) := by decide +kernel
theorem dX3_isHedge_4 : decode cX3_isHedge 4 = .ok (.iload_n 0, 1) := by decide +kernel
theorem dX3_isHedge_5 : decode cX3_isHedge 5 = .ok (.bipush 8, 2) := by decide +kernel
theorem dX3_isHedge_7 : decode cX3_isHedge 7 = .ok (.if_icmp .ge 7, 3) := by decide +kernel
theorem dX3_isHedge_10 : decode cX3_isHedge 10 = .ok (.iconst 1, 1) := by decide +kernel
theorem dX3_isHedge_11 : decode cX3_isHedge 11 = .ok (.goto 4, 3) := by decide +kernel
theorem dX3_isHedge_14 : decode cX3_isHedge 14 = .ok (.iconst 0, 1) := by decide +kernel
theorem dX3_isHedge_15 : decode cX3_isHedge 15 = .ok (.ireturn, 1) := by decide +kernel
theorem dX3_isTreaty_0 : decode cX3_isTreaty 0 = .ok (.iload_n 1, 1) := by decide +kernel
theorem dX3_isTreaty_1 : decode cX3_isTreaty 1 = .ok (.ifCond .lt 18, 3) := by decide +kernel
theorem dX3_isTreaty_4 : decode cX3_isTreaty 4 = .ok (.iload_n 1, 1) := by decide +kernel
theorem dX3_isTreaty_5 : decode cX3_isTreaty 5 = .ok (.aload_n 0, 1) := by decide +kernel
theorem dX3_isTreaty_6 : decode cX3_isTreaty 6 = .ok (.getfield 10, 3) := by decide +kernel
theorem dX3_isTreaty_9 : decode cX3_isTreaty 9 = .ok (.getfield 101, 3) := by decide +kernel
theorem dX3_isTreaty_12 : decode cX3_isTreaty 12 = .ok (.if_icmp .ge 7, 3) := by decide +kernel
theorem dX3_isTreaty_15 : decode cX3_isTreaty 15 = .ok (.iconst 1, 1) := by decide +kernel
theorem dX3_isTreaty_16 : decode cX3_isTreaty 16 = .ok (.goto 4, 3) := by decide +kernel
theorem dX3_isTreaty_19 : decode cX3_isTreaty 19 = .ok (.iconst 0, 1) := by decide +kernel
theorem dX3_isTreaty_20 : decode cX3_isTreaty 20 = .ok (.ireturn, 1) := by decide +kernel
theorem dX3_isAgreement_0 : decode cX3_isAgreement 0 = .ok (.iload_n 0, 1) := by decide +kernel
theorem dX3_isAgreement_1 : decode cX3_isAgreement 1 = .ok (.invokestatic 37, 3) := by decide +kernel
theorem dX3_isAgreement_4 : decode cX3_isAgreement 4 = .ok (.ifCond .eq 31, 3) := by decide +kernel
theorem dX3_isAgreement_7 : decode cX3_isAgreement 7 = .ok (.iload_n 1, 1) := by decide +kernel
theorem dX3_isAgreement_8 : decode cX3_isAgreement 8 = .ok (.invokestatic 37, 3) := by decide +kernel
theorem dX3_isAgreement_11 : decode cX3_isAgreement 11 = .ok (.ifCond .eq 24, 3) := by decide +kernel
theorem dX3_isAgreement_14 : decode cX3_isAgreement 14 = .ok (.iload_n 0, 1) := by decide +kernel
theorem dX3_isAgreement_15 : decode cX3_isAgreement 15 = .ok (.iload_n 1, 1) := by decide +kernel
theorem dX3_isAgreement_16 : decode cX3_isAgreement 16 = .ok (.if_icmp .eq 19, 3) := by decide +kernel
theorem dX3_isAgreement_19 : decode cX3_isAgreement 19 = .ok (.iload_n 2, 1) := by decide +kernel
theorem dX3_isAgreement_20 : decode cX3_isAgreement 20 = .ok (.bipush (-30), 2) := by decide +kernel
theorem dX3_isAgreement_22 : decode cX3_isAgreement 22 = .ok (.if_icmp .lt 13, 3) := by decide +kernel
theorem dX3_isAgreement_25 : decode cX3_isAgreement 25 = .ok (.iload_n 2, 1) := by decide +kernel
theorem dX3_isAgreement_26 : decode cX3_isAgreement 26 = .ok (.bipush 60, 2) := by decide +kernel
theorem dX3_isAgreement_28 : decode cX3_isAgreement 28 = .ok (.if_icmp .gt 7, 3) := by decide +kernel
theorem dX3_isAgreement_31 : decode cX3_isAgreement 31 = .ok (.iconst 1, 1) := by decide +kernel
theorem dX3_isAgreement_32 : decode cX3_isAgreement 32 = .ok (.goto 4, 3) := by decide +kernel
theorem dX3_isAgreement_35 : decode cX3_isAgreement 35 = .ok (.iconst 0, 1) := by decide +kernel
theorem dX3_isAgreement_36 : decode cX3_isAgreement 36 = .ok (.ireturn, 1) := by decide +kernel
theorem dX3_sum_0 : decode cX3_sum 0 = .ok (.iconst 0, 1) := by decide +kernel
theorem dX3_sum_1 : decode cX3_sum 1 = .ok (.istore_n 1, 1) := by decide +kernel
theorem dX3_sum_2 : decode cX3_sum 2 = .ok (.aload_n 0, 1) := by decide +kernel
theorem dX3_sum_3 : decode cX3_sum 3 = .ok (.astore_n 2, 1) := by decide +kernel
theorem dX3_sum_4 : decode cX3_sum 4 = .ok (.aload_n 2, 1) := by decide +kernel
theorem dX3_sum_5 : decode cX3_sum 5 = .ok (.arraylength, 1) := by decide +kernel
theorem dX3_sum_6 : decode cX3_sum 6 = .ok (.istore_n 3, 1) := by decide +kernel
theorem dX3_sum_7 : decode cX3_sum 7 = .ok (.iconst 0, 1) := by decide +kernel
theorem dX3_sum_8 : decode cX3_sum 8 = .ok (.istore 4, 2) := by decide +kernel
theorem dX3_sum_10 : decode cX3_sum 10 = .ok (.iload 4, 2) := by decide +kernel
theorem dX3_sum_12 : decode cX3_sum 12 = .ok (.iload_n 3, 1) := by decide +kernel
theorem dX3_sum_13 : decode cX3_sum 13 = .ok (.if_icmp .ge 20, 3) := by decide +kernel
theorem dX3_sum_16 : decode cX3_sum 16 = .ok (.aload_n 2, 1) := by decide +kernel
theorem dX3_sum_17 : decode cX3_sum 17 = .ok (.iload 4, 2) := by decide +kernel
theorem dX3_sum_19 : decode cX3_sum 19 = .ok (.iaload, 1) := by decide +kernel
theorem dX3_sum_20 : decode cX3_sum 20 = .ok (.istore 5, 2) := by decide +kernel
theorem dX3_sum_22 : decode cX3_sum 22 = .ok (.iload_n 1, 1) := by decide +kernel
theorem dX3_sum_23 : decode cX3_sum 23 = .ok (.iload 5, 2) := by decide +kernel
theorem dX3_sum_25 : decode cX3_sum 25 = .ok (.iadd, 1) := by decide +kernel
theorem dX3_sum_26 : decode cX3_sum 26 = .ok (.istore_n 1, 1) := by decide +kernel
theorem dX3_sum_27 : decode cX3_sum 27 = .ok (.iinc 4 1, 3) := by decide +kernel
theorem dX3_sum_30 : decode cX3_sum 30 = .ok (.goto (-20), 3) := by decide +kernel
theorem dX3_sum_33 : decode cX3_sum 33 = .ok (.iload_n 1, 1) := by decide +kernel
theorem dX3_sum_34 : decode cX3_sum 34 = .ok (.ireturn, 1) := by decide +kernel
theorem dX3_remember_0 : decode cX3_remember 0 = .ok (.aload_n 0, 1) := by decide +kernel
theorem dX3_remember_1 : decode cX3_remember 1 = .ok (.getfield 200, 3) := by decide +kernel
theorem dX3_remember_4 : decode cX3_remember 4 = .ok (.iconst 4, 1) := by decide +kernel
theorem dX3_remember_5 : decode cX3_remember 5 = .ok (.if_icmp .lt 7, 3) := by decide +kernel
theorem dX3_remember_8 : decode cX3_remember 8 = .ok (.aload_n 0, 1) := by decide +kernel
theorem dX3_remember_9 : decode cX3_remember 9 = .ok (.invokevirtual 218, 3) := by decide +kernel
theorem dX3_remember_12 : decode cX3_remember 12 = .ok (.aload_n 0, 1) := by decide +kernel
theorem dX3_remember_13 : decode cX3_remember 13 = .ok (.getfield 19, 3) := by decide +kernel
theorem dX3_remember_16 : decode cX3_remember 16 = .ok (.aload_n 0, 1) := by decide +kernel
theorem dX3_remember_17 : decode cX3_remember 17 = .ok (.getfield 200, 3) := by decide +kernel
theorem dX3_remember_20 : decode cX3_remember 20 = .ok (.aaload, 1) := by decide +kernel
theorem dX3_remember_21 : decode cX3_remember 21 = .ok (.aload_n 0, 1) := by decide +kernel
theorem dX3_remember_22 : decode cX3_remember 22 = .ok (.getfield 10, 3) := by decide +kernel
theorem dX3_remember_25 : decode cX3_remember 25 = .ok (.invokevirtual 210, 3) := by decide +kernel
theorem dX3_remember_28 : decode cX3_remember 28 = .ok (.aload_n 0, 1) := by decide +kernel
theorem dX3_remember_29 : decode cX3_remember 29 = .ok (.dup, 1) := by decide +kernel
theorem dX3_remember_30 : decode cX3_remember 30 = .ok (.getfield 200, 3) := by decide +kernel
theorem dX3_remember_33 : decode cX3_remember 33 = .ok (.iconst 1, 1) := by decide +kernel
theorem dX3_remember_34 : decode cX3_remember 34 = .ok (.iadd, 1) := by decide +kernel
theorem dX3_remember_35 : decode cX3_remember 35 = .ok (.putfield 200, 3) := by decide +kernel
theorem dX3_remember_38 : decode cX3_remember 38 = .ok (.return_, 1) := by decide +kernel
theorem dX3_dropOldestState_0 : decode cX3_dropOldestState 0 = .ok (.aload_n 0, 1) := by decide +kernel
theorem dX3_dropOldestState_1 : decode cX3_dropOldestState 1 = .ok (.getfield 19, 3) := by decide +kernel
theorem dX3_dropOldestState_4 : decode cX3_dropOldestState 4 = .ok (.iconst 0, 1) := by decide +kernel
theorem dX3_dropOldestState_5 : decode cX3_dropOldestState 5 = .ok (.aaload, 1) := by decide +kernel
theorem dX3_dropOldestState_6 : decode cX3_dropOldestState 6 = .ok (.astore_n 1, 1) := by decide +kernel
theorem dX3_dropOldestState_7 : decode cX3_dropOldestState 7 = .ok (.iconst 1, 1) := by decide +kernel
theorem dX3_dropOldestState_8 : decode cX3_dropOldestState 8 = .ok (.istore_n 2, 1) := by decide +kernel
theorem dX3_dropOldestState_9 : decode cX3_dropOldestState 9 = .ok (.iload_n 2, 1) := by decide +kernel
theorem dX3_dropOldestState_10 : decode cX3_dropOldestState 10 = .ok (.iconst 4, 1) := by decide +kernel
theorem dX3_dropOldestState_11 : decode cX3_dropOldestState 11 = .ok (.if_icmp .ge 23, 3) := by decide +kernel
theorem dX3_dropOldestState_14 : decode cX3_dropOldestState 14 = .ok (.aload_n 0, 1) := by decide +kernel
theorem dX3_dropOldestState_15 : decode cX3_dropOldestState 15 = .ok (.getfield 19, 3) := by decide +kernel
theorem dX3_dropOldestState_18 : decode cX3_dropOldestState 18 = .ok (.iload_n 2, 1) := by decide +kernel
theorem dX3_dropOldestState_19 : decode cX3_dropOldestState 19 = .ok (.iconst 1, 1) := by decide +kernel
theorem dX3_dropOldestState_20 : decode cX3_dropOldestState 20 = .ok (.isub, 1) := by decide +kernel
theorem dX3_dropOldestState_21 : decode cX3_dropOldestState 21 = .ok (.aload_n 0, 1) := by decide +kernel
theorem dX3_dropOldestState_22 : decode cX3_dropOldestState 22 = .ok (.getfield 19, 3) := by decide +kernel
theorem dX3_dropOldestState_25 : decode cX3_dropOldestState 25 = .ok (.iload_n 2, 1) := by decide +kernel
theorem dX3_dropOldestState_26 : decode cX3_dropOldestState 26 = .ok (.aaload, 1) := by decide +kernel
theorem dX3_dropOldestState_27 : decode cX3_dropOldestState 27 = .ok (.aastore, 1) := by decide +kernel
theorem dX3_dropOldestState_28 : decode cX3_dropOldestState 28 = .ok (.iinc 2 1, 3) := by decide +kernel
theorem dX3_dropOldestState_31 : decode cX3_dropOldestState 31 = .ok (.goto (-22), 3) := by decide +kernel
theorem dX3_dropOldestState_34 : decode cX3_dropOldestState 34 = .ok (.aload_n 0, 1) := by decide +kernel
theorem dX3_dropOldestState_35 : decode cX3_dropOldestState 35 = .ok (.getfield 19, 3) := by decide +kernel
theorem dX3_dropOldestState_38 : decode cX3_dropOldestState 38 = .ok (.iconst 3, 1) := by decide +kernel
theorem dX3_dropOldestState_39 : decode cX3_dropOldestState 39 = .ok (.aload_n 1, 1) := by decide +kernel
theorem dX3_dropOldestState_40 : decode cX3_dropOldestState 40 = .ok (.aastore, 1) := by decide +kernel
theorem dX3_dropOldestState_41 : decode cX3_dropOldestState 41 = .ok (.aload_n 0, 1) := by decide +kernel
theorem dX3_dropOldestState_42 : decode cX3_dropOldestState 42 = .ok (.iconst 3, 1) := by decide +kernel
theorem dX3_dropOldestState_43 : decode cX3_dropOldestState 43 = .ok (.putfield 200, 3) := by decide +kernel
theorem dX3_dropOldestState_46 : decode cX3_dropOldestState 46 = .ok (.return_, 1) := by decide +kernel
theorem dX3_refuse_0 : decode cX3_refuse 0 = .ok (.aload_n 0, 1) := by decide +kernel
theorem dX3_refuse_1 : decode cX3_refuse 1 = .ok (.getfield 10, 3) := by decide +kernel
theorem dX3_refuse_4 : decode cX3_refuse 4 = .ok (.dup, 1) := by decide +kernel
theorem dX3_refuse_5 : decode cX3_refuse 5 = .ok (.getfield 194, 3) := by decide +kernel
theorem dX3_refuse_8 : decode cX3_refuse 8 = .ok (.iconst 1, 1) := by decide +kernel
theorem dX3_refuse_9 : decode cX3_refuse 9 = .ok (.iadd, 1) := by decide +kernel
theorem dX3_refuse_10 : decode cX3_refuse 10 = .ok (.putfield 194, 3) := by decide +kernel
theorem dX3_refuse_13 : decode cX3_refuse 13 = .ok (.iload_n 1, 1) := by decide +kernel
theorem dX3_refuse_14 : decode cX3_refuse 14 = .ok (.ireturn, 1) := by decide +kernel
theorem dX3_isNestInTheWay_0 : decode cX3_isNestInTheWay 0 = .ok (.iconst 0, 1) := by decide +kernel
theorem dX3_isNestInTheWay_1 : decode cX3_isNestInTheWay 1 = .ok (.istore_n 1, 1) := by decide +kernel
theorem dX3_isNestInTheWay_2 : decode cX3_isNestInTheWay 2 = .ok (.iload_n 1, 1) := by decide +kernel
theorem dX3_isNestInTheWay_3 : decode cX3_isNestInTheWay 3 = .ok (.bipush 8, 2) := by decide +kernel
theorem dX3_isNestInTheWay_5 : decode cX3_isNestInTheWay 5 = .ok (.if_icmp .ge 43, 3) := by decide +kernel
theorem dX3_isNestInTheWay_8 : decode cX3_isNestInTheWay 8 = .ok (.aload_n 0, 1) := by decide +kernel
theorem dX3_isNestInTheWay_9 : decode cX3_isNestInTheWay 9 = .ok (.getfield 10, 3) := by decide +kernel
theorem dX3_isNestInTheWay_12 : decode cX3_isNestInTheWay 12 = .ok (.iload_n 1, 1) := by decide +kernel
theorem dX3_isNestInTheWay_13 : decode cX3_isNestInTheWay 13 = .ok (.invokevirtual 58, 3) := by decide +kernel
theorem dX3_isNestInTheWay_16 : decode cX3_isNestInTheWay 16 = .ok (.ifCond .eq 26, 3) := by decide +kernel
theorem dX3_isNestInTheWay_19 : decode cX3_isNestInTheWay 19 = .ok (.aload_n 0, 1) := by decide +kernel
theorem dX3_isNestInTheWay_20 : decode cX3_isNestInTheWay 20 = .ok (.getfield 26, 3) := by decide +kernel
theorem dX3_isNestInTheWay_23 : decode cX3_isNestInTheWay 23 = .ok (.getfield 77, 3) := by decide +kernel
theorem dX3_isNestInTheWay_26 : decode cX3_isNestInTheWay 26 = .ok (.iload_n 1, 1) := by decide +kernel
theorem dX3_isNestInTheWay_27 : decode cX3_isNestInTheWay 27 = .ok (.iaload, 1) := by decide +kernel
theorem dX3_isNestInTheWay_28 : decode cX3_isNestInTheWay 28 = .ok (.aload_n 0, 1) := by decide +kernel
theorem dX3_isNestInTheWay_29 : decode cX3_isNestInTheWay 29 = .ok (.getfield 10, 3) := by decide +kernel
theorem dX3_isNestInTheWay_32 : decode cX3_isNestInTheWay 32 = .ok (.getfield 44, 3) := by decide +kernel
theorem dX3_isNestInTheWay_35 : decode cX3_isNestInTheWay 35 = .ok (.iload_n 1, 1) := by decide +kernel
theorem dX3_isNestInTheWay_36 : decode cX3_isNestInTheWay 36 = .ok (.iaload, 1) := by decide +kernel
theorem dX3_isNestInTheWay_37 : decode cX3_isNestInTheWay 37 = .ok (.if_icmp .ge 5, 3) := by decide +kernel
theorem dX3_isNestInTheWay_40 : decode cX3_isNestInTheWay 40 = .ok (.iconst 1, 1) := by decide +kernel
theorem dX3_isNestInTheWay_41 : decode cX3_isNestInTheWay 41 = .ok (.ireturn, 1) := by decide +kernel
theorem dX3_isNestInTheWay_42 : decode cX3_isNestInTheWay 42 = .ok (.iinc 1 1, 3) := by decide +kernel
theorem dX3_isNestInTheWay_45 : decode cX3_isNestInTheWay 45 = .ok (.goto (-43), 3) := by decide +kernel
theorem dX3_isNestInTheWay_48 : decode cX3_isNestInTheWay 48 = .ok (.iconst 0, 1) := by decide +kernel
theorem dX3_isNestInTheWay_49 : decode cX3_isNestInTheWay 49 = .ok (.ireturn, 1) := by decide +kernel
theorem dX3_errorOfSigning_0 : decode cX3_errorOfSigning 0 = .ok (.iload_n 1, 1) := by decide +kernel
theorem dX3_errorOfSigning_1 : decode cX3_errorOfSigning 1 = .ok (.iload_n 2, 1) := by decide +kernel
theorem dX3_errorOfSigning_2 : decode cX3_errorOfSigning 2 = .ok (.iload_n 3, 1) := by decide +kernel
theorem dX3_errorOfSigning_3 : decode cX3_errorOfSigning 3 = .ok (.invokestatic 174, 3) := by decide +kernel
theorem dX3_errorOfSigning_6 : decode cX3_errorOfSigning 6 = .ok (.ifCond .ne 5, 3) := by decide +kernel
theorem dX3_errorOfSigning_9 : decode cX3_errorOfSigning 9 = .ok (.iconst (-1), 1) := by decide +kernel
theorem dX3_errorOfSigning_10 : decode cX3_errorOfSigning 10 = .ok (.ireturn, 1) := by decide +kernel
theorem dX3_errorOfSigning_11 : decode cX3_errorOfSigning 11 = .ok (.aload_n 0, 1) := by decide +kernel
theorem dX3_errorOfSigning_12 : decode cX3_errorOfSigning 12 = .ok (.getfield 10, 3) := by decide +kernel
theorem dX3_errorOfSigning_15 : decode cX3_errorOfSigning 15 = .ok (.getfield 101, 3) := by decide +kernel
theorem dX3_errorOfSigning_18 : decode cX3_errorOfSigning 18 = .ok (.bipush 14, 2) := by decide +kernel
theorem dX3_errorOfSigning_20 : decode cX3_errorOfSigning 20 = .ok (.if_icmp .lt 8, 3) := by decide +kernel
theorem dX3_errorOfSigning_23 : decode cX3_errorOfSigning 23 = .ok (.bipush (-3), 2) := by decide +kernel
theorem dX3_errorOfSigning_25 : decode cX3_errorOfSigning 25 = .ok (.goto 4, 3) := by decide +kernel
theorem dX3_errorOfSigning_28 : decode cX3_errorOfSigning 28 = .ok (.iconst 0, 1) := by decide +kernel
theorem dX3_errorOfSigning_29 : decode cX3_errorOfSigning 29 = .ok (.ireturn, 1) := by decide +kernel
theorem dX3_reasonAgainst_0 : decode cX3_reasonAgainst 0 = .ok (.aload_n 0, 1) := by decide +kernel
theorem dX3_reasonAgainst_1 : decode cX3_reasonAgainst 1 = .ok (.getfield 26, 3) := by decide +kernel
theorem dX3_reasonAgainst_4 : decode cX3_reasonAgainst 4 = .ok (.aload_n 0, 1) := by decide +kernel
theorem dX3_reasonAgainst_5 : decode cX3_reasonAgainst 5 = .ok (.getfield 10, 3) := by decide +kernel
theorem dX3_reasonAgainst_8 : decode cX3_reasonAgainst 8 = .ok (.iload_n 1, 1) := by decide +kernel
theorem dX3_reasonAgainst_9 : decode cX3_reasonAgainst 9 = .ok (.iload_n 2, 1) := by decide +kernel
theorem dX3_reasonAgainst_10 : decode cX3_reasonAgainst 10 = .ok (.iload_n 3, 1) := by decide +kernel
theorem dX3_reasonAgainst_11 : decode cX3_reasonAgainst 11 = .ok (.invokevirtual 206, 3) := by decide +kernel
theorem dX3_reasonAgainst_14 : decode cX3_reasonAgainst 14 = .ok (.ifCond .ne 5, 3) := by decide +kernel
theorem dX3_reasonAgainst_17 : decode cX3_reasonAgainst 17 = .ok (.iconst 1, 1) := by decide +kernel
theorem dX3_reasonAgainst_18 : decode cX3_reasonAgainst 18 = .ok (.ireturn, 1) := by decide +kernel
theorem dX3_reasonAgainst_19 : decode cX3_reasonAgainst 19 = .ok (.aload_n 0, 1) := by decide +kernel
theorem dX3_reasonAgainst_20 : decode cX3_reasonAgainst 20 = .ok (.getfield 26, 3) := by decide +kernel
theorem dX3_reasonAgainst_23 : decode cX3_reasonAgainst 23 = .ok (.aload_n 0, 1) := by decide +kernel
theorem dX3_reasonAgainst_24 : decode cX3_reasonAgainst 24 = .ok (.getfield 10, 3) := by decide +kernel
theorem dX3_reasonAgainst_27 : decode cX3_reasonAgainst 27 = .ok (.iload_n 1, 1) := by decide +kernel
theorem dX3_reasonAgainst_28 : decode cX3_reasonAgainst 28 = .ok (.iload_n 2, 1) := by decide +kernel
theorem dX3_reasonAgainst_29 : decode cX3_reasonAgainst 29 = .ok (.iconst (-1), 1) := by decide +kernel
theorem dX3_reasonAgainst_30 : decode cX3_reasonAgainst 30 = .ok (.invokevirtual 165, 3) := by decide +kernel
theorem dX3_reasonAgainst_33 : decode cX3_reasonAgainst 33 = .ok (.iload_n 3, 1) := by decide +kernel
theorem dX3_reasonAgainst_34 : decode cX3_reasonAgainst 34 = .ok (.if_icmp .gt 7, 3) := by decide +kernel
theorem dX3_reasonAgainst_37 : decode cX3_reasonAgainst 37 = .ok (.iconst 1, 1) := by decide +kernel
theorem dX3_reasonAgainst_38 : decode cX3_reasonAgainst 38 = .ok (.goto 4, 3) := by decide +kernel
theorem dX3_reasonAgainst_41 : decode cX3_reasonAgainst 41 = .ok (.iconst 0, 1) := by decide +kernel
theorem dX3_reasonAgainst_42 : decode cX3_reasonAgainst 42 = .ok (.istore 4, 2) := by decide +kernel
theorem dX3_reasonAgainst_44 : decode cX3_reasonAgainst 44 = .ok (.iload 4, 2) := by decide +kernel
theorem dX3_reasonAgainst_46 : decode cX3_reasonAgainst 46 = .ok (.ifCond .eq 7, 3) := by decide +kernel
theorem dX3_reasonAgainst_49 : decode cX3_reasonAgainst 49 = .ok (.iconst 2, 1) := by decide +kernel
theorem dX3_reasonAgainst_50 : decode cX3_reasonAgainst 50 = .ok (.goto 4, 3) := by decide +kernel
theorem dX3_reasonAgainst_53 : decode cX3_reasonAgainst 53 = .ok (.iconst 0, 1) := by decide +kernel
theorem dX3_reasonAgainst_54 : decode cX3_reasonAgainst 54 = .ok (.ireturn, 1) := by decide +kernel
theorem dX3_signOne_0 : decode cX3_signOne 0 = .ok (.aload_n 0, 1) := by decide +kernel
theorem dX3_signOne_1 : decode cX3_signOne 1 = .ok (.iload_n 1, 1) := by decide +kernel
theorem dX3_signOne_2 : decode cX3_signOne 2 = .ok (.iload_n 2, 1) := by decide +kernel
theorem dX3_signOne_3 : decode cX3_signOne 3 = .ok (.iload_n 3, 1) := by decide +kernel
theorem dX3_signOne_4 : decode cX3_signOne 4 = .ok (.invokevirtual 178, 3) := by decide +kernel
theorem dX3_signOne_7 : decode cX3_signOne 7 = .ok (.istore 4, 2) := by decide +kernel
theorem dX3_signOne_9 : decode cX3_signOne 9 = .ok (.iload 4, 2) := by decide +kernel
theorem dX3_signOne_11 : decode cX3_signOne 11 = .ok (.ifCond .eq 10, 3) := by decide +kernel
theorem dX3_signOne_14 : decode cX3_signOne 14 = .ok (.aload_n 0, 1) := by decide +kernel
theorem dX3_signOne_15 : decode cX3_signOne 15 = .ok (.iload 4, 2) := by decide +kernel
theorem dX3_signOne_17 : decode cX3_signOne 17 = .ok (.invokevirtual 61, 3) := by decide +kernel
theorem dX3_signOne_20 : decode cX3_signOne 20 = .ok (.ireturn, 1) := by decide +kernel
theorem dX3_signOne_21 : decode cX3_signOne 21 = .ok (.aload_n 0, 1) := by decide +kernel
theorem dX3_signOne_22 : decode cX3_signOne 22 = .ok (.getfield 10, 3) := by decide +kernel
theorem dX3_signOne_25 : decode cX3_signOne 25 = .ok (.iload_n 1, 1) := by decide +kernel
theorem dX3_signOne_26 : decode cX3_signOne 26 = .ok (.iload_n 2, 1) := by decide +kernel
theorem dX3_signOne_27 : decode cX3_signOne 27 = .ok (.iload_n 3, 1) := by decide +kernel
theorem dX3_signOne_28 : decode cX3_signOne 28 = .ok (.invokevirtual 221, 3) := by decide +kernel
theorem dX3_signOne_31 : decode cX3_signOne 31 = .ok (.bipush 10, 2) := by decide +kernel
theorem dX3_signOne_33 : decode cX3_signOne 33 = .ok (.aload_n 0, 1) := by decide +kernel
theorem dX3_signOne_34 : decode cX3_signOne 34 = .ok (.getfield 10, 3) := by decide +kernel
theorem dX3_signOne_37 : decode cX3_signOne 37 = .ok (.getfield 101, 3) := by decide +kernel
theorem dX3_signOne_40 : decode cX3_signOne 40 = .ok (.iadd, 1) := by decide +kernel
theorem dX3_signOne_41 : decode cX3_signOne 41 = .ok (.iconst 1, 1) := by decide +kernel
theorem dX3_signOne_42 : decode cX3_signOne 42 = .ok (.isub, 1) := by decide +kernel
theorem dX3_signOne_43 : decode cX3_signOne 43 = .ok (.ireturn, 1) := by decide +kernel
theorem dX3_signPart_0 : decode cX3_signPart 0 = .ok (.aload_n 0, 1) := by decide +kernel
theorem dX3_signPart_1 : decode cX3_signPart 1 = .ok (.getfield 33, 3) := by decide +kernel
theorem dX3_signPart_4 : decode cX3_signPart 4 = .ok (.getfield 225, 3) := by decide +kernel
theorem dX3_signPart_7 : decode cX3_signPart 7 = .ok (.iload_n 1, 1) := by decide +kernel
theorem dX3_signPart_8 : decode cX3_signPart 8 = .ok (.iaload, 1) := by decide +kernel
theorem dX3_signPart_9 : decode cX3_signPart 9 = .ok (.istore_n 2, 1) := by decide +kernel
theorem dX3_signPart_10 : decode cX3_signPart 10 = .ok (.aload_n 0, 1) := by decide +kernel
theorem dX3_signPart_11 : decode cX3_signPart 11 = .ok (.getfield 33, 3) := by decide +kernel
theorem dX3_signPart_14 : decode cX3_signPart 14 = .ok (.getfield 226, 3) := by decide +kernel
theorem dX3_signPart_17 : decode cX3_signPart 17 = .ok (.iload_n 1, 1) := by decide +kernel
theorem dX3_signPart_18 : decode cX3_signPart 18 = .ok (.iaload, 1) := by decide +kernel
theorem dX3_signPart_19 : decode cX3_signPart 19 = .ok (.istore_n 3, 1) := by decide +kernel
theorem dX3_signPart_20 : decode cX3_signPart 20 = .ok (.aload_n 0, 1) := by decide +kernel
theorem dX3_signPart_21 : decode cX3_signPart 21 = .ok (.getfield 33, 3) := by decide +kernel
theorem dX3_signPart_24 : decode cX3_signPart 24 = .ok (.getfield 227, 3) := by decide +kernel
theorem dX3_signPart_27 : decode cX3_signPart 27 = .ok (.iload_n 1, 1) := by decide +kernel
theorem dX3_signPart_28 : decode cX3_signPart 28 = .ok (.iaload, 1) := by decide +kernel
theorem dX3_signPart_29 : decode cX3_signPart 29 = .ok (.istore 4, 2) := by decide +kernel
theorem dX3_signPart_31 : decode cX3_signPart 31 = .ok (.aload_n 0, 1) := by decide +kernel
theorem dX3_signPart_32 : decode cX3_signPart 32 = .ok (.iload_n 2, 1) := by decide +kernel
theorem dX3_signPart_33 : decode cX3_signPart 33 = .ok (.iload_n 3, 1) := by decide +kernel
theorem dX3_signPart_34 : decode cX3_signPart 34 = .ok (.iload 4, 2) := by decide +kernel
theorem dX3_signPart_36 : decode cX3_signPart 36 = .ok (.invokevirtual 87, 3) := by decide +kernel
theorem dX3_signPart_39 : decode cX3_signPart 39 = .ok (.istore 5, 2) := by decide +kernel
theorem dX3_signPart_41 : decode cX3_signPart 41 = .ok (.iload 5, 2) := by decide +kernel
theorem dX3_signPart_43 : decode cX3_signPart 43 = .ok (.ifCond .eq 8, 3) := by decide +kernel
theorem dX3_signPart_46 : decode cX3_signPart 46 = .ok (.iload 5, 2) := by decide +kernel
theorem dX3_signPart_48 : decode cX3_signPart 48 = .ok (.goto 11, 3) := by decide +kernel
theorem dX3_signPart_51 : decode cX3_signPart 51 = .ok (.aload_n 0, 1) := by decide +kernel
theorem dX3_signPart_52 : decode cX3_signPart 52 = .ok (.iload_n 2, 1) := by decide +kernel
theorem dX3_signPart_53 : decode cX3_signPart 53 = .ok (.iload_n 3, 1) := by decide +kernel
theorem dX3_signPart_54 : decode cX3_signPart 54 = .ok (.iload 4, 2) := by decide +kernel
theorem dX3_signPart_56 : decode cX3_signPart 56 = .ok (.invokevirtual 91, 3) := by decide +kernel
theorem dX3_signPart_59 : decode cX3_signPart 59 = .ok (.ireturn, 1) := by decide +kernel
theorem dX3_isNothingNewBesideOthers_0 : decode cX3_isNothingNewBesideOthers 0 = .ok (.aload_n 0, 1) := by decide +kernel
theorem dX3_isNothingNewBesideOthers_1 : decode cX3_isNothingNewBesideOthers 1 = .ok (.getfield 10, 3) := by decide +kernel
theorem dX3_isNothingNewBesideOthers_4 : decode cX3_isNothingNewBesideOthers 4 = .ok (.getfield 150, 3) := by decide +kernel
theorem dX3_isNothingNewBesideOthers_7 : decode cX3_isNothingNewBesideOthers 7 = .ok (.iload_n 1, 1) := by decide +kernel
theorem dX3_isNothingNewBesideOthers_8 : decode cX3_isNothingNewBesideOthers 8 = .ok (.iaload, 1) := by decide +kernel
theorem dX3_isNothingNewBesideOthers_9 : decode cX3_isNothingNewBesideOthers 9 = .ok (.istore_n 2, 1) := by decide +kernel
theorem dX3_isNothingNewBesideOthers_10 : decode cX3_isNothingNewBesideOthers 10 = .ok (.aload_n 0, 1) := by decide +kernel
theorem dX3_isNothingNewBesideOthers_11 : decode cX3_isNothingNewBesideOthers 11 = .ok (.getfield 10, 3) := by decide +kernel
theorem dX3_isNothingNewBesideOthers_14 : decode cX3_isNothingNewBesideOthers 14 = .ok (.getfield 153, 3) := by decide +kernel
theorem dX3_isNothingNewBesideOthers_17 : decode cX3_isNothingNewBesideOthers 17 = .ok (.iload_n 1, 1) := by decide +kernel
theorem dX3_isNothingNewBesideOthers_18 : decode cX3_isNothingNewBesideOthers 18 = .ok (.iaload, 1) := by decide +kernel
theorem dX3_isNothingNewBesideOthers_19 : decode cX3_isNothingNewBesideOthers 19 = .ok (.istore_n 3, 1) := by decide +kernel
theorem dX3_isNothingNewBesideOthers_20 : decode cX3_isNothingNewBesideOthers 20 = .ok (.aload_n 0, 1) := by decide +kernel
theorem dX3_isNothingNewBesideOthers_21 : decode cX3_isNothingNewBesideOthers 21 = .ok (.getfield 26, 3) := by decide +kernel
theorem dX3_isNothingNewBesideOthers_24 : decode cX3_isNothingNewBesideOthers 24 = .ok (.aload_n 0, 1) := by decide +kernel
theorem dX3_isNothingNewBesideOthers_25 : decode cX3_isNothingNewBesideOthers 25 = .ok (.getfield 10, 3) := by decide +kernel
theorem dX3_isNothingNewBesideOthers_28 : decode cX3_isNothingNewBesideOthers 28 = .ok (.iload_n 2, 1) := by decide +kernel
theorem dX3_isNothingNewBesideOthers_29 : decode cX3_isNothingNewBesideOthers 29 = .ok (.iload_n 3, 1) := by decide +kernel
theorem dX3_isNothingNewBesideOthers_30 : decode cX3_isNothingNewBesideOthers 30 = .ok (.iload_n 1, 1) := by decide +kernel
theorem dX3_isNothingNewBesideOthers_31 : decode cX3_isNothingNewBesideOthers 31 = .ok (.invokevirtual 165, 3) := by decide +kernel
theorem dX3_isNothingNewBesideOthers_34 : decode cX3_isNothingNewBesideOthers 34 = .ok (.aload_n 0, 1) := by decide +kernel
theorem dX3_isNothingNewBesideOthers_35 : decode cX3_isNothingNewBesideOthers 35 = .ok (.getfield 10, 3) := by decide +kernel
theorem dX3_isNothingNewBesideOthers_38 : decode cX3_isNothingNewBesideOthers 38 = .ok (.getfield 156, 3) := by decide +kernel
theorem dX3_isNothingNewBesideOthers_41 : decode cX3_isNothingNewBesideOthers 41 = .ok (.iload_n 1, 1) := by decide +kernel
theorem dX3_isNothingNewBesideOthers_42 : decode cX3_isNothingNewBesideOthers 42 = .ok (.iaload, 1) := by decide +kernel
theorem dX3_isNothingNewBesideOthers_43 : decode cX3_isNothingNewBesideOthers 43 = .ok (.if_icmp .gt 7, 3) := by decide +kernel
theorem dX3_isNothingNewBesideOthers_46 : decode cX3_isNothingNewBesideOthers 46 = .ok (.iconst 1, 1) := by decide +kernel
theorem dX3_isNothingNewBesideOthers_47 : decode cX3_isNothingNewBesideOthers 47 = .ok (.goto 4, 3) := by decide +kernel
theorem dX3_isNothingNewBesideOthers_50 : decode cX3_isNothingNewBesideOthers 50 = .ok (.iconst 0, 1) := by decide +kernel
theorem dX3_isNothingNewBesideOthers_51 : decode cX3_isNothingNewBesideOthers 51 = .ok (.ireturn, 1) := by decide +kernel
end
section
theorem dL_lot_0 : decode cL_lot 0 = .ok (.iload_n 1, 1) := by decide +kernel
theorem dL_lot_1 : decode cL_lot 1 = .ok (.aload_n 0, 1) := by decide +kernel
theorem dL_lot_2 : decode cL_lot 2 = .ok (.arraylength, 1) := by decide +kernel
theorem dL_lot_3 : decode cL_lot 3 = .ok (.if_icmp .ge 9, 3) := by decide +kernel
theorem dL_lot_6 : decode cL_lot 6 = .ok (.aload_n 0, 1) := by decide +kernel
theorem dL_lot_7 : decode cL_lot 7 = .ok (.iload_n 1, 1) := by decide +kernel
theorem dL_lot_8 : decode cL_lot 8 = .ok (.iaload, 1) := by decide +kernel
theorem dL_lot_9 : decode cL_lot 9 = .ok (.goto 15, 3) := by decide +kernel
theorem dL_lot_12 : decode cL_lot 12 = .ok (.ldc 7, 2) := by decide +kernel
theorem dL_lot_14 : decode cL_lot 14 = .ok (.iload_n 1, 1) := by decide +kernel
theorem dL_lot_15 : decode cL_lot 15 = .ok (.sipush 4831, 3) := by decide +kernel
theorem dL_lot_18 : decode cL_lot 18 = .ok (.iadd, 1) := by decide +kernel
theorem dL_lot_19 : decode cL_lot 19 = .ok (.imul, 1) := by decide +kernel
theorem dL_lot_20 : decode cL_lot 20 = .ok (.sipush 4621, 3) := by decide +kernel
theorem dL_lot_23 : decode cL_lot 23 = .ok (.iadd, 1) := by decide +kernel
theorem dL_lot_24 : decode cL_lot 24 = .ok (.ireturn, 1) := by decide +kernel
theorem dL_low_0 : decode cL_low 0 = .ok (.iload_n 0, 1) := by decide +kernel
theorem dL_low_1 : decode cL_low 1 = .ok (.ldc 8, 2) := by decide +kernel
theorem dL_low_3 : decode cL_low 3 = .ok (.iand, 1) := by decide +kernel
theorem dL_low_4 : decode cL_low 4 = .ok (.iload_n 1, 1) := by decide +kernel
theorem dL_low_5 : decode cL_low 5 = .ok (.irem, 1) := by decide +kernel
theorem dL_low_6 : decode cL_low 6 = .ok (.ireturn, 1) := by decide +kernel
theorem dL_look_0 : decode cL_look 0 = .ok (.ldc2_w 9, 3) := by decide +kernel
theorem dL_look_3 : decode cL_look 3 = .ok (.lstore_n 1, 1) := by decide +kernel
theorem dL_look_4 : decode cL_look 4 = .ok (.iconst 0, 1) := by decide +kernel
theorem dL_look_5 : decode cL_look 5 = .ok (.istore_n 3, 1) := by decide +kernel
theorem dL_look_6 : decode cL_look 6 = .ok (.iload_n 3, 1) := by decide +kernel
theorem dL_look_7 : decode cL_look 7 = .ok (.bipush 11, 2) := by decide +kernel
theorem dL_look_9 : decode cL_look 9 = .ok (.if_icmp .ge 22, 3) := by decide +kernel
theorem dL_look_12 : decode cL_look 12 = .ok (.ldc2_w 11, 3) := by decide +kernel
theorem dL_look_15 : decode cL_look 15 = .ok (.lload_n 1, 1) := by decide +kernel
theorem dL_look_16 : decode cL_look 16 = .ok (.lmul, 1) := by decide +kernel
theorem dL_look_17 : decode cL_look 17 = .ok (.aload_n 0, 1) := by decide +kernel
theorem dL_look_18 : decode cL_look 18 = .ok (.iload_n 3, 1) := by decide +kernel
theorem dL_look_19 : decode cL_look 19 = .ok (.invokevirtual 13, 3) := by decide +kernel
theorem dL_look_22 : decode cL_look 22 = .ok (.i2l, 1) := by decide +kernel
theorem dL_look_23 : decode cL_look 23 = .ok (.ladd, 1) := by decide +kernel
theorem dL_look_24 : decode cL_look 24 = .ok (.lstore_n 1, 1) := by decide +kernel
theorem dL_look_25 : decode cL_look 25 = .ok (.iinc 3 1, 3) := by decide +kernel
theorem dL_look_28 : decode cL_look 28 = .ok (.goto (-22), 3) := by decide +kernel
theorem dL_look_31 : decode cL_look 31 = .ok (.iconst 0, 1) := by decide +kernel
theorem dL_look_32 : decode cL_look 32 = .ok (.istore_n 3, 1) := by decide +kernel
theorem dL_look_33 : decode cL_look 33 = .ok (.iload_n 3, 1) := by decide +kernel
theorem dL_look_34 : decode cL_look 34 = .ok (.bipush 8, 2) := by decide +kernel
theorem dL_look_36 : decode cL_look 36 = .ok (.if_icmp .ge 60, 3) := by decide +kernel
theorem dL_look_39 : decode cL_look 39 = .ok (.ldc2_w 11, 3) := by decide +kernel
theorem dL_look_42 : decode cL_look 42 = .ok (.ldc2_w 11, 3) := by decide +kernel
theorem dL_look_45 : decode cL_look 45 = .ok (.ldc2_w 11, 3) := by decide +kernel
theorem dL_look_48 : decode cL_look 48 = .ok (.ldc2_w 11, 3) := by decide +kernel
theorem dL_look_51 : decode cL_look 51 = .ok (.lload_n 1, 1) := by decide +kernel
theorem dL_look_52 : decode cL_look 52 = .ok (.lmul, 1) := by decide +kernel
theorem dL_look_53 : decode cL_look 53 = .ok (.aload_n 0, 1) := by decide +kernel
theorem dL_look_54 : decode cL_look 54 = .ok (.iload_n 3, 1) := by decide +kernel
theorem dL_look_55 : decode cL_look 55 = .ok (.iconst 0, 1) := by decide +kernel
theorem dL_look_56 : decode cL_look 56 = .ok (.invokevirtual 19, 3) := by decide +kernel
theorem dL_look_59 : decode cL_look 59 = .ok (.i2l, 1) := by decide +kernel
theorem dL_look_60 : decode cL_look 60 = .ok (.ladd, 1) := by decide +kernel
theorem dL_look_61 : decode cL_look 61 = .ok (.lmul, 1) := by decide +kernel
theorem dL_look_62 : decode cL_look 62 = .ok (.aload_n 0, 1) := by decide +kernel
theorem dL_look_63 : decode cL_look 63 = .ok (.iload_n 3, 1) := by decide +kernel
theorem dL_look_64 : decode cL_look 64 = .ok (.iconst 1, 1) := by decide +kernel
theorem dL_look_65 : decode cL_look 65 = .ok (.invokevirtual 19, 3) := by decide +kernel
theorem dL_look_68 : decode cL_look 68 = .ok (.i2l, 1) := by decide +kernel
theorem dL_look_69 : decode cL_look 69 = .ok (.ladd, 1) := by decide +kernel
theorem dL_look_70 : decode cL_look 70 = .ok (.lmul, 1) := by decide +kernel
theorem dL_look_71 : decode cL_look 71 = .ok (.aload_n 0, 1) := by decide +kernel
theorem dL_look_72 : decode cL_look 72 = .ok (.iload_n 3, 1) := by decide +kernel
theorem dL_look_73 : decode cL_look 73 = .ok (.iconst 3, 1) := by decide +kernel
theorem dL_look_74 : decode cL_look 74 = .ok (.invokevirtual 19, 3) := by decide +kernel
theorem dL_look_77 : decode cL_look 77 = .ok (.i2l, 1) := by decide +kernel
theorem dL_look_78 : decode cL_look 78 = .ok (.ladd, 1) := by decide +kernel
theorem dL_look_79 : decode cL_look 79 = .ok (.lmul, 1) := by decide +kernel
theorem dL_look_80 : decode cL_look 80 = .ok (.aload_n 0, 1) := by decide +kernel
theorem dL_look_81 : decode cL_look 81 = .ok (.iload_n 3, 1) := by decide +kernel
theorem dL_look_82 : decode cL_look 82 = .ok (.bipush 7, 2) := by decide +kernel
theorem dL_look_84 : decode cL_look 84 = .ok (.invokevirtual 19, 3) := by decide +kernel
theorem dL_look_87 : decode cL_look 87 = .ok (.i2l, 1) := by decide +kernel
theorem dL_look_88 : decode cL_look 88 = .ok (.ladd, 1) := by decide +kernel
theorem dL_look_89 : decode cL_look 89 = .ok (.lstore_n 1, 1) := by decide +kernel
theorem dL_look_90 : decode cL_look 90 = .ok (.iinc 3 1, 3) := by decide +kernel
theorem dL_look_93 : decode cL_look 93 = .ok (.goto (-60), 3) := by decide +kernel
theorem dL_look_96 : decode cL_look 96 = .ok (.iconst 0, 1) := by decide +kernel
theorem dL_look_97 : decode cL_look 97 = .ok (.istore_n 3, 1) := by decide +kernel
theorem dL_look_98 : decode cL_look 98 = .ok (.iload_n 3, 1) := by decide +kernel
theorem dL_look_99 : decode cL_look 99 = .ok (.aload_n 0, 1) := by decide +kernel
theorem dL_look_100 : decode cL_look 100 = .ok (.iconst 1, 1) := by decide +kernel
theorem dL_look_101 : decode cL_look 101 = .ok (.invokevirtual 13, 3) := by decide +kernel
theorem dL_look_104 : decode cL_look 104 = .ok (.if_icmp .ge 60, 3) := by decide +kernel
theorem dL_look_107 : decode cL_look 107 = .ok (.ldc2_w 11, 3) := by decide +kernel
theorem dL_look_110 : decode cL_look 110 = .ok (.ldc2_w 11, 3) := by decide +kernel
theorem dL_look_113 : decode cL_look 113 = .ok (.ldc2_w 11, 3) := by decide +kernel
theorem dL_look_116 : decode cL_look 116 = .ok (.ldc2_w 11, 3) := by decide +kernel
theorem dL_look_119 : decode cL_look 119 = .ok (.lload_n 1, 1) := by decide +kernel
theorem dL_look_120 : decode cL_look 120 = .ok (.lmul, 1) := by decide +kernel
theorem dL_look_121 : decode cL_look 121 = .ok (.aload_n 0, 1) := by decide +kernel
theorem dL_look_122 : decode cL_look 122 = .ok (.iload_n 3, 1) := by decide +kernel
theorem dL_look_123 : decode cL_look 123 = .ok (.iconst 0, 1) := by decide +kernel
theorem dL_look_124 : decode cL_look 124 = .ok (.invokevirtual 23, 3) := by decide +kernel
theorem dL_look_127 : decode cL_look 127 = .ok (.i2l, 1) := by decide +kernel
theorem dL_look_128 : decode cL_look 128 = .ok (.ladd, 1) := by decide +kernel
theorem dL_look_129 : decode cL_look 129 = .ok (.lmul, 1) := by decide +kernel
theorem dL_look_130 : decode cL_look 130 = .ok (.aload_n 0, 1) := by decide +kernel
theorem dL_look_131 : decode cL_look 131 = .ok (.iload_n 3, 1) := by decide +kernel
theorem dL_look_132 : decode cL_look 132 = .ok (.iconst 1, 1) := by decide +kernel
theorem dL_look_133 : decode cL_look 133 = .ok (.invokevirtual 23, 3) := by decide +kernel
theorem dL_look_136 : decode cL_look 136 = .ok (.i2l, 1) := by decide +kernel
theorem dL_look_137 : decode cL_look 137 = .ok (.ladd, 1) := by decide +kernel
theorem dL_look_138 : decode cL_look 138 = .ok (.lmul, 1) := by decide +kernel
theorem dL_look_139 : decode cL_look 139 = .ok (.aload_n 0, 1) := by decide +kernel
theorem dL_look_140 : decode cL_look 140 = .ok (.iload_n 3, 1) := by decide +kernel
theorem dL_look_141 : decode cL_look 141 = .ok (.iconst 2, 1) := by decide +kernel
theorem dL_look_142 : decode cL_look 142 = .ok (.invokevirtual 23, 3) := by decide +kernel
theorem dL_look_145 : decode cL_look 145 = .ok (.i2l, 1) := by decide +kernel
theorem dL_look_146 : decode cL_look 146 = .ok (.ladd, 1) := by decide +kernel
theorem dL_look_147 : decode cL_look 147 = .ok (.lmul, 1) := by decide +kernel
theorem dL_look_148 : decode cL_look 148 = .ok (.aload_n 0, 1) := by decide +kernel
theorem dL_look_149 : decode cL_look 149 = .ok (.iload_n 3, 1) := by decide +kernel
theorem dL_look_150 : decode cL_look 150 = .ok (.bipush 6, 2) := by decide +kernel
theorem dL_look_152 : decode cL_look 152 = .ok (.invokevirtual 23, 3) := by decide +kernel
theorem dL_look_155 : decode cL_look 155 = .ok (.i2l, 1) := by decide +kernel
theorem dL_look_156 : decode cL_look 156 = .ok (.ladd, 1) := by decide +kernel
theorem dL_look_157 : decode cL_look 157 = .ok (.lstore_n 1, 1) := by decide +kernel
theorem dL_look_158 : decode cL_look 158 = .ok (.iinc 3 1, 3) := by decide +kernel
theorem dL_look_161 : decode cL_look 161 = .ok (.goto (-63), 3) := by decide +kernel
theorem dL_look_164 : decode cL_look 164 = .ok (.lload_n 1, 1) := by decide +kernel
theorem dL_look_165 : decode cL_look 165 = .ok (.lreturn, 1) := by decide +kernel
theorem dL_holds_0 : decode cL_holds 0 = .ok (.aload_n 0, 1) := by decide +kernel
theorem dL_holds_1 : decode cL_holds 1 = .ok (.iconst 0, 1) := by decide +kernel
theorem dL_holds_2 : decode cL_holds 2 = .ok (.invokevirtual 13, 3) := by decide +kernel
theorem dL_holds_5 : decode cL_holds 5 = .ok (.istore_n 1, 1) := by decide +kernel
theorem dL_holds_6 : decode cL_holds 6 = .ok (.iconst 0, 1) := by decide +kernel
theorem dL_holds_7 : decode cL_holds 7 = .ok (.istore_n 2, 1) := by decide +kernel
theorem dL_holds_8 : decode cL_holds 8 = .ok (.iconst 0, 1) := by decide +kernel
theorem dL_holds_9 : decode cL_holds 9 = .ok (.istore_n 3, 1) := by decide +kernel
theorem dL_holds_10 : decode cL_holds 10 = .ok (.iconst 0, 1) := by decide +kernel
theorem dL_holds_11 : decode cL_holds 11 = .ok (.istore 4, 2) := by decide +kernel
theorem dL_holds_13 : decode cL_holds 13 = .ok (.iconst 0, 1) := by decide +kernel
theorem dL_holds_14 : decode cL_holds 14 = .ok (.istore 5, 2) := by decide +kernel
theorem dL_holds_16 : decode cL_holds 16 = .ok (.iconst 0, 1) := by decide +kernel
theorem dL_holds_17 : decode cL_holds 17 = .ok (.istore 6, 2) := by decide +kernel
theorem dL_holds_19 : decode cL_holds 19 = .ok (.iconst 0, 1) := by decide +kernel
theorem dL_holds_20 : decode cL_holds 20 = .ok (.istore 7, 2) := by decide +kernel
theorem dL_holds_22 : decode cL_holds 22 = .ok (.aload_n 0, 1) := by decide +kernel
theorem dL_holds_23 : decode cL_holds 23 = .ok (.iconst 0, 1) := by decide +kernel
theorem dL_holds_24 : decode cL_holds 24 = .ok (.invokevirtual 26, 3) := by decide +kernel
theorem dL_holds_27 : decode cL_holds 27 = .ok (.istore 8, 2) := by decide +kernel
theorem dL_holds_29 : decode cL_holds 29 = .ok (.iload_n 1, 1) := by decide +kernel
theorem dL_holds_30 : decode cL_holds 30 = .ok (.ifCond .lt 81, 3) := by decide +kernel
theorem dL_holds_33 : decode cL_holds 33 = .ok (.aload_n 0, 1) := by decide +kernel
theorem dL_holds_34 : decode cL_holds 34 = .ok (.iconst 1, 1) := by decide +kernel
theorem dL_holds_35 : decode cL_holds 35 = .ok (.invokevirtual 13, 3) := by decide +kernel
theorem dL_holds_38 : decode cL_holds 38 = .ok (.ifCond .lt 73, 3) := by decide +kernel
theorem dL_holds_41 : decode cL_holds 41 = .ok (.aload_n 0, 1) := by decide +kernel
theorem dL_holds_42 : decode cL_holds 42 = .ok (.iconst 1, 1) := by decide +kernel
theorem dL_holds_43 : decode cL_holds 43 = .ok (.invokevirtual 13, 3) := by decide +kernel
theorem dL_holds_46 : decode cL_holds 46 = .ok (.bipush 14, 2) := by decide +kernel
theorem dL_holds_48 : decode cL_holds 48 = .ok (.if_icmp .gt 63, 3) := by decide +kernel
theorem dL_holds_51 : decode cL_holds 51 = .ok (.aload_n 0, 1) := by decide +kernel
theorem dL_holds_52 : decode cL_holds 52 = .ok (.bipush 6, 2) := by decide +kernel
theorem dL_holds_54 : decode cL_holds 54 = .ok (.invokevirtual 13, 3) := by decide +kernel
theorem dL_holds_57 : decode cL_holds 57 = .ok (.ifCond .lt 54, 3) := by decide +kernel
theorem dL_holds_60 : decode cL_holds 60 = .ok (.iload 8, 2) := by decide +kernel
theorem dL_holds_62 : decode cL_holds 62 = .ok (.aload_n 0, 1) := by decide +kernel
theorem dL_holds_63 : decode cL_holds 63 = .ok (.iconst 1, 1) := by decide +kernel
theorem dL_holds_64 : decode cL_holds 64 = .ok (.invokevirtual 26, 3) := by decide +kernel
theorem dL_holds_67 : decode cL_holds 67 = .ok (.if_icmp .ne 44, 3) := by decide +kernel
theorem dL_holds_70 : decode cL_holds 70 = .ok (.iload 8, 2) := by decide +kernel
theorem dL_holds_72 : decode cL_holds 72 = .ok (.bipush (-4), 2) := by decide +kernel
theorem dL_holds_74 : decode cL_holds 74 = .ok (.if_icmp .eq 8, 3) := by decide +kernel
theorem dL_holds_77 : decode cL_holds 77 = .ok (.iload 8, 2) := by decide +kernel
theorem dL_holds_79 : decode cL_holds 79 = .ok (.ifCond .lt 32, 3) := by decide +kernel
theorem dL_holds_82 : decode cL_holds 82 = .ok (.aload_n 0, 1) := by decide +kernel
theorem dL_holds_83 : decode cL_holds 83 = .ok (.bipush 8, 2) := by decide +kernel
theorem dL_holds_85 : decode cL_holds 85 = .ok (.iconst 0, 1) := by decide +kernel
theorem dL_holds_86 : decode cL_holds 86 = .ok (.invokevirtual 19, 3) := by decide +kernel
theorem dL_holds_89 : decode cL_holds 89 = .ok (.iconst (-1), 1) := by decide +kernel
theorem dL_holds_90 : decode cL_holds 90 = .ok (.if_icmp .ne 21, 3) := by decide +kernel
theorem dL_holds_93 : decode cL_holds 93 = .ok (.aload_n 0, 1) := by decide +kernel
theorem dL_holds_94 : decode cL_holds 94 = .ok (.aload_n 0, 1) := by decide +kernel
theorem dL_holds_95 : decode cL_holds 95 = .ok (.iconst 1, 1) := by decide +kernel
theorem dL_holds_96 : decode cL_holds 96 = .ok (.invokevirtual 13, 3) := by decide +kernel
theorem dL_holds_99 : decode cL_holds 99 = .ok (.iconst 0, 1) := by decide +kernel
theorem dL_holds_100 : decode cL_holds 100 = .ok (.invokevirtual 23, 3) := by decide +kernel
theorem dL_holds_103 : decode cL_holds 103 = .ok (.iconst (-1), 1) := by decide +kernel
theorem dL_holds_104 : decode cL_holds 104 = .ok (.if_icmp .ne 7, 3) := by decide +kernel
theorem dL_holds_107 : decode cL_holds 107 = .ok (.iconst 1, 1) := by decide +kernel
theorem dL_holds_108 : decode cL_holds 108 = .ok (.goto 4, 3) := by decide +kernel
theorem dL_holds_111 : decode cL_holds 111 = .ok (.iconst 0, 1) := by decide +kernel
theorem dL_holds_112 : decode cL_holds 112 = .ok (.istore 9, 2) := by decide +kernel
theorem dL_holds_114 : decode cL_holds 114 = .ok (.iconst 0, 1) := by decide +kernel
theorem dL_holds_115 : decode cL_holds 115 = .ok (.istore 10, 2) := by decide +kernel
theorem dL_holds_117 : decode cL_holds 117 = .ok (.iload 10, 2) := by decide +kernel
theorem dL_holds_119 : decode cL_holds 119 = .ok (.aload_n 0, 1) := by decide +kernel
theorem dL_holds_120 : decode cL_holds 120 = .ok (.iconst 1, 1) := by decide +kernel
theorem dL_holds_121 : decode cL_holds 121 = .ok (.invokevirtual 13, 3) := by decide +kernel
theorem dL_holds_124 : decode cL_holds 124 = .ok (.if_icmp .ge 286, 3) := by decide +kernel
theorem dL_holds_127 : decode cL_holds 127 = .ok (.iload 9, 2) := by decide +kernel
theorem dL_holds_129 : decode cL_holds 129 = .ok (.ifCond .eq 281, 3) := by decide +kernel
theorem dL_holds_132 : decode cL_holds 132 = .ok (.aload_n 0, 1) := by decide +kernel
theorem dL_holds_133 : decode cL_holds 133 = .ok (.iload 10, 2) := by decide +kernel
theorem dL_holds_135 : decode cL_holds 135 = .ok (.iconst 0, 1) := by decide +kernel
theorem dL_holds_136 : decode cL_holds 136 = .ok (.invokevirtual 23, 3) := by decide +kernel
theorem dL_holds_139 : decode cL_holds 139 = .ok (.istore 11, 2) := by decide +kernel
theorem dL_holds_141 : decode cL_holds 141 = .ok (.aload_n 0, 1) := by decide +kernel
theorem dL_holds_142 : decode cL_holds 142 = .ok (.iload 10, 2) := by decide +kernel
theorem dL_holds_144 : decode cL_holds 144 = .ok (.iconst 1, 1) := by decide +kernel
theorem dL_holds_145 : decode cL_holds 145 = .ok (.invokevirtual 23, 3) := by decide +kernel
theorem dL_holds_148 : decode cL_holds 148 = .ok (.istore 12, 2) := by decide +kernel
theorem dL_holds_150 : decode cL_holds 150 = .ok (.aload_n 0, 1) := by decide +kernel
theorem dL_holds_151 : decode cL_holds 151 = .ok (.iload 10, 2) := by decide +kernel
theorem dL_holds_153 : decode cL_holds 153 = .ok (.iconst 2, 1) := by decide +kernel
theorem dL_holds_154 : decode cL_holds 154 = .ok (.invokevirtual 23, 3) := by decide +kernel
theorem dL_holds_157 : decode cL_holds 157 = .ok (.bipush 100, 2) := by decide +kernel
theorem dL_holds_159 : decode cL_holds 159 = .ok (.isub, 1) := by decide +kernel
theorem dL_holds_160 : decode cL_holds 160 = .ok (.istore 13, 2) := by decide +kernel
theorem dL_holds_162 : decode cL_holds 162 = .ok (.iload 13, 2) := by decide +kernel
theorem dL_holds_164 : decode cL_holds 164 = .ok (.aload_n 0, 1) := by decide +kernel
theorem dL_holds_165 : decode cL_holds 165 = .ok (.iload 12, 2) := by decide +kernel
theorem dL_holds_167 : decode cL_holds 167 = .ok (.iconst 0, 1) := by decide +kernel
theorem dL_holds_168 : decode cL_holds 168 = .ok (.invokevirtual 19, 3) := by decide +kernel
theorem dL_holds_171 : decode cL_holds 171 = .ok (.iadd, 1) := by decide +kernel
theorem dL_holds_172 : decode cL_holds 172 = .ok (.aload_n 0, 1) := by decide +kernel
theorem dL_holds_173 : decode cL_holds 173 = .ok (.iload 11, 2) := by decide +kernel
theorem dL_holds_175 : decode cL_holds 175 = .ok (.iconst 0, 1) := by decide +kernel
theorem dL_holds_176 : decode cL_holds 176 = .ok (.invokevirtual 19, 3) := by decide +kernel
theorem dL_holds_179 : decode cL_holds 179 = .ok (.isub, 1) := by decide +kernel
theorem dL_holds_180 : decode cL_holds 180 = .ok (.istore 14, 2) := by decide +kernel
theorem dL_holds_182 : decode cL_holds 182 = .ok (.iload_n 1, 1) := by decide +kernel
theorem dL_holds_183 : decode cL_holds 183 = .ok (.aload_n 0, 1) := by decide +kernel
theorem dL_holds_184 : decode cL_holds 184 = .ok (.iload 10, 2) := by decide +kernel
theorem dL_holds_186 : decode cL_holds 186 = .ok (.bipush 6, 2) := by decide +kernel
theorem dL_holds_188 : decode cL_holds 188 = .ok (.invokevirtual 23, 3) := by decide +kernel
theorem dL_holds_191 : decode cL_holds 191 = .ok (.if_icmp .lt 7, 3) := by decide +kernel
theorem dL_holds_194 : decode cL_holds 194 = .ok (.iconst 1, 1) := by decide +kernel
theorem dL_holds_195 : decode cL_holds 195 = .ok (.goto 4, 3) := by decide +kernel
theorem dL_holds_198 : decode cL_holds 198 = .ok (.iconst 0, 1) := by decide +kernel
theorem dL_holds_199 : decode cL_holds 199 = .ok (.istore 15, 2) := by decide +kernel
theorem dL_holds_201 : decode cL_holds 201 = .ok (.iload 5, 2) := by decide +kernel
theorem dL_holds_203 : decode cL_holds 203 = .ok (.iload 15, 2) := by decide +kernel
theorem dL_holds_205 : decode cL_holds 205 = .ok (.ifCond .eq 7, 3) := by decide +kernel
theorem dL_holds_208 : decode cL_holds 208 = .ok (.iconst 1, 1) := by decide +kernel
theorem dL_holds_209 : decode cL_holds 209 = .ok (.goto 4, 3) := by decide +kernel
theorem dL_holds_212 : decode cL_holds 212 = .ok (.iconst 0, 1) := by decide +kernel
theorem dL_holds_213 : decode cL_holds 213 = .ok (.iadd, 1) := by decide +kernel
theorem dL_holds_214 : decode cL_holds 214 = .ok (.istore 5, 2) := by decide +kernel
theorem dL_holds_216 : decode cL_holds 216 = .ok (.iload 6, 2) := by decide +kernel
theorem dL_holds_218 : decode cL_holds 218 = .ok (.iload 15, 2) := by decide +kernel
theorem dL_holds_220 : decode cL_holds 220 = .ok (.ifCond .eq 12, 3) := by decide +kernel
theorem dL_holds_223 : decode cL_holds 223 = .ok (.iload 14, 2) := by decide +kernel
theorem dL_holds_225 : decode cL_holds 225 = .ok (.ifCond .ge 7, 3) := by decide +kernel
theorem dL_holds_228 : decode cL_holds 228 = .ok (.iconst 1, 1) := by decide +kernel
theorem dL_holds_229 : decode cL_holds 229 = .ok (.goto 4, 3) := by decide +kernel
theorem dL_holds_232 : decode cL_holds 232 = .ok (.iconst 0, 1) := by decide +kernel
theorem dL_holds_233 : decode cL_holds 233 = .ok (.iadd, 1) := by decide +kernel
theorem dL_holds_234 : decode cL_holds 234 = .ok (.istore 6, 2) := by decide +kernel
theorem dL_holds_236 : decode cL_holds 236 = .ok (.iload 11, 2) := by decide +kernel
theorem dL_holds_238 : decode cL_holds 238 = .ok (.ifCond .lt 163, 3) := by decide +kernel
theorem dL_holds_241 : decode cL_holds 241 = .ok (.iload 11, 2) := by decide +kernel
theorem dL_holds_243 : decode cL_holds 243 = .ok (.bipush 8, 2) := by decide +kernel
theorem dL_holds_245 : decode cL_holds 245 = .ok (.if_icmp .ge 156, 3) := by decide +kernel
theorem dL_holds_248 : decode cL_holds 248 = .ok (.iload 12, 2) := by decide +kernel
theorem dL_holds_250 : decode cL_holds 250 = .ok (.ifCond .lt 151, 3) := by decide +kernel
theorem dL_holds_253 : decode cL_holds 253 = .ok (.iload 12, 2) := by decide +kernel
theorem dL_holds_255 : decode cL_holds 255 = .ok (.bipush 8, 2) := by decide +kernel
theorem dL_holds_257 : decode cL_holds 257 = .ok (.if_icmp .ge 144, 3) := by decide +kernel
theorem dL_holds_260 : decode cL_holds 260 = .ok (.iload 11, 2) := by decide +kernel
theorem dL_holds_262 : decode cL_holds 262 = .ok (.iload 12, 2) := by decide +kernel
theorem dL_holds_264 : decode cL_holds 264 = .ok (.if_icmp .eq 137, 3) := by decide +kernel
theorem dL_holds_267 : decode cL_holds 267 = .ok (.iload 13, 2) := by decide +kernel
theorem dL_holds_269 : decode cL_holds 269 = .ok (.bipush (-30), 2) := by decide +kernel
theorem dL_holds_271 : decode cL_holds 271 = .ok (.if_icmp .lt 130, 3) := by decide +kernel
theorem dL_holds_274 : decode cL_holds 274 = .ok (.iload 13, 2) := by decide +kernel
theorem dL_holds_276 : decode cL_holds 276 = .ok (.bipush 60, 2) := by decide +kernel
theorem dL_holds_278 : decode cL_holds 278 = .ok (.if_icmp .gt 123, 3) := by decide +kernel
theorem dL_holds_281 : decode cL_holds 281 = .ok (.aload_n 0, 1) := by decide +kernel
theorem dL_holds_282 : decode cL_holds 282 = .ok (.iload 10, 2) := by decide +kernel
theorem dL_holds_284 : decode cL_holds 284 = .ok (.iconst 3, 1) := by decide +kernel
theorem dL_holds_285 : decode cL_holds 285 = .ok (.invokevirtual 23, 3) := by decide +kernel
theorem dL_holds_288 : decode cL_holds 288 = .ok (.iload 15, 2) := by decide +kernel
theorem dL_holds_290 : decode cL_holds 290 = .ok (.ifCond .eq 7, 3) := by decide +kernel
theorem dL_holds_293 : decode cL_holds 293 = .ok (.iconst 1, 1) := by decide +kernel
theorem dL_holds_294 : decode cL_holds 294 = .ok (.goto 4, 3) := by decide +kernel
theorem dL_holds_297 : decode cL_holds 297 = .ok (.iconst 0, 1) := by decide +kernel
theorem dL_holds_298 : decode cL_holds 298 = .ok (.if_icmp .ne 103, 3) := by decide +kernel
theorem dL_holds_301 : decode cL_holds 301 = .ok (.aload_n 0, 1) := by decide +kernel
theorem dL_holds_302 : decode cL_holds 302 = .ok (.iload 10, 2) := by decide +kernel
theorem dL_holds_304 : decode cL_holds 304 = .ok (.iconst 4, 1) := by decide +kernel
theorem dL_holds_305 : decode cL_holds 305 = .ok (.invokevirtual 23, 3) := by decide +kernel
theorem dL_holds_308 : decode cL_holds 308 = .ok (.iload 15, 2) := by decide +kernel
theorem dL_holds_310 : decode cL_holds 310 = .ok (.ifCond .eq 12, 3) := by decide +kernel
theorem dL_holds_313 : decode cL_holds 313 = .ok (.iload 14, 2) := by decide +kernel
theorem dL_holds_315 : decode cL_holds 315 = .ok (.ifCond .ge 7, 3) := by decide +kernel
theorem dL_holds_318 : decode cL_holds 318 = .ok (.iconst 1, 1) := by decide +kernel
theorem dL_holds_319 : decode cL_holds 319 = .ok (.goto 4, 3) := by decide +kernel
theorem dL_holds_322 : decode cL_holds 322 = .ok (.iconst 0, 1) := by decide +kernel
theorem dL_holds_323 : decode cL_holds 323 = .ok (.if_icmp .ne 78, 3) := by decide +kernel
theorem dL_holds_326 : decode cL_holds 326 = .ok (.aload_n 0, 1) := by decide +kernel
theorem dL_holds_327 : decode cL_holds 327 = .ok (.iload 10, 2) := by decide +kernel
theorem dL_holds_329 : decode cL_holds 329 = .ok (.iconst 5, 1) := by decide +kernel
theorem dL_holds_330 : decode cL_holds 330 = .ok (.invokevirtual 23, 3) := by decide +kernel
theorem dL_holds_333 : decode cL_holds 333 = .ok (.sipush 1000, 3) := by decide +kernel
theorem dL_holds_336 : decode cL_holds 336 = .ok (.iload 14, 2) := by decide +kernel
theorem dL_holds_338 : decode cL_holds 338 = .ok (.iadd, 1) := by decide +kernel
theorem dL_holds_339 : decode cL_holds 339 = .ok (.if_icmp .ne 62, 3) := by decide +kernel
theorem dL_holds_342 : decode cL_holds 342 = .ok (.iload 15, 2) := by decide +kernel
theorem dL_holds_344 : decode cL_holds 344 = .ok (.ifCond .eq 21, 3) := by decide +kernel
theorem dL_holds_347 : decode cL_holds 347 = .ok (.aload_n 0, 1) := by decide +kernel
theorem dL_holds_348 : decode cL_holds 348 = .ok (.iload 11, 2) := by decide +kernel
theorem dL_holds_350 : decode cL_holds 350 = .ok (.iload 12, 2) := by decide +kernel
theorem dL_holds_352 : decode cL_holds 352 = .ok (.iconst 0, 1) := by decide +kernel
theorem dL_holds_353 : decode cL_holds 353 = .ok (.invokevirtual 31, 3) := by decide +kernel
theorem dL_holds_356 : decode cL_holds 356 = .ok (.sipush 1000, 3) := by decide +kernel
theorem dL_holds_359 : decode cL_holds 359 = .ok (.iload 13, 2) := by decide +kernel
theorem dL_holds_361 : decode cL_holds 361 = .ok (.iadd, 1) := by decide +kernel
theorem dL_holds_362 : decode cL_holds 362 = .ok (.if_icmp .gt 39, 3) := by decide +kernel
theorem dL_holds_365 : decode cL_holds 365 = .ok (.iload 15, 2) := by decide +kernel
theorem dL_holds_367 : decode cL_holds 367 = .ok (.ifCond .eq 30, 3) := by decide +kernel
theorem dL_holds_370 : decode cL_holds 370 = .ok (.iload 8, 2) := by decide +kernel
theorem dL_holds_372 : decode cL_holds 372 = .ok (.bipush (-4), 2) := by decide +kernel
theorem dL_holds_374 : decode cL_holds 374 = .ok (.if_icmp .eq 23, 3) := by decide +kernel
theorem dL_holds_377 : decode cL_holds 377 = .ok (.aload_n 0, 1) := by decide +kernel
theorem dL_holds_378 : decode cL_holds 378 = .ok (.iload 11, 2) := by decide +kernel
theorem dL_holds_380 : decode cL_holds 380 = .ok (.iconst 4, 1) := by decide +kernel
theorem dL_holds_381 : decode cL_holds 381 = .ok (.invokevirtual 19, 3) := by decide +kernel
theorem dL_holds_384 : decode cL_holds 384 = .ok (.aload_n 0, 1) := by decide +kernel
theorem dL_holds_385 : decode cL_holds 385 = .ok (.iload 12, 2) := by decide +kernel
theorem dL_holds_387 : decode cL_holds 387 = .ok (.iconst 4, 1) := by decide +kernel
theorem dL_holds_388 : decode cL_holds 388 = .ok (.invokevirtual 19, 3) := by decide +kernel
theorem dL_holds_391 : decode cL_holds 391 = .ok (.iload 13, 2) := by decide +kernel
theorem dL_holds_393 : decode cL_holds 393 = .ok (.iadd, 1) := by decide +kernel
theorem dL_holds_394 : decode cL_holds 394 = .ok (.if_icmp .gt 7, 3) := by decide +kernel
theorem dL_holds_397 : decode cL_holds 397 = .ok (.iconst 1, 1) := by decide +kernel
theorem dL_holds_398 : decode cL_holds 398 = .ok (.goto 4, 3) := by decide +kernel
theorem dL_holds_401 : decode cL_holds 401 = .ok (.iconst 0, 1) := by decide +kernel
theorem dL_holds_402 : decode cL_holds 402 = .ok (.istore 9, 2) := by decide +kernel
theorem dL_holds_404 : decode cL_holds 404 = .ok (.iinc 10 1, 3) := by decide +kernel
theorem dL_holds_407 : decode cL_holds 407 = .ok (.goto (-290), 3) := by decide +kernel
theorem dL_holds_410 : decode cL_holds 410 = .ok (.iconst 0, 1) := by decide +kernel
theorem dL_holds_411 : decode cL_holds 411 = .ok (.istore 10, 2) := by decide +kernel
theorem dL_holds_413 : decode cL_holds 413 = .ok (.iload 10, 2) := by decide +kernel
theorem dL_holds_415 : decode cL_holds 415 = .ok (.bipush 8, 2) := by decide +kernel
theorem dL_holds_417 : decode cL_holds 417 = .ok (.if_icmp .ge 405, 3) := by decide +kernel
theorem dL_holds_420 : decode cL_holds 420 = .ok (.iload 9, 2) := by decide +kernel
theorem dL_holds_422 : decode cL_holds 422 = .ok (.ifCond .eq 400, 3) := by decide +kernel
theorem dL_holds_425 : decode cL_holds 425 = .ok (.aload_n 0, 1) := by decide +kernel
theorem dL_holds_426 : decode cL_holds 426 = .ok (.iload 10, 2) := by decide +kernel
theorem dL_holds_428 : decode cL_holds 428 = .ok (.iconst 4, 1) := by decide +kernel
theorem dL_holds_429 : decode cL_holds 429 = .ok (.invokevirtual 19, 3) := by decide +kernel
theorem dL_holds_432 : decode cL_holds 432 = .ok (.istore 11, 2) := by decide +kernel
theorem dL_holds_434 : decode cL_holds 434 = .ok (.iconst 0, 1) := by decide +kernel
theorem dL_holds_435 : decode cL_holds 435 = .ok (.istore 12, 2) := by decide +kernel
theorem dL_holds_437 : decode cL_holds 437 = .ok (.iconst 0, 1) := by decide +kernel
theorem dL_holds_438 : decode cL_holds 438 = .ok (.istore 13, 2) := by decide +kernel
theorem dL_holds_440 : decode cL_holds 440 = .ok (.iconst 0, 1) := by decide +kernel
theorem dL_holds_441 : decode cL_holds 441 = .ok (.istore 14, 2) := by decide +kernel
theorem dL_holds_443 : decode cL_holds 443 = .ok (.iconst 0, 1) := by decide +kernel
theorem dL_holds_444 : decode cL_holds 444 = .ok (.istore 15, 2) := by decide +kernel
theorem dL_holds_446 : decode cL_holds 446 = .ok (.iload 15, 2) := by decide +kernel
theorem dL_holds_448 : decode cL_holds 448 = .ok (.aload_n 0, 1) := by decide +kernel
theorem dL_holds_449 : decode cL_holds 449 = .ok (.iconst 1, 1) := by decide +kernel
theorem dL_holds_450 : decode cL_holds 450 = .ok (.invokevirtual 13, 3) := by decide +kernel
theorem dL_holds_453 : decode cL_holds 453 = .ok (.if_icmp .ge 152, 3) := by decide +kernel
theorem dL_holds_456 : decode cL_holds 456 = .ok (.aload_n 0, 1) := by decide +kernel
theorem dL_holds_457 : decode cL_holds 457 = .ok (.iload 15, 2) := by decide +kernel
theorem dL_holds_459 : decode cL_holds 459 = .ok (.iconst 0, 1) := by decide +kernel
theorem dL_holds_460 : decode cL_holds 460 = .ok (.invokevirtual 23, 3) := by decide +kernel
theorem dL_holds_463 : decode cL_holds 463 = .ok (.iload 10, 2) := by decide +kernel
theorem dL_holds_465 : decode cL_holds 465 = .ok (.if_icmp .eq 15, 3) := by decide +kernel
theorem dL_holds_468 : decode cL_holds 468 = .ok (.aload_n 0, 1) := by decide +kernel
theorem dL_holds_469 : decode cL_holds 469 = .ok (.iload 15, 2) := by decide +kernel
theorem dL_holds_471 : decode cL_holds 471 = .ok (.iconst 1, 1) := by decide +kernel
theorem dL_holds_472 : decode cL_holds 472 = .ok (.invokevirtual 23, 3) := by decide +kernel
theorem dL_holds_475 : decode cL_holds 475 = .ok (.iload 10, 2) := by decide +kernel
theorem dL_holds_477 : decode cL_holds 477 = .ok (.if_icmp .ne 7, 3) := by decide +kernel
theorem dL_holds_480 : decode cL_holds 480 = .ok (.iconst 1, 1) := by decide +kernel
theorem dL_holds_481 : decode cL_holds 481 = .ok (.goto 4, 3) := by decide +kernel
theorem dL_holds_484 : decode cL_holds 484 = .ok (.iconst 0, 1) := by decide +kernel
theorem dL_holds_485 : decode cL_holds 485 = .ok (.istore 16, 2) := by decide +kernel
theorem dL_holds_487 : decode cL_holds 487 = .ok (.iload 12, 2) := by decide +kernel
theorem dL_holds_489 : decode cL_holds 489 = .ok (.iload 16, 2) := by decide +kernel
theorem dL_holds_491 : decode cL_holds 491 = .ok (.ifCond .eq 13, 3) := by decide +kernel
theorem dL_holds_494 : decode cL_holds 494 = .ok (.aload_n 0, 1) := by decide +kernel
theorem dL_holds_495 : decode cL_holds 495 = .ok (.iload 15, 2) := by decide +kernel
theorem dL_holds_497 : decode cL_holds 497 = .ok (.iconst 4, 1) := by decide +kernel
theorem dL_holds_498 : decode cL_holds 498 = .ok (.invokevirtual 23, 3) := by decide +kernel
theorem dL_holds_501 : decode cL_holds 501 = .ok (.goto 4, 3) := by decide +kernel
theorem dL_holds_504 : decode cL_holds 504 = .ok (.iconst 0, 1) := by decide +kernel
theorem dL_holds_505 : decode cL_holds 505 = .ok (.iadd, 1) := by decide +kernel
theorem dL_holds_506 : decode cL_holds 506 = .ok (.istore 12, 2) := by decide +kernel
theorem dL_holds_508 : decode cL_holds 508 = .ok (.iload 13, 2) := by decide +kernel
theorem dL_holds_510 : decode cL_holds 510 = .ok (.iload 16, 2) := by decide +kernel
theorem dL_holds_512 : decode cL_holds 512 = .ok (.ifCond .eq 13, 3) := by decide +kernel
theorem dL_holds_515 : decode cL_holds 515 = .ok (.aload_n 0, 1) := by decide +kernel
theorem dL_holds_516 : decode cL_holds 516 = .ok (.iload 15, 2) := by decide +kernel
theorem dL_holds_518 : decode cL_holds 518 = .ok (.iconst 3, 1) := by decide +kernel
theorem dL_holds_519 : decode cL_holds 519 = .ok (.invokevirtual 23, 3) := by decide +kernel
theorem dL_holds_522 : decode cL_holds 522 = .ok (.goto 4, 3) := by decide +kernel
theorem dL_holds_525 : decode cL_holds 525 = .ok (.iconst 0, 1) := by decide +kernel
theorem dL_holds_526 : decode cL_holds 526 = .ok (.iadd, 1) := by decide +kernel
theorem dL_holds_527 : decode cL_holds 527 = .ok (.istore 13, 2) := by decide +kernel
theorem dL_holds_529 : decode cL_holds 529 = .ok (.iload 14, 2) := by decide +kernel
theorem dL_holds_531 : decode cL_holds 531 = .ok (.ifCond .ne 61, 3) := by decide +kernel
theorem dL_holds_534 : decode cL_holds 534 = .ok (.iload 8, 2) := by decide +kernel
theorem dL_holds_536 : decode cL_holds 536 = .ok (.bipush (-4), 2) := by decide +kernel
theorem dL_holds_538 : decode cL_holds 538 = .ok (.if_icmp .eq 58, 3) := by decide +kernel
theorem dL_holds_541 : decode cL_holds 541 = .ok (.aload_n 0, 1) := by decide +kernel
theorem dL_holds_542 : decode cL_holds 542 = .ok (.iload 15, 2) := by decide +kernel
theorem dL_holds_544 : decode cL_holds 544 = .ok (.iconst 0, 1) := by decide +kernel
theorem dL_holds_545 : decode cL_holds 545 = .ok (.invokevirtual 23, 3) := by decide +kernel
theorem dL_holds_548 : decode cL_holds 548 = .ok (.iload 10, 2) := by decide +kernel
theorem dL_holds_550 : decode cL_holds 550 = .ok (.if_icmp .ne 46, 3) := by decide +kernel
theorem dL_holds_553 : decode cL_holds 553 = .ok (.aload_n 0, 1) := by decide +kernel
theorem dL_holds_554 : decode cL_holds 554 = .ok (.iload 15, 2) := by decide +kernel
theorem dL_holds_556 : decode cL_holds 556 = .ok (.iconst 3, 1) := by decide +kernel
theorem dL_holds_557 : decode cL_holds 557 = .ok (.invokevirtual 23, 3) := by decide +kernel
theorem dL_holds_560 : decode cL_holds 560 = .ok (.iconst 1, 1) := by decide +kernel
theorem dL_holds_561 : decode cL_holds 561 = .ok (.if_icmp .ne 35, 3) := by decide +kernel
theorem dL_holds_564 : decode cL_holds 564 = .ok (.aload_n 0, 1) := by decide +kernel
theorem dL_holds_565 : decode cL_holds 565 = .ok (.aload_n 0, 1) := by decide +kernel
theorem dL_holds_566 : decode cL_holds 566 = .ok (.iload 15, 2) := by decide +kernel
theorem dL_holds_568 : decode cL_holds 568 = .ok (.iconst 1, 1) := by decide +kernel
theorem dL_holds_569 : decode cL_holds 569 = .ok (.invokevirtual 23, 3) := by decide +kernel
theorem dL_holds_572 : decode cL_holds 572 = .ok (.iconst 4, 1) := by decide +kernel
theorem dL_holds_573 : decode cL_holds 573 = .ok (.invokevirtual 19, 3) := by decide +kernel
theorem dL_holds_576 : decode cL_holds 576 = .ok (.aload_n 0, 1) := by decide +kernel
theorem dL_holds_577 : decode cL_holds 577 = .ok (.iload 15, 2) := by decide +kernel
theorem dL_holds_579 : decode cL_holds 579 = .ok (.iconst 2, 1) := by decide +kernel
theorem dL_holds_580 : decode cL_holds 580 = .ok (.invokevirtual 23, 3) := by decide +kernel
theorem dL_holds_583 : decode cL_holds 583 = .ok (.iadd, 1) := by decide +kernel
theorem dL_holds_584 : decode cL_holds 584 = .ok (.bipush 100, 2) := by decide +kernel
theorem dL_holds_586 : decode cL_holds 586 = .ok (.isub, 1) := by decide +kernel
theorem dL_holds_587 : decode cL_holds 587 = .ok (.iload 11, 2) := by decide +kernel
theorem dL_holds_589 : decode cL_holds 589 = .ok (.if_icmp .ne 7, 3) := by decide +kernel
theorem dL_holds_592 : decode cL_holds 592 = .ok (.iconst 1, 1) := by decide +kernel
theorem dL_holds_593 : decode cL_holds 593 = .ok (.goto 4, 3) := by decide +kernel
theorem dL_holds_596 : decode cL_holds 596 = .ok (.iconst 0, 1) := by decide +kernel
theorem dL_holds_597 : decode cL_holds 597 = .ok (.istore 14, 2) := by decide +kernel
theorem dL_holds_599 : decode cL_holds 599 = .ok (.iinc 15 1, 3) := by decide +kernel
theorem dL_holds_602 : decode cL_holds 602 = .ok (.goto (-156), 3) := by decide +kernel
theorem dL_holds_605 : decode cL_holds 605 = .ok (.iload_n 2, 1) := by decide +kernel
theorem dL_holds_606 : decode cL_holds 606 = .ok (.aload_n 0, 1) := by decide +kernel
theorem dL_holds_607 : decode cL_holds 607 = .ok (.iload 10, 2) := by decide +kernel
theorem dL_holds_609 : decode cL_holds 609 = .ok (.iconst 0, 1) := by decide +kernel
theorem dL_holds_610 : decode cL_holds 610 = .ok (.invokevirtual 19, 3) := by decide +kernel
theorem dL_holds_613 : decode cL_holds 613 = .ok (.iadd, 1) := by decide +kernel
theorem dL_holds_614 : decode cL_holds 614 = .ok (.istore_n 2, 1) := by decide +kernel
theorem dL_holds_615 : decode cL_holds 615 = .ok (.iload_n 3, 1) := by decide +kernel
theorem dL_holds_616 : decode cL_holds 616 = .ok (.aload_n 0, 1) := by decide +kernel
theorem dL_holds_617 : decode cL_holds 617 = .ok (.iload 10, 2) := by decide +kernel
theorem dL_holds_619 : decode cL_holds 619 = .ok (.iconst 2, 1) := by decide +kernel
theorem dL_holds_620 : decode cL_holds 620 = .ok (.invokevirtual 19, 3) := by decide +kernel
theorem dL_holds_623 : decode cL_holds 623 = .ok (.iadd, 1) := by decide +kernel
theorem dL_holds_624 : decode cL_holds 624 = .ok (.istore_n 3, 1) := by decide +kernel
theorem dL_holds_625 : decode cL_holds 625 = .ok (.iload 4, 2) := by decide +kernel
theorem dL_holds_627 : decode cL_holds 627 = .ok (.aload_n 0, 1) := by decide +kernel
theorem dL_holds_628 : decode cL_holds 628 = .ok (.iload 10, 2) := by decide +kernel
theorem dL_holds_630 : decode cL_holds 630 = .ok (.bipush 7, 2) := by decide +kernel
theorem dL_holds_632 : decode cL_holds 632 = .ok (.invokevirtual 19, 3) := by decide +kernel
theorem dL_holds_635 : decode cL_holds 635 = .ok (.iadd, 1) := by decide +kernel
theorem dL_holds_636 : decode cL_holds 636 = .ok (.istore 4, 2) := by decide +kernel
theorem dL_holds_638 : decode cL_holds 638 = .ok (.iload 7, 2) := by decide +kernel
theorem dL_holds_640 : decode cL_holds 640 = .ok (.aload_n 0, 1) := by decide +kernel
theorem dL_holds_641 : decode cL_holds 641 = .ok (.iload 10, 2) := by decide +kernel
theorem dL_holds_643 : decode cL_holds 643 = .ok (.iconst 0, 1) := by decide +kernel
theorem dL_holds_644 : decode cL_holds 644 = .ok (.invokevirtual 19, 3) := by decide +kernel
theorem dL_holds_647 : decode cL_holds 647 = .ok (.iload 11, 2) := by decide +kernel
theorem dL_holds_649 : decode cL_holds 649 = .ok (.isub, 1) := by decide +kernel
theorem dL_holds_650 : decode cL_holds 650 = .ok (.iadd, 1) := by decide +kernel
theorem dL_holds_651 : decode cL_holds 651 = .ok (.istore 7, 2) := by decide +kernel
theorem dL_holds_653 : decode cL_holds 653 = .ok (.aload_n 0, 1) := by decide +kernel
theorem dL_holds_654 : decode cL_holds 654 = .ok (.iload 10, 2) := by decide +kernel
theorem dL_holds_656 : decode cL_holds 656 = .ok (.iconst 0, 1) := by decide +kernel
theorem dL_holds_657 : decode cL_holds 657 = .ok (.invokevirtual 19, 3) := by decide +kernel
theorem dL_holds_660 : decode cL_holds 660 = .ok (.ifCond .lt 153, 3) := by decide +kernel
theorem dL_holds_663 : decode cL_holds 663 = .ok (.aload_n 0, 1) := by decide +kernel
theorem dL_holds_664 : decode cL_holds 664 = .ok (.iload 10, 2) := by decide +kernel
theorem dL_holds_666 : decode cL_holds 666 = .ok (.iconst 0, 1) := by decide +kernel
theorem dL_holds_667 : decode cL_holds 667 = .ok (.invokevirtual 19, 3) := by decide +kernel
theorem dL_holds_670 : decode cL_holds 670 = .ok (.bipush 99, 2) := by decide +kernel
theorem dL_holds_672 : decode cL_holds 672 = .ok (.if_icmp .gt 141, 3) := by decide +kernel
theorem dL_holds_675 : decode cL_holds 675 = .ok (.aload_n 0, 1) := by decide +kernel
theorem dL_holds_676 : decode cL_holds 676 = .ok (.iload 10, 2) := by decide +kernel
theorem dL_holds_678 : decode cL_holds 678 = .ok (.iconst 1, 1) := by decide +kernel
theorem dL_holds_679 : decode cL_holds 679 = .ok (.invokevirtual 19, 3) := by decide +kernel
theorem dL_holds_682 : decode cL_holds 682 = .ok (.ifCond .lt 131, 3) := by decide +kernel
theorem dL_holds_685 : decode cL_holds 685 = .ok (.aload_n 0, 1) := by decide +kernel
theorem dL_holds_686 : decode cL_holds 686 = .ok (.iload 10, 2) := by decide +kernel
theorem dL_holds_688 : decode cL_holds 688 = .ok (.iconst 1, 1) := by decide +kernel
theorem dL_holds_689 : decode cL_holds 689 = .ok (.invokevirtual 19, 3) := by decide +kernel
theorem dL_holds_692 : decode cL_holds 692 = .ok (.iconst 5, 1) := by decide +kernel
theorem dL_holds_693 : decode cL_holds 693 = .ok (.if_icmp .gt 120, 3) := by decide +kernel
theorem dL_holds_696 : decode cL_holds 696 = .ok (.aload_n 0, 1) := by decide +kernel
theorem dL_holds_697 : decode cL_holds 697 = .ok (.iload 10, 2) := by decide +kernel
theorem dL_holds_699 : decode cL_holds 699 = .ok (.iconst 2, 1) := by decide +kernel
theorem dL_holds_700 : decode cL_holds 700 = .ok (.invokevirtual 19, 3) := by decide +kernel
theorem dL_holds_703 : decode cL_holds 703 = .ok (.iload_n 1, 1) := by decide +kernel
theorem dL_holds_704 : decode cL_holds 704 = .ok (.aload_n 0, 1) := by decide +kernel
theorem dL_holds_705 : decode cL_holds 705 = .ok (.iload 10, 2) := by decide +kernel
theorem dL_holds_707 : decode cL_holds 707 = .ok (.iconst 3, 1) := by decide +kernel
theorem dL_holds_708 : decode cL_holds 708 = .ok (.invokevirtual 19, 3) := by decide +kernel
theorem dL_holds_711 : decode cL_holds 711 = .ok (.if_icmp .ge 7, 3) := by decide +kernel
theorem dL_holds_714 : decode cL_holds 714 = .ok (.iconst 1, 1) := by decide +kernel
theorem dL_holds_715 : decode cL_holds 715 = .ok (.goto 4, 3) := by decide +kernel
theorem dL_holds_718 : decode cL_holds 718 = .ok (.iconst 0, 1) := by decide +kernel
theorem dL_holds_719 : decode cL_holds 719 = .ok (.if_icmp .ne 94, 3) := by decide +kernel
theorem dL_holds_722 : decode cL_holds 722 = .ok (.aload_n 0, 1) := by decide +kernel
theorem dL_holds_723 : decode cL_holds 723 = .ok (.iload 10, 2) := by decide +kernel
theorem dL_holds_725 : decode cL_holds 725 = .ok (.iconst 5, 1) := by decide +kernel
theorem dL_holds_726 : decode cL_holds 726 = .ok (.invokevirtual 19, 3) := by decide +kernel
theorem dL_holds_729 : decode cL_holds 729 = .ok (.iload 12, 2) := by decide +kernel
theorem dL_holds_731 : decode cL_holds 731 = .ok (.if_icmp .ne 82, 3) := by decide +kernel
theorem dL_holds_734 : decode cL_holds 734 = .ok (.aload_n 0, 1) := by decide +kernel
theorem dL_holds_735 : decode cL_holds 735 = .ok (.iload 10, 2) := by decide +kernel
theorem dL_holds_737 : decode cL_holds 737 = .ok (.bipush 6, 2) := by decide +kernel
theorem dL_holds_739 : decode cL_holds 739 = .ok (.invokevirtual 19, 3) := by decide +kernel
theorem dL_holds_742 : decode cL_holds 742 = .ok (.iload 13, 2) := by decide +kernel
theorem dL_holds_744 : decode cL_holds 744 = .ok (.if_icmp .ne 69, 3) := by decide +kernel
theorem dL_holds_747 : decode cL_holds 747 = .ok (.aload_n 0, 1) := by decide +kernel
theorem dL_holds_748 : decode cL_holds 748 = .ok (.iload 10, 2) := by decide +kernel
theorem dL_holds_750 : decode cL_holds 750 = .ok (.bipush 7, 2) := by decide +kernel
theorem dL_holds_752 : decode cL_holds 752 = .ok (.invokevirtual 19, 3) := by decide +kernel
theorem dL_holds_755 : decode cL_holds 755 = .ok (.ifCond .lt 58, 3) := by decide +kernel
theorem dL_holds_758 : decode cL_holds 758 = .ok (.iload 8, 2) := by decide +kernel
theorem dL_holds_760 : decode cL_holds 760 = .ok (.bipush (-4), 2) := by decide +kernel
theorem dL_holds_762 : decode cL_holds 762 = .ok (.if_icmp .ne 13, 3) := by decide +kernel
theorem dL_holds_765 : decode cL_holds 765 = .ok (.iload 11, 2) := by decide +kernel
theorem dL_holds_767 : decode cL_holds 767 = .ok (.bipush (-4), 2) := by decide +kernel
theorem dL_holds_769 : decode cL_holds 769 = .ok (.if_icmp .ne 44, 3) := by decide +kernel
theorem dL_holds_772 : decode cL_holds 772 = .ok (.goto 37, 3) := by decide +kernel
theorem dL_holds_775 : decode cL_holds 775 = .ok (.iload 11, 2) := by decide +kernel
theorem dL_holds_777 : decode cL_holds 777 = .ok (.ifCond .lt 36, 3) := by decide +kernel
theorem dL_holds_780 : decode cL_holds 780 = .ok (.iload 11, 2) := by decide +kernel
theorem dL_holds_782 : decode cL_holds 782 = .ok (.aload_n 0, 1) := by decide +kernel
theorem dL_holds_783 : decode cL_holds 783 = .ok (.iload 10, 2) := by decide +kernel
theorem dL_holds_785 : decode cL_holds 785 = .ok (.iconst 0, 1) := by decide +kernel
theorem dL_holds_786 : decode cL_holds 786 = .ok (.invokevirtual 19, 3) := by decide +kernel
theorem dL_holds_789 : decode cL_holds 789 = .ok (.if_icmp .eq 20, 3) := by decide +kernel
theorem dL_holds_792 : decode cL_holds 792 = .ok (.iload 11, 2) := by decide +kernel
theorem dL_holds_794 : decode cL_holds 794 = .ok (.aload_n 0, 1) := by decide +kernel
theorem dL_holds_795 : decode cL_holds 795 = .ok (.iload 10, 2) := by decide +kernel
theorem dL_holds_797 : decode cL_holds 797 = .ok (.iconst 0, 1) := by decide +kernel
theorem dL_holds_798 : decode cL_holds 798 = .ok (.invokevirtual 19, 3) := by decide +kernel
theorem dL_holds_801 : decode cL_holds 801 = .ok (.if_icmp .ge 12, 3) := by decide +kernel
theorem dL_holds_804 : decode cL_holds 804 = .ok (.iload 14, 2) := by decide +kernel
theorem dL_holds_806 : decode cL_holds 806 = .ok (.ifCond .eq 7, 3) := by decide +kernel
theorem dL_holds_809 : decode cL_holds 809 = .ok (.iconst 1, 1) := by decide +kernel
theorem dL_holds_810 : decode cL_holds 810 = .ok (.goto 4, 3) := by decide +kernel
theorem dL_holds_813 : decode cL_holds 813 = .ok (.iconst 0, 1) := by decide +kernel
theorem dL_holds_814 : decode cL_holds 814 = .ok (.istore 9, 2) := by decide +kernel
theorem dL_holds_816 : decode cL_holds 816 = .ok (.iinc 10 1, 3) := by decide +kernel
theorem dL_holds_819 : decode cL_holds 819 = .ok (.goto (-406), 3) := by decide +kernel
theorem dL_holds_822 : decode cL_holds 822 = .ok (.iload 9, 2) := by decide +kernel
theorem dL_holds_824 : decode cL_holds 824 = .ok (.ifCond .eq 107, 3) := by decide +kernel
theorem dL_holds_827 : decode cL_holds 827 = .ok (.iload_n 2, 1) := by decide +kernel
theorem dL_holds_828 : decode cL_holds 828 = .ok (.aload_n 0, 1) := by decide +kernel
theorem dL_holds_829 : decode cL_holds 829 = .ok (.iconst 4, 1) := by decide +kernel
theorem dL_holds_830 : decode cL_holds 830 = .ok (.invokevirtual 13, 3) := by decide +kernel
theorem dL_holds_833 : decode cL_holds 833 = .ok (.if_icmp .ne 98, 3) := by decide +kernel
theorem dL_holds_836 : decode cL_holds 836 = .ok (.iload_n 3, 1) := by decide +kernel
theorem dL_holds_837 : decode cL_holds 837 = .ok (.aload_n 0, 1) := by decide +kernel
theorem dL_holds_838 : decode cL_holds 838 = .ok (.iconst 5, 1) := by decide +kernel
theorem dL_holds_839 : decode cL_holds 839 = .ok (.invokevirtual 13, 3) := by decide +kernel
theorem dL_holds_842 : decode cL_holds 842 = .ok (.if_icmp .ne 89, 3) := by decide +kernel
theorem dL_holds_845 : decode cL_holds 845 = .ok (.iload 4, 2) := by decide +kernel
theorem dL_holds_847 : decode cL_holds 847 = .ok (.aload_n 0, 1) := by decide +kernel
theorem dL_holds_848 : decode cL_holds 848 = .ok (.bipush 10, 2) := by decide +kernel
theorem dL_holds_850 : decode cL_holds 850 = .ok (.invokevirtual 13, 3) := by decide +kernel
theorem dL_holds_853 : decode cL_holds 853 = .ok (.if_icmp .ne 78, 3) := by decide +kernel
theorem dL_holds_856 : decode cL_holds 856 = .ok (.iload 5, 2) := by decide +kernel
theorem dL_holds_858 : decode cL_holds 858 = .ok (.aload_n 0, 1) := by decide +kernel
theorem dL_holds_859 : decode cL_holds 859 = .ok (.iconst 2, 1) := by decide +kernel
theorem dL_holds_860 : decode cL_holds 860 = .ok (.invokevirtual 13, 3) := by decide +kernel
theorem dL_holds_863 : decode cL_holds 863 = .ok (.if_icmp .ne 68, 3) := by decide +kernel
theorem dL_holds_866 : decode cL_holds 866 = .ok (.iload 6, 2) := by decide +kernel
theorem dL_holds_868 : decode cL_holds 868 = .ok (.aload_n 0, 1) := by decide +kernel
theorem dL_holds_869 : decode cL_holds 869 = .ok (.iconst 3, 1) := by decide +kernel
theorem dL_holds_870 : decode cL_holds 870 = .ok (.invokevirtual 13, 3) := by decide +kernel
theorem dL_holds_873 : decode cL_holds 873 = .ok (.if_icmp .ne 58, 3) := by decide +kernel
theorem dL_holds_876 : decode cL_holds 876 = .ok (.iload 8, 2) := by decide +kernel
theorem dL_holds_878 : decode cL_holds 878 = .ok (.bipush (-4), 2) := by decide +kernel
theorem dL_holds_880 : decode cL_holds 880 = .ok (.if_icmp .eq 10, 3) := by decide +kernel
theorem dL_holds_883 : decode cL_holds 883 = .ok (.iload 8, 2) := by decide +kernel
theorem dL_holds_885 : decode cL_holds 885 = .ok (.iload 7, 2) := by decide +kernel
theorem dL_holds_887 : decode cL_holds 887 = .ok (.if_icmp .ne 44, 3) := by decide +kernel
theorem dL_holds_890 : decode cL_holds 890 = .ok (.iload 6, 2) := by decide +kernel
theorem dL_holds_892 : decode cL_holds 892 = .ok (.ifCond .gt 8, 3) := by decide +kernel
theorem dL_holds_895 : decode cL_holds 895 = .ok (.iload 8, 2) := by decide +kernel
theorem dL_holds_897 : decode cL_holds 897 = .ok (.ifCond .ne 34, 3) := by decide +kernel
theorem dL_holds_900 : decode cL_holds 900 = .ok (.aload_n 0, 1) := by decide +kernel
theorem dL_holds_901 : decode cL_holds 901 = .ok (.invokevirtual 35, 3) := by decide +kernel
theorem dL_holds_904 : decode cL_holds 904 = .ok (.iload 5, 2) := by decide +kernel
theorem dL_holds_906 : decode cL_holds 906 = .ok (.ifCond .ne 7, 3) := by decide +kernel
theorem dL_holds_909 : decode cL_holds 909 = .ok (.dconst 1, 1) := by decide +kernel
theorem dL_holds_910 : decode cL_holds 910 = .ok (.goto 13, 3) := by decide +kernel
theorem dL_holds_913 : decode cL_holds 913 = .ok (.iload 5, 2) := by decide +kernel
theorem dL_holds_915 : decode cL_holds 915 = .ok (.iload 6, 2) := by decide +kernel
theorem dL_holds_917 : decode cL_holds 917 = .ok (.isub, 1) := by decide +kernel
theorem dL_holds_918 : decode cL_holds 918 = .ok (.i2d, 1) := by decide +kernel
theorem dL_holds_919 : decode cL_holds 919 = .ok (.iload 5, 2) := by decide +kernel
theorem dL_holds_921 : decode cL_holds 921 = .ok (.i2d, 1) := by decide +kernel
theorem dL_holds_922 : decode cL_holds 922 = .ok (.ddiv, 1) := by decide +kernel
theorem dL_holds_923 : decode cL_holds 923 = .ok (.dcmp .l, 1) := by decide +kernel
theorem dL_holds_924 : decode cL_holds 924 = .ok (.ifCond .ne 7, 3) := by decide +kernel
theorem dL_holds_927 : decode cL_holds 927 = .ok (.iconst 1, 1) := by decide +kernel
theorem dL_holds_928 : decode cL_holds 928 = .ok (.goto 4, 3) := by decide +kernel
theorem dL_holds_931 : decode cL_holds 931 = .ok (.iconst 0, 1) := by decide +kernel
theorem dL_holds_932 : decode cL_holds 932 = .ok (.ireturn, 1) := by decide +kernel
theorem dL_would_0 : decode cL_would 0 = .ok (.iload_n 1, 1) := by decide +kernel
theorem dL_would_1 : decode cL_would 1 = .ok (.bipush 9, 2) := by decide +kernel
theorem dL_would_3 : decode cL_would 3 = .ok (.invokestatic 39, 3) := by decide +kernel
theorem dL_would_6 : decode cL_would 6 = .ok (.istore_n 2, 1) := by decide +kernel
theorem dL_would_7 : decode cL_would 7 = .ok (.iload_n 1, 1) := by decide +kernel
theorem dL_would_8 : decode cL_would 8 = .ok (.iconst 3, 1) := by decide +kernel
theorem dL_would_9 : decode cL_would 9 = .ok (.ishr, 1) := by decide +kernel
theorem dL_would_10 : decode cL_would 10 = .ok (.bipush 9, 2) := by decide +kernel
theorem dL_would_12 : decode cL_would 12 = .ok (.invokestatic 39, 3) := by decide +kernel
theorem dL_would_15 : decode cL_would 15 = .ok (.istore_n 3, 1) := by decide +kernel
theorem dL_would_16 : decode cL_would 16 = .ok (.iload_n 1, 1) := by decide +kernel
theorem dL_would_17 : decode cL_would 17 = .ok (.bipush 6, 2) := by decide +kernel
theorem dL_would_19 : decode cL_would 19 = .ok (.ishr, 1) := by decide +kernel
theorem dL_would_20 : decode cL_would 20 = .ok (.bipush 93, 2) := by decide +kernel
theorem dL_would_22 : decode cL_would 22 = .ok (.invokestatic 39, 3) := by decide +kernel
theorem dL_would_25 : decode cL_would 25 = .ok (.bipush 31, 2) := by decide +kernel
theorem dL_would_27 : decode cL_would 27 = .ok (.isub, 1) := by decide +kernel
theorem dL_would_28 : decode cL_would 28 = .ok (.istore 4, 2) := by decide +kernel
theorem dL_would_30 : decode cL_would 30 = .ok (.aload_n 0, 1) := by decide +kernel
theorem dL_would_31 : decode cL_would 31 = .ok (.iload_n 2, 1) := by decide +kernel
theorem dL_would_32 : decode cL_would 32 = .ok (.iload_n 3, 1) := by decide +kernel
theorem dL_would_33 : decode cL_would 33 = .ok (.iload 4, 2) := by decide +kernel
theorem dL_would_35 : decode cL_would 35 = .ok (.invokevirtual 42, 3) := by decide +kernel
theorem dL_would_38 : decode cL_would 38 = .ok (.istore 5, 2) := by decide +kernel
theorem dL_would_40 : decode cL_would 40 = .ok (.aload_n 0, 1) := by decide +kernel
theorem dL_would_41 : decode cL_would 41 = .ok (.iload_n 2, 1) := by decide +kernel
theorem dL_would_42 : decode cL_would 42 = .ok (.iload_n 3, 1) := by decide +kernel
theorem dL_would_43 : decode cL_would 43 = .ok (.iload_n 1, 1) := by decide +kernel
theorem dL_would_44 : decode cL_would 44 = .ok (.iconst 5, 1) := by decide +kernel
theorem dL_would_45 : decode cL_would 45 = .ok (.ishr, 1) := by decide +kernel
theorem dL_would_46 : decode cL_would 46 = .ok (.iconst 2, 1) := by decide +kernel
theorem dL_would_47 : decode cL_would 47 = .ok (.invokestatic 39, 3) := by decide +kernel
theorem dL_would_50 : decode cL_would 50 = .ok (.invokevirtual 31, 3) := by decide +kernel
theorem dL_would_53 : decode cL_would 53 = .ok (.istore 6, 2) := by decide +kernel
theorem dL_would_55 : decode cL_would 55 = .ok (.aload_n 0, 1) := by decide +kernel
theorem dL_would_56 : decode cL_would 56 = .ok (.iload_n 2, 1) := by decide +kernel
theorem dL_would_57 : decode cL_would 57 = .ok (.iload_n 3, 1) := by decide +kernel
theorem dL_would_58 : decode cL_would 58 = .ok (.invokevirtual 45, 3) := by decide +kernel
theorem dL_would_61 : decode cL_would 61 = .ok (.istore 7, 2) := by decide +kernel
theorem dL_would_63 : decode cL_would 63 = .ok (.iload_n 1, 1) := by decide +kernel
theorem dL_would_64 : decode cL_would 64 = .ok (.bipush 7, 2) := by decide +kernel
theorem dL_would_66 : decode cL_would 66 = .ok (.ishr, 1) := by decide +kernel
theorem dL_would_67 : decode cL_would 67 = .ok (.bipush 32, 2) := by decide +kernel
theorem dL_would_69 : decode cL_would 69 = .ok (.invokestatic 39, 3) := by decide +kernel
theorem dL_would_72 : decode cL_would 72 = .ok (.istore 8, 2) := by decide +kernel
theorem dL_would_74 : decode cL_would 74 = .ok (.iload_n 1, 1) := by decide +kernel
theorem dL_would_75 : decode cL_would 75 = .ok (.bipush 10, 2) := by decide +kernel
theorem dL_would_77 : decode cL_would 77 = .ok (.ishr, 1) := by decide +kernel
theorem dL_would_78 : decode cL_would 78 = .ok (.iconst 4, 1) := by decide +kernel
theorem dL_would_79 : decode cL_would 79 = .ok (.invokestatic 39, 3) := by decide +kernel
theorem dL_would_82 : decode cL_would 82 = .ok (.iconst 1, 1) := by decide +kernel
theorem dL_would_83 : decode cL_would 83 = .ok (.isub, 1) := by decide +kernel
theorem dL_would_84 : decode cL_would 84 = .ok (.istore 9, 2) := by decide +kernel
theorem dL_would_86 : decode cL_would 86 = .ok (.aload_n 0, 1) := by decide +kernel
theorem dL_would_87 : decode cL_would 87 = .ok (.iload 8, 2) := by decide +kernel
theorem dL_would_89 : decode cL_would 89 = .ok (.iload 9, 2) := by decide +kernel
theorem dL_would_91 : decode cL_would 91 = .ok (.invokevirtual 48, 3) := by decide +kernel
theorem dL_would_94 : decode cL_would 94 = .ok (.istore 10, 2) := by decide +kernel
theorem dL_would_96 : decode cL_would 96 = .ok (.aload_n 0, 1) := by decide +kernel
theorem dL_would_97 : decode cL_would 97 = .ok (.invokevirtual 51, 3) := by decide +kernel
theorem dL_would_100 : decode cL_would 100 = .ok (.istore 11, 2) := by decide +kernel
theorem dL_would_102 : decode cL_would 102 = .ok (.iload_n 2, 1) := by decide +kernel
theorem dL_would_103 : decode cL_would 103 = .ok (.bipush 8, 2) := by decide +kernel
theorem dL_would_105 : decode cL_would 105 = .ok (.if_icmp .eq 9, 3) := by decide +kernel
theorem dL_would_108 : decode cL_would 108 = .ok (.iload_n 3, 1) := by decide +kernel
theorem dL_would_109 : decode cL_would 109 = .ok (.bipush 8, 2) := by decide +kernel
theorem dL_would_111 : decode cL_would 111 = .ok (.if_icmp .ne 7, 3) := by decide +kernel
theorem dL_would_114 : decode cL_would 114 = .ok (.iconst 1, 1) := by decide +kernel
theorem dL_would_115 : decode cL_would 115 = .ok (.goto 4, 3) := by decide +kernel
theorem dL_would_118 : decode cL_would 118 = .ok (.iconst 0, 1) := by decide +kernel
theorem dL_would_119 : decode cL_would 119 = .ok (.istore 12, 2) := by decide +kernel
theorem dL_would_121 : decode cL_would 121 = .ok (.iload 12, 2) := by decide +kernel
theorem dL_would_123 : decode cL_would 123 = .ok (.ifCond .ne 8, 3) := by decide +kernel
theorem dL_would_126 : decode cL_would 126 = .ok (.iload_n 2, 1) := by decide +kernel
theorem dL_would_127 : decode cL_would 127 = .ok (.iload_n 3, 1) := by decide +kernel
theorem dL_would_128 : decode cL_would 128 = .ok (.if_icmp .ne 7, 3) := by decide +kernel
theorem dL_would_131 : decode cL_would 131 = .ok (.iconst 1, 1) := by decide +kernel
theorem dL_would_132 : decode cL_would 132 = .ok (.goto 4, 3) := by decide +kernel
theorem dL_would_135 : decode cL_would 135 = .ok (.iconst 0, 1) := by decide +kernel
theorem dL_would_136 : decode cL_would 136 = .ok (.istore 13, 2) := by decide +kernel
theorem dL_would_138 : decode cL_would 138 = .ok (.iload 8, 2) := by decide +kernel
theorem dL_would_140 : decode cL_would 140 = .ok (.ifCond .eq 21, 3) := by decide +kernel
theorem dL_would_143 : decode cL_would 143 = .ok (.iload 8, 2) := by decide +kernel
theorem dL_would_145 : decode cL_would 145 = .ok (.bipush 31, 2) := by decide +kernel
theorem dL_would_147 : decode cL_would 147 = .ok (.if_icmp .eq 14, 3) := by decide +kernel
theorem dL_would_150 : decode cL_would 150 = .ok (.iload 9, 2) := by decide +kernel
theorem dL_would_152 : decode cL_would 152 = .ok (.ifCond .lt 9, 3) := by decide +kernel
theorem dL_would_155 : decode cL_would 155 = .ok (.iload 9, 2) := by decide +kernel
theorem dL_would_157 : decode cL_would 157 = .ok (.iconst 1, 1) := by decide +kernel
theorem dL_would_158 : decode cL_would 158 = .ok (.if_icmp .le 7, 3) := by decide +kernel
theorem dL_would_161 : decode cL_would 161 = .ok (.iconst 1, 1) := by decide +kernel
theorem dL_would_162 : decode cL_would 162 = .ok (.goto 4, 3) := by decide +kernel
theorem dL_would_165 : decode cL_would 165 = .ok (.iconst 0, 1) := by decide +kernel
theorem dL_would_166 : decode cL_would 166 = .ok (.istore 14, 2) := by decide +kernel
theorem dL_would_168 : decode cL_would 168 = .ok (.iload 13, 2) := by decide +kernel
theorem dL_would_170 : decode cL_would 170 = .ok (.ifCond .eq 12, 3) := by decide +kernel
theorem dL_would_173 : decode cL_would 173 = .ok (.iload 7, 2) := by decide +kernel
theorem dL_would_175 : decode cL_would 175 = .ok (.iconst (-1), 1) := by decide +kernel
theorem dL_would_176 : decode cL_would 176 = .ok (.if_icmp .ne 162, 3) := by decide +kernel
theorem dL_would_179 : decode cL_would 179 = .ok (.goto 25, 3) := by decide +kernel
theorem dL_would_182 : decode cL_would 182 = .ok (.iload 7, 2) := by decide +kernel
theorem dL_would_184 : decode cL_would 184 = .ok (.bipush (-4), 2) := by decide +kernel
theorem dL_would_186 : decode cL_would 186 = .ok (.if_icmp .eq 18, 3) := by decide +kernel
theorem dL_would_189 : decode cL_would 189 = .ok (.iload 7, 2) := by decide +kernel
theorem dL_would_191 : decode cL_would 191 = .ok (.bipush 70, 2) := by decide +kernel
theorem dL_would_193 : decode cL_would 193 = .ok (.if_icmp .lt 145, 3) := by decide +kernel
theorem dL_would_196 : decode cL_would 196 = .ok (.iload 7, 2) := by decide +kernel
theorem dL_would_198 : decode cL_would 198 = .ok (.sipush 160, 3) := by decide +kernel
theorem dL_would_201 : decode cL_would 201 = .ok (.if_icmp .gt 137, 3) := by decide +kernel
theorem dL_would_204 : decode cL_would 204 = .ok (.iload 13, 2) := by decide +kernel
theorem dL_would_206 : decode cL_would 206 = .ok (.ifCond .ne 17, 3) := by decide +kernel
theorem dL_would_209 : decode cL_would 209 = .ok (.iload 4, 2) := by decide +kernel
theorem dL_would_211 : decode cL_would 211 = .ok (.bipush (-30), 2) := by decide +kernel
theorem dL_would_213 : decode cL_would 213 = .ok (.if_icmp .lt 10, 3) := by decide +kernel
theorem dL_would_216 : decode cL_would 216 = .ok (.iload 4, 2) := by decide +kernel
theorem dL_would_218 : decode cL_would 218 = .ok (.bipush 60, 2) := by decide +kernel
theorem dL_would_220 : decode cL_would 220 = .ok (.if_icmp .le 12, 3) := by decide +kernel
theorem dL_would_223 : decode cL_would 223 = .ok (.iload 5, 2) := by decide +kernel
theorem dL_would_225 : decode cL_would 225 = .ok (.iconst (-1), 1) := by decide +kernel
theorem dL_would_226 : decode cL_would 226 = .ok (.if_icmp .ne 112, 3) := by decide +kernel
theorem dL_would_229 : decode cL_would 229 = .ok (.goto 52, 3) := by decide +kernel
theorem dL_would_232 : decode cL_would 232 = .ok (.iload 5, 2) := by decide +kernel
theorem dL_would_234 : decode cL_would 234 = .ok (.iload 7, 2) := by decide +kernel
theorem dL_would_236 : decode cL_would 236 = .ok (.bipush (-4), 2) := by decide +kernel
theorem dL_would_238 : decode cL_would 238 = .ok (.if_icmp .eq 13, 3) := by decide +kernel
theorem dL_would_241 : decode cL_would 241 = .ok (.iload 4, 2) := by decide +kernel
theorem dL_would_243 : decode cL_would 243 = .ok (.iload 7, 2) := by decide +kernel
theorem dL_would_245 : decode cL_would 245 = .ok (.bipush 100, 2) := by decide +kernel
theorem dL_would_247 : decode cL_would 247 = .ok (.isub, 1) := by decide +kernel
theorem dL_would_248 : decode cL_would 248 = .ok (.if_icmp .ge 7, 3) := by decide +kernel
theorem dL_would_251 : decode cL_would 251 = .ok (.iconst 1, 1) := by decide +kernel
theorem dL_would_252 : decode cL_would 252 = .ok (.goto 26, 3) := by decide +kernel
theorem dL_would_255 : decode cL_would 255 = .ok (.iload 6, 2) := by decide +kernel
theorem dL_would_257 : decode cL_would 257 = .ok (.bipush (-4), 2) := by decide +kernel
theorem dL_would_259 : decode cL_would 259 = .ok (.if_icmp .eq 18, 3) := by decide +kernel
theorem dL_would_262 : decode cL_would 262 = .ok (.iload 6, 2) := by decide +kernel
theorem dL_would_264 : decode cL_would 264 = .ok (.sipush 1000, 3) := by decide +kernel
theorem dL_would_267 : decode cL_would 267 = .ok (.iload 4, 2) := by decide +kernel
theorem dL_would_269 : decode cL_would 269 = .ok (.iadd, 1) := by decide +kernel
theorem dL_would_270 : decode cL_would 270 = .ok (.if_icmp .gt 7, 3) := by decide +kernel
theorem dL_would_273 : decode cL_would 273 = .ok (.iconst 2, 1) := by decide +kernel
theorem dL_would_274 : decode cL_would 274 = .ok (.goto 4, 3) := by decide +kernel
theorem dL_would_277 : decode cL_would 277 = .ok (.iconst 0, 1) := by decide +kernel
theorem dL_would_278 : decode cL_would 278 = .ok (.if_icmp .ne 60, 3) := by decide +kernel
theorem dL_would_281 : decode cL_would 281 = .ok (.iload 12, 2) := by decide +kernel
theorem dL_would_283 : decode cL_would 283 = .ok (.ifCond .eq 12, 3) := by decide +kernel
theorem dL_would_286 : decode cL_would 286 = .ok (.iload 6, 2) := by decide +kernel
theorem dL_would_288 : decode cL_would 288 = .ok (.iconst (-1), 1) := by decide +kernel
theorem dL_would_289 : decode cL_would 289 = .ok (.if_icmp .ne 49, 3) := by decide +kernel
theorem dL_would_292 : decode cL_would 292 = .ok (.goto 42, 3) := by decide +kernel
theorem dL_would_295 : decode cL_would 295 = .ok (.iload_n 2, 1) := by decide +kernel
theorem dL_would_296 : decode cL_would 296 = .ok (.iload_n 3, 1) := by decide +kernel
theorem dL_would_297 : decode cL_would 297 = .ok (.if_icmp .ne 14, 3) := by decide +kernel
theorem dL_would_300 : decode cL_would 300 = .ok (.iload 6, 2) := by decide +kernel
theorem dL_would_302 : decode cL_would 302 = .ok (.sipush 1000, 3) := by decide +kernel
theorem dL_would_305 : decode cL_would 305 = .ok (.if_icmp .ne 33, 3) := by decide +kernel
theorem dL_would_308 : decode cL_would 308 = .ok (.goto 26, 3) := by decide +kernel
theorem dL_would_311 : decode cL_would 311 = .ok (.iload 6, 2) := by decide +kernel
theorem dL_would_313 : decode cL_would 313 = .ok (.bipush (-4), 2) := by decide +kernel
theorem dL_would_315 : decode cL_would 315 = .ok (.if_icmp .eq 19, 3) := by decide +kernel
theorem dL_would_318 : decode cL_would 318 = .ok (.iload 6, 2) := by decide +kernel
theorem dL_would_320 : decode cL_would 320 = .ok (.sipush 901, 3) := by decide +kernel
theorem dL_would_323 : decode cL_would 323 = .ok (.if_icmp .lt 15, 3) := by decide +kernel
theorem dL_would_326 : decode cL_would 326 = .ok (.iload 6, 2) := by decide +kernel
theorem dL_would_328 : decode cL_would 328 = .ok (.sipush 2000, 3) := by decide +kernel
theorem dL_would_331 : decode cL_would 331 = .ok (.if_icmp .ge 7, 3) := by decide +kernel
theorem dL_would_334 : decode cL_would 334 = .ok (.iconst 1, 1) := by decide +kernel
theorem dL_would_335 : decode cL_would 335 = .ok (.goto 4, 3) := by decide +kernel
theorem dL_would_338 : decode cL_would 338 = .ok (.iconst 0, 1) := by decide +kernel
theorem dL_would_339 : decode cL_would 339 = .ok (.istore 15, 2) := by decide +kernel
theorem dL_would_341 : decode cL_would 341 = .ok (.iload 15, 2) := by decide +kernel
theorem dL_would_343 : decode cL_would 343 = .ok (.ifCond .eq 153, 3) := by decide +kernel
theorem dL_would_346 : decode cL_would 346 = .ok (.iload 14, 2) := by decide +kernel
theorem dL_would_348 : decode cL_would 348 = .ok (.ifCond .eq 12, 3) := by decide +kernel
theorem dL_would_351 : decode cL_would 351 = .ok (.iload 10, 2) := by decide +kernel
theorem dL_would_353 : decode cL_would 353 = .ok (.iconst (-1), 1) := by decide +kernel
theorem dL_would_354 : decode cL_would 354 = .ok (.if_icmp .ne 142, 3) := by decide +kernel
theorem dL_would_357 : decode cL_would 357 = .ok (.goto 90, 3) := by decide +kernel
theorem dL_would_360 : decode cL_would 360 = .ok (.iload 9, 2) := by decide +kernel
theorem dL_would_362 : decode cL_would 362 = .ok (.ifCond .ne 67, 3) := by decide +kernel
theorem dL_would_365 : decode cL_would 365 = .ok (.iload 10, 2) := by decide +kernel
theorem dL_would_367 : decode cL_would 367 = .ok (.ifCond .lt 129, 3) := by decide +kernel
theorem dL_would_370 : decode cL_would 370 = .ok (.iload 10, 2) := by decide +kernel
theorem dL_would_372 : decode cL_would 372 = .ok (.aload_n 0, 1) := by decide +kernel
theorem dL_would_373 : decode cL_would 373 = .ok (.iconst 1, 1) := by decide +kernel
theorem dL_would_374 : decode cL_would 374 = .ok (.invokevirtual 13, 3) := by decide +kernel
theorem dL_would_377 : decode cL_would 377 = .ok (.if_icmp .gt 119, 3) := by decide +kernel
theorem dL_would_380 : decode cL_would 380 = .ok (.iload 11, 2) := by decide +kernel
theorem dL_would_382 : decode cL_would 382 = .ok (.bipush (-4), 2) := by decide +kernel
theorem dL_would_384 : decode cL_would 384 = .ok (.if_icmp .eq 15, 3) := by decide +kernel
theorem dL_would_387 : decode cL_would 387 = .ok (.iload 8, 2) := by decide +kernel
theorem dL_would_389 : decode cL_would 389 = .ok (.iload 11, 2) := by decide +kernel
theorem dL_would_391 : decode cL_would 391 = .ok (.if_icmp .ne 8, 3) := by decide +kernel
theorem dL_would_394 : decode cL_would 394 = .ok (.iload 10, 2) := by decide +kernel
theorem dL_would_396 : decode cL_would 396 = .ok (.ifCond .le 100, 3) := by decide +kernel
theorem dL_would_399 : decode cL_would 399 = .ok (.iload 11, 2) := by decide +kernel
theorem dL_would_401 : decode cL_would 401 = .ok (.bipush (-4), 2) := by decide +kernel
theorem dL_would_403 : decode cL_would 403 = .ok (.if_icmp .ne 11, 3) := by decide +kernel
theorem dL_would_406 : decode cL_would 406 = .ok (.iload 10, 2) := by decide +kernel
theorem dL_would_408 : decode cL_would 408 = .ok (.ifCond .ne 88, 3) := by decide +kernel
theorem dL_would_411 : decode cL_would 411 = .ok (.goto 36, 3) := by decide +kernel
theorem dL_would_414 : decode cL_would 414 = .ok (.iload 8, 2) := by decide +kernel
theorem dL_would_416 : decode cL_would 416 = .ok (.iload 11, 2) := by decide +kernel
theorem dL_would_418 : decode cL_would 418 = .ok (.if_icmp .ge 29, 3) := by decide +kernel
theorem dL_would_421 : decode cL_would 421 = .ok (.iload 10, 2) := by decide +kernel
theorem dL_would_423 : decode cL_would 423 = .ok (.ifCond .ne 73, 3) := by decide +kernel
theorem dL_would_426 : decode cL_would 426 = .ok (.goto 21, 3) := by decide +kernel
theorem dL_would_429 : decode cL_would 429 = .ok (.iload 10, 2) := by decide +kernel
theorem dL_would_431 : decode cL_would 431 = .ok (.aload_n 0, 1) := by decide +kernel
theorem dL_would_432 : decode cL_would 432 = .ok (.iconst 4, 1) := by decide +kernel
theorem dL_would_433 : decode cL_would 433 = .ok (.invokevirtual 13, 3) := by decide +kernel
theorem dL_would_436 : decode cL_would 436 = .ok (.if_icmp .lt 60, 3) := by decide +kernel
theorem dL_would_439 : decode cL_would 439 = .ok (.iload 10, 2) := by decide +kernel
theorem dL_would_441 : decode cL_would 441 = .ok (.sipush 792, 3) := by decide +kernel
theorem dL_would_444 : decode cL_would 444 = .ok (.if_icmp .gt 52, 3) := by decide +kernel
theorem dL_would_447 : decode cL_would 447 = .ok (.iload 11, 2) := by decide +kernel
theorem dL_would_449 : decode cL_would 449 = .ok (.bipush (-4), 2) := by decide +kernel
theorem dL_would_451 : decode cL_would 451 = .ok (.if_icmp .eq 15, 3) := by decide +kernel
theorem dL_would_454 : decode cL_would 454 = .ok (.iload 11, 2) := by decide +kernel
theorem dL_would_456 : decode cL_would 456 = .ok (.ifCond .lt 40, 3) := by decide +kernel
theorem dL_would_459 : decode cL_would 459 = .ok (.iload 11, 2) := by decide +kernel
theorem dL_would_461 : decode cL_would 461 = .ok (.bipush 60, 2) := by decide +kernel
theorem dL_would_463 : decode cL_would 463 = .ok (.if_icmp .gt 33, 3) := by decide +kernel
theorem dL_would_466 : decode cL_would 466 = .ok (.iload 11, 2) := by decide +kernel
theorem dL_would_468 : decode cL_would 468 = .ok (.ifCond .ne 7, 3) := by decide +kernel
theorem dL_would_471 : decode cL_would 471 = .ok (.iconst 1, 1) := by decide +kernel
theorem dL_would_472 : decode cL_would 472 = .ok (.goto 4, 3) := by decide +kernel
theorem dL_would_475 : decode cL_would 475 = .ok (.iconst 0, 1) := by decide +kernel
theorem dL_would_476 : decode cL_would 476 = .ok (.aload_n 0, 1) := by decide +kernel
theorem dL_would_477 : decode cL_would 477 = .ok (.iconst 3, 1) := by decide +kernel
theorem dL_would_478 : decode cL_would 478 = .ok (.invokevirtual 13, 3) := by decide +kernel
theorem dL_would_481 : decode cL_would 481 = .ok (.ifCond .le 7, 3) := by decide +kernel
theorem dL_would_484 : decode cL_would 484 = .ok (.iconst 1, 1) := by decide +kernel
theorem dL_would_485 : decode cL_would 485 = .ok (.goto 4, 3) := by decide +kernel
theorem dL_would_488 : decode cL_would 488 = .ok (.iconst 0, 1) := by decide +kernel
theorem dL_would_489 : decode cL_would 489 = .ok (.if_icmp .ne 7, 3) := by decide +kernel
theorem dL_would_492 : decode cL_would 492 = .ok (.iconst 1, 1) := by decide +kernel
theorem dL_would_493 : decode cL_would 493 = .ok (.goto 4, 3) := by decide +kernel
theorem dL_would_496 : decode cL_would 496 = .ok (.iconst 0, 1) := by decide +kernel
theorem dL_would_497 : decode cL_would 497 = .ok (.ireturn, 1) := by decide +kernel
theorem dL_types_0 : decode cL_types 0 = .ok (.iload_n 1, 1) := by decide +kernel
theorem dL_types_1 : decode cL_types 1 = .ok (.bipush 9, 2) := by decide +kernel
theorem dL_types_3 : decode cL_types 3 = .ok (.invokestatic 39, 3) := by decide +kernel
theorem dL_types_6 : decode cL_types 6 = .ok (.istore_n 2, 1) := by decide +kernel
theorem dL_types_7 : decode cL_types 7 = .ok (.aload_n 0, 1) := by decide +kernel
theorem dL_types_8 : decode cL_types 8 = .ok (.invokevirtual 55, 3) := by decide +kernel
theorem dL_types_11 : decode cL_types 11 = .ok (.ifCond .lt 7, 3) := by decide +kernel
theorem dL_types_14 : decode cL_types 14 = .ok (.iconst 1, 1) := by decide +kernel
theorem dL_types_15 : decode cL_types 15 = .ok (.goto 4, 3) := by decide +kernel
theorem dL_types_18 : decode cL_types 18 = .ok (.iconst 0, 1) := by decide +kernel
theorem dL_types_19 : decode cL_types 19 = .ok (.istore_n 3, 1) := by decide +kernel
theorem dL_types_20 : decode cL_types 20 = .ok (.iconst 0, 1) := by decide +kernel
theorem dL_types_21 : decode cL_types 21 = .ok (.istore 4, 2) := by decide +kernel
theorem dL_types_23 : decode cL_types 23 = .ok (.iload 4, 2) := by decide +kernel
theorem dL_types_25 : decode cL_types 25 = .ok (.iload_n 2, 1) := by decide +kernel
theorem dL_types_26 : decode cL_types 26 = .ok (.if_icmp .ge 256, 3) := by decide +kernel
theorem dL_types_29 : decode cL_types 29 = .ok (.iload_n 1, 1) := by decide +kernel
theorem dL_types_30 : decode cL_types 30 = .ok (.iconst 1, 1) := by decide +kernel
theorem dL_types_31 : decode cL_types 31 = .ok (.iconst 2, 1) := by decide +kernel
theorem dL_types_32 : decode cL_types 32 = .ok (.iload 4, 2) := by decide +kernel
theorem dL_types_34 : decode cL_types 34 = .ok (.imul, 1) := by decide +kernel
theorem dL_types_35 : decode cL_types 35 = .ok (.iadd, 1) := by decide +kernel
theorem dL_types_36 : decode cL_types 36 = .ok (.ishr, 1) := by decide +kernel
theorem dL_types_37 : decode cL_types 37 = .ok (.istore 5, 2) := by decide +kernel
theorem dL_types_39 : decode cL_types 39 = .ok (.iload 5, 2) := by decide +kernel
theorem dL_types_41 : decode cL_types 41 = .ok (.iconst 5, 1) := by decide +kernel
theorem dL_types_42 : decode cL_types 42 = .ok (.ishr, 1) := by decide +kernel
theorem dL_types_43 : decode cL_types 43 = .ok (.iconst 3, 1) := by decide +kernel
theorem dL_types_44 : decode cL_types 44 = .ok (.invokestatic 39, 3) := by decide +kernel
theorem dL_types_47 : decode cL_types 47 = .ok (.ifCond .le 18, 3) := by decide +kernel
theorem dL_types_50 : decode cL_types 50 = .ok (.iload 5, 2) := by decide +kernel
theorem dL_types_52 : decode cL_types 52 = .ok (.bipush 7, 2) := by decide +kernel
theorem dL_types_54 : decode cL_types 54 = .ok (.ishr, 1) := by decide +kernel
theorem dL_types_55 : decode cL_types 55 = .ok (.bipush 21, 2) := by decide +kernel
theorem dL_types_57 : decode cL_types 57 = .ok (.invokestatic 39, 3) := by decide +kernel
theorem dL_types_60 : decode cL_types 60 = .ok (.iconst 4, 1) := by decide +kernel
theorem dL_types_61 : decode cL_types 61 = .ok (.isub, 1) := by decide +kernel
theorem dL_types_62 : decode cL_types 62 = .ok (.goto 33, 3) := by decide +kernel
theorem dL_types_65 : decode cL_types 65 = .ok (.iload 5, 2) := by decide +kernel
theorem dL_types_67 : decode cL_types 67 = .ok (.bipush 7, 2) := by decide +kernel
theorem dL_types_69 : decode cL_types 69 = .ok (.ishr, 1) := by decide +kernel
theorem dL_types_70 : decode cL_types 70 = .ok (.iload_n 1, 1) := by decide +kernel
theorem dL_types_71 : decode cL_types 71 = .ok (.bipush 22, 2) := by decide +kernel
theorem dL_types_73 : decode cL_types 73 = .ok (.ishr, 1) := by decide +kernel
theorem dL_types_74 : decode cL_types 74 = .ok (.bipush 9, 2) := by decide +kernel
theorem dL_types_76 : decode cL_types 76 = .ok (.invokestatic 39, 3) := by decide +kernel
theorem dL_types_79 : decode cL_types 79 = .ok (.ifCond .ne 8, 3) := by decide +kernel
theorem dL_types_82 : decode cL_types 82 = .ok (.bipush 99, 2) := by decide +kernel
theorem dL_types_84 : decode cL_types 84 = .ok (.goto 5, 3) := by decide +kernel
theorem dL_types_87 : decode cL_types 87 = .ok (.bipush 91, 2) := by decide +kernel
theorem dL_types_89 : decode cL_types 89 = .ok (.invokestatic 39, 3) := by decide +kernel
theorem dL_types_92 : decode cL_types 92 = .ok (.bipush 30, 2) := by decide +kernel
theorem dL_types_94 : decode cL_types 94 = .ok (.isub, 1) := by decide +kernel
theorem dL_types_95 : decode cL_types 95 = .ok (.istore 6, 2) := by decide +kernel
theorem dL_types_97 : decode cL_types 97 = .ok (.iload 6, 2) := by decide +kernel
theorem dL_types_99 : decode cL_types 99 = .ok (.ifCond .ge 9, 3) := by decide +kernel
theorem dL_types_102 : decode cL_types 102 = .ok (.iload 6, 2) := by decide +kernel
theorem dL_types_104 : decode cL_types 104 = .ok (.ineg, 1) := by decide +kernel
theorem dL_types_105 : decode cL_types 105 = .ok (.goto 5, 3) := by decide +kernel
theorem dL_types_108 : decode cL_types 108 = .ok (.iload 6, 2) := by decide +kernel
theorem dL_types_110 : decode cL_types 110 = .ok (.istore 7, 2) := by decide +kernel
theorem dL_types_112 : decode cL_types 112 = .ok (.iload_n 3, 1) := by decide +kernel
theorem dL_types_113 : decode cL_types 113 = .ok (.ifCond .eq 161, 3) := by decide +kernel
theorem dL_types_116 : decode cL_types 116 = .ok (.iload 4, 2) := by decide +kernel
theorem dL_types_118 : decode cL_types 118 = .ok (.ifCond .eq 12, 3) := by decide +kernel
theorem dL_types_121 : decode cL_types 121 = .ok (.aload_n 0, 1) := by decide +kernel
theorem dL_types_122 : decode cL_types 122 = .ok (.bipush 59, 2) := by decide +kernel
theorem dL_types_124 : decode cL_types 124 = .ok (.invokevirtual 58, 3) := by decide +kernel
theorem dL_types_127 : decode cL_types 127 = .ok (.ifCond .le 147, 3) := by decide +kernel
theorem dL_types_130 : decode cL_types 130 = .ok (.aload_n 0, 1) := by decide +kernel
theorem dL_types_131 : decode cL_types 131 = .ok (.bipush 48, 2) := by decide +kernel
theorem dL_types_133 : decode cL_types 133 = .ok (.iload 5, 2) := by decide +kernel
theorem dL_types_135 : decode cL_types 135 = .ok (.iload_n 1, 1) := by decide +kernel
theorem dL_types_136 : decode cL_types 136 = .ok (.bipush 23, 2) := by decide +kernel
theorem dL_types_138 : decode cL_types 138 = .ok (.ishr, 1) := by decide +kernel
theorem dL_types_139 : decode cL_types 139 = .ok (.bipush 9, 2) := by decide +kernel
theorem dL_types_141 : decode cL_types 141 = .ok (.invokestatic 39, 3) := by decide +kernel
theorem dL_types_144 : decode cL_types 144 = .ok (.ifCond .ne 8, 3) := by decide +kernel
theorem dL_types_147 : decode cL_types 147 = .ok (.bipush 9, 2) := by decide +kernel
theorem dL_types_149 : decode cL_types 149 = .ok (.goto 5, 3) := by decide +kernel
theorem dL_types_152 : decode cL_types 152 = .ok (.bipush 8, 2) := by decide +kernel
theorem dL_types_154 : decode cL_types 154 = .ok (.invokestatic 39, 3) := by decide +kernel
theorem dL_types_157 : decode cL_types 157 = .ok (.iadd, 1) := by decide +kernel
theorem dL_types_158 : decode cL_types 158 = .ok (.invokevirtual 58, 3) := by decide +kernel
theorem dL_types_161 : decode cL_types 161 = .ok (.ifCond .le 113, 3) := by decide +kernel
theorem dL_types_164 : decode cL_types 164 = .ok (.aload_n 0, 1) := by decide +kernel
theorem dL_types_165 : decode cL_types 165 = .ok (.bipush 60, 2) := by decide +kernel
theorem dL_types_167 : decode cL_types 167 = .ok (.invokevirtual 58, 3) := by decide +kernel
theorem dL_types_170 : decode cL_types 170 = .ok (.ifCond .le 104, 3) := by decide +kernel
theorem dL_types_173 : decode cL_types 173 = .ok (.aload_n 0, 1) := by decide +kernel
theorem dL_types_174 : decode cL_types 174 = .ok (.bipush 48, 2) := by decide +kernel
theorem dL_types_176 : decode cL_types 176 = .ok (.iload 5, 2) := by decide +kernel
theorem dL_types_178 : decode cL_types 178 = .ok (.iconst 3, 1) := by decide +kernel
theorem dL_types_179 : decode cL_types 179 = .ok (.ishr, 1) := by decide +kernel
theorem dL_types_180 : decode cL_types 180 = .ok (.iload_n 1, 1) := by decide +kernel
theorem dL_types_181 : decode cL_types 181 = .ok (.bipush 24, 2) := by decide +kernel
theorem dL_types_183 : decode cL_types 183 = .ok (.ishr, 1) := by decide +kernel
theorem dL_types_184 : decode cL_types 184 = .ok (.bipush 9, 2) := by decide +kernel
theorem dL_types_186 : decode cL_types 186 = .ok (.invokestatic 39, 3) := by decide +kernel
theorem dL_types_189 : decode cL_types 189 = .ok (.ifCond .ne 8, 3) := by decide +kernel
theorem dL_types_192 : decode cL_types 192 = .ok (.bipush 9, 2) := by decide +kernel
theorem dL_types_194 : decode cL_types 194 = .ok (.goto 5, 3) := by decide +kernel
theorem dL_types_197 : decode cL_types 197 = .ok (.bipush 8, 2) := by decide +kernel
theorem dL_types_199 : decode cL_types 199 = .ok (.invokestatic 39, 3) := by decide +kernel
theorem dL_types_202 : decode cL_types 202 = .ok (.iadd, 1) := by decide +kernel
theorem dL_types_203 : decode cL_types 203 = .ok (.invokevirtual 58, 3) := by decide +kernel
theorem dL_types_206 : decode cL_types 206 = .ok (.ifCond .le 68, 3) := by decide +kernel
theorem dL_types_209 : decode cL_types 209 = .ok (.iload 6, 2) := by decide +kernel
theorem dL_types_211 : decode cL_types 211 = .ok (.ifCond .eq 59, 3) := by decide +kernel
theorem dL_types_214 : decode cL_types 214 = .ok (.aload_n 0, 1) := by decide +kernel
theorem dL_types_215 : decode cL_types 215 = .ok (.iload 6, 2) := by decide +kernel
theorem dL_types_217 : decode cL_types 217 = .ok (.ifCond .ge 8, 3) := by decide +kernel
theorem dL_types_220 : decode cL_types 220 = .ok (.bipush 45, 2) := by decide +kernel
theorem dL_types_222 : decode cL_types 222 = .ok (.goto 5, 3) := by decide +kernel
theorem dL_types_225 : decode cL_types 225 = .ok (.bipush 43, 2) := by decide +kernel
theorem dL_types_227 : decode cL_types 227 = .ok (.invokevirtual 58, 3) := by decide +kernel
theorem dL_types_230 : decode cL_types 230 = .ok (.ifCond .le 44, 3) := by decide +kernel
theorem dL_types_233 : decode cL_types 233 = .ok (.iload 7, 2) := by decide +kernel
theorem dL_types_235 : decode cL_types 235 = .ok (.bipush 10, 2) := by decide +kernel
theorem dL_types_237 : decode cL_types 237 = .ok (.if_icmp .lt 18, 3) := by decide +kernel
theorem dL_types_240 : decode cL_types 240 = .ok (.aload_n 0, 1) := by decide +kernel
theorem dL_types_241 : decode cL_types 241 = .ok (.bipush 48, 2) := by decide +kernel
theorem dL_types_243 : decode cL_types 243 = .ok (.iload 7, 2) := by decide +kernel
theorem dL_types_245 : decode cL_types 245 = .ok (.bipush 10, 2) := by decide +kernel
theorem dL_types_247 : decode cL_types 247 = .ok (.idiv, 1) := by decide +kernel
theorem dL_types_248 : decode cL_types 248 = .ok (.iadd, 1) := by decide +kernel
theorem dL_types_249 : decode cL_types 249 = .ok (.invokevirtual 58, 3) := by decide +kernel
theorem dL_types_252 : decode cL_types 252 = .ok (.ifCond .le 22, 3) := by decide +kernel
theorem dL_types_255 : decode cL_types 255 = .ok (.aload_n 0, 1) := by decide +kernel
theorem dL_types_256 : decode cL_types 256 = .ok (.bipush 48, 2) := by decide +kernel
theorem dL_types_258 : decode cL_types 258 = .ok (.iload 7, 2) := by decide +kernel
theorem dL_types_260 : decode cL_types 260 = .ok (.bipush 10, 2) := by decide +kernel
theorem dL_types_262 : decode cL_types 262 = .ok (.irem, 1) := by decide +kernel
theorem dL_types_263 : decode cL_types 263 = .ok (.iadd, 1) := by decide +kernel
theorem dL_types_264 : decode cL_types 264 = .ok (.invokevirtual 58, 3) := by decide +kernel
theorem dL_types_267 : decode cL_types 267 = .ok (.ifCond .le 7, 3) := by decide +kernel
theorem dL_types_270 : decode cL_types 270 = .ok (.iconst 1, 1) := by decide +kernel
theorem dL_types_271 : decode cL_types 271 = .ok (.goto 4, 3) := by decide +kernel
theorem dL_types_274 : decode cL_types 274 = .ok (.iconst 0, 1) := by decide +kernel
theorem dL_types_275 : decode cL_types 275 = .ok (.istore_n 3, 1) := by decide +kernel
theorem dL_types_276 : decode cL_types 276 = .ok (.iinc 4 1, 3) := by decide +kernel
theorem dL_types_279 : decode cL_types 279 = .ok (.goto (-256), 3) := by decide +kernel
theorem dL_types_282 : decode cL_types 282 = .ok (.iload_n 3, 1) := by decide +kernel
theorem dL_types_283 : decode cL_types 283 = .ok (.ifCond .eq 28, 3) := by decide +kernel
theorem dL_types_286 : decode cL_types 286 = .ok (.iload_n 1, 1) := by decide +kernel
theorem dL_types_287 : decode cL_types 287 = .ok (.bipush 26, 2) := by decide +kernel
theorem dL_types_289 : decode cL_types 289 = .ok (.ishr, 1) := by decide +kernel
theorem dL_types_290 : decode cL_types 290 = .ok (.bipush 6, 2) := by decide +kernel
theorem dL_types_292 : decode cL_types 292 = .ok (.invokestatic 39, 3) := by decide +kernel
theorem dL_types_295 : decode cL_types 295 = .ok (.ifCond .gt 12, 3) := by decide +kernel
theorem dL_types_298 : decode cL_types 298 = .ok (.aload_n 0, 1) := by decide +kernel
theorem dL_types_299 : decode cL_types 299 = .ok (.bipush 59, 2) := by decide +kernel
theorem dL_types_301 : decode cL_types 301 = .ok (.invokevirtual 58, 3) := by decide +kernel
theorem dL_types_304 : decode cL_types 304 = .ok (.ifCond .le 7, 3) := by decide +kernel
theorem dL_types_307 : decode cL_types 307 = .ok (.iconst 1, 1) := by decide +kernel
theorem dL_types_308 : decode cL_types 308 = .ok (.goto 4, 3) := by decide +kernel
theorem dL_types_311 : decode cL_types 311 = .ok (.iconst 0, 1) := by decide +kernel
theorem dL_types_312 : decode cL_types 312 = .ok (.ireturn, 1) := by decide +kernel
theorem dL_signs_0 : decode cL_signs 0 = .ok (.iload_n 1, 1) := by decide +kernel
theorem dL_signs_1 : decode cL_signs 1 = .ok (.bipush 9, 2) := by decide +kernel
theorem dL_signs_3 : decode cL_signs 3 = .ok (.invokestatic 39, 3) := by decide +kernel
theorem dL_signs_6 : decode cL_signs 6 = .ok (.istore_n 2, 1) := by decide +kernel
theorem dL_signs_7 : decode cL_signs 7 = .ok (.aload_n 0, 1) := by decide +kernel
theorem dL_signs_8 : decode cL_signs 8 = .ok (.iload_n 1, 1) := by decide +kernel
theorem dL_signs_9 : decode cL_signs 9 = .ok (.invokestatic 61, 3) := by decide +kernel
theorem dL_signs_12 : decode cL_signs 12 = .ok (.istore_n 3, 1) := by decide +kernel
theorem dL_signs_13 : decode cL_signs 13 = .ok (.aload_n 0, 1) := by decide +kernel
theorem dL_signs_14 : decode cL_signs 14 = .ok (.invokestatic 65, 3) := by decide +kernel
theorem dL_signs_17 : decode cL_signs 17 = .ok (.lstore 4, 2) := by decide +kernel
theorem dL_signs_19 : decode cL_signs 19 = .ok (.aload_n 0, 1) := by decide +kernel
theorem dL_signs_20 : decode cL_signs 20 = .ok (.bipush 12, 2) := by decide +kernel
theorem dL_signs_22 : decode cL_signs 22 = .ok (.invokevirtual 13, 3) := by decide +kernel
theorem dL_signs_25 : decode cL_signs 25 = .ok (.istore 6, 2) := by decide +kernel
theorem dL_signs_27 : decode cL_signs 27 = .ok (.aload_n 0, 1) := by decide +kernel
theorem dL_signs_28 : decode cL_signs 28 = .ok (.iconst 1, 1) := by decide +kernel
theorem dL_signs_29 : decode cL_signs 29 = .ok (.invokevirtual 13, 3) := by decide +kernel
theorem dL_signs_32 : decode cL_signs 32 = .ok (.istore 7, 2) := by decide +kernel
theorem dL_signs_34 : decode cL_signs 34 = .ok (.aload_n 0, 1) := by decide +kernel
theorem dL_signs_35 : decode cL_signs 35 = .ok (.bipush 7, 2) := by decide +kernel
theorem dL_signs_37 : decode cL_signs 37 = .ok (.invokevirtual 13, 3) := by decide +kernel
theorem dL_signs_40 : decode cL_signs 40 = .ok (.istore 8, 2) := by decide +kernel
theorem dL_signs_42 : decode cL_signs 42 = .ok (.aload_n 0, 1) := by decide +kernel
theorem dL_signs_43 : decode cL_signs 43 = .ok (.bipush 8, 2) := by decide +kernel
theorem dL_signs_45 : decode cL_signs 45 = .ok (.invokevirtual 13, 3) := by decide +kernel
theorem dL_signs_48 : decode cL_signs 48 = .ok (.istore 9, 2) := by decide +kernel
theorem dL_signs_50 : decode cL_signs 50 = .ok (.aload_n 0, 1) := by decide +kernel
theorem dL_signs_51 : decode cL_signs 51 = .ok (.bipush 11, 2) := by decide +kernel
theorem dL_signs_53 : decode cL_signs 53 = .ok (.invokevirtual 13, 3) := by decide +kernel
theorem dL_signs_56 : decode cL_signs 56 = .ok (.istore 10, 2) := by decide +kernel
theorem dL_signs_58 : decode cL_signs 58 = .ok (.aload_n 0, 1) := by decide +kernel
theorem dL_signs_59 : decode cL_signs 59 = .ok (.invokevirtual 69, 3) := by decide +kernel
theorem dL_signs_62 : decode cL_signs 62 = .ok (.istore 11, 2) := by decide +kernel
theorem dL_signs_64 : decode cL_signs 64 = .ok (.aload_n 0, 1) := by decide +kernel
theorem dL_signs_65 : decode cL_signs 65 = .ok (.invokevirtual 72, 3) := by decide +kernel
theorem dL_signs_68 : decode cL_signs 68 = .ok (.istore 12, 2) := by decide +kernel
theorem dL_signs_70 : decode cL_signs 70 = .ok (.aload_n 0, 1) := by decide +kernel
theorem dL_signs_71 : decode cL_signs 71 = .ok (.invokevirtual 55, 3) := by decide +kernel
theorem dL_signs_74 : decode cL_signs 74 = .ok (.istore 13, 2) := by decide +kernel
theorem dL_signs_76 : decode cL_signs 76 = .ok (.iload_n 3, 1) := by decide +kernel
theorem dL_signs_77 : decode cL_signs 77 = .ok (.ifCond .eq 34, 3) := by decide +kernel
theorem dL_signs_80 : decode cL_signs 80 = .ok (.iload 12, 2) := by decide +kernel
theorem dL_signs_82 : decode cL_signs 82 = .ok (.bipush (-2), 2) := by decide +kernel
theorem dL_signs_84 : decode cL_signs 84 = .ok (.if_icmp .ne 7, 3) := by decide +kernel
theorem dL_signs_87 : decode cL_signs 87 = .ok (.iconst 1, 1) := by decide +kernel
theorem dL_signs_88 : decode cL_signs 88 = .ok (.goto 4, 3) := by decide +kernel
theorem dL_signs_91 : decode cL_signs 91 = .ok (.iconst 0, 1) := by decide +kernel
theorem dL_signs_92 : decode cL_signs 92 = .ok (.iload 11, 2) := by decide +kernel
theorem dL_signs_94 : decode cL_signs 94 = .ok (.bipush (-4), 2) := by decide +kernel
theorem dL_signs_96 : decode cL_signs 96 = .ok (.if_icmp .eq 7, 3) := by decide +kernel
theorem dL_signs_99 : decode cL_signs 99 = .ok (.iconst 1, 1) := by decide +kernel
theorem dL_signs_100 : decode cL_signs 100 = .ok (.goto 4, 3) := by decide +kernel
theorem dL_signs_103 : decode cL_signs 103 = .ok (.iconst 0, 1) := by decide +kernel
theorem dL_signs_104 : decode cL_signs 104 = .ok (.if_icmp .ne 7, 3) := by decide +kernel
theorem dL_signs_107 : decode cL_signs 107 = .ok (.iconst 1, 1) := by decide +kernel
theorem dL_signs_108 : decode cL_signs 108 = .ok (.goto 4, 3) := by decide +kernel
theorem dL_signs_111 : decode cL_signs 111 = .ok (.iconst 0, 1) := by decide +kernel
theorem dL_signs_112 : decode cL_signs 112 = .ok (.istore 14, 2) := by decide +kernel
theorem dL_signs_114 : decode cL_signs 114 = .ok (.iload 12, 2) := by decide +kernel
theorem dL_signs_116 : decode cL_signs 116 = .ok (.ifCond .ge 54, 3) := by decide +kernel
theorem dL_signs_119 : decode cL_signs 119 = .ok (.iload 14, 2) := by decide +kernel
theorem dL_signs_121 : decode cL_signs 121 = .ok (.ifCond .eq 47, 3) := by decide +kernel
theorem dL_signs_124 : decode cL_signs 124 = .ok (.iload 11, 2) := by decide +kernel
theorem dL_signs_126 : decode cL_signs 126 = .ok (.ifCond .lt 42, 3) := by decide +kernel
theorem dL_signs_129 : decode cL_signs 129 = .ok (.iload 11, 2) := by decide +kernel
theorem dL_signs_131 : decode cL_signs 131 = .ok (.iload 10, 2) := by decide +kernel
theorem dL_signs_133 : decode cL_signs 133 = .ok (.if_icmp .gt 35, 3) := by decide +kernel
theorem dL_signs_136 : decode cL_signs 136 = .ok (.iload 13, 2) := by decide +kernel
theorem dL_signs_138 : decode cL_signs 138 = .ok (.iload 10, 2) := by decide +kernel
theorem dL_signs_140 : decode cL_signs 140 = .ok (.if_icmp .ne 28, 3) := by decide +kernel
theorem dL_signs_143 : decode cL_signs 143 = .ok (.aload_n 0, 1) := by decide +kernel
theorem dL_signs_144 : decode cL_signs 144 = .ok (.invokestatic 65, 3) := by decide +kernel
theorem dL_signs_147 : decode cL_signs 147 = .ok (.lload 4, 2) := by decide +kernel
theorem dL_signs_149 : decode cL_signs 149 = .ok (.lcmp, 1) := by decide +kernel
theorem dL_signs_150 : decode cL_signs 150 = .ok (.ifCond .ne 18, 3) := by decide +kernel
theorem dL_signs_153 : decode cL_signs 153 = .ok (.aload_n 0, 1) := by decide +kernel
theorem dL_signs_154 : decode cL_signs 154 = .ok (.bipush 12, 2) := by decide +kernel
theorem dL_signs_156 : decode cL_signs 156 = .ok (.invokevirtual 13, 3) := by decide +kernel
theorem dL_signs_159 : decode cL_signs 159 = .ok (.iload 6, 2) := by decide +kernel
theorem dL_signs_161 : decode cL_signs 161 = .ok (.if_icmp .ne 7, 3) := by decide +kernel
theorem dL_signs_164 : decode cL_signs 164 = .ok (.iconst 1, 1) := by decide +kernel
theorem dL_signs_165 : decode cL_signs 165 = .ok (.goto 4, 3) := by decide +kernel
theorem dL_signs_168 : decode cL_signs 168 = .ok (.iconst 0, 1) := by decide +kernel
theorem dL_signs_169 : decode cL_signs 169 = .ok (.ireturn, 1) := by decide +kernel
theorem dL_signs_170 : decode cL_signs 170 = .ok (.aload_n 0, 1) := by decide +kernel
theorem dL_signs_171 : decode cL_signs 171 = .ok (.iconst 0, 1) := by decide +kernel
theorem dL_signs_172 : decode cL_signs 172 = .ok (.invokevirtual 75, 3) := by decide +kernel
theorem dL_signs_175 : decode cL_signs 175 = .ok (.istore 15, 2) := by decide +kernel
theorem dL_signs_177 : decode cL_signs 177 = .ok (.iload 14, 2) := by decide +kernel
theorem dL_signs_179 : decode cL_signs 179 = .ok (.ifCond .eq 180, 3) := by decide +kernel
theorem dL_signs_182 : decode cL_signs 182 = .ok (.iload 12, 2) := by decide +kernel
theorem dL_signs_184 : decode cL_signs 184 = .ok (.iload_n 2, 1) := by decide +kernel
theorem dL_signs_185 : decode cL_signs 185 = .ok (.if_icmp .gt 174, 3) := by decide +kernel
theorem dL_signs_188 : decode cL_signs 188 = .ok (.iload 13, 2) := by decide +kernel
theorem dL_signs_190 : decode cL_signs 190 = .ok (.ifCond .ne 169, 3) := by decide +kernel
theorem dL_signs_193 : decode cL_signs 193 = .ok (.aload_n 0, 1) := by decide +kernel
theorem dL_signs_194 : decode cL_signs 194 = .ok (.bipush 12, 2) := by decide +kernel
theorem dL_signs_196 : decode cL_signs 196 = .ok (.invokevirtual 13, 3) := by decide +kernel
theorem dL_signs_199 : decode cL_signs 199 = .ok (.iload 6, 2) := by decide +kernel
theorem dL_signs_201 : decode cL_signs 201 = .ok (.iconst 4, 1) := by decide +kernel
theorem dL_signs_202 : decode cL_signs 202 = .ok (.if_icmp .ge 10, 3) := by decide +kernel
theorem dL_signs_205 : decode cL_signs 205 = .ok (.iload 6, 2) := by decide +kernel
theorem dL_signs_207 : decode cL_signs 207 = .ok (.iconst 1, 1) := by decide +kernel
theorem dL_signs_208 : decode cL_signs 208 = .ok (.iadd, 1) := by decide +kernel
theorem dL_signs_209 : decode cL_signs 209 = .ok (.goto 4, 3) := by decide +kernel
theorem dL_signs_212 : decode cL_signs 212 = .ok (.iconst 4, 1) := by decide +kernel
theorem dL_signs_213 : decode cL_signs 213 = .ok (.if_icmp .ne 146, 3) := by decide +kernel
theorem dL_signs_216 : decode cL_signs 216 = .ok (.aload_n 0, 1) := by decide +kernel
theorem dL_signs_217 : decode cL_signs 217 = .ok (.iconst 1, 1) := by decide +kernel
theorem dL_signs_218 : decode cL_signs 218 = .ok (.invokevirtual 13, 3) := by decide +kernel
theorem dL_signs_221 : decode cL_signs 221 = .ok (.iload 7, 2) := by decide +kernel
theorem dL_signs_223 : decode cL_signs 223 = .ok (.iload 12, 2) := by decide +kernel
theorem dL_signs_225 : decode cL_signs 225 = .ok (.iadd, 1) := by decide +kernel
theorem dL_signs_226 : decode cL_signs 226 = .ok (.if_icmp .ne 133, 3) := by decide +kernel
theorem dL_signs_229 : decode cL_signs 229 = .ok (.aload_n 0, 1) := by decide +kernel
theorem dL_signs_230 : decode cL_signs 230 = .ok (.bipush 7, 2) := by decide +kernel
theorem dL_signs_232 : decode cL_signs 232 = .ok (.invokevirtual 13, 3) := by decide +kernel
theorem dL_signs_235 : decode cL_signs 235 = .ok (.iload 8, 2) := by decide +kernel
theorem dL_signs_237 : decode cL_signs 237 = .ok (.iload 12, 2) := by decide +kernel
theorem dL_signs_239 : decode cL_signs 239 = .ok (.iadd, 1) := by decide +kernel
theorem dL_signs_240 : decode cL_signs 240 = .ok (.if_icmp .ne 119, 3) := by decide +kernel
theorem dL_signs_243 : decode cL_signs 243 = .ok (.aload_n 0, 1) := by decide +kernel
theorem dL_signs_244 : decode cL_signs 244 = .ok (.bipush 8, 2) := by decide +kernel
theorem dL_signs_246 : decode cL_signs 246 = .ok (.invokevirtual 13, 3) := by decide +kernel
theorem dL_signs_249 : decode cL_signs 249 = .ok (.iload 9, 2) := by decide +kernel
theorem dL_signs_251 : decode cL_signs 251 = .ok (.iload 15, 2) := by decide +kernel
theorem dL_signs_253 : decode cL_signs 253 = .ok (.ifCond .le 7, 3) := by decide +kernel
theorem dL_signs_256 : decode cL_signs 256 = .ok (.iconst 1, 1) := by decide +kernel
theorem dL_signs_257 : decode cL_signs 257 = .ok (.goto 4, 3) := by decide +kernel
theorem dL_signs_260 : decode cL_signs 260 = .ok (.iconst 0, 1) := by decide +kernel
theorem dL_signs_261 : decode cL_signs 261 = .ok (.iadd, 1) := by decide +kernel
theorem dL_signs_262 : decode cL_signs 262 = .ok (.if_icmp .ne 97, 3) := by decide +kernel
theorem dL_signs_265 : decode cL_signs 265 = .ok (.iload 12, 2) := by decide +kernel
theorem dL_signs_267 : decode cL_signs 267 = .ok (.iload_n 2, 1) := by decide +kernel
theorem dL_signs_268 : decode cL_signs 268 = .ok (.if_icmp .ne 7, 3) := by decide +kernel
theorem dL_signs_271 : decode cL_signs 271 = .ok (.iconst 1, 1) := by decide +kernel
theorem dL_signs_272 : decode cL_signs 272 = .ok (.goto 4, 3) := by decide +kernel
theorem dL_signs_275 : decode cL_signs 275 = .ok (.iconst 0, 1) := by decide +kernel
theorem dL_signs_276 : decode cL_signs 276 = .ok (.iload 15, 2) := by decide +kernel
theorem dL_signs_278 : decode cL_signs 278 = .ok (.bipush (-4), 2) := by decide +kernel
theorem dL_signs_280 : decode cL_signs 280 = .ok (.if_icmp .ne 7, 3) := by decide +kernel
theorem dL_signs_283 : decode cL_signs 283 = .ok (.iconst 1, 1) := by decide +kernel
theorem dL_signs_284 : decode cL_signs 284 = .ok (.goto 4, 3) := by decide +kernel
theorem dL_signs_287 : decode cL_signs 287 = .ok (.iconst 0, 1) := by decide +kernel
theorem dL_signs_288 : decode cL_signs 288 = .ok (.if_icmp .ne 71, 3) := by decide +kernel
theorem dL_signs_291 : decode cL_signs 291 = .ok (.iload 15, 2) := by decide +kernel
theorem dL_signs_293 : decode cL_signs 293 = .ok (.bipush (-4), 2) := by decide +kernel
theorem dL_signs_295 : decode cL_signs 295 = .ok (.if_icmp .eq 60, 3) := by decide +kernel
theorem dL_signs_298 : decode cL_signs 298 = .ok (.iload 15, 2) := by decide +kernel
theorem dL_signs_300 : decode cL_signs 300 = .ok (.iconst 1, 1) := by decide +kernel
theorem dL_signs_301 : decode cL_signs 301 = .ok (.if_icmp .eq 22, 3) := by decide +kernel
theorem dL_signs_304 : decode cL_signs 304 = .ok (.iload 15, 2) := by decide +kernel
theorem dL_signs_306 : decode cL_signs 306 = .ok (.iconst 2, 1) := by decide +kernel
theorem dL_signs_307 : decode cL_signs 307 = .ok (.if_icmp .eq 16, 3) := by decide +kernel
theorem dL_signs_310 : decode cL_signs 310 = .ok (.iload 15, 2) := by decide +kernel
theorem dL_signs_312 : decode cL_signs 312 = .ok (.iconst (-1), 1) := by decide +kernel
theorem dL_signs_313 : decode cL_signs 313 = .ok (.if_icmp .eq 10, 3) := by decide +kernel
theorem dL_signs_316 : decode cL_signs 316 = .ok (.iload 15, 2) := by decide +kernel
theorem dL_signs_318 : decode cL_signs 318 = .ok (.bipush (-3), 2) := by decide +kernel
theorem dL_signs_320 : decode cL_signs 320 = .ok (.if_icmp .ne 39, 3) := by decide +kernel
theorem dL_signs_323 : decode cL_signs 323 = .ok (.aload_n 0, 1) := by decide +kernel
theorem dL_signs_324 : decode cL_signs 324 = .ok (.iconst 1, 1) := by decide +kernel
theorem dL_signs_325 : decode cL_signs 325 = .ok (.invokevirtual 75, 3) := by decide +kernel
theorem dL_signs_328 : decode cL_signs 328 = .ok (.iload 12, 2) := by decide +kernel
theorem dL_signs_330 : decode cL_signs 330 = .ok (.if_icmp .ne 29, 3) := by decide +kernel
theorem dL_signs_333 : decode cL_signs 333 = .ok (.aload_n 0, 1) := by decide +kernel
theorem dL_signs_334 : decode cL_signs 334 = .ok (.iconst 2, 1) := by decide +kernel
theorem dL_signs_335 : decode cL_signs 335 = .ok (.invokevirtual 75, 3) := by decide +kernel
theorem dL_signs_338 : decode cL_signs 338 = .ok (.iconst 4, 1) := by decide +kernel
theorem dL_signs_339 : decode cL_signs 339 = .ok (.iload 12, 2) := by decide +kernel
theorem dL_signs_341 : decode cL_signs 341 = .ok (.imul, 1) := by decide +kernel
theorem dL_signs_342 : decode cL_signs 342 = .ok (.if_icmp .lt 17, 3) := by decide +kernel
theorem dL_signs_345 : decode cL_signs 345 = .ok (.aload_n 0, 1) := by decide +kernel
theorem dL_signs_346 : decode cL_signs 346 = .ok (.iconst 2, 1) := by decide +kernel
theorem dL_signs_347 : decode cL_signs 347 = .ok (.invokevirtual 75, 3) := by decide +kernel
theorem dL_signs_350 : decode cL_signs 350 = .ok (.iload 10, 2) := by decide +kernel
theorem dL_signs_352 : decode cL_signs 352 = .ok (.if_icmp .ge 7, 3) := by decide +kernel
theorem dL_signs_355 : decode cL_signs 355 = .ok (.iconst 1, 1) := by decide +kernel
theorem dL_signs_356 : decode cL_signs 356 = .ok (.goto 4, 3) := by decide +kernel
theorem dL_signs_359 : decode cL_signs 359 = .ok (.iconst 0, 1) := by decide +kernel
theorem dL_signs_360 : decode cL_signs 360 = .ok (.ireturn, 1) := by decide +kernel
theorem dL_garden_0 : decode cL_garden 0 = .ok (.iload_n 2, 1) := by decide +kernel
theorem dL_garden_1 : decode cL_garden 1 = .ok (.iload_n 2, 1) := by decide +kernel
theorem dL_garden_2 : decode cL_garden 2 = .ok (.bipush 14, 2) := by decide +kernel
theorem dL_garden_4 : decode cL_garden 4 = .ok (.ishr, 1) := by decide +kernel
theorem dL_garden_5 : decode cL_garden 5 = .ok (.bipush 9, 2) := by decide +kernel
theorem dL_garden_7 : decode cL_garden 7 = .ok (.invokestatic 39, 3) := by decide +kernel
theorem dL_garden_10 : decode cL_garden 10 = .ok (.ifCond .ne 8, 3) := by decide +kernel
theorem dL_garden_13 : decode cL_garden 13 = .ok (.bipush 9, 2) := by decide +kernel
theorem dL_garden_15 : decode cL_garden 15 = .ok (.goto 5, 3) := by decide +kernel
theorem dL_garden_18 : decode cL_garden 18 = .ok (.bipush 8, 2) := by decide +kernel
theorem dL_garden_20 : decode cL_garden 20 = .ok (.invokestatic 39, 3) := by decide +kernel
theorem dL_garden_23 : decode cL_garden 23 = .ok (.istore_n 3, 1) := by decide +kernel
theorem dL_garden_24 : decode cL_garden 24 = .ok (.iload_n 3, 1) := by decide +kernel
theorem dL_garden_25 : decode cL_garden 25 = .ok (.bipush 8, 2) := by decide +kernel
theorem dL_garden_27 : decode cL_garden 27 = .ok (.if_icmp .ne 7, 3) := by decide +kernel
theorem dL_garden_30 : decode cL_garden 30 = .ok (.iconst 1, 1) := by decide +kernel
theorem dL_garden_31 : decode cL_garden 31 = .ok (.goto 4, 3) := by decide +kernel
theorem dL_garden_34 : decode cL_garden 34 = .ok (.iconst 0, 1) := by decide +kernel
theorem dL_garden_35 : decode cL_garden 35 = .ok (.istore 4, 2) := by decide +kernel
theorem dL_garden_37 : decode cL_garden 37 = .ok (.iload_n 1, 1) := by decide +kernel
theorem dL_garden_38 : decode cL_garden 38 = .ok (.ifCond .ne 118, 3) := by decide +kernel
theorem dL_garden_41 : decode cL_garden 41 = .ok (.iload_n 2, 1) := by decide +kernel
theorem dL_garden_42 : decode cL_garden 42 = .ok (.iconst 3, 1) := by decide +kernel
theorem dL_garden_43 : decode cL_garden 43 = .ok (.ishr, 1) := by decide +kernel
theorem dL_garden_44 : decode cL_garden 44 = .ok (.iload_n 2, 1) := by decide +kernel
theorem dL_garden_45 : decode cL_garden 45 = .ok (.bipush 11, 2) := by decide +kernel
theorem dL_garden_47 : decode cL_garden 47 = .ok (.ishr, 1) := by decide +kernel
theorem dL_garden_48 : decode cL_garden 48 = .ok (.iconst 4, 1) := by decide +kernel
theorem dL_garden_49 : decode cL_garden 49 = .ok (.invokestatic 39, 3) := by decide +kernel
theorem dL_garden_52 : decode cL_garden 52 = .ok (.ifCond .ne 8, 3) := by decide +kernel
theorem dL_garden_55 : decode cL_garden 55 = .ok (.bipush 101, 2) := by decide +kernel
theorem dL_garden_57 : decode cL_garden 57 = .ok (.goto 5, 3) := by decide +kernel
theorem dL_garden_60 : decode cL_garden 60 = .ok (.bipush 25, 2) := by decide +kernel
theorem dL_garden_62 : decode cL_garden 62 = .ok (.invokestatic 39, 3) := by decide +kernel
theorem dL_garden_65 : decode cL_garden 65 = .ok (.istore 5, 2) := by decide +kernel
theorem dL_garden_67 : decode cL_garden 67 = .ok (.iload 4, 2) := by decide +kernel
theorem dL_garden_69 : decode cL_garden 69 = .ok (.ifCond .eq 7, 3) := by decide +kernel
theorem dL_garden_72 : decode cL_garden 72 = .ok (.iconst 0, 1) := by decide +kernel
theorem dL_garden_73 : decode cL_garden 73 = .ok (.goto 9, 3) := by decide +kernel
theorem dL_garden_76 : decode cL_garden 76 = .ok (.aload_n 0, 1) := by decide +kernel
theorem dL_garden_77 : decode cL_garden 77 = .ok (.iload_n 3, 1) := by decide +kernel
theorem dL_garden_78 : decode cL_garden 78 = .ok (.iconst 0, 1) := by decide +kernel
theorem dL_garden_79 : decode cL_garden 79 = .ok (.invokevirtual 19, 3) := by decide +kernel
theorem dL_garden_82 : decode cL_garden 82 = .ok (.istore 6, 2) := by decide +kernel
theorem dL_garden_84 : decode cL_garden 84 = .ok (.iload 4, 2) := by decide +kernel
theorem dL_garden_86 : decode cL_garden 86 = .ok (.ifCond .ne 10, 3) := by decide +kernel
theorem dL_garden_89 : decode cL_garden 89 = .ok (.iload 5, 2) := by decide +kernel
theorem dL_garden_91 : decode cL_garden 91 = .ok (.bipush 100, 2) := by decide +kernel
theorem dL_garden_93 : decode cL_garden 93 = .ok (.if_icmp .ne 7, 3) := by decide +kernel
theorem dL_garden_96 : decode cL_garden 96 = .ok (.iconst 1, 1) := by decide +kernel
theorem dL_garden_97 : decode cL_garden 97 = .ok (.goto 4, 3) := by decide +kernel
theorem dL_garden_100 : decode cL_garden 100 = .ok (.iconst 0, 1) := by decide +kernel
theorem dL_garden_101 : decode cL_garden 101 = .ok (.istore 7, 2) := by decide +kernel
theorem dL_garden_103 : decode cL_garden 103 = .ok (.aload_n 0, 1) := by decide +kernel
theorem dL_garden_104 : decode cL_garden 104 = .ok (.iload_n 3, 1) := by decide +kernel
theorem dL_garden_105 : decode cL_garden 105 = .ok (.iload 5, 2) := by decide +kernel
theorem dL_garden_107 : decode cL_garden 107 = .ok (.invokevirtual 78, 3) := by decide +kernel
theorem dL_garden_110 : decode cL_garden 110 = .ok (.iload 7, 2) := by decide +kernel
theorem dL_garden_112 : decode cL_garden 112 = .ok (.ifCond .eq 7, 3) := by decide +kernel
theorem dL_garden_115 : decode cL_garden 115 = .ok (.iconst (-1), 1) := by decide +kernel
theorem dL_garden_116 : decode cL_garden 116 = .ok (.goto 5, 3) := by decide +kernel
theorem dL_garden_119 : decode cL_garden 119 = .ok (.iload 6, 2) := by decide +kernel
theorem dL_garden_121 : decode cL_garden 121 = .ok (.if_icmp .ne 33, 3) := by decide +kernel
theorem dL_garden_124 : decode cL_garden 124 = .ok (.iload 4, 2) := by decide +kernel
theorem dL_garden_126 : decode cL_garden 126 = .ok (.ifCond .ne 24, 3) := by decide +kernel
theorem dL_garden_129 : decode cL_garden 129 = .ok (.aload_n 0, 1) := by decide +kernel
theorem dL_garden_130 : decode cL_garden 130 = .ok (.iload_n 3, 1) := by decide +kernel
theorem dL_garden_131 : decode cL_garden 131 = .ok (.iconst 0, 1) := by decide +kernel
theorem dL_garden_132 : decode cL_garden 132 = .ok (.invokevirtual 19, 3) := by decide +kernel
theorem dL_garden_135 : decode cL_garden 135 = .ok (.iload 7, 2) := by decide +kernel
theorem dL_garden_137 : decode cL_garden 137 = .ok (.ifCond .eq 8, 3) := by decide +kernel
theorem dL_garden_140 : decode cL_garden 140 = .ok (.iload 6, 2) := by decide +kernel
theorem dL_garden_142 : decode cL_garden 142 = .ok (.goto 5, 3) := by decide +kernel
theorem dL_garden_145 : decode cL_garden 145 = .ok (.iload 5, 2) := by decide +kernel
theorem dL_garden_147 : decode cL_garden 147 = .ok (.if_icmp .ne 7, 3) := by decide +kernel
theorem dL_garden_150 : decode cL_garden 150 = .ok (.iconst 1, 1) := by decide +kernel
theorem dL_garden_151 : decode cL_garden 151 = .ok (.goto 4, 3) := by decide +kernel
theorem dL_garden_154 : decode cL_garden 154 = .ok (.iconst 0, 1) := by decide +kernel
theorem dL_garden_155 : decode cL_garden 155 = .ok (.ireturn, 1) := by decide +kernel
theorem dL_garden_156 : decode cL_garden 156 = .ok (.iload_n 1, 1) := by decide +kernel
theorem dL_garden_157 : decode cL_garden 157 = .ok (.iconst 1, 1) := by decide +kernel
theorem dL_garden_158 : decode cL_garden 158 = .ok (.if_icmp .ne 102, 3) := by decide +kernel
theorem dL_garden_161 : decode cL_garden 161 = .ok (.iload_n 2, 1) := by decide +kernel
theorem dL_garden_162 : decode cL_garden 162 = .ok (.iconst 3, 1) := by decide +kernel
theorem dL_garden_163 : decode cL_garden 163 = .ok (.ishr, 1) := by decide +kernel
theorem dL_garden_164 : decode cL_garden 164 = .ok (.bipush 7, 2) := by decide +kernel
theorem dL_garden_166 : decode cL_garden 166 = .ok (.invokestatic 39, 3) := by decide +kernel
theorem dL_garden_169 : decode cL_garden 169 = .ok (.istore 5, 2) := by decide +kernel
theorem dL_garden_171 : decode cL_garden 171 = .ok (.iload 4, 2) := by decide +kernel
theorem dL_garden_173 : decode cL_garden 173 = .ok (.ifCond .eq 7, 3) := by decide +kernel
theorem dL_garden_176 : decode cL_garden 176 = .ok (.iconst 0, 1) := by decide +kernel
theorem dL_garden_177 : decode cL_garden 177 = .ok (.goto 9, 3) := by decide +kernel
theorem dL_garden_180 : decode cL_garden 180 = .ok (.aload_n 0, 1) := by decide +kernel
theorem dL_garden_181 : decode cL_garden 181 = .ok (.iload_n 3, 1) := by decide +kernel
theorem dL_garden_182 : decode cL_garden 182 = .ok (.iconst 1, 1) := by decide +kernel
theorem dL_garden_183 : decode cL_garden 183 = .ok (.invokevirtual 19, 3) := by decide +kernel
theorem dL_garden_186 : decode cL_garden 186 = .ok (.istore 6, 2) := by decide +kernel
theorem dL_garden_188 : decode cL_garden 188 = .ok (.iload 4, 2) := by decide +kernel
theorem dL_garden_190 : decode cL_garden 190 = .ok (.ifCond .ne 10, 3) := by decide +kernel
theorem dL_garden_193 : decode cL_garden 193 = .ok (.iload 5, 2) := by decide +kernel
theorem dL_garden_195 : decode cL_garden 195 = .ok (.bipush 6, 2) := by decide +kernel
theorem dL_garden_197 : decode cL_garden 197 = .ok (.if_icmp .ne 7, 3) := by decide +kernel
theorem dL_garden_200 : decode cL_garden 200 = .ok (.iconst 1, 1) := by decide +kernel
theorem dL_garden_201 : decode cL_garden 201 = .ok (.goto 4, 3) := by decide +kernel
theorem dL_garden_204 : decode cL_garden 204 = .ok (.iconst 0, 1) := by decide +kernel
theorem dL_garden_205 : decode cL_garden 205 = .ok (.istore 7, 2) := by decide +kernel
theorem dL_garden_207 : decode cL_garden 207 = .ok (.aload_n 0, 1) := by decide +kernel
theorem dL_garden_208 : decode cL_garden 208 = .ok (.iload_n 3, 1) := by decide +kernel
theorem dL_garden_209 : decode cL_garden 209 = .ok (.iload 5, 2) := by decide +kernel
theorem dL_garden_211 : decode cL_garden 211 = .ok (.invokevirtual 81, 3) := by decide +kernel
theorem dL_garden_214 : decode cL_garden 214 = .ok (.iload 7, 2) := by decide +kernel
theorem dL_garden_216 : decode cL_garden 216 = .ok (.ifCond .eq 7, 3) := by decide +kernel
theorem dL_garden_219 : decode cL_garden 219 = .ok (.iconst (-1), 1) := by decide +kernel
theorem dL_garden_220 : decode cL_garden 220 = .ok (.goto 5, 3) := by decide +kernel
theorem dL_garden_223 : decode cL_garden 223 = .ok (.iload 6, 2) := by decide +kernel
theorem dL_garden_225 : decode cL_garden 225 = .ok (.if_icmp .ne 33, 3) := by decide +kernel
theorem dL_garden_228 : decode cL_garden 228 = .ok (.iload 4, 2) := by decide +kernel
theorem dL_garden_230 : decode cL_garden 230 = .ok (.ifCond .ne 24, 3) := by decide +kernel
theorem dL_garden_233 : decode cL_garden 233 = .ok (.aload_n 0, 1) := by decide +kernel
theorem dL_garden_234 : decode cL_garden 234 = .ok (.iload_n 3, 1) := by decide +kernel
theorem dL_garden_235 : decode cL_garden 235 = .ok (.iconst 1, 1) := by decide +kernel
theorem dL_garden_236 : decode cL_garden 236 = .ok (.invokevirtual 19, 3) := by decide +kernel
theorem dL_garden_239 : decode cL_garden 239 = .ok (.iload 7, 2) := by decide +kernel
theorem dL_garden_241 : decode cL_garden 241 = .ok (.ifCond .eq 8, 3) := by decide +kernel
theorem dL_garden_244 : decode cL_garden 244 = .ok (.iload 6, 2) := by decide +kernel
theorem dL_garden_246 : decode cL_garden 246 = .ok (.goto 5, 3) := by decide +kernel
theorem dL_garden_249 : decode cL_garden 249 = .ok (.iload 5, 2) := by decide +kernel
theorem dL_garden_251 : decode cL_garden 251 = .ok (.if_icmp .ne 7, 3) := by decide +kernel
theorem dL_garden_254 : decode cL_garden 254 = .ok (.iconst 1, 1) := by decide +kernel
theorem dL_garden_255 : decode cL_garden 255 = .ok (.goto 4, 3) := by decide +kernel
theorem dL_garden_258 : decode cL_garden 258 = .ok (.iconst 0, 1) := by decide +kernel
theorem dL_garden_259 : decode cL_garden 259 = .ok (.ireturn, 1) := by decide +kernel
theorem dL_garden_260 : decode cL_garden 260 = .ok (.iload_n 1, 1) := by decide +kernel
theorem dL_garden_261 : decode cL_garden 261 = .ok (.iconst 2, 1) := by decide +kernel
theorem dL_garden_262 : decode cL_garden 262 = .ok (.if_icmp .ne 123, 3) := by decide +kernel
theorem dL_garden_265 : decode cL_garden 265 = .ok (.iload_n 2, 1) := by decide +kernel
theorem dL_garden_266 : decode cL_garden 266 = .ok (.iconst 3, 1) := by decide +kernel
theorem dL_garden_267 : decode cL_garden 267 = .ok (.ishr, 1) := by decide +kernel
theorem dL_garden_268 : decode cL_garden 268 = .ok (.iload_n 2, 1) := by decide +kernel
theorem dL_garden_269 : decode cL_garden 269 = .ok (.bipush 9, 2) := by decide +kernel
theorem dL_garden_271 : decode cL_garden 271 = .ok (.ishr, 1) := by decide +kernel
theorem dL_garden_272 : decode cL_garden 272 = .ok (.iconst 3, 1) := by decide +kernel
theorem dL_garden_273 : decode cL_garden 273 = .ok (.invokestatic 39, 3) := by decide +kernel
theorem dL_garden_276 : decode cL_garden 276 = .ok (.ifCond .ne 8, 3) := by decide +kernel
theorem dL_garden_279 : decode cL_garden 279 = .ok (.bipush 32, 2) := by decide +kernel
theorem dL_garden_281 : decode cL_garden 281 = .ok (.goto 4, 3) := by decide +kernel
theorem dL_garden_284 : decode cL_garden 284 = .ok (.iconst 4, 1) := by decide +kernel
theorem dL_garden_285 : decode cL_garden 285 = .ok (.invokestatic 39, 3) := by decide +kernel
theorem dL_garden_288 : decode cL_garden 288 = .ok (.istore 5, 2) := by decide +kernel
theorem dL_garden_290 : decode cL_garden 290 = .ok (.iload 4, 2) := by decide +kernel
theorem dL_garden_292 : decode cL_garden 292 = .ok (.ifCond .eq 7, 3) := by decide +kernel
theorem dL_garden_295 : decode cL_garden 295 = .ok (.iconst 0, 1) := by decide +kernel
theorem dL_garden_296 : decode cL_garden 296 = .ok (.goto 9, 3) := by decide +kernel
theorem dL_garden_299 : decode cL_garden 299 = .ok (.aload_n 0, 1) := by decide +kernel
theorem dL_garden_300 : decode cL_garden 300 = .ok (.iload_n 3, 1) := by decide +kernel
theorem dL_garden_301 : decode cL_garden 301 = .ok (.iconst 3, 1) := by decide +kernel
theorem dL_garden_302 : decode cL_garden 302 = .ok (.invokevirtual 19, 3) := by decide +kernel
theorem dL_garden_305 : decode cL_garden 305 = .ok (.istore 6, 2) := by decide +kernel
theorem dL_garden_307 : decode cL_garden 307 = .ok (.iload 4, 2) := by decide +kernel
theorem dL_garden_309 : decode cL_garden 309 = .ok (.ifCond .ne 10, 3) := by decide +kernel
theorem dL_garden_312 : decode cL_garden 312 = .ok (.iload 5, 2) := by decide +kernel
theorem dL_garden_314 : decode cL_garden 314 = .ok (.bipush 31, 2) := by decide +kernel
theorem dL_garden_316 : decode cL_garden 316 = .ok (.if_icmp .ne 7, 3) := by decide +kernel
theorem dL_garden_319 : decode cL_garden 319 = .ok (.iconst 1, 1) := by decide +kernel
theorem dL_garden_320 : decode cL_garden 320 = .ok (.goto 4, 3) := by decide +kernel
theorem dL_garden_323 : decode cL_garden 323 = .ok (.iconst 0, 1) := by decide +kernel
theorem dL_garden_324 : decode cL_garden 324 = .ok (.istore 7, 2) := by decide +kernel
theorem dL_garden_326 : decode cL_garden 326 = .ok (.aload_n 0, 1) := by decide +kernel
theorem dL_garden_327 : decode cL_garden 327 = .ok (.iload_n 3, 1) := by decide +kernel
theorem dL_garden_328 : decode cL_garden 328 = .ok (.iload 5, 2) := by decide +kernel
theorem dL_garden_330 : decode cL_garden 330 = .ok (.invokevirtual 84, 3) := by decide +kernel
theorem dL_garden_333 : decode cL_garden 333 = .ok (.iload 7, 2) := by decide +kernel
theorem dL_garden_335 : decode cL_garden 335 = .ok (.ifCond .eq 7, 3) := by decide +kernel
theorem dL_garden_338 : decode cL_garden 338 = .ok (.iconst (-1), 1) := by decide +kernel
theorem dL_garden_339 : decode cL_garden 339 = .ok (.goto 5, 3) := by decide +kernel
theorem dL_garden_342 : decode cL_garden 342 = .ok (.iload 6, 2) := by decide +kernel
theorem dL_garden_344 : decode cL_garden 344 = .ok (.if_icmp .ne 39, 3) := by decide +kernel
theorem dL_garden_347 : decode cL_garden 347 = .ok (.iload 4, 2) := by decide +kernel
theorem dL_garden_349 : decode cL_garden 349 = .ok (.ifCond .ne 30, 3) := by decide +kernel
theorem dL_garden_352 : decode cL_garden 352 = .ok (.aload_n 0, 1) := by decide +kernel
theorem dL_garden_353 : decode cL_garden 353 = .ok (.iload_n 3, 1) := by decide +kernel
theorem dL_garden_354 : decode cL_garden 354 = .ok (.iconst 3, 1) := by decide +kernel
theorem dL_garden_355 : decode cL_garden 355 = .ok (.invokevirtual 19, 3) := by decide +kernel
theorem dL_garden_358 : decode cL_garden 358 = .ok (.iload 7, 2) := by decide +kernel
theorem dL_garden_360 : decode cL_garden 360 = .ok (.ifCond .eq 8, 3) := by decide +kernel
theorem dL_garden_363 : decode cL_garden 363 = .ok (.iload 6, 2) := by decide +kernel
theorem dL_garden_365 : decode cL_garden 365 = .ok (.goto 11, 3) := by decide +kernel
theorem dL_garden_368 : decode cL_garden 368 = .ok (.aload_n 0, 1) := by decide +kernel
theorem dL_garden_369 : decode cL_garden 369 = .ok (.iconst 0, 1) := by decide +kernel
theorem dL_garden_370 : decode cL_garden 370 = .ok (.invokevirtual 13, 3) := by decide +kernel
theorem dL_garden_373 : decode cL_garden 373 = .ok (.iload 5, 2) := by decide +kernel
theorem dL_garden_375 : decode cL_garden 375 = .ok (.iadd, 1) := by decide +kernel
theorem dL_garden_376 : decode cL_garden 376 = .ok (.if_icmp .ne 7, 3) := by decide +kernel
theorem dL_garden_379 : decode cL_garden 379 = .ok (.iconst 1, 1) := by decide +kernel
theorem dL_garden_380 : decode cL_garden 380 = .ok (.goto 4, 3) := by decide +kernel
theorem dL_garden_383 : decode cL_garden 383 = .ok (.iconst 0, 1) := by decide +kernel
theorem dL_garden_384 : decode cL_garden 384 = .ok (.ireturn, 1) := by decide +kernel
theorem dL_garden_385 : decode cL_garden 385 = .ok (.iload_n 2, 1) := by decide +kernel
theorem dL_garden_386 : decode cL_garden 386 = .ok (.iconst 3, 1) := by decide +kernel
theorem dL_garden_387 : decode cL_garden 387 = .ok (.ishr, 1) := by decide +kernel
theorem dL_garden_388 : decode cL_garden 388 = .ok (.iload_n 2, 1) := by decide +kernel
theorem dL_garden_389 : decode cL_garden 389 = .ok (.bipush 9, 2) := by decide +kernel
theorem dL_garden_391 : decode cL_garden 391 = .ok (.ishr, 1) := by decide +kernel
theorem dL_garden_392 : decode cL_garden 392 = .ok (.iconst 4, 1) := by decide +kernel
theorem dL_garden_393 : decode cL_garden 393 = .ok (.invokestatic 39, 3) := by decide +kernel
theorem dL_garden_396 : decode cL_garden 396 = .ok (.ifCond .ne 8, 3) := by decide +kernel
theorem dL_garden_399 : decode cL_garden 399 = .ok (.bipush 101, 2) := by decide +kernel
theorem dL_garden_401 : decode cL_garden 401 = .ok (.goto 5, 3) := by decide +kernel
theorem dL_garden_404 : decode cL_garden 404 = .ok (.bipush 9, 2) := by decide +kernel
theorem dL_garden_406 : decode cL_garden 406 = .ok (.invokestatic 39, 3) := by decide +kernel
theorem dL_garden_409 : decode cL_garden 409 = .ok (.istore 5, 2) := by decide +kernel
theorem dL_garden_411 : decode cL_garden 411 = .ok (.iload 4, 2) := by decide +kernel
theorem dL_garden_413 : decode cL_garden 413 = .ok (.ifCond .ne 15, 3) := by decide +kernel
theorem dL_garden_416 : decode cL_garden 416 = .ok (.iload 5, 2) := by decide +kernel
theorem dL_garden_418 : decode cL_garden 418 = .ok (.ifCond .eq 10, 3) := by decide +kernel
theorem dL_garden_421 : decode cL_garden 421 = .ok (.iload 5, 2) := by decide +kernel
theorem dL_garden_423 : decode cL_garden 423 = .ok (.bipush 100, 2) := by decide +kernel
theorem dL_garden_425 : decode cL_garden 425 = .ok (.if_icmp .ne 7, 3) := by decide +kernel
theorem dL_garden_428 : decode cL_garden 428 = .ok (.iconst 1, 1) := by decide +kernel
theorem dL_garden_429 : decode cL_garden 429 = .ok (.goto 4, 3) := by decide +kernel
theorem dL_garden_432 : decode cL_garden 432 = .ok (.iconst 0, 1) := by decide +kernel
theorem dL_garden_433 : decode cL_garden 433 = .ok (.istore 6, 2) := by decide +kernel
theorem dL_garden_435 : decode cL_garden 435 = .ok (.iload 4, 2) := by decide +kernel
theorem dL_garden_437 : decode cL_garden 437 = .ok (.ifCond .eq 7, 3) := by decide +kernel
theorem dL_garden_440 : decode cL_garden 440 = .ok (.iconst 0, 1) := by decide +kernel
theorem dL_garden_441 : decode cL_garden 441 = .ok (.goto 9, 3) := by decide +kernel
theorem dL_garden_444 : decode cL_garden 444 = .ok (.aload_n 0, 1) := by decide +kernel
theorem dL_garden_445 : decode cL_garden 445 = .ok (.iload_n 3, 1) := by decide +kernel
theorem dL_garden_446 : decode cL_garden 446 = .ok (.iconst 0, 1) := by decide +kernel
theorem dL_garden_447 : decode cL_garden 447 = .ok (.invokevirtual 19, 3) := by decide +kernel
theorem dL_garden_450 : decode cL_garden 450 = .ok (.istore 7, 2) := by decide +kernel
theorem dL_garden_452 : decode cL_garden 452 = .ok (.iload 6, 2) := by decide +kernel
theorem dL_garden_454 : decode cL_garden 454 = .ok (.ifCond .eq 7, 3) := by decide +kernel
theorem dL_garden_457 : decode cL_garden 457 = .ok (.iconst 0, 1) := by decide +kernel
theorem dL_garden_458 : decode cL_garden 458 = .ok (.goto 29, 3) := by decide +kernel
theorem dL_garden_461 : decode cL_garden 461 = .ok (.aload_n 0, 1) := by decide +kernel
theorem dL_garden_462 : decode cL_garden 462 = .ok (.iload_n 3, 1) := by decide +kernel
theorem dL_garden_463 : decode cL_garden 463 = .ok (.iconst 2, 1) := by decide +kernel
theorem dL_garden_464 : decode cL_garden 464 = .ok (.invokevirtual 19, 3) := by decide +kernel
theorem dL_garden_467 : decode cL_garden 467 = .ok (.iconst 1, 1) := by decide +kernel
theorem dL_garden_468 : decode cL_garden 468 = .ok (.if_icmp .ne 7, 3) := by decide +kernel
theorem dL_garden_471 : decode cL_garden 471 = .ok (.iconst 3, 1) := by decide +kernel
theorem dL_garden_472 : decode cL_garden 472 = .ok (.goto 15, 3) := by decide +kernel
theorem dL_garden_475 : decode cL_garden 475 = .ok (.iload 5, 2) := by decide +kernel
theorem dL_garden_477 : decode cL_garden 477 = .ok (.iload 7, 2) := by decide +kernel
theorem dL_garden_479 : decode cL_garden 479 = .ok (.if_icmp .le 7, 3) := by decide +kernel
theorem dL_garden_482 : decode cL_garden 482 = .ok (.iconst 4, 1) := by decide +kernel
theorem dL_garden_483 : decode cL_garden 483 = .ok (.goto 4, 3) := by decide +kernel
theorem dL_garden_486 : decode cL_garden 486 = .ok (.iconst 0, 1) := by decide +kernel
theorem dL_garden_487 : decode cL_garden 487 = .ok (.istore 8, 2) := by decide +kernel
theorem dL_garden_489 : decode cL_garden 489 = .ok (.aload_n 0, 1) := by decide +kernel
theorem dL_garden_490 : decode cL_garden 490 = .ok (.bipush 8, 2) := by decide +kernel
theorem dL_garden_492 : decode cL_garden 492 = .ok (.invokevirtual 13, 3) := by decide +kernel
theorem dL_garden_495 : decode cL_garden 495 = .ok (.istore 9, 2) := by decide +kernel
theorem dL_garden_497 : decode cL_garden 497 = .ok (.aload_n 0, 1) := by decide +kernel
theorem dL_garden_498 : decode cL_garden 498 = .ok (.bipush 9, 2) := by decide +kernel
theorem dL_garden_500 : decode cL_garden 500 = .ok (.invokevirtual 13, 3) := by decide +kernel
theorem dL_garden_503 : decode cL_garden 503 = .ok (.istore 10, 2) := by decide +kernel
theorem dL_garden_505 : decode cL_garden 505 = .ok (.aload_n 0, 1) := by decide +kernel
theorem dL_garden_506 : decode cL_garden 506 = .ok (.bipush 10, 2) := by decide +kernel
theorem dL_garden_508 : decode cL_garden 508 = .ok (.invokevirtual 13, 3) := by decide +kernel
theorem dL_garden_511 : decode cL_garden 511 = .ok (.istore 11, 2) := by decide +kernel
theorem dL_garden_513 : decode cL_garden 513 = .ok (.iload 6, 2) := by decide +kernel
theorem dL_garden_515 : decode cL_garden 515 = .ok (.ifCond .ne 12, 3) := by decide +kernel
theorem dL_garden_518 : decode cL_garden 518 = .ok (.iload 8, 2) := by decide +kernel
theorem dL_garden_520 : decode cL_garden 520 = .ok (.ifCond .ne 7, 3) := by decide +kernel
theorem dL_garden_523 : decode cL_garden 523 = .ok (.iconst 1, 1) := by decide +kernel
theorem dL_garden_524 : decode cL_garden 524 = .ok (.goto 4, 3) := by decide +kernel
theorem dL_garden_527 : decode cL_garden 527 = .ok (.iconst 0, 1) := by decide +kernel
theorem dL_garden_528 : decode cL_garden 528 = .ok (.istore 12, 2) := by decide +kernel
theorem dL_garden_530 : decode cL_garden 530 = .ok (.aload_n 0, 1) := by decide +kernel
theorem dL_garden_531 : decode cL_garden 531 = .ok (.iload_n 3, 1) := by decide +kernel
theorem dL_garden_532 : decode cL_garden 532 = .ok (.iload 5, 2) := by decide +kernel
theorem dL_garden_534 : decode cL_garden 534 = .ok (.invokevirtual 87, 3) := by decide +kernel
theorem dL_garden_537 : decode cL_garden 537 = .ok (.istore 13, 2) := by decide +kernel
theorem dL_garden_539 : decode cL_garden 539 = .ok (.iload 13, 2) := by decide +kernel
theorem dL_garden_541 : decode cL_garden 541 = .ok (.iload 6, 2) := by decide +kernel
theorem dL_garden_543 : decode cL_garden 543 = .ok (.ifCond .eq 7, 3) := by decide +kernel
theorem dL_garden_546 : decode cL_garden 546 = .ok (.iconst (-1), 1) := by decide +kernel
theorem dL_garden_547 : decode cL_garden 547 = .ok (.goto 21, 3) := by decide +kernel
theorem dL_garden_550 : decode cL_garden 550 = .ok (.iload 8, 2) := by decide +kernel
theorem dL_garden_552 : decode cL_garden 552 = .ok (.ifCond .le 8, 3) := by decide +kernel
theorem dL_garden_555 : decode cL_garden 555 = .ok (.iload 8, 2) := by decide +kernel
theorem dL_garden_557 : decode cL_garden 557 = .ok (.goto 11, 3) := by decide +kernel
theorem dL_garden_560 : decode cL_garden 560 = .ok (.bipush 10, 2) := by decide +kernel
theorem dL_garden_562 : decode cL_garden 562 = .ok (.iload 7, 2) := by decide +kernel
theorem dL_garden_564 : decode cL_garden 564 = .ok (.iadd, 1) := by decide +kernel
theorem dL_garden_565 : decode cL_garden 565 = .ok (.iload 5, 2) := by decide +kernel
theorem dL_garden_567 : decode cL_garden 567 = .ok (.isub, 1) := by decide +kernel
theorem dL_garden_568 : decode cL_garden 568 = .ok (.if_icmp .ne 102, 3) := by decide +kernel
theorem dL_garden_571 : decode cL_garden 571 = .ok (.aload_n 0, 1) := by decide +kernel
theorem dL_garden_572 : decode cL_garden 572 = .ok (.bipush 8, 2) := by decide +kernel
theorem dL_garden_574 : decode cL_garden 574 = .ok (.invokevirtual 13, 3) := by decide +kernel
theorem dL_garden_577 : decode cL_garden 577 = .ok (.iload 9, 2) := by decide +kernel
theorem dL_garden_579 : decode cL_garden 579 = .ok (.iload 8, 2) := by decide +kernel
theorem dL_garden_581 : decode cL_garden 581 = .ok (.ifCond .le 7, 3) := by decide +kernel
theorem dL_garden_584 : decode cL_garden 584 = .ok (.iconst 1, 1) := by decide +kernel
theorem dL_garden_585 : decode cL_garden 585 = .ok (.goto 4, 3) := by decide +kernel
theorem dL_garden_588 : decode cL_garden 588 = .ok (.iconst 0, 1) := by decide +kernel
theorem dL_garden_589 : decode cL_garden 589 = .ok (.iadd, 1) := by decide +kernel
theorem dL_garden_590 : decode cL_garden 590 = .ok (.if_icmp .ne 80, 3) := by decide +kernel
theorem dL_garden_593 : decode cL_garden 593 = .ok (.aload_n 0, 1) := by decide +kernel
theorem dL_garden_594 : decode cL_garden 594 = .ok (.bipush 9, 2) := by decide +kernel
theorem dL_garden_596 : decode cL_garden 596 = .ok (.invokevirtual 13, 3) := by decide +kernel
theorem dL_garden_599 : decode cL_garden 599 = .ok (.iload 10, 2) := by decide +kernel
theorem dL_garden_601 : decode cL_garden 601 = .ok (.iload 12, 2) := by decide +kernel
theorem dL_garden_603 : decode cL_garden 603 = .ok (.ifCond .eq 7, 3) := by decide +kernel
theorem dL_garden_606 : decode cL_garden 606 = .ok (.iconst 1, 1) := by decide +kernel
theorem dL_garden_607 : decode cL_garden 607 = .ok (.goto 4, 3) := by decide +kernel
theorem dL_garden_610 : decode cL_garden 610 = .ok (.iconst 0, 1) := by decide +kernel
theorem dL_garden_611 : decode cL_garden 611 = .ok (.iadd, 1) := by decide +kernel
theorem dL_garden_612 : decode cL_garden 612 = .ok (.if_icmp .ne 58, 3) := by decide +kernel
theorem dL_garden_615 : decode cL_garden 615 = .ok (.aload_n 0, 1) := by decide +kernel
theorem dL_garden_616 : decode cL_garden 616 = .ok (.bipush 10, 2) := by decide +kernel
theorem dL_garden_618 : decode cL_garden 618 = .ok (.invokevirtual 13, 3) := by decide +kernel
theorem dL_garden_621 : decode cL_garden 621 = .ok (.iload 11, 2) := by decide +kernel
theorem dL_garden_623 : decode cL_garden 623 = .ok (.iload 12, 2) := by decide +kernel
theorem dL_garden_625 : decode cL_garden 625 = .ok (.ifCond .eq 8, 3) := by decide +kernel
theorem dL_garden_628 : decode cL_garden 628 = .ok (.iload 5, 2) := by decide +kernel
theorem dL_garden_630 : decode cL_garden 630 = .ok (.goto 4, 3) := by decide +kernel
theorem dL_garden_633 : decode cL_garden 633 = .ok (.iconst 0, 1) := by decide +kernel
theorem dL_garden_634 : decode cL_garden 634 = .ok (.iadd, 1) := by decide +kernel
theorem dL_garden_635 : decode cL_garden 635 = .ok (.if_icmp .ne 35, 3) := by decide +kernel
theorem dL_garden_638 : decode cL_garden 638 = .ok (.iload 4, 2) := by decide +kernel
theorem dL_garden_640 : decode cL_garden 640 = .ok (.ifCond .ne 26, 3) := by decide +kernel
theorem dL_garden_643 : decode cL_garden 643 = .ok (.aload_n 0, 1) := by decide +kernel
theorem dL_garden_644 : decode cL_garden 644 = .ok (.iload_n 3, 1) := by decide +kernel
theorem dL_garden_645 : decode cL_garden 645 = .ok (.iconst 0, 1) := by decide +kernel
theorem dL_garden_646 : decode cL_garden 646 = .ok (.invokevirtual 19, 3) := by decide +kernel
theorem dL_garden_649 : decode cL_garden 649 = .ok (.iload 7, 2) := by decide +kernel
theorem dL_garden_651 : decode cL_garden 651 = .ok (.iload 12, 2) := by decide +kernel
theorem dL_garden_653 : decode cL_garden 653 = .ok (.ifCond .eq 8, 3) := by decide +kernel
theorem dL_garden_656 : decode cL_garden 656 = .ok (.iload 5, 2) := by decide +kernel
theorem dL_garden_658 : decode cL_garden 658 = .ok (.goto 4, 3) := by decide +kernel
theorem dL_garden_661 : decode cL_garden 661 = .ok (.iconst 0, 1) := by decide +kernel
theorem dL_garden_662 : decode cL_garden 662 = .ok (.isub, 1) := by decide +kernel
theorem dL_garden_663 : decode cL_garden 663 = .ok (.if_icmp .ne 7, 3) := by decide +kernel
theorem dL_garden_666 : decode cL_garden 666 = .ok (.iconst 1, 1) := by decide +kernel
theorem dL_garden_667 : decode cL_garden 667 = .ok (.goto 4, 3) := by decide +kernel
theorem dL_garden_670 : decode cL_garden 670 = .ok (.iconst 0, 1) := by decide +kernel
theorem dL_garden_671 : decode cL_garden 671 = .ok (.ireturn, 1) := by decide +kernel
theorem dL_talks_0 : decode cL_talks 0 = .ok (.aload_n 0, 1) := by decide +kernel
theorem dL_talks_1 : decode cL_talks 1 = .ok (.iconst 1, 1) := by decide +kernel
theorem dL_talks_2 : decode cL_talks 2 = .ok (.invokevirtual 13, 3) := by decide +kernel
theorem dL_talks_5 : decode cL_talks 5 = .ok (.istore_n 3, 1) := by decide +kernel
theorem dL_talks_6 : decode cL_talks 6 = .ok (.iload_n 2, 1) := by decide +kernel
theorem dL_talks_7 : decode cL_talks 7 = .ok (.iload_n 3, 1) := by decide +kernel
theorem dL_talks_8 : decode cL_talks 8 = .ok (.iconst 1, 1) := by decide +kernel
theorem dL_talks_9 : decode cL_talks 9 = .ok (.iadd, 1) := by decide +kernel
theorem dL_talks_10 : decode cL_talks 10 = .ok (.invokestatic 39, 3) := by decide +kernel
theorem dL_talks_13 : decode cL_talks 13 = .ok (.istore 4, 2) := by decide +kernel
theorem dL_talks_15 : decode cL_talks 15 = .ok (.iload 4, 2) := by decide +kernel
theorem dL_talks_17 : decode cL_talks 17 = .ok (.iload_n 3, 1) := by decide +kernel
theorem dL_talks_18 : decode cL_talks 18 = .ok (.if_icmp .ne 7, 3) := by decide +kernel
theorem dL_talks_21 : decode cL_talks 21 = .ok (.iconst 1, 1) := by decide +kernel
theorem dL_talks_22 : decode cL_talks 22 = .ok (.goto 4, 3) := by decide +kernel
theorem dL_talks_25 : decode cL_talks 25 = .ok (.iconst 0, 1) := by decide +kernel
theorem dL_talks_26 : decode cL_talks 26 = .ok (.istore 5, 2) := by decide +kernel
theorem dL_talks_28 : decode cL_talks 28 = .ok (.aload_n 0, 1) := by decide +kernel
theorem dL_talks_29 : decode cL_talks 29 = .ok (.iconst 0, 1) := by decide +kernel
theorem dL_talks_30 : decode cL_talks 30 = .ok (.invokevirtual 13, 3) := by decide +kernel
theorem dL_talks_33 : decode cL_talks 33 = .ok (.istore 6, 2) := by decide +kernel
theorem dL_talks_35 : decode cL_talks 35 = .ok (.aload_n 0, 1) := by decide +kernel
theorem dL_talks_36 : decode cL_talks 36 = .ok (.bipush 6, 2) := by decide +kernel
theorem dL_talks_38 : decode cL_talks 38 = .ok (.invokevirtual 13, 3) := by decide +kernel
theorem dL_talks_41 : decode cL_talks 41 = .ok (.istore 7, 2) := by decide +kernel
theorem dL_talks_43 : decode cL_talks 43 = .ok (.iload 5, 2) := by decide +kernel
theorem dL_talks_45 : decode cL_talks 45 = .ok (.ifCond .eq 7, 3) := by decide +kernel
theorem dL_talks_48 : decode cL_talks 48 = .ok (.iconst 0, 1) := by decide +kernel
theorem dL_talks_49 : decode cL_talks 49 = .ok (.goto 11, 3) := by decide +kernel
theorem dL_talks_52 : decode cL_talks 52 = .ok (.aload_n 0, 1) := by decide +kernel
theorem dL_talks_53 : decode cL_talks 53 = .ok (.iload 4, 2) := by decide +kernel
theorem dL_talks_55 : decode cL_talks 55 = .ok (.bipush 6, 2) := by decide +kernel
theorem dL_talks_57 : decode cL_talks 57 = .ok (.invokevirtual 23, 3) := by decide +kernel
theorem dL_talks_60 : decode cL_talks 60 = .ok (.istore 8, 2) := by decide +kernel
theorem dL_talks_62 : decode cL_talks 62 = .ok (.iload 5, 2) := by decide +kernel
theorem dL_talks_64 : decode cL_talks 64 = .ok (.ifCond .eq 7, 3) := by decide +kernel
theorem dL_talks_67 : decode cL_talks 67 = .ok (.iconst 0, 1) := by decide +kernel
theorem dL_talks_68 : decode cL_talks 68 = .ok (.goto 10, 3) := by decide +kernel
theorem dL_talks_71 : decode cL_talks 71 = .ok (.aload_n 0, 1) := by decide +kernel
theorem dL_talks_72 : decode cL_talks 72 = .ok (.iload 4, 2) := by decide +kernel
theorem dL_talks_74 : decode cL_talks 74 = .ok (.iconst 4, 1) := by decide +kernel
theorem dL_talks_75 : decode cL_talks 75 = .ok (.invokevirtual 23, 3) := by decide +kernel
theorem dL_talks_78 : decode cL_talks 78 = .ok (.istore 9, 2) := by decide +kernel
theorem dL_talks_80 : decode cL_talks 80 = .ok (.iload_n 1, 1) := by decide +kernel
theorem dL_talks_81 : decode cL_talks 81 = .ok (.ifCond .ne 156, 3) := by decide +kernel
theorem dL_talks_84 : decode cL_talks 84 = .ok (.iload_n 2, 1) := by decide +kernel
theorem dL_talks_85 : decode cL_talks 85 = .ok (.iconst 3, 1) := by decide +kernel
theorem dL_talks_86 : decode cL_talks 86 = .ok (.ishr, 1) := by decide +kernel
theorem dL_talks_87 : decode cL_talks 87 = .ok (.iload_n 2, 1) := by decide +kernel
theorem dL_talks_88 : decode cL_talks 88 = .ok (.bipush 9, 2) := by decide +kernel
theorem dL_talks_90 : decode cL_talks 90 = .ok (.ishr, 1) := by decide +kernel
theorem dL_talks_91 : decode cL_talks 91 = .ok (.iconst 3, 1) := by decide +kernel
theorem dL_talks_92 : decode cL_talks 92 = .ok (.invokestatic 39, 3) := by decide +kernel
theorem dL_talks_95 : decode cL_talks 95 = .ok (.ifCond .ne 8, 3) := by decide +kernel
theorem dL_talks_98 : decode cL_talks 98 = .ok (.bipush 32, 2) := by decide +kernel
theorem dL_talks_100 : decode cL_talks 100 = .ok (.goto 4, 3) := by decide +kernel
theorem dL_talks_103 : decode cL_talks 103 = .ok (.iconst 5, 1) := by decide +kernel
theorem dL_talks_104 : decode cL_talks 104 = .ok (.invokestatic 39, 3) := by decide +kernel
theorem dL_talks_107 : decode cL_talks 107 = .ok (.istore 10, 2) := by decide +kernel
theorem dL_talks_109 : decode cL_talks 109 = .ok (.iload 5, 2) := by decide +kernel
theorem dL_talks_111 : decode cL_talks 111 = .ok (.ifCond .ne 15, 3) := by decide +kernel
theorem dL_talks_114 : decode cL_talks 114 = .ok (.iload 10, 2) := by decide +kernel
theorem dL_talks_116 : decode cL_talks 116 = .ok (.ifCond .eq 10, 3) := by decide +kernel
theorem dL_talks_119 : decode cL_talks 119 = .ok (.iload 10, 2) := by decide +kernel
theorem dL_talks_121 : decode cL_talks 121 = .ok (.bipush 31, 2) := by decide +kernel
theorem dL_talks_123 : decode cL_talks 123 = .ok (.if_icmp .ne 7, 3) := by decide +kernel
theorem dL_talks_126 : decode cL_talks 126 = .ok (.iconst 1, 1) := by decide +kernel
theorem dL_talks_127 : decode cL_talks 127 = .ok (.goto 4, 3) := by decide +kernel
theorem dL_talks_130 : decode cL_talks 130 = .ok (.iconst 0, 1) := by decide +kernel
theorem dL_talks_131 : decode cL_talks 131 = .ok (.istore 11, 2) := by decide +kernel
theorem dL_talks_133 : decode cL_talks 133 = .ok (.aload_n 0, 1) := by decide +kernel
theorem dL_talks_134 : decode cL_talks 134 = .ok (.iload 4, 2) := by decide +kernel
theorem dL_talks_136 : decode cL_talks 136 = .ok (.iload 10, 2) := by decide +kernel
theorem dL_talks_138 : decode cL_talks 138 = .ok (.invokevirtual 90, 3) := by decide +kernel
theorem dL_talks_141 : decode cL_talks 141 = .ok (.istore 12, 2) := by decide +kernel
theorem dL_talks_143 : decode cL_talks 143 = .ok (.iload 12, 2) := by decide +kernel
theorem dL_talks_145 : decode cL_talks 145 = .ok (.iload 11, 2) := by decide +kernel
theorem dL_talks_147 : decode cL_talks 147 = .ok (.ifCond .eq 7, 3) := by decide +kernel
theorem dL_talks_150 : decode cL_talks 150 = .ok (.iconst (-1), 1) := by decide +kernel
theorem dL_talks_151 : decode cL_talks 151 = .ok (.goto 8, 3) := by decide +kernel
theorem dL_talks_154 : decode cL_talks 154 = .ok (.iload 7, 2) := by decide +kernel
theorem dL_talks_156 : decode cL_talks 156 = .ok (.iload 9, 2) := by decide +kernel
theorem dL_talks_158 : decode cL_talks 158 = .ok (.iadd, 1) := by decide +kernel
theorem dL_talks_159 : decode cL_talks 159 = .ok (.if_icmp .ne 76, 3) := by decide +kernel
theorem dL_talks_162 : decode cL_talks 162 = .ok (.aload_n 0, 1) := by decide +kernel
theorem dL_talks_163 : decode cL_talks 163 = .ok (.bipush 6, 2) := by decide +kernel
theorem dL_talks_165 : decode cL_talks 165 = .ok (.invokevirtual 13, 3) := by decide +kernel
theorem dL_talks_168 : decode cL_talks 168 = .ok (.iload 7, 2) := by decide +kernel
theorem dL_talks_170 : decode cL_talks 170 = .ok (.iload 11, 2) := by decide +kernel
theorem dL_talks_172 : decode cL_talks 172 = .ok (.ifCond .eq 7, 3) := by decide +kernel
theorem dL_talks_175 : decode cL_talks 175 = .ok (.iconst 0, 1) := by decide +kernel
theorem dL_talks_176 : decode cL_talks 176 = .ok (.goto 5, 3) := by decide +kernel
theorem dL_talks_179 : decode cL_talks 179 = .ok (.iload 9, 2) := by decide +kernel
theorem dL_talks_181 : decode cL_talks 181 = .ok (.iadd, 1) := by decide +kernel
theorem dL_talks_182 : decode cL_talks 182 = .ok (.if_icmp .ne 53, 3) := by decide +kernel
theorem dL_talks_185 : decode cL_talks 185 = .ok (.iload 5, 2) := by decide +kernel
theorem dL_talks_187 : decode cL_talks 187 = .ok (.ifCond .ne 44, 3) := by decide +kernel
theorem dL_talks_190 : decode cL_talks 190 = .ok (.aload_n 0, 1) := by decide +kernel
theorem dL_talks_191 : decode cL_talks 191 = .ok (.iload 4, 2) := by decide +kernel
theorem dL_talks_193 : decode cL_talks 193 = .ok (.bipush 6, 2) := by decide +kernel
theorem dL_talks_195 : decode cL_talks 195 = .ok (.invokevirtual 23, 3) := by decide +kernel
theorem dL_talks_198 : decode cL_talks 198 = .ok (.iload 11, 2) := by decide +kernel
theorem dL_talks_200 : decode cL_talks 200 = .ok (.ifCond .eq 8, 3) := by decide +kernel
theorem dL_talks_203 : decode cL_talks 203 = .ok (.iload 8, 2) := by decide +kernel
theorem dL_talks_205 : decode cL_talks 205 = .ok (.goto 8, 3) := by decide +kernel
theorem dL_talks_208 : decode cL_talks 208 = .ok (.iload 6, 2) := by decide +kernel
theorem dL_talks_210 : decode cL_talks 210 = .ok (.iload 10, 2) := by decide +kernel
theorem dL_talks_212 : decode cL_talks 212 = .ok (.iadd, 1) := by decide +kernel
theorem dL_talks_213 : decode cL_talks 213 = .ok (.if_icmp .ne 22, 3) := by decide +kernel
theorem dL_talks_216 : decode cL_talks 216 = .ok (.iload 11, 2) := by decide +kernel
theorem dL_talks_218 : decode cL_talks 218 = .ok (.ifCond .ne 13, 3) := by decide +kernel
theorem dL_talks_221 : decode cL_talks 221 = .ok (.aload_n 0, 1) := by decide +kernel
theorem dL_talks_222 : decode cL_talks 222 = .ok (.iload 4, 2) := by decide +kernel
theorem dL_talks_224 : decode cL_talks 224 = .ok (.iconst 3, 1) := by decide +kernel
theorem dL_talks_225 : decode cL_talks 225 = .ok (.invokevirtual 23, 3) := by decide +kernel
theorem dL_talks_228 : decode cL_talks 228 = .ok (.ifCond .ne 7, 3) := by decide +kernel
theorem dL_talks_231 : decode cL_talks 231 = .ok (.iconst 1, 1) := by decide +kernel
theorem dL_talks_232 : decode cL_talks 232 = .ok (.goto 4, 3) := by decide +kernel
theorem dL_talks_235 : decode cL_talks 235 = .ok (.iconst 0, 1) := by decide +kernel
theorem dL_talks_236 : decode cL_talks 236 = .ok (.ireturn, 1) := by decide +kernel
theorem dL_talks_237 : decode cL_talks 237 = .ok (.iload_n 1, 1) := by decide +kernel
theorem dL_talks_238 : decode cL_talks 238 = .ok (.iconst 1, 1) := by decide +kernel
theorem dL_talks_239 : decode cL_talks 239 = .ok (.if_icmp .ne 173, 3) := by decide +kernel
theorem dL_talks_242 : decode cL_talks 242 = .ok (.iload 8, 2) := by decide +kernel
theorem dL_talks_244 : decode cL_talks 244 = .ok (.iload 6, 2) := by decide +kernel
theorem dL_talks_246 : decode cL_talks 246 = .ok (.isub, 1) := by decide +kernel
theorem dL_talks_247 : decode cL_talks 247 = .ok (.istore 10, 2) := by decide +kernel
theorem dL_talks_249 : decode cL_talks 249 = .ok (.iload 5, 2) := by decide +kernel
theorem dL_talks_251 : decode cL_talks 251 = .ok (.ifCond .eq 7, 3) := by decide +kernel
theorem dL_talks_254 : decode cL_talks 254 = .ok (.iconst 0, 1) := by decide +kernel
theorem dL_talks_255 : decode cL_talks 255 = .ok (.goto 25, 3) := by decide +kernel
theorem dL_talks_258 : decode cL_talks 258 = .ok (.iload 10, 2) := by decide +kernel
theorem dL_talks_260 : decode cL_talks 260 = .ok (.ifCond .gt 7, 3) := by decide +kernel
theorem dL_talks_263 : decode cL_talks 263 = .ok (.iconst 5, 1) := by decide +kernel
theorem dL_talks_264 : decode cL_talks 264 = .ok (.goto 16, 3) := by decide +kernel
theorem dL_talks_267 : decode cL_talks 267 = .ok (.iload 10, 2) := by decide +kernel
theorem dL_talks_269 : decode cL_talks 269 = .ok (.iload 7, 2) := by decide +kernel
theorem dL_talks_271 : decode cL_talks 271 = .ok (.if_icmp .le 8, 3) := by decide +kernel
theorem dL_talks_274 : decode cL_talks 274 = .ok (.bipush 6, 2) := by decide +kernel
theorem dL_talks_276 : decode cL_talks 276 = .ok (.goto 4, 3) := by decide +kernel
theorem dL_talks_279 : decode cL_talks 279 = .ok (.iconst 0, 1) := by decide +kernel
theorem dL_talks_280 : decode cL_talks 280 = .ok (.istore 11, 2) := by decide +kernel
theorem dL_talks_282 : decode cL_talks 282 = .ok (.aload_n 0, 1) := by decide +kernel
theorem dL_talks_283 : decode cL_talks 283 = .ok (.bipush 8, 2) := by decide +kernel
theorem dL_talks_285 : decode cL_talks 285 = .ok (.invokevirtual 13, 3) := by decide +kernel
theorem dL_talks_288 : decode cL_talks 288 = .ok (.istore 12, 2) := by decide +kernel
theorem dL_talks_290 : decode cL_talks 290 = .ok (.aload_n 0, 1) := by decide +kernel
theorem dL_talks_291 : decode cL_talks 291 = .ok (.iload 4, 2) := by decide +kernel
theorem dL_talks_293 : decode cL_talks 293 = .ok (.invokevirtual 93, 3) := by decide +kernel
theorem dL_talks_296 : decode cL_talks 296 = .ok (.istore 13, 2) := by decide +kernel
theorem dL_talks_298 : decode cL_talks 298 = .ok (.iload 13, 2) := by decide +kernel
theorem dL_talks_300 : decode cL_talks 300 = .ok (.iload 5, 2) := by decide +kernel
theorem dL_talks_302 : decode cL_talks 302 = .ok (.ifCond .eq 7, 3) := by decide +kernel
theorem dL_talks_305 : decode cL_talks 305 = .ok (.iconst (-1), 1) := by decide +kernel
theorem dL_talks_306 : decode cL_talks 306 = .ok (.goto 21, 3) := by decide +kernel
theorem dL_talks_309 : decode cL_talks 309 = .ok (.iload 11, 2) := by decide +kernel
theorem dL_talks_311 : decode cL_talks 311 = .ok (.ifCond .le 8, 3) := by decide +kernel
theorem dL_talks_314 : decode cL_talks 314 = .ok (.iload 11, 2) := by decide +kernel
theorem dL_talks_316 : decode cL_talks 316 = .ok (.goto 11, 3) := by decide +kernel
theorem dL_talks_319 : decode cL_talks 319 = .ok (.bipush 10, 2) := by decide +kernel
theorem dL_talks_321 : decode cL_talks 321 = .ok (.iload 7, 2) := by decide +kernel
theorem dL_talks_323 : decode cL_talks 323 = .ok (.iadd, 1) := by decide +kernel
theorem dL_talks_324 : decode cL_talks 324 = .ok (.iload 10, 2) := by decide +kernel
theorem dL_talks_326 : decode cL_talks 326 = .ok (.isub, 1) := by decide +kernel
theorem dL_talks_327 : decode cL_talks 327 = .ok (.if_icmp .ne 83, 3) := by decide +kernel
theorem dL_talks_330 : decode cL_talks 330 = .ok (.aload_n 0, 1) := by decide +kernel
theorem dL_talks_331 : decode cL_talks 331 = .ok (.bipush 8, 2) := by decide +kernel
theorem dL_talks_333 : decode cL_talks 333 = .ok (.invokevirtual 13, 3) := by decide +kernel
theorem dL_talks_336 : decode cL_talks 336 = .ok (.iload 12, 2) := by decide +kernel
theorem dL_talks_338 : decode cL_talks 338 = .ok (.iload 11, 2) := by decide +kernel
theorem dL_talks_340 : decode cL_talks 340 = .ok (.ifCond .le 7, 3) := by decide +kernel
theorem dL_talks_343 : decode cL_talks 343 = .ok (.iconst 1, 1) := by decide +kernel
theorem dL_talks_344 : decode cL_talks 344 = .ok (.goto 4, 3) := by decide +kernel
theorem dL_talks_347 : decode cL_talks 347 = .ok (.iconst 0, 1) := by decide +kernel
theorem dL_talks_348 : decode cL_talks 348 = .ok (.iadd, 1) := by decide +kernel
theorem dL_talks_349 : decode cL_talks 349 = .ok (.if_icmp .ne 61, 3) := by decide +kernel
theorem dL_talks_352 : decode cL_talks 352 = .ok (.iload 5, 2) := by decide +kernel
theorem dL_talks_354 : decode cL_talks 354 = .ok (.ifCond .ne 26, 3) := by decide +kernel
theorem dL_talks_357 : decode cL_talks 357 = .ok (.aload_n 0, 1) := by decide +kernel
theorem dL_talks_358 : decode cL_talks 358 = .ok (.iload 4, 2) := by decide +kernel
theorem dL_talks_360 : decode cL_talks 360 = .ok (.bipush 6, 2) := by decide +kernel
theorem dL_talks_362 : decode cL_talks 362 = .ok (.invokevirtual 23, 3) := by decide +kernel
theorem dL_talks_365 : decode cL_talks 365 = .ok (.iload 11, 2) := by decide +kernel
theorem dL_talks_367 : decode cL_talks 367 = .ok (.ifCond .le 8, 3) := by decide +kernel
theorem dL_talks_370 : decode cL_talks 370 = .ok (.iload 8, 2) := by decide +kernel
theorem dL_talks_372 : decode cL_talks 372 = .ok (.goto 5, 3) := by decide +kernel
theorem dL_talks_375 : decode cL_talks 375 = .ok (.iload 6, 2) := by decide +kernel
theorem dL_talks_377 : decode cL_talks 377 = .ok (.if_icmp .ne 33, 3) := by decide +kernel
theorem dL_talks_380 : decode cL_talks 380 = .ok (.aload_n 0, 1) := by decide +kernel
theorem dL_talks_381 : decode cL_talks 381 = .ok (.bipush 6, 2) := by decide +kernel
theorem dL_talks_383 : decode cL_talks 383 = .ok (.invokevirtual 13, 3) := by decide +kernel
theorem dL_talks_386 : decode cL_talks 386 = .ok (.iload 13, 2) := by decide +kernel
theorem dL_talks_388 : decode cL_talks 388 = .ok (.bipush 10, 2) := by decide +kernel
theorem dL_talks_390 : decode cL_talks 390 = .ok (.if_icmp .lt 11, 3) := by decide +kernel
theorem dL_talks_393 : decode cL_talks 393 = .ok (.iload 13, 2) := by decide +kernel
theorem dL_talks_395 : decode cL_talks 395 = .ok (.bipush 10, 2) := by decide +kernel
theorem dL_talks_397 : decode cL_talks 397 = .ok (.isub, 1) := by decide +kernel
theorem dL_talks_398 : decode cL_talks 398 = .ok (.goto 5, 3) := by decide +kernel
theorem dL_talks_401 : decode cL_talks 401 = .ok (.iload 7, 2) := by decide +kernel
theorem dL_talks_403 : decode cL_talks 403 = .ok (.if_icmp .ne 7, 3) := by decide +kernel
theorem dL_talks_406 : decode cL_talks 406 = .ok (.iconst 1, 1) := by decide +kernel
theorem dL_talks_407 : decode cL_talks 407 = .ok (.goto 4, 3) := by decide +kernel
theorem dL_talks_410 : decode cL_talks 410 = .ok (.iconst 0, 1) := by decide +kernel
theorem dL_talks_411 : decode cL_talks 411 = .ok (.ireturn, 1) := by decide +kernel
theorem dL_talks_412 : decode cL_talks 412 = .ok (.aload_n 0, 1) := by decide +kernel
theorem dL_talks_413 : decode cL_talks 413 = .ok (.iload 4, 2) := by decide +kernel
theorem dL_talks_415 : decode cL_talks 415 = .ok (.invokevirtual 96, 3) := by decide +kernel
theorem dL_talks_418 : decode cL_talks 418 = .ok (.iload 5, 2) := by decide +kernel
theorem dL_talks_420 : decode cL_talks 420 = .ok (.ifCond .eq 7, 3) := by decide +kernel
theorem dL_talks_423 : decode cL_talks 423 = .ok (.iconst (-1), 1) := by decide +kernel
theorem dL_talks_424 : decode cL_talks 424 = .ok (.goto 6, 3) := by decide +kernel
theorem dL_talks_427 : decode cL_talks 427 = .ok (.iload_n 3, 1) := by decide +kernel
theorem dL_talks_428 : decode cL_talks 428 = .ok (.iconst 1, 1) := by decide +kernel
theorem dL_talks_429 : decode cL_talks 429 = .ok (.isub, 1) := by decide +kernel
theorem dL_talks_430 : decode cL_talks 430 = .ok (.if_icmp .ne 27, 3) := by decide +kernel
theorem dL_talks_433 : decode cL_talks 433 = .ok (.aload_n 0, 1) := by decide +kernel
theorem dL_talks_434 : decode cL_talks 434 = .ok (.iconst 1, 1) := by decide +kernel
theorem dL_talks_435 : decode cL_talks 435 = .ok (.invokevirtual 13, 3) := by decide +kernel
theorem dL_talks_438 : decode cL_talks 438 = .ok (.iload_n 3, 1) := by decide +kernel
theorem dL_talks_439 : decode cL_talks 439 = .ok (.iload 5, 2) := by decide +kernel
theorem dL_talks_441 : decode cL_talks 441 = .ok (.ifCond .eq 7, 3) := by decide +kernel
theorem dL_talks_444 : decode cL_talks 444 = .ok (.iconst 0, 1) := by decide +kernel
theorem dL_talks_445 : decode cL_talks 445 = .ok (.goto 4, 3) := by decide +kernel
theorem dL_talks_448 : decode cL_talks 448 = .ok (.iconst 1, 1) := by decide +kernel
theorem dL_talks_449 : decode cL_talks 449 = .ok (.isub, 1) := by decide +kernel
theorem dL_talks_450 : decode cL_talks 450 = .ok (.if_icmp .ne 7, 3) := by decide +kernel
theorem dL_talks_453 : decode cL_talks 453 = .ok (.iconst 1, 1) := by decide +kernel
theorem dL_talks_454 : decode cL_talks 454 = .ok (.goto 4, 3) := by decide +kernel
theorem dL_talks_457 : decode cL_talks 457 = .ok (.iconst 0, 1) := by decide +kernel
theorem dL_talks_458 : decode cL_talks 458 = .ok (.ireturn, 1) := by decide +kernel
theorem dL_acts_0 : decode cL_acts 0 = .ok (.iload_n 1, 1) := by decide +kernel
theorem dL_acts_1 : decode cL_acts 1 = .ok (.bipush 32, 2) := by decide +kernel
theorem dL_acts_3 : decode cL_acts 3 = .ok (.invokestatic 39, 3) := by decide +kernel
theorem dL_acts_6 : decode cL_acts 6 = .ok (.istore_n 3, 1) := by decide +kernel
theorem dL_acts_7 : decode cL_acts 7 = .ok (.aload_n 0, 1) := by decide +kernel
theorem dL_acts_8 : decode cL_acts 8 = .ok (.bipush 8, 2) := by decide +kernel
theorem dL_acts_10 : decode cL_acts 10 = .ok (.invokevirtual 13, 3) := by decide +kernel
theorem dL_acts_13 : decode cL_acts 13 = .ok (.istore 4, 2) := by decide +kernel
theorem dL_acts_15 : decode cL_acts 15 = .ok (.iload_n 3, 1) := by decide +kernel
theorem dL_acts_16 : decode cL_acts 16 = .ok (.bipush 8, 2) := by decide +kernel
theorem dL_acts_18 : decode cL_acts 18 = .ok (.if_icmp .ge 326, 3) := by decide +kernel
theorem dL_acts_21 : decode cL_acts 21 = .ok (.aload_n 0, 1) := by decide +kernel
theorem dL_acts_22 : decode cL_acts 22 = .ok (.iconst 1, 1) := by decide +kernel
theorem dL_acts_23 : decode cL_acts 23 = .ok (.invokevirtual 13, 3) := by decide +kernel
theorem dL_acts_26 : decode cL_acts 26 = .ok (.istore 5, 2) := by decide +kernel
theorem dL_acts_28 : decode cL_acts 28 = .ok (.iload_n 2, 1) := by decide +kernel
theorem dL_acts_29 : decode cL_acts 29 = .ok (.iload_n 2, 1) := by decide +kernel
theorem dL_acts_30 : decode cL_acts 30 = .ok (.bipush 14, 2) := by decide +kernel
theorem dL_acts_32 : decode cL_acts 32 = .ok (.ishr, 1) := by decide +kernel
theorem dL_acts_33 : decode cL_acts 33 = .ok (.bipush 9, 2) := by decide +kernel
theorem dL_acts_35 : decode cL_acts 35 = .ok (.invokestatic 39, 3) := by decide +kernel
theorem dL_acts_38 : decode cL_acts 38 = .ok (.ifCond .ne 8, 3) := by decide +kernel
theorem dL_acts_41 : decode cL_acts 41 = .ok (.bipush 9, 2) := by decide +kernel
theorem dL_acts_43 : decode cL_acts 43 = .ok (.goto 5, 3) := by decide +kernel
theorem dL_acts_46 : decode cL_acts 46 = .ok (.bipush 8, 2) := by decide +kernel
theorem dL_acts_48 : decode cL_acts 48 = .ok (.invokestatic 39, 3) := by decide +kernel
theorem dL_acts_51 : decode cL_acts 51 = .ok (.istore 6, 2) := by decide +kernel
theorem dL_acts_53 : decode cL_acts 53 = .ok (.iload_n 2, 1) := by decide +kernel
theorem dL_acts_54 : decode cL_acts 54 = .ok (.iconst 3, 1) := by decide +kernel
theorem dL_acts_55 : decode cL_acts 55 = .ok (.ishr, 1) := by decide +kernel
theorem dL_acts_56 : decode cL_acts 56 = .ok (.iload_n 2, 1) := by decide +kernel
theorem dL_acts_57 : decode cL_acts 57 = .ok (.bipush 15, 2) := by decide +kernel
theorem dL_acts_59 : decode cL_acts 59 = .ok (.ishr, 1) := by decide +kernel
theorem dL_acts_60 : decode cL_acts 60 = .ok (.bipush 9, 2) := by decide +kernel
theorem dL_acts_62 : decode cL_acts 62 = .ok (.invokestatic 39, 3) := by decide +kernel
theorem dL_acts_65 : decode cL_acts 65 = .ok (.ifCond .ne 8, 3) := by decide +kernel
theorem dL_acts_68 : decode cL_acts 68 = .ok (.bipush 9, 2) := by decide +kernel
theorem dL_acts_70 : decode cL_acts 70 = .ok (.goto 5, 3) := by decide +kernel
theorem dL_acts_73 : decode cL_acts 73 = .ok (.bipush 8, 2) := by decide +kernel
theorem dL_acts_75 : decode cL_acts 75 = .ok (.invokestatic 39, 3) := by decide +kernel
theorem dL_acts_78 : decode cL_acts 78 = .ok (.istore 7, 2) := by decide +kernel
theorem dL_acts_80 : decode cL_acts 80 = .ok (.iload_n 2, 1) := by decide +kernel
theorem dL_acts_81 : decode cL_acts 81 = .ok (.bipush 9, 2) := by decide +kernel
theorem dL_acts_83 : decode cL_acts 83 = .ok (.ishr, 1) := by decide +kernel
theorem dL_acts_84 : decode cL_acts 84 = .ok (.iconst 3, 1) := by decide +kernel
theorem dL_acts_85 : decode cL_acts 85 = .ok (.invokestatic 39, 3) := by decide +kernel
theorem dL_acts_88 : decode cL_acts 88 = .ok (.ifCond .ne 18, 3) := by decide +kernel
theorem dL_acts_91 : decode cL_acts 91 = .ok (.iload_n 2, 1) := by decide +kernel
theorem dL_acts_92 : decode cL_acts 92 = .ok (.bipush 6, 2) := by decide +kernel
theorem dL_acts_94 : decode cL_acts 94 = .ok (.ishr, 1) := by decide +kernel
theorem dL_acts_95 : decode cL_acts 95 = .ok (.bipush 93, 2) := by decide +kernel
theorem dL_acts_97 : decode cL_acts 97 = .ok (.invokestatic 39, 3) := by decide +kernel
theorem dL_acts_100 : decode cL_acts 100 = .ok (.bipush 31, 2) := by decide +kernel
theorem dL_acts_102 : decode cL_acts 102 = .ok (.isub, 1) := by decide +kernel
theorem dL_acts_103 : decode cL_acts 103 = .ok (.goto 14, 3) := by decide +kernel
theorem dL_acts_106 : decode cL_acts 106 = .ok (.iload_n 2, 1) := by decide +kernel
theorem dL_acts_107 : decode cL_acts 107 = .ok (.bipush 6, 2) := by decide +kernel
theorem dL_acts_109 : decode cL_acts 109 = .ok (.ishr, 1) := by decide +kernel
theorem dL_acts_110 : decode cL_acts 110 = .ok (.bipush 16, 2) := by decide +kernel
theorem dL_acts_112 : decode cL_acts 112 = .ok (.invokestatic 39, 3) := by decide +kernel
theorem dL_acts_115 : decode cL_acts 115 = .ok (.iconst 3, 1) := by decide +kernel
theorem dL_acts_116 : decode cL_acts 116 = .ok (.isub, 1) := by decide +kernel
theorem dL_acts_117 : decode cL_acts 117 = .ok (.istore 8, 2) := by decide +kernel
theorem dL_acts_119 : decode cL_acts 119 = .ok (.iload 6, 2) := by decide +kernel
theorem dL_acts_121 : decode cL_acts 121 = .ok (.bipush 8, 2) := by decide +kernel
theorem dL_acts_123 : decode cL_acts 123 = .ok (.if_icmp .eq 31, 3) := by decide +kernel
theorem dL_acts_126 : decode cL_acts 126 = .ok (.iload 7, 2) := by decide +kernel
theorem dL_acts_128 : decode cL_acts 128 = .ok (.bipush 8, 2) := by decide +kernel
theorem dL_acts_130 : decode cL_acts 130 = .ok (.if_icmp .eq 24, 3) := by decide +kernel
theorem dL_acts_133 : decode cL_acts 133 = .ok (.iload 6, 2) := by decide +kernel
theorem dL_acts_135 : decode cL_acts 135 = .ok (.iload 7, 2) := by decide +kernel
theorem dL_acts_137 : decode cL_acts 137 = .ok (.if_icmp .eq 17, 3) := by decide +kernel
theorem dL_acts_140 : decode cL_acts 140 = .ok (.iload 8, 2) := by decide +kernel
theorem dL_acts_142 : decode cL_acts 142 = .ok (.bipush (-30), 2) := by decide +kernel
theorem dL_acts_144 : decode cL_acts 144 = .ok (.if_icmp .lt 10, 3) := by decide +kernel
theorem dL_acts_147 : decode cL_acts 147 = .ok (.iload 8, 2) := by decide +kernel
theorem dL_acts_149 : decode cL_acts 149 = .ok (.bipush 60, 2) := by decide +kernel
theorem dL_acts_151 : decode cL_acts 151 = .ok (.if_icmp .le 7, 3) := by decide +kernel
theorem dL_acts_154 : decode cL_acts 154 = .ok (.iconst 1, 1) := by decide +kernel
theorem dL_acts_155 : decode cL_acts 155 = .ok (.goto 4, 3) := by decide +kernel
theorem dL_acts_158 : decode cL_acts 158 = .ok (.iconst 0, 1) := by decide +kernel
theorem dL_acts_159 : decode cL_acts 159 = .ok (.istore 9, 2) := by decide +kernel
theorem dL_acts_161 : decode cL_acts 161 = .ok (.iload 9, 2) := by decide +kernel
theorem dL_acts_163 : decode cL_acts 163 = .ok (.ifCond .eq 7, 3) := by decide +kernel
theorem dL_acts_166 : decode cL_acts 166 = .ok (.iconst 0, 1) := by decide +kernel
theorem dL_acts_167 : decode cL_acts 167 = .ok (.goto 13, 3) := by decide +kernel
theorem dL_acts_170 : decode cL_acts 170 = .ok (.aload_n 0, 1) := by decide +kernel
theorem dL_acts_171 : decode cL_acts 171 = .ok (.iload 6, 2) := by decide +kernel
theorem dL_acts_173 : decode cL_acts 173 = .ok (.iload 7, 2) := by decide +kernel
theorem dL_acts_175 : decode cL_acts 175 = .ok (.iload 8, 2) := by decide +kernel
theorem dL_acts_177 : decode cL_acts 177 = .ok (.invokevirtual 42, 3) := by decide +kernel
theorem dL_acts_180 : decode cL_acts 180 = .ok (.istore 10, 2) := by decide +kernel
theorem dL_acts_182 : decode cL_acts 182 = .ok (.aload_n 0, 1) := by decide +kernel
theorem dL_acts_183 : decode cL_acts 183 = .ok (.iload 6, 2) := by decide +kernel
theorem dL_acts_185 : decode cL_acts 185 = .ok (.iload 7, 2) := by decide +kernel
theorem dL_acts_187 : decode cL_acts 187 = .ok (.iload 8, 2) := by decide +kernel
theorem dL_acts_189 : decode cL_acts 189 = .ok (.invokevirtual 99, 3) := by decide +kernel
theorem dL_acts_192 : decode cL_acts 192 = .ok (.istore 11, 2) := by decide +kernel
theorem dL_acts_194 : decode cL_acts 194 = .ok (.iload 9, 2) := by decide +kernel
theorem dL_acts_196 : decode cL_acts 196 = .ok (.ifCond .ne 19, 3) := by decide +kernel
theorem dL_acts_199 : decode cL_acts 199 = .ok (.iload 5, 2) := by decide +kernel
theorem dL_acts_201 : decode cL_acts 201 = .ok (.bipush 14, 2) := by decide +kernel
theorem dL_acts_203 : decode cL_acts 203 = .ok (.if_icmp .ge 12, 3) := by decide +kernel
theorem dL_acts_206 : decode cL_acts 206 = .ok (.iload 10, 2) := by decide +kernel
theorem dL_acts_208 : decode cL_acts 208 = .ok (.ifCond .le 7, 3) := by decide +kernel
theorem dL_acts_211 : decode cL_acts 211 = .ok (.iconst 1, 1) := by decide +kernel
theorem dL_acts_212 : decode cL_acts 212 = .ok (.goto 4, 3) := by decide +kernel
theorem dL_acts_215 : decode cL_acts 215 = .ok (.iconst 0, 1) := by decide +kernel
theorem dL_acts_216 : decode cL_acts 216 = .ok (.istore 12, 2) := by decide +kernel
theorem dL_acts_218 : decode cL_acts 218 = .ok (.iload 11, 2) := by decide +kernel
theorem dL_acts_220 : decode cL_acts 220 = .ok (.iload 9, 2) := by decide +kernel
theorem dL_acts_222 : decode cL_acts 222 = .ok (.ifCond .eq 7, 3) := by decide +kernel
theorem dL_acts_225 : decode cL_acts 225 = .ok (.iconst (-1), 1) := by decide +kernel
theorem dL_acts_226 : decode cL_acts 226 = .ok (.goto 30, 3) := by decide +kernel
theorem dL_acts_229 : decode cL_acts 229 = .ok (.iload 5, 2) := by decide +kernel
theorem dL_acts_231 : decode cL_acts 231 = .ok (.bipush 14, 2) := by decide +kernel
theorem dL_acts_233 : decode cL_acts 233 = .ok (.if_icmp .ne 8, 3) := by decide +kernel
theorem dL_acts_236 : decode cL_acts 236 = .ok (.bipush (-3), 2) := by decide +kernel
theorem dL_acts_238 : decode cL_acts 238 = .ok (.goto 18, 3) := by decide +kernel
theorem dL_acts_241 : decode cL_acts 241 = .ok (.iload 10, 2) := by decide +kernel
theorem dL_acts_243 : decode cL_acts 243 = .ok (.ifCond .le 8, 3) := by decide +kernel
theorem dL_acts_246 : decode cL_acts 246 = .ok (.iload 10, 2) := by decide +kernel
theorem dL_acts_248 : decode cL_acts 248 = .ok (.goto 8, 3) := by decide +kernel
theorem dL_acts_251 : decode cL_acts 251 = .ok (.bipush 10, 2) := by decide +kernel
theorem dL_acts_253 : decode cL_acts 253 = .ok (.iload 5, 2) := by decide +kernel
theorem dL_acts_255 : decode cL_acts 255 = .ok (.iadd, 1) := by decide +kernel
theorem dL_acts_256 : decode cL_acts 256 = .ok (.if_icmp .ne 86, 3) := by decide +kernel
theorem dL_acts_259 : decode cL_acts 259 = .ok (.aload_n 0, 1) := by decide +kernel
theorem dL_acts_260 : decode cL_acts 260 = .ok (.bipush 8, 2) := by decide +kernel
theorem dL_acts_262 : decode cL_acts 262 = .ok (.invokevirtual 13, 3) := by decide +kernel
theorem dL_acts_265 : decode cL_acts 265 = .ok (.iload 4, 2) := by decide +kernel
theorem dL_acts_267 : decode cL_acts 267 = .ok (.iload 12, 2) := by decide +kernel
theorem dL_acts_269 : decode cL_acts 269 = .ok (.ifCond .eq 7, 3) := by decide +kernel
theorem dL_acts_272 : decode cL_acts 272 = .ok (.iconst 1, 1) := by decide +kernel
theorem dL_acts_273 : decode cL_acts 273 = .ok (.goto 4, 3) := by decide +kernel
theorem dL_acts_276 : decode cL_acts 276 = .ok (.iconst 0, 1) := by decide +kernel
theorem dL_acts_277 : decode cL_acts 277 = .ok (.iadd, 1) := by decide +kernel
theorem dL_acts_278 : decode cL_acts 278 = .ok (.if_icmp .ne 64, 3) := by decide +kernel
theorem dL_acts_281 : decode cL_acts 281 = .ok (.iload 11, 2) := by decide +kernel
theorem dL_acts_283 : decode cL_acts 283 = .ok (.bipush 10, 2) := by decide +kernel
theorem dL_acts_285 : decode cL_acts 285 = .ok (.if_icmp .lt 53, 3) := by decide +kernel
theorem dL_acts_288 : decode cL_acts 288 = .ok (.aload_n 0, 1) := by decide +kernel
theorem dL_acts_289 : decode cL_acts 289 = .ok (.iload 5, 2) := by decide +kernel
theorem dL_acts_291 : decode cL_acts 291 = .ok (.iconst 0, 1) := by decide +kernel
theorem dL_acts_292 : decode cL_acts 292 = .ok (.invokevirtual 23, 3) := by decide +kernel
theorem dL_acts_295 : decode cL_acts 295 = .ok (.iload 6, 2) := by decide +kernel
theorem dL_acts_297 : decode cL_acts 297 = .ok (.if_icmp .ne 45, 3) := by decide +kernel
theorem dL_acts_300 : decode cL_acts 300 = .ok (.aload_n 0, 1) := by decide +kernel
theorem dL_acts_301 : decode cL_acts 301 = .ok (.iload 5, 2) := by decide +kernel
theorem dL_acts_303 : decode cL_acts 303 = .ok (.iconst 1, 1) := by decide +kernel
theorem dL_acts_304 : decode cL_acts 304 = .ok (.invokevirtual 23, 3) := by decide +kernel
theorem dL_acts_307 : decode cL_acts 307 = .ok (.iload 7, 2) := by decide +kernel
theorem dL_acts_309 : decode cL_acts 309 = .ok (.if_icmp .ne 33, 3) := by decide +kernel
theorem dL_acts_312 : decode cL_acts 312 = .ok (.aload_n 0, 1) := by decide +kernel
theorem dL_acts_313 : decode cL_acts 313 = .ok (.iload 5, 2) := by decide +kernel
theorem dL_acts_315 : decode cL_acts 315 = .ok (.iconst 2, 1) := by decide +kernel
theorem dL_acts_316 : decode cL_acts 316 = .ok (.invokevirtual 23, 3) := by decide +kernel
theorem dL_acts_319 : decode cL_acts 319 = .ok (.iload 8, 2) := by decide +kernel
theorem dL_acts_321 : decode cL_acts 321 = .ok (.bipush 100, 2) := by decide +kernel
theorem dL_acts_323 : decode cL_acts 323 = .ok (.iadd, 1) := by decide +kernel
theorem dL_acts_324 : decode cL_acts 324 = .ok (.if_icmp .ne 18, 3) := by decide +kernel
theorem dL_acts_327 : decode cL_acts 327 = .ok (.aload_n 0, 1) := by decide +kernel
theorem dL_acts_328 : decode cL_acts 328 = .ok (.iload 5, 2) := by decide +kernel
theorem dL_acts_330 : decode cL_acts 330 = .ok (.bipush 6, 2) := by decide +kernel
theorem dL_acts_332 : decode cL_acts 332 = .ok (.invokevirtual 23, 3) := by decide +kernel
theorem dL_acts_335 : decode cL_acts 335 = .ok (.ifCond .ne 7, 3) := by decide +kernel
theorem dL_acts_338 : decode cL_acts 338 = .ok (.iconst 1, 1) := by decide +kernel
theorem dL_acts_339 : decode cL_acts 339 = .ok (.goto 4, 3) := by decide +kernel
theorem dL_acts_342 : decode cL_acts 342 = .ok (.iconst 0, 1) := by decide +kernel
theorem dL_acts_343 : decode cL_acts 343 = .ok (.ireturn, 1) := by decide +kernel
theorem dL_acts_344 : decode cL_acts 344 = .ok (.iload_n 3, 1) := by decide +kernel
theorem dL_acts_345 : decode cL_acts 345 = .ok (.bipush 16, 2) := by decide +kernel
theorem dL_acts_347 : decode cL_acts 347 = .ok (.if_icmp .ge 40, 3) := by decide +kernel
theorem dL_acts_350 : decode cL_acts 350 = .ok (.aload_n 0, 1) := by decide +kernel
theorem dL_acts_351 : decode cL_acts 351 = .ok (.iload_n 3, 1) := by decide +kernel
theorem dL_acts_352 : decode cL_acts 352 = .ok (.bipush 10, 2) := by decide +kernel
theorem dL_acts_354 : decode cL_acts 354 = .ok (.if_icmp .ge 7, 3) := by decide +kernel
theorem dL_acts_357 : decode cL_acts 357 = .ok (.iconst 0, 1) := by decide +kernel
theorem dL_acts_358 : decode cL_acts 358 = .ok (.goto 24, 3) := by decide +kernel
theorem dL_acts_361 : decode cL_acts 361 = .ok (.iload_n 3, 1) := by decide +kernel
theorem dL_acts_362 : decode cL_acts 362 = .ok (.bipush 12, 2) := by decide +kernel
theorem dL_acts_364 : decode cL_acts 364 = .ok (.if_icmp .ge 7, 3) := by decide +kernel
theorem dL_acts_367 : decode cL_acts 367 = .ok (.iconst 1, 1) := by decide +kernel
theorem dL_acts_368 : decode cL_acts 368 = .ok (.goto 14, 3) := by decide +kernel
theorem dL_acts_371 : decode cL_acts 371 = .ok (.iload_n 3, 1) := by decide +kernel
theorem dL_acts_372 : decode cL_acts 372 = .ok (.bipush 13, 2) := by decide +kernel
theorem dL_acts_374 : decode cL_acts 374 = .ok (.if_icmp .ge 7, 3) := by decide +kernel
theorem dL_acts_377 : decode cL_acts 377 = .ok (.iconst 2, 1) := by decide +kernel
theorem dL_acts_378 : decode cL_acts 378 = .ok (.goto 4, 3) := by decide +kernel
theorem dL_acts_381 : decode cL_acts 381 = .ok (.iconst 3, 1) := by decide +kernel
theorem dL_acts_382 : decode cL_acts 382 = .ok (.iload_n 2, 1) := by decide +kernel
theorem dL_acts_383 : decode cL_acts 383 = .ok (.invokestatic 102, 3) := by decide +kernel
theorem dL_acts_386 : decode cL_acts 386 = .ok (.ireturn, 1) := by decide +kernel
theorem dL_acts_387 : decode cL_acts 387 = .ok (.iload_n 3, 1) := by decide +kernel
theorem dL_acts_388 : decode cL_acts 388 = .ok (.bipush 23, 2) := by decide +kernel
theorem dL_acts_390 : decode cL_acts 390 = .ok (.if_icmp .ge 30, 3) := by decide +kernel
theorem dL_acts_393 : decode cL_acts 393 = .ok (.aload_n 0, 1) := by decide +kernel
theorem dL_acts_394 : decode cL_acts 394 = .ok (.iload_n 3, 1) := by decide +kernel
theorem dL_acts_395 : decode cL_acts 395 = .ok (.bipush 19, 2) := by decide +kernel
theorem dL_acts_397 : decode cL_acts 397 = .ok (.if_icmp .ge 7, 3) := by decide +kernel
theorem dL_acts_400 : decode cL_acts 400 = .ok (.iconst 0, 1) := by decide +kernel
theorem dL_acts_401 : decode cL_acts 401 = .ok (.goto 14, 3) := by decide +kernel
theorem dL_acts_404 : decode cL_acts 404 = .ok (.iload_n 3, 1) := by decide +kernel
theorem dL_acts_405 : decode cL_acts 405 = .ok (.bipush 22, 2) := by decide +kernel
theorem dL_acts_407 : decode cL_acts 407 = .ok (.if_icmp .ge 7, 3) := by decide +kernel
theorem dL_acts_410 : decode cL_acts 410 = .ok (.iconst 1, 1) := by decide +kernel
theorem dL_acts_411 : decode cL_acts 411 = .ok (.goto 4, 3) := by decide +kernel
theorem dL_acts_414 : decode cL_acts 414 = .ok (.iconst 2, 1) := by decide +kernel
theorem dL_acts_415 : decode cL_acts 415 = .ok (.iload_n 2, 1) := by decide +kernel
theorem dL_acts_416 : decode cL_acts 416 = .ok (.invokestatic 106, 3) := by decide +kernel
theorem dL_acts_419 : decode cL_acts 419 = .ok (.ireturn, 1) := by decide +kernel
theorem dL_acts_420 : decode cL_acts 420 = .ok (.iload_n 3, 1) := by decide +kernel
theorem dL_acts_421 : decode cL_acts 421 = .ok (.bipush 25, 2) := by decide +kernel
theorem dL_acts_423 : decode cL_acts 423 = .ok (.if_icmp .ge 142, 3) := by decide +kernel
theorem dL_acts_426 : decode cL_acts 426 = .ok (.aload_n 0, 1) := by decide +kernel
theorem dL_acts_427 : decode cL_acts 427 = .ok (.iconst 0, 1) := by decide +kernel
theorem dL_acts_428 : decode cL_acts 428 = .ok (.invokevirtual 26, 3) := by decide +kernel
theorem dL_acts_431 : decode cL_acts 431 = .ok (.istore 5, 2) := by decide +kernel
theorem dL_acts_433 : decode cL_acts 433 = .ok (.aload_n 0, 1) := by decide +kernel
theorem dL_acts_434 : decode cL_acts 434 = .ok (.bipush 10, 2) := by decide +kernel
theorem dL_acts_436 : decode cL_acts 436 = .ok (.invokevirtual 13, 3) := by decide +kernel
theorem dL_acts_439 : decode cL_acts 439 = .ok (.istore 6, 2) := by decide +kernel
theorem dL_acts_441 : decode cL_acts 441 = .ok (.aload_n 0, 1) := by decide +kernel
theorem dL_acts_442 : decode cL_acts 442 = .ok (.invokevirtual 109, 3) := by decide +kernel
theorem dL_acts_445 : decode cL_acts 445 = .ok (.istore 7, 2) := by decide +kernel
theorem dL_acts_447 : decode cL_acts 447 = .ok (.iload 7, 2) := by decide +kernel
theorem dL_acts_449 : decode cL_acts 449 = .ok (.bipush 10, 2) := by decide +kernel
theorem dL_acts_451 : decode cL_acts 451 = .ok (.if_icmp .lt 7, 3) := by decide +kernel
theorem dL_acts_454 : decode cL_acts 454 = .ok (.iconst 1, 1) := by decide +kernel
theorem dL_acts_455 : decode cL_acts 455 = .ok (.goto 4, 3) := by decide +kernel
theorem dL_acts_458 : decode cL_acts 458 = .ok (.iconst 0, 1) := by decide +kernel
theorem dL_acts_459 : decode cL_acts 459 = .ok (.istore 8, 2) := by decide +kernel
theorem dL_acts_461 : decode cL_acts 461 = .ok (.iload 5, 2) := by decide +kernel
theorem dL_acts_463 : decode cL_acts 463 = .ok (.bipush (-4), 2) := by decide +kernel
theorem dL_acts_465 : decode cL_acts 465 = .ok (.if_icmp .ne 12, 3) := by decide +kernel
theorem dL_acts_468 : decode cL_acts 468 = .ok (.iload 7, 2) := by decide +kernel
theorem dL_acts_470 : decode cL_acts 470 = .ok (.iconst 4, 1) := by decide +kernel
theorem dL_acts_471 : decode cL_acts 471 = .ok (.if_icmp .ne 92, 3) := by decide +kernel
theorem dL_acts_474 : decode cL_acts 474 = .ok (.goto 19, 3) := by decide +kernel
theorem dL_acts_477 : decode cL_acts 477 = .ok (.iload 7, 2) := by decide +kernel
theorem dL_acts_479 : decode cL_acts 479 = .ok (.iconst 3, 1) := by decide +kernel
theorem dL_acts_480 : decode cL_acts 480 = .ok (.if_icmp .eq 13, 3) := by decide +kernel
theorem dL_acts_483 : decode cL_acts 483 = .ok (.iload 7, 2) := by decide +kernel
theorem dL_acts_485 : decode cL_acts 485 = .ok (.bipush 10, 2) := by decide +kernel
theorem dL_acts_487 : decode cL_acts 487 = .ok (.iload 5, 2) := by decide +kernel
theorem dL_acts_489 : decode cL_acts 489 = .ok (.iadd, 1) := by decide +kernel
theorem dL_acts_490 : decode cL_acts 490 = .ok (.if_icmp .ne 73, 3) := by decide +kernel
theorem dL_acts_493 : decode cL_acts 493 = .ok (.aload_n 0, 1) := by decide +kernel
theorem dL_acts_494 : decode cL_acts 494 = .ok (.bipush 8, 2) := by decide +kernel
theorem dL_acts_496 : decode cL_acts 496 = .ok (.invokevirtual 13, 3) := by decide +kernel
theorem dL_acts_499 : decode cL_acts 499 = .ok (.iload 4, 2) := by decide +kernel
theorem dL_acts_501 : decode cL_acts 501 = .ok (.iload 8, 2) := by decide +kernel
theorem dL_acts_503 : decode cL_acts 503 = .ok (.ifCond .eq 7, 3) := by decide +kernel
theorem dL_acts_506 : decode cL_acts 506 = .ok (.iconst 0, 1) := by decide +kernel
theorem dL_acts_507 : decode cL_acts 507 = .ok (.goto 4, 3) := by decide +kernel
theorem dL_acts_510 : decode cL_acts 510 = .ok (.iconst 1, 1) := by decide +kernel
theorem dL_acts_511 : decode cL_acts 511 = .ok (.iadd, 1) := by decide +kernel
theorem dL_acts_512 : decode cL_acts 512 = .ok (.if_icmp .ne 51, 3) := by decide +kernel
theorem dL_acts_515 : decode cL_acts 515 = .ok (.aload_n 0, 1) := by decide +kernel
theorem dL_acts_516 : decode cL_acts 516 = .ok (.bipush 10, 2) := by decide +kernel
theorem dL_acts_518 : decode cL_acts 518 = .ok (.invokevirtual 13, 3) := by decide +kernel
theorem dL_acts_521 : decode cL_acts 521 = .ok (.iload 6, 2) := by decide +kernel
theorem dL_acts_523 : decode cL_acts 523 = .ok (.iload 8, 2) := by decide +kernel
theorem dL_acts_525 : decode cL_acts 525 = .ok (.ifCond .eq 8, 3) := by decide +kernel
theorem dL_acts_528 : decode cL_acts 528 = .ok (.iload 5, 2) := by decide +kernel
theorem dL_acts_530 : decode cL_acts 530 = .ok (.goto 4, 3) := by decide +kernel
theorem dL_acts_533 : decode cL_acts 533 = .ok (.iconst 0, 1) := by decide +kernel
theorem dL_acts_534 : decode cL_acts 534 = .ok (.iadd, 1) := by decide +kernel
theorem dL_acts_535 : decode cL_acts 535 = .ok (.if_icmp .ne 28, 3) := by decide +kernel
theorem dL_acts_538 : decode cL_acts 538 = .ok (.iload 8, 2) := by decide +kernel
theorem dL_acts_540 : decode cL_acts 540 = .ok (.ifCond .eq 19, 3) := by decide +kernel
theorem dL_acts_543 : decode cL_acts 543 = .ok (.aload_n 0, 1) := by decide +kernel
theorem dL_acts_544 : decode cL_acts 544 = .ok (.iconst 3, 1) := by decide +kernel
theorem dL_acts_545 : decode cL_acts 545 = .ok (.invokevirtual 13, 3) := by decide +kernel
theorem dL_acts_548 : decode cL_acts 548 = .ok (.ifCond .ne 15, 3) := by decide +kernel
theorem dL_acts_551 : decode cL_acts 551 = .ok (.aload_n 0, 1) := by decide +kernel
theorem dL_acts_552 : decode cL_acts 552 = .ok (.iconst 1, 1) := by decide +kernel
theorem dL_acts_553 : decode cL_acts 553 = .ok (.invokevirtual 26, 3) := by decide +kernel
theorem dL_acts_556 : decode cL_acts 556 = .ok (.ifCond .ne 7, 3) := by decide +kernel
theorem dL_acts_559 : decode cL_acts 559 = .ok (.iconst 1, 1) := by decide +kernel
theorem dL_acts_560 : decode cL_acts 560 = .ok (.goto 4, 3) := by decide +kernel
theorem dL_acts_563 : decode cL_acts 563 = .ok (.iconst 0, 1) := by decide +kernel
theorem dL_acts_564 : decode cL_acts 564 = .ok (.ireturn, 1) := by decide +kernel
theorem dL_acts_565 : decode cL_acts 565 = .ok (.iload_n 3, 1) := by decide +kernel
theorem dL_acts_566 : decode cL_acts 566 = .ok (.bipush 29, 2) := by decide +kernel
theorem dL_acts_568 : decode cL_acts 568 = .ok (.if_icmp .ge 73, 3) := by decide +kernel
theorem dL_acts_571 : decode cL_acts 571 = .ok (.aload_n 0, 1) := by decide +kernel
theorem dL_acts_572 : decode cL_acts 572 = .ok (.iconst 1, 1) := by decide +kernel
theorem dL_acts_573 : decode cL_acts 573 = .ok (.iconst 0, 1) := by decide +kernel
theorem dL_acts_574 : decode cL_acts 574 = .ok (.invokevirtual 48, 3) := by decide +kernel
theorem dL_acts_577 : decode cL_acts 577 = .ok (.istore 5, 2) := by decide +kernel
theorem dL_acts_579 : decode cL_acts 579 = .ok (.aload_n 0, 1) := by decide +kernel
theorem dL_acts_580 : decode cL_acts 580 = .ok (.iconst 1, 1) := by decide +kernel
theorem dL_acts_581 : decode cL_acts 581 = .ok (.iconst 1, 1) := by decide +kernel
theorem dL_acts_582 : decode cL_acts 582 = .ok (.invokevirtual 48, 3) := by decide +kernel
theorem dL_acts_585 : decode cL_acts 585 = .ok (.istore 6, 2) := by decide +kernel
theorem dL_acts_587 : decode cL_acts 587 = .ok (.aload_n 0, 1) := by decide +kernel
theorem dL_acts_588 : decode cL_acts 588 = .ok (.iconst 0, 1) := by decide +kernel
theorem dL_acts_589 : decode cL_acts 589 = .ok (.invokevirtual 13, 3) := by decide +kernel
theorem dL_acts_592 : decode cL_acts 592 = .ok (.istore 7, 2) := by decide +kernel
theorem dL_acts_594 : decode cL_acts 594 = .ok (.aload_n 0, 1) := by decide +kernel
theorem dL_acts_595 : decode cL_acts 595 = .ok (.invokevirtual 112, 3) := by decide +kernel
theorem dL_acts_598 : decode cL_acts 598 = .ok (.iload 5, 2) := by decide +kernel
theorem dL_acts_600 : decode cL_acts 600 = .ok (.if_icmp .ne 39, 3) := by decide +kernel
theorem dL_acts_603 : decode cL_acts 603 = .ok (.aload_n 0, 1) := by decide +kernel
theorem dL_acts_604 : decode cL_acts 604 = .ok (.iconst 3, 1) := by decide +kernel
theorem dL_acts_605 : decode cL_acts 605 = .ok (.invokevirtual 13, 3) := by decide +kernel
theorem dL_acts_608 : decode cL_acts 608 = .ok (.iload 5, 2) := by decide +kernel
theorem dL_acts_610 : decode cL_acts 610 = .ok (.if_icmp .ne 29, 3) := by decide +kernel
theorem dL_acts_613 : decode cL_acts 613 = .ok (.aload_n 0, 1) := by decide +kernel
theorem dL_acts_614 : decode cL_acts 614 = .ok (.iconst 4, 1) := by decide +kernel
theorem dL_acts_615 : decode cL_acts 615 = .ok (.invokevirtual 13, 3) := by decide +kernel
theorem dL_acts_618 : decode cL_acts 618 = .ok (.iload 6, 2) := by decide +kernel
theorem dL_acts_620 : decode cL_acts 620 = .ok (.if_icmp .ne 19, 3) := by decide +kernel
theorem dL_acts_623 : decode cL_acts 623 = .ok (.aload_n 0, 1) := by decide +kernel
theorem dL_acts_624 : decode cL_acts 624 = .ok (.iconst 0, 1) := by decide +kernel
theorem dL_acts_625 : decode cL_acts 625 = .ok (.invokevirtual 13, 3) := by decide +kernel
theorem dL_acts_628 : decode cL_acts 628 = .ok (.iload 7, 2) := by decide +kernel
theorem dL_acts_630 : decode cL_acts 630 = .ok (.iconst 1, 1) := by decide +kernel
theorem dL_acts_631 : decode cL_acts 631 = .ok (.iadd, 1) := by decide +kernel
theorem dL_acts_632 : decode cL_acts 632 = .ok (.if_icmp .ne 7, 3) := by decide +kernel
theorem dL_acts_635 : decode cL_acts 635 = .ok (.iconst 1, 1) := by decide +kernel
theorem dL_acts_636 : decode cL_acts 636 = .ok (.goto 4, 3) := by decide +kernel
theorem dL_acts_639 : decode cL_acts 639 = .ok (.iconst 0, 1) := by decide +kernel
theorem dL_acts_640 : decode cL_acts 640 = .ok (.ireturn, 1) := by decide +kernel
theorem dL_acts_641 : decode cL_acts 641 = .ok (.aload_n 0, 1) := by decide +kernel
theorem dL_acts_642 : decode cL_acts 642 = .ok (.iload_n 2, 1) := by decide +kernel
theorem dL_acts_643 : decode cL_acts 643 = .ok (.invokestatic 115, 3) := by decide +kernel
theorem dL_acts_646 : decode cL_acts 646 = .ok (.ireturn, 1) := by decide +kernel
theorem dL_law_0 : decode cL_law 0 = .ok (.new 14, 3) := by decide +kernel
theorem dL_law_3 : decode cL_law 3 = .ok (.dup, 1) := by decide +kernel
theorem dL_law_4 : decode cL_law 4 = .ok (.invokespecial 118, 3) := by decide +kernel
theorem dL_law_7 : decode cL_law 7 = .ok (.astore_n 1, 1) := by decide +kernel
theorem dL_law_8 : decode cL_law 8 = .ok (.aload_n 1, 1) := by decide +kernel
theorem dL_law_9 : decode cL_law 9 = .ok (.invokestatic 119, 3) := by decide +kernel
theorem dL_law_12 : decode cL_law 12 = .ok (.ifCond .eq 40, 3) := by decide +kernel
theorem dL_law_15 : decode cL_law 15 = .ok (.aload_n 1, 1) := by decide +kernel
theorem dL_law_16 : decode cL_law 16 = .ok (.iconst 0, 1) := by decide +kernel
theorem dL_law_17 : decode cL_law 17 = .ok (.invokestatic 123, 3) := by decide +kernel
theorem dL_law_20 : decode cL_law 20 = .ok (.ifCond .eq 32, 3) := by decide +kernel
theorem dL_law_23 : decode cL_law 23 = .ok (.aload_n 1, 1) := by decide +kernel
theorem dL_law_24 : decode cL_law 24 = .ok (.invokevirtual 126, 3) := by decide +kernel
theorem dL_law_27 : decode cL_law 27 = .ok (.bipush (-2), 2) := by decide +kernel
theorem dL_law_29 : decode cL_law 29 = .ok (.if_icmp .ne 23, 3) := by decide +kernel
theorem dL_law_32 : decode cL_law 32 = .ok (.aload_n 1, 1) := by decide +kernel
theorem dL_law_33 : decode cL_law 33 = .ok (.invokevirtual 129, 3) := by decide +kernel
theorem dL_law_36 : decode cL_law 36 = .ok (.bipush (-2), 2) := by decide +kernel
theorem dL_law_38 : decode cL_law 38 = .ok (.if_icmp .ne 14, 3) := by decide +kernel
theorem dL_law_41 : decode cL_law 41 = .ok (.aload_n 1, 1) := by decide +kernel
theorem dL_law_42 : decode cL_law 42 = .ok (.invokevirtual 132, 3) := by decide +kernel
theorem dL_law_45 : decode cL_law 45 = .ok (.ifCond .ne 7, 3) := by decide +kernel
theorem dL_law_48 : decode cL_law 48 = .ok (.iconst 1, 1) := by decide +kernel
theorem dL_law_49 : decode cL_law 49 = .ok (.goto 4, 3) := by decide +kernel
theorem dL_law_52 : decode cL_law 52 = .ok (.iconst 0, 1) := by decide +kernel
theorem dL_law_53 : decode cL_law 53 = .ok (.istore_n 2, 1) := by decide +kernel
theorem dL_law_54 : decode cL_law 54 = .ok (.aload_n 1, 1) := by decide +kernel
theorem dL_law_55 : decode cL_law 55 = .ok (.invokestatic 65, 3) := by decide +kernel
theorem dL_law_58 : decode cL_law 58 = .ok (.lstore_n 3, 1) := by decide +kernel
theorem dL_law_59 : decode cL_law 59 = .ok (.iconst 0, 1) := by decide +kernel
theorem dL_law_60 : decode cL_law 60 = .ok (.istore 5, 2) := by decide +kernel
theorem dL_law_62 : decode cL_law 62 = .ok (.iload 5, 2) := by decide +kernel
theorem dL_law_64 : decode cL_law 64 = .ok (.bipush 54, 2) := by decide +kernel
theorem dL_law_66 : decode cL_law 66 = .ok (.if_icmp .ge 315, 3) := by decide +kernel
theorem dL_law_69 : decode cL_law 69 = .ok (.iload_n 2, 1) := by decide +kernel
theorem dL_law_70 : decode cL_law 70 = .ok (.ifCond .eq 311, 3) := by decide +kernel
theorem dL_law_73 : decode cL_law 73 = .ok (.aload_n 0, 1) := by decide +kernel
theorem dL_law_74 : decode cL_law 74 = .ok (.iconst 2, 1) := by decide +kernel
theorem dL_law_75 : decode cL_law 75 = .ok (.iload 5, 2) := by decide +kernel
theorem dL_law_77 : decode cL_law 77 = .ok (.imul, 1) := by decide +kernel
theorem dL_law_78 : decode cL_law 78 = .ok (.invokestatic 135, 3) := by decide +kernel
theorem dL_law_81 : decode cL_law 81 = .ok (.istore 6, 2) := by decide +kernel
theorem dL_law_83 : decode cL_law 83 = .ok (.aload_n 0, 1) := by decide +kernel
theorem dL_law_84 : decode cL_law 84 = .ok (.iconst 2, 1) := by decide +kernel
theorem dL_law_85 : decode cL_law 85 = .ok (.iload 5, 2) := by decide +kernel
theorem dL_law_87 : decode cL_law 87 = .ok (.imul, 1) := by decide +kernel
theorem dL_law_88 : decode cL_law 88 = .ok (.iconst 1, 1) := by decide +kernel
theorem dL_law_89 : decode cL_law 89 = .ok (.iadd, 1) := by decide +kernel
theorem dL_law_90 : decode cL_law 90 = .ok (.invokestatic 135, 3) := by decide +kernel
theorem dL_law_93 : decode cL_law 93 = .ok (.istore 7, 2) := by decide +kernel
theorem dL_law_95 : decode cL_law 95 = .ok (.aload_n 1, 1) := by decide +kernel
theorem dL_law_96 : decode cL_law 96 = .ok (.invokestatic 65, 3) := by decide +kernel
theorem dL_law_99 : decode cL_law 99 = .ok (.lstore 8, 2) := by decide +kernel
theorem dL_law_101 : decode cL_law 101 = .ok (.aload_n 1, 1) := by decide +kernel
theorem dL_law_102 : decode cL_law 102 = .ok (.bipush 12, 2) := by decide +kernel
theorem dL_law_104 : decode cL_law 104 = .ok (.invokevirtual 13, 3) := by decide +kernel
theorem dL_law_107 : decode cL_law 107 = .ok (.istore 10, 2) := by decide +kernel
theorem dL_law_109 : decode cL_law 109 = .ok (.aload_n 1, 1) := by decide +kernel
theorem dL_law_110 : decode cL_law 110 = .ok (.iload 6, 2) := by decide +kernel
theorem dL_law_112 : decode cL_law 112 = .ok (.iload 7, 2) := by decide +kernel
theorem dL_law_114 : decode cL_law 114 = .ok (.invokestatic 139, 3) := by decide +kernel
theorem dL_law_117 : decode cL_law 117 = .ok (.ifCond .eq 38, 3) := by decide +kernel
theorem dL_law_120 : decode cL_law 120 = .ok (.iload 5, 2) := by decide +kernel
theorem dL_law_122 : decode cL_law 122 = .ok (.iconst 4, 1) := by decide +kernel
theorem dL_law_123 : decode cL_law 123 = .ok (.irem, 1) := by decide +kernel
theorem dL_law_124 : decode cL_law 124 = .ok (.ifCond .gt 10, 3) := by decide +kernel
theorem dL_law_127 : decode cL_law 127 = .ok (.aload_n 1, 1) := by decide +kernel
theorem dL_law_128 : decode cL_law 128 = .ok (.invokestatic 119, 3) := by decide +kernel
theorem dL_law_131 : decode cL_law 131 = .ok (.ifCond .eq 24, 3) := by decide +kernel
theorem dL_law_134 : decode cL_law 134 = .ok (.iload 5, 2) := by decide +kernel
theorem dL_law_136 : decode cL_law 136 = .ok (.iconst 4, 1) := by decide +kernel
theorem dL_law_137 : decode cL_law 137 = .ok (.irem, 1) := by decide +kernel
theorem dL_law_138 : decode cL_law 138 = .ok (.iconst 2, 1) := by decide +kernel
theorem dL_law_139 : decode cL_law 139 = .ok (.if_icmp .ne 12, 3) := by decide +kernel
theorem dL_law_142 : decode cL_law 142 = .ok (.aload_n 1, 1) := by decide +kernel
theorem dL_law_143 : decode cL_law 143 = .ok (.iload 7, 2) := by decide +kernel
theorem dL_law_145 : decode cL_law 145 = .ok (.invokestatic 123, 3) := by decide +kernel
theorem dL_law_148 : decode cL_law 148 = .ok (.ifCond .eq 7, 3) := by decide +kernel
theorem dL_law_151 : decode cL_law 151 = .ok (.iconst 1, 1) := by decide +kernel
theorem dL_law_152 : decode cL_law 152 = .ok (.goto 4, 3) := by decide +kernel
theorem dL_law_155 : decode cL_law 155 = .ok (.iconst 0, 1) := by decide +kernel
theorem dL_law_156 : decode cL_law 156 = .ok (.istore_n 2, 1) := by decide +kernel
theorem dL_law_157 : decode cL_law 157 = .ok (.aload_n 1, 1) := by decide +kernel
theorem dL_law_158 : decode cL_law 158 = .ok (.bipush 12, 2) := by decide +kernel
theorem dL_law_160 : decode cL_law 160 = .ok (.invokevirtual 13, 3) := by decide +kernel
theorem dL_law_163 : decode cL_law 163 = .ok (.istore 11, 2) := by decide +kernel
theorem dL_law_165 : decode cL_law 165 = .ok (.iload_n 2, 1) := by decide +kernel
theorem dL_law_166 : decode cL_law 166 = .ok (.ifCond .eq 39, 3) := by decide +kernel
theorem dL_law_169 : decode cL_law 169 = .ok (.iload 11, 2) := by decide +kernel
theorem dL_law_171 : decode cL_law 171 = .ok (.iload 10, 2) := by decide +kernel
theorem dL_law_173 : decode cL_law 173 = .ok (.if_icmp .ne 19, 3) := by decide +kernel
theorem dL_law_176 : decode cL_law 176 = .ok (.iload 10, 2) := by decide +kernel
theorem dL_law_178 : decode cL_law 178 = .ok (.iconst 4, 1) := by decide +kernel
theorem dL_law_179 : decode cL_law 179 = .ok (.if_icmp .eq 22, 3) := by decide +kernel
theorem dL_law_182 : decode cL_law 182 = .ok (.aload_n 1, 1) := by decide +kernel
theorem dL_law_183 : decode cL_law 183 = .ok (.invokestatic 65, 3) := by decide +kernel
theorem dL_law_186 : decode cL_law 186 = .ok (.lload 8, 2) := by decide +kernel
theorem dL_law_188 : decode cL_law 188 = .ok (.lcmp, 1) := by decide +kernel
theorem dL_law_189 : decode cL_law 189 = .ok (.ifCond .eq 12, 3) := by decide +kernel
theorem dL_law_192 : decode cL_law 192 = .ok (.iload 11, 2) := by decide +kernel
theorem dL_law_194 : decode cL_law 194 = .ok (.iload 10, 2) := by decide +kernel
theorem dL_law_196 : decode cL_law 196 = .ok (.iconst 1, 1) := by decide +kernel
theorem dL_law_197 : decode cL_law 197 = .ok (.iadd, 1) := by decide +kernel
theorem dL_law_198 : decode cL_law 198 = .ok (.if_icmp .ne 7, 3) := by decide +kernel
theorem dL_law_201 : decode cL_law 201 = .ok (.iconst 1, 1) := by decide +kernel
theorem dL_law_202 : decode cL_law 202 = .ok (.goto 4, 3) := by decide +kernel
theorem dL_law_205 : decode cL_law 205 = .ok (.iconst 0, 1) := by decide +kernel
theorem dL_law_206 : decode cL_law 206 = .ok (.istore_n 2, 1) := by decide +kernel
theorem dL_law_207 : decode cL_law 207 = .ok (.iload_n 2, 1) := by decide +kernel
theorem dL_law_208 : decode cL_law 208 = .ok (.ifCond .eq 49, 3) := by decide +kernel
theorem dL_law_211 : decode cL_law 211 = .ok (.iload 11, 2) := by decide +kernel
theorem dL_law_213 : decode cL_law 213 = .ok (.iload 10, 2) := by decide +kernel
theorem dL_law_215 : decode cL_law 215 = .ok (.iconst 1, 1) := by decide +kernel
theorem dL_law_216 : decode cL_law 216 = .ok (.iadd, 1) := by decide +kernel
theorem dL_law_217 : decode cL_law 217 = .ok (.if_icmp .ne 40, 3) := by decide +kernel
theorem dL_law_220 : decode cL_law 220 = .ok (.iload 7, 2) := by decide +kernel
theorem dL_law_222 : decode cL_law 222 = .ok (.bipush 8, 2) := by decide +kernel
theorem dL_law_224 : decode cL_law 224 = .ok (.ishr, 1) := by decide +kernel
theorem dL_law_225 : decode cL_law 225 = .ok (.iconst 3, 1) := by decide +kernel
theorem dL_law_226 : decode cL_law 226 = .ok (.invokestatic 39, 3) := by decide +kernel
theorem dL_law_229 : decode cL_law 229 = .ok (.ifCond .ne 28, 3) := by decide +kernel
theorem dL_law_232 : decode cL_law 232 = .ok (.aload_n 1, 1) := by decide +kernel
theorem dL_law_233 : decode cL_law 233 = .ok (.invokevirtual 126, 3) := by decide +kernel
theorem dL_law_236 : decode cL_law 236 = .ok (.iload 10, 2) := by decide +kernel
theorem dL_law_238 : decode cL_law 238 = .ok (.if_icmp .ne 17, 3) := by decide +kernel
theorem dL_law_241 : decode cL_law 241 = .ok (.aload_n 1, 1) := by decide +kernel
theorem dL_law_242 : decode cL_law 242 = .ok (.invokestatic 65, 3) := by decide +kernel
theorem dL_law_245 : decode cL_law 245 = .ok (.lload 8, 2) := by decide +kernel
theorem dL_law_247 : decode cL_law 247 = .ok (.lcmp, 1) := by decide +kernel
theorem dL_law_248 : decode cL_law 248 = .ok (.ifCond .ne 7, 3) := by decide +kernel
theorem dL_law_251 : decode cL_law 251 = .ok (.iconst 1, 1) := by decide +kernel
theorem dL_law_252 : decode cL_law 252 = .ok (.goto 4, 3) := by decide +kernel
theorem dL_law_255 : decode cL_law 255 = .ok (.iconst 0, 1) := by decide +kernel
theorem dL_law_256 : decode cL_law 256 = .ok (.istore_n 2, 1) := by decide +kernel
theorem dL_law_257 : decode cL_law 257 = .ok (.iload_n 2, 1) := by decide +kernel
theorem dL_law_258 : decode cL_law 258 = .ok (.ifCond .eq 68, 3) := by decide +kernel
theorem dL_law_261 : decode cL_law 261 = .ok (.iload 5, 2) := by decide +kernel
theorem dL_law_263 : decode cL_law 263 = .ok (.bipush 15, 2) := by decide +kernel
theorem dL_law_265 : decode cL_law 265 = .ok (.irem, 1) := by decide +kernel
theorem dL_law_266 : decode cL_law 266 = .ok (.bipush 14, 2) := by decide +kernel
theorem dL_law_268 : decode cL_law 268 = .ok (.if_icmp .ne 58, 3) := by decide +kernel
theorem dL_law_271 : decode cL_law 271 = .ok (.aload_n 1, 1) := by decide +kernel
theorem dL_law_272 : decode cL_law 272 = .ok (.invokevirtual 129, 3) := by decide +kernel
theorem dL_law_275 : decode cL_law 275 = .ok (.istore 12, 2) := by decide +kernel
theorem dL_law_277 : decode cL_law 277 = .ok (.iload 12, 2) := by decide +kernel
theorem dL_law_279 : decode cL_law 279 = .ok (.aload_n 1, 1) := by decide +kernel
theorem dL_law_280 : decode cL_law 280 = .ok (.iconst 1, 1) := by decide +kernel
theorem dL_law_281 : decode cL_law 281 = .ok (.invokevirtual 13, 3) := by decide +kernel
theorem dL_law_284 : decode cL_law 284 = .ok (.if_icmp .ne 35, 3) := by decide +kernel
theorem dL_law_287 : decode cL_law 287 = .ok (.aload_n 1, 1) := by decide +kernel
theorem dL_law_288 : decode cL_law 288 = .ok (.invokestatic 65, 3) := by decide +kernel
theorem dL_law_291 : decode cL_law 291 = .ok (.lload_n 3, 1) := by decide +kernel
theorem dL_law_292 : decode cL_law 292 = .ok (.lcmp, 1) := by decide +kernel
theorem dL_law_293 : decode cL_law 293 = .ok (.ifCond .ne 26, 3) := by decide +kernel
theorem dL_law_296 : decode cL_law 296 = .ok (.aload_n 1, 1) := by decide +kernel
theorem dL_law_297 : decode cL_law 297 = .ok (.invokevirtual 126, 3) := by decide +kernel
theorem dL_law_300 : decode cL_law 300 = .ok (.ifCond .lt 19, 3) := by decide +kernel
theorem dL_law_303 : decode cL_law 303 = .ok (.aload_n 1, 1) := by decide +kernel
theorem dL_law_304 : decode cL_law 304 = .ok (.invokevirtual 132, 3) := by decide +kernel
theorem dL_law_307 : decode cL_law 307 = .ok (.aload_n 1, 1) := by decide +kernel
theorem dL_law_308 : decode cL_law 308 = .ok (.iconst 1, 1) := by decide +kernel
theorem dL_law_309 : decode cL_law 309 = .ok (.invokevirtual 13, 3) := by decide +kernel
theorem dL_law_312 : decode cL_law 312 = .ok (.if_icmp .ne 7, 3) := by decide +kernel
theorem dL_law_315 : decode cL_law 315 = .ok (.iconst 1, 1) := by decide +kernel
theorem dL_law_316 : decode cL_law 316 = .ok (.goto 4, 3) := by decide +kernel
theorem dL_law_319 : decode cL_law 319 = .ok (.iconst 0, 1) := by decide +kernel
theorem dL_law_320 : decode cL_law 320 = .ok (.istore_n 2, 1) := by decide +kernel
theorem dL_law_321 : decode cL_law 321 = .ok (.aload_n 1, 1) := by decide +kernel
theorem dL_law_322 : decode cL_law 322 = .ok (.invokestatic 65, 3) := by decide +kernel
theorem dL_law_325 : decode cL_law 325 = .ok (.lstore_n 3, 1) := by decide +kernel
theorem dL_law_326 : decode cL_law 326 = .ok (.iload_n 2, 1) := by decide +kernel
theorem dL_law_327 : decode cL_law 327 = .ok (.ifCond .eq 48, 3) := by decide +kernel
theorem dL_law_330 : decode cL_law 330 = .ok (.iload 5, 2) := by decide +kernel
theorem dL_law_332 : decode cL_law 332 = .ok (.bipush 11, 2) := by decide +kernel
theorem dL_law_334 : decode cL_law 334 = .ok (.irem, 1) := by decide +kernel
theorem dL_law_335 : decode cL_law 335 = .ok (.bipush 10, 2) := by decide +kernel
theorem dL_law_337 : decode cL_law 337 = .ok (.if_icmp .ne 38, 3) := by decide +kernel
theorem dL_law_340 : decode cL_law 340 = .ok (.aload_n 1, 1) := by decide +kernel
theorem dL_law_341 : decode cL_law 341 = .ok (.bipush 12, 2) := by decide +kernel
theorem dL_law_343 : decode cL_law 343 = .ok (.invokevirtual 13, 3) := by decide +kernel
theorem dL_law_346 : decode cL_law 346 = .ok (.istore 12, 2) := by decide +kernel
theorem dL_law_348 : decode cL_law 348 = .ok (.aload_n 1, 1) := by decide +kernel
theorem dL_law_349 : decode cL_law 349 = .ok (.invokevirtual 126, 3) := by decide +kernel
theorem dL_law_352 : decode cL_law 352 = .ok (.iload 12, 2) := by decide +kernel
theorem dL_law_354 : decode cL_law 354 = .ok (.ifCond .ne 8, 3) := by decide +kernel
theorem dL_law_357 : decode cL_law 357 = .ok (.bipush (-2), 2) := by decide +kernel
theorem dL_law_359 : decode cL_law 359 = .ok (.goto 7, 3) := by decide +kernel
theorem dL_law_362 : decode cL_law 362 = .ok (.iload 12, 2) := by decide +kernel
theorem dL_law_364 : decode cL_law 364 = .ok (.iconst 1, 1) := by decide +kernel
theorem dL_law_365 : decode cL_law 365 = .ok (.isub, 1) := by decide +kernel
theorem dL_law_366 : decode cL_law 366 = .ok (.if_icmp .ne 7, 3) := by decide +kernel
theorem dL_law_369 : decode cL_law 369 = .ok (.iconst 1, 1) := by decide +kernel
theorem dL_law_370 : decode cL_law 370 = .ok (.goto 4, 3) := by decide +kernel
theorem dL_law_373 : decode cL_law 373 = .ok (.iconst 0, 1) := by decide +kernel
theorem dL_law_374 : decode cL_law 374 = .ok (.istore_n 2, 1) := by decide +kernel
theorem dL_law_375 : decode cL_law 375 = .ok (.iinc 5 1, 3) := by decide +kernel
theorem dL_law_378 : decode cL_law 378 = .ok (.goto (-316), 3) := by decide +kernel
theorem dL_law_381 : decode cL_law 381 = .ok (.iload_n 2, 1) := by decide +kernel
theorem dL_law_382 : decode cL_law 382 = .ok (.ifCond .eq 14, 3) := by decide +kernel
theorem dL_law_385 : decode cL_law 385 = .ok (.aload_n 1, 1) := by decide +kernel
theorem dL_law_386 : decode cL_law 386 = .ok (.invokestatic 119, 3) := by decide +kernel
theorem dL_law_389 : decode cL_law 389 = .ok (.ifCond .eq 7, 3) := by decide +kernel
theorem dL_law_392 : decode cL_law 392 = .ok (.iconst 1, 1) := by decide +kernel
theorem dL_law_393 : decode cL_law 393 = .ok (.goto 4, 3) := by decide +kernel
theorem dL_law_396 : decode cL_law 396 = .ok (.iconst 0, 1) := by decide +kernel
theorem dL_law_397 : decode cL_law 397 = .ok (.ireturn, 1) := by decide +kernel
end
section
/-! small worlds: all cells above a base; ints by cell and place; references by cell numbers relative to the base -/
abbrev zK : Type := Nat ⊕ ((Bool × Nat × (Nat → Option Nat)) ⊕ (Nat × List (Option (Option Nat))))
abbrev zG : Type := Nat × va_G × ClassId × ClassId × ClassId
abbrev zM : Type := Nat → Nat → Int32
abbrev zW : Type := Nat × (Nat → zK) × zM
def up2 (m : zM) (a k : Nat) (v : Int32) : zM := fun a' k' => if a' = a ∧ k' = k then v else m a' k'
theorem up2_eq (m : zM) (a k : Nat) (v : Int32) : up2 m a k v a k = v := by simp [up2]
theorem up2_ne (m : zM) {a k a' k' : Nat} (v : Int32) (h : ¬ (a' = a ∧ k' = k)) : up2 m a k v a' k' = m a' k' := by simp [up2, h]
theorem up2_ak (m : zM) (a k k' : Nat) (v : Int32) : up2 m a k v a k' = if k' = k then v else m a k' := by simp [up2]
theorem up2_na (m : zM) {a a' : Nat} (k : Nat) (v : Int32) (h : a' ≠ a) : up2 m a k v a' = m a' := by funext q; simp [up2, h]
def zr (b : Nat) (r : Option Nat) : Value := va_rf (r.map (fun q => b + q))
def flds (b : Nat) (m : Nat → Int32) : Nat → List (Option (Option Nat)) → List Value
  | _, [] => []
  | i, none :: r => .int (m i) :: flds b m (i + 1) r
  | i, some x :: r => zr b x :: flds b m (i + 1) r
theorem flds_int {b : Nat} {m : Nat → Int32} : ∀ (rs : List (Option (Option Nat))) (i k : Nat), rs[k]? = some none → (flds b m i rs)[k]? = some (.int (m (i + k)))
  | [], i, k, h => by simp at h
  | none :: r, i, 0, h => by simp [flds]
  | some x :: r, i, 0, h => by simp at h
  | none :: r, i, k + 1, h => by
    have h2 := flds_int (b := b) (m := m) r (i + 1) k (by simpa using h)
    simp only [flds, List.getElem?_cons_succ, h2]
    rw [show i + 1 + k = i + (k + 1) by omega]
  | some x :: r, i, k + 1, h => by
    have h2 := flds_int (b := b) (m := m) r (i + 1) k (by simpa using h)
    simp only [flds, List.getElem?_cons_succ, h2]
    rw [show i + 1 + k = i + (k + 1) by omega]
theorem flds_ref {b : Nat} {m : Nat → Int32} {x : Option Nat} : ∀ (rs : List (Option (Option Nat))) (i k : Nat), rs[k]? = some (some x) → (flds b m i rs)[k]? = some (zr b x)
  | [], i, k, h => by simp at h
  | none :: r, i, 0, h => by simp at h
  | some y :: r, i, 0, h => by
    simp at h
    subst h
    simp [flds]
  | none :: r, i, k + 1, h => by
    have h2 := flds_ref (b := b) (m := m) (x := x) r (i + 1) k (by simpa using h)
    simp only [flds, List.getElem?_cons_succ, h2]
  | some y :: r, i, k + 1, h => by
    have h2 := flds_ref (b := b) (m := m) (x := x) r (i + 1) k (by simpa using h)
    simp only [flds, List.getElem?_cons_succ, h2]
theorem flds_len {b : Nat} {m : Nat → Int32} : ∀ (rs : List (Option (Option Nat))) (i : Nat), (flds b m i rs).length = rs.length
  | [], i => rfl
  | none :: r, i => by simp [flds, flds_len r]
  | some x :: r, i => by simp [flds, flds_len r]
theorem flds_congr {b : Nat} {m m' : Nat → Int32} : ∀ (rs : List (Option (Option Nat))) (i : Nat), (∀ j, i ≤ j → m j = m' j) → flds b m i rs = flds b m' i rs
  | [], i, h => rfl
  | none :: r, i, h => by
    simp only [flds]
    rw [h i (Nat.le_refl i), flds_congr r (i + 1) (fun j hj => h j (by omega))]
  | some x :: r, i, h => by
    simp only [flds]
    rw [flds_congr r (i + 1) (fun j hj => h j (by omega))]
theorem flds_set {b : Nat} {m : Nat → Int32} {v : Int32} : ∀ (rs : List (Option (Option Nat))) (i k : Nat), rs[k]? = some none → (flds b m i rs).set k (.int v) = flds b (fun j => if j = i + k then v else m j) i rs
  | [], i, k, h => by simp at h
  | none :: r, i, 0, h => by
    simp only [flds, List.set_cons_zero]
    rw [flds_congr (m := m) (m' := fun j => if j = i + 0 then v else m j) r (i + 1) (fun j hj => by rw [if_neg (by omega)])]
    simp
  | some x :: r, i, 0, h => by simp at h
  | none :: r, i, k + 1, h => by
    have h2 := flds_set (b := b) (m := m) (v := v) r (i + 1) k (by simpa using h)
    simp only [flds, List.set_cons_succ]
    rw [h2, if_neg (by omega)]
    rw [show i + 1 + k = i + (k + 1) by omega]
  | some x :: r, i, k + 1, h => by
    have h2 := flds_set (b := b) (m := m) (v := v) r (i + 1) k (by simpa using h)
    simp only [flds, List.set_cons_succ]
    rw [h2]
    rw [show i + 1 + k = i + (k + 1) by omega]
theorem flds_setr {b : Nat} {m : Nat → Int32} {x y : Option Nat} : ∀ (rs : List (Option (Option Nat))) (i k : Nat), rs[k]? = some (some y) → (flds b m i rs).set k (zr b x) = flds b m i (rs.set k (some x))
  | [], i, k, h => by simp at h
  | none :: r, i, 0, h => by simp at h
  | some z :: r, i, 0, h => by simp [flds]
  | none :: r, i, k + 1, h => by
    have h2 := flds_setr (b := b) (m := m) (x := x) (y := y) r (i + 1) k (by simpa using h)
    simp only [flds, List.set_cons_succ, h2]
  | some z :: r, i, k + 1, h => by
    have h2 := flds_setr (b := b) (m := m) (x := x) (y := y) r (i + 1) k (by simpa using h)
    simp only [flds, List.set_cons_succ, h2]
/-- a cell of the world, as the kit has it -/
def zcell (G : zG) (w : zW) (a : Nat) : va_E := match w.2.1 a with
  | .inl n => .inl (G.2.2.1, n, .inl (w.2.2 a))
  | .inr (.inl (y, n, f)) => .inl (if y then G.2.2.2.2 else G.2.2.2.1, n, .inr (.inr (.inr (.inr (fun j => (f j).map (fun q => G.1 + q))))))
  | .inr (.inr (ci, rs)) => .inr (ci, flds G.1 (w.2.2 a) 0 rs)
theorem zcell_i {G : zG} {w : zW} {a n : Nat} (h : w.2.1 a = .inl n) : zcell G w a = .inl (G.2.2.1, n, .inl (w.2.2 a)) := by simp only [zcell, h]
theorem zcell_r {G : zG} {w : zW} {a n : Nat} {y : Bool} {f : Nat → Option Nat} (h : w.2.1 a = .inr (.inl (y, n, f))) : zcell G w a = .inl (if y then G.2.2.2.2 else G.2.2.2.1, n, .inr (.inr (.inr (.inr (fun j => (f j).map (fun q => G.1 + q)))))) := by simp only [zcell, h]
theorem zcell_o {G : zG} {w : zW} {a ci : Nat} {rs : List (Option (Option Nat))} (h : w.2.1 a = .inr (.inr (ci, rs))) : zcell G w a = .inr (ci, flds G.1 (w.2.2 a) 0 rs) := by simp only [zcell, h]
theorem zcell_same {G : zG} {w w' : zW} {a : Nat} (h1 : w'.2.1 a = w.2.1 a) (h2 : w'.2.2 a = w.2.2 a) : zcell G w' a = zcell G w a := by simp only [zcell, h1, h2]
def zws (G : zG) (w : zW) : va_W := (List.range w.1).map (fun a => (G.1 + a, zcell G w a))
theorem zws_at {G : zG} {w : zW} {a : Nat} (h : a < w.1) : (zws G w)[a]? = some (G.1 + a, zcell G w a) := by
  simp [zws, h]
theorem zws_key {G : zG} {w : zW} {k : Nat} {q : Nat × va_E} (h : (zws G w)[k]? = some q) : q.1 = G.1 + k := by
  by_cases hk : k < w.1
  · rw [zws_at hk] at h
    cases h
    rfl
  · have h2 : (zws G w)[k]? = none := List.getElem?_eq_none (by simp [zws]; omega)
    rw [h2] at h
    cases h
theorem zws_D {G : zG} {w : zW} : va_D (fun q => G.1 ≤ q) (zws G w) :=
  ⟨fun i j p q hi hj h => by
    have h1 := zws_key hi
    have h2 := zws_key hj
    omega, fun k q hk => by
    have h1 := zws_key hk
    show G.1 ≤ q.1
    omega⟩
theorem zws_set {G : zG} {w w' : zW} {a : Nat} {e : va_E} (hn : w'.1 = w.1) (he : zcell G w' a = e) (ho : ∀ q, q ≠ a → zcell G w' q = zcell G w q) : (zws G w).set a (G.1 + a, e) = zws G w' := by
  unfold zws
  rw [hn]
  apply List.ext_getElem?
  intro k
  rw [List.getElem?_set]
  by_cases hk : a = k
  · subst hk
    by_cases hl : a < w.1
    · simp [hl, he]
    · simp [hl]
  · rw [if_neg hk]
    by_cases hl : k < w.1
    · simp [hl, ho k (fun q => hk q.symm)]
    · simp [hl]
theorem zws_push {G : zG} {w w' : zW} {e : va_E} (hn : w'.1 = w.1 + 1) (he : zcell G w' w.1 = e) (ho : ∀ q, q < w.1 → zcell G w' q = zcell G w q) : zws G w ++ [(G.1 + w.1, e)] = zws G w' := by
  unfold zws
  rw [hn, List.range_succ, List.map_append]
  congr 1
  · apply List.map_congr_left
    intro a ha
    rw [ho a (List.mem_range.mp ha)]
  · simp [he]
/-- the world is held: every cell from the base on is one of it -/
def zH (G : zG) (w : zW) (U : State) (H : Heap) : Prop := va_P G.2.1 vwCl (zws G w) H ∧ va_K G.2.1 vwCl [(G.2.2.1, .int), (G.2.2.2.1, .object RX1), (G.2.2.2.2, .array .int)] U ∧ H.size = G.1 + w.1
theorem zH.moved {G : zG} {w : zW} {u U : State} {H : Heap} (hvm : u.vm.Alike U.vm) (h : zH G w u H) : zH G w U H := ⟨h.1, va_K.moved hvm h.2.1, h.2.2⟩
/-- the tables' words that a callee may be handed -/
def lw_ok : List Cond := lw_tbl.filter goodWord
theorem lw_in {w : Cond} (i : Nat) (h : lw_tbl[i]? = some w) (hg : goodWord w = true) : w ∈ lw_ok := List.mem_filter.mpr ⟨List.mem_of_getElem? h, hg⟩
/-- words that move with the tables by laws of their own -/
def zX (U : State) : Prop := va_AO RX1 U ∧ (Cond.arrayOver (.array .int)).before #[] U = true ∧ va_Nw (.methodLinkNest RX3 25 yX2_init RX3) U ∧ va_Nw (.methodLinkNest RX3 32 yX0_init RX3) U
theorem zAOi {u U : State} (hvm : u.vm.Alike U.vm) (h : (Cond.arrayOver (.array .int)).before #[] u = true) : (Cond.arrayOver (.array .int)).before #[] U = true := by
  obtain ⟨comp, c, k, h1, h2, h3, h4, h5⟩ := arrayOverA_spec h
  obtain ⟨k', hk', he⟩ := hvm.2.2 _ _ h3
  have hi : (U.vm.classes.findIdx? fun (x : Class) => match x.kind with | .array component _ => component == comp | _ => false) = some c := by
    rw [hvm.findIdx?_eq _ (fun _ => rfl)]
    exact h2
  have hkind : k'.kind = .array comp (.array .int) := by rw [he]; exact h4
  have f1 : U.vm.findClass (FieldType.array .int).toString = some comp := by rw [hvm.findClass]; exact h1
  have f2 : U.vm.findClass ("[" ++ (FieldType.array .int).toString) = some c := by rw [hvm.findClass]; exact h5
  unfold Cond.before Cond.holds
  simp only [Cond.value]
  rw [f1, Option.bind_some]
  refine (congrArg (fun o : Option Nat => (o.bind (fun c => (U.vm.classes[c]?).map fun (k : Class) => match k.kind with | .array _ ty => decide (ty = FieldType.array .int) && decide (U.vm.findClass ("[" ++ (FieldType.array .int).toString) = some c) | _ => false) == some true)) hi).trans ?_
  simp [hk', hkind, f2]
theorem zX.warm {s U : State} (hW : s.WarmedH U.vm) (h : zX s) : zX U := ⟨h.1.moved hW.alike, zAOi hW.alike h.2.1, va_Nw.warmM hW h.2.2.1, va_Nw.warmM hW h.2.2.2⟩
theorem zX.same {u U : State} (hvm : u.vm = U.vm) (h : zX u) : zX U := ⟨h.1.moved (by rw [hvm]; exact Vm.Alike.refl _), zAOi (by rw [hvm]; exact Vm.Alike.refl _) h.2.1, va_Nw.same rfl hvm h.2.2.1, va_Nw.same rfl hvm h.2.2.2⟩
/-- a method: its class, bytes, locals, what it returns, its name, its room -/
abbrev zD : Type := String × ByteArray × Nat × Option FieldType × String × Room
def zC (M : zD) (p : Program) (s : State) (m : MethodId) (args : Array Value) (meth : Method) (c : Code) : Prop :=
  p.tables.exec = Jvm.exec ∧ c.code = M.2.1 ∧ c.maxLocals = M.2.2.1 ∧ s.vm.findClass M.1 = some m.cls ∧ (∀ w ∈ lw_ok, w.before args s = true) ∧ meth.sig.returnType = M.2.2.2.1 ∧ meth.locks = false ∧ (M.2.2.2.2.1 = "" ∨ meth.name = M.2.2.2.2.1) ∧ zX s
def Z (G : zG) (M : zD) (E : State → Prop) (Qf : List Frame → Array Value → State → State → Prop) (l : Launch) (k j : Nat) (w : zW) (pc : Nat) (lv : List (Nat × Value)) (st : List Value) : Prop :=
  ∀ (p : Program) (e : Env) (s : State) (m : MethodId) (args : Array Value) (below : List Frame) (meth : Method) (c : Code) (H : Heap) (locs : List Loc) (ls : Array Slot),
    zC M p s m args meth c → E s → G.1 ≤ s.heap.size → zH G w s H → va_S (fun q => G.1 ≤ q) s.heap H locs → lv_has ls M.2.2.1 lv →
    W p l e M.2.2.2.2.2 s m args below meth c H locs k j (Qf below args s) (F0 m pc ls st)
section ZR
variable {G : zG} {M : zD} {E : State → Prop} {Qf : List Frame → Array Value → State → State → Prop} {l : Launch} {k j : Nat} {w : zW} {pc : Nat} {lv : List (Nat × Value)} {st : List Value}
theorem Z_at {pc' : Nat} (h : pc = pc') (kk : Z G M E Qf l k j w pc' lv st) : Z G M E Qf l k j w pc lv st := h ▸ kk
theorem Z_lv {lv' : List (Nat × Value)} (ks : List Nat) (h : lv_pick lv ks = lv') (kk : Z G M E Qf l k j w pc lv' st) : Z G M E Qf l k j w pc lv st := by
  intro p e s m args below meth c H locs ls hc hE hb hH hS hl
  exact kk p e s m args below meth c H locs ls hc hE hb hH hS (lv_sub hl ks h)
theorem Z_w {w' : zW} (h : w = w') (kk : Z G M E Qf l k j w' pc lv st) : Z G M E Qf l k j w pc lv st := h ▸ kk
theorem Z_wide {k' j' : Nat} (h1 : k ≤ k') (h2 : j ≤ j') (kk : Z G M E Qf l k' j' w pc lv st) : Z G M E Qf l k j w pc lv st := by
  intro p e s m args below meth c H locs ls hc hE hb hH hS hl
  exact W.widen h1 h2 (kk p e s m args below meth c H locs ls hc hE hb hH hS hl)
theorem Z_iconst (pc' : Nat) {n : Int} (v : Int32) (hd : decode M.2.1 pc = .ok (.iconst n, 1)) (hp : pc + 1 = pc') (hv : Int32.ofInt n = v) (kk : Z G M E Qf l k j w pc' lv (.int v :: st)) : Z G M E Qf l k j w pc lv st := by
  subst hp
  intro p e s m args below meth c H locs ls hc hE hb hH hS hl
  exact lv_iconst hc.1 hc.2.1 hd hv (kk p e s m args below meth c H locs ls hc hE hb hH hS hl)
theorem Z_bipush (pc' : Nat) {n : Int} (v : Int32) (hd : decode M.2.1 pc = .ok (.bipush n, 2)) (hp : pc + 2 = pc') (hv : (Int8.ofInt n).toInt32 = v) (kk : Z G M E Qf l k j w pc' lv (.int v :: st)) : Z G M E Qf l k j w pc lv st := by
  subst hp
  intro p e s m args below meth c H locs ls hc hE hb hH hS hl
  exact lv_bipush hc.1 hc.2.1 hd hv (kk p e s m args below meth c H locs ls hc hE hb hH hS hl)
theorem Z_sipush (pc' : Nat) {n : Int} (v : Int32) (hd : decode M.2.1 pc = .ok (.sipush n, 3)) (hp : pc + 3 = pc') (hv : (Int16.ofInt n).toInt32 = v) (kk : Z G M E Qf l k j w pc' lv (.int v :: st)) : Z G M E Qf l k j w pc lv st := by
  subst hp
  intro p e s m args below meth c H locs ls hc hE hb hH hS hl
  exact lv_sipush hc.1 hc.2.1 hd hv (kk p e s m args below meth c H locs ls hc hE hb hH hS hl)
theorem Z_ldc (pc' : Nat) {idx : Nat} (v : Int32) (hd : decode M.2.1 pc = .ok (.ldc idx, 2)) (hp : pc + 2 = pc') (hk : Cond.constant M.1 idx v ∈ lw_ok) (kk : Z G M E Qf l k j w pc' lv (.int v :: st)) : Z G M E Qf l k j w pc lv st := by
  subst hp
  intro p e s m args below meth c H locs ls hc hE hb hH hS hl
  exact lv_ldc hc.1 hc.2.1 hc.2.2.2.1 (hc.2.2.2.2.1 _ hk) hd (kk p e s m args below meth c H locs ls hc hE hb hH hS hl)
theorem Z_iload_n (pc' : Nat) (q : Nat) {i : Fin 4} {x : Int32} (hd : decode M.2.1 pc = .ok (.iload_n i, 1)) (hp : pc + 1 = pc') (hq : lv[q]? = some ((i : Nat), .int x)) (kk : Z G M E Qf l k j w pc' lv (.int x :: st)) : Z G M E Qf l k j w pc lv st := by
  subst hp
  intro p e s m args below meth c H locs ls hc hE hb hH hS hl
  exact lv_iload_n hc.1 hc.2.1 hd rfl (lv_at hl q hq) (kk p e s m args below meth c H locs ls hc hE hb hH hS hl)
theorem Z_iload (pc' : Nat) (q : Nat) {i : Nat} {x : Int32} (hd : decode M.2.1 pc = .ok (.iload i, 2)) (hp : pc + 2 = pc') (hq : lv[q]? = some (i, .int x)) (kk : Z G M E Qf l k j w pc' lv (.int x :: st)) : Z G M E Qf l k j w pc lv st := by
  subst hp
  intro p e s m args below meth c H locs ls hc hE hb hH hS hl
  exact lv_iload hc.1 hc.2.1 hd (lv_at hl q hq) (kk p e s m args below meth c H locs ls hc hE hb hH hS hl)
theorem Z_aload_n (pc' : Nat) (q : Nat) {i : Fin 4} {x : Nat} (hd : decode M.2.1 pc = .ok (.aload_n i, 1)) (hp : pc + 1 = pc') (hq : lv[q]? = some ((i : Nat), .ref x)) (kk : Z G M E Qf l k j w pc' lv (.ref x :: st)) : Z G M E Qf l k j w pc lv st := by
  subst hp
  intro p e s m args below meth c H locs ls hc hE hb hH hS hl
  exact lv_aload_n hc.1 hc.2.1 hd rfl (lv_at hl q hq) (kk p e s m args below meth c H locs ls hc hE hb hH hS hl)
theorem Z_aload (pc' : Nat) (q : Nat) {i : Nat} {x : Nat} (hd : decode M.2.1 pc = .ok (.aload i, 2)) (hp : pc + 2 = pc') (hq : lv[q]? = some (i, .ref x)) (kk : Z G M E Qf l k j w pc' lv (.ref x :: st)) : Z G M E Qf l k j w pc lv st := by
  subst hp
  intro p e s m args below meth c H locs ls hc hE hb hH hS hl
  exact lv_aload hc.1 hc.2.1 hd (lv_at hl q hq) (kk p e s m args below meth c H locs ls hc hE hb hH hS hl)
theorem Z_dload (pc' : Nat) (q : Nat) {i : Nat} {x : UInt64} (hd : decode M.2.1 pc = .ok (.dload i, 2)) (hp : pc + 2 = pc') (hq : lv[q]? = some (i, .double x)) (kk : Z G M E Qf l k j w pc' lv (.double x :: st)) : Z G M E Qf l k j w pc lv st := by
  subst hp
  intro p e s m args below meth c H locs ls hc hE hb hH hS hl
  exact lv_dload hc.1 hc.2.1 hd (lv_at hl q hq) (kk p e s m args below meth c H locs ls hc hE hb hH hS hl)
theorem Z_dload_n (pc' : Nat) (q : Nat) {i : Fin 4} {x : UInt64} (hd : decode M.2.1 pc = .ok (.dload_n i, 1)) (hp : pc + 1 = pc') (hq : lv[q]? = some ((i : Nat), .double x)) (kk : Z G M E Qf l k j w pc' lv (.double x :: st)) : Z G M E Qf l k j w pc lv st := by
  subst hp
  intro p e s m args below meth c H locs ls hc hE hb hH hS hl
  exact lv_dload_n hc.1 hc.2.1 hd rfl (lv_at hl q hq) (kk p e s m args below meth c H locs ls hc hE hb hH hS hl)
theorem Z_istore_n (pc' : Nat) (lv' : List (Nat × Value)) {i : Fin 4} {x : Int32} (hd : decode M.2.1 pc = .ok (.istore_n i, 1)) (hp : pc + 1 = pc') (hn : (i : Nat) < M.2.2.1) (h' : ((i : Nat), Value.int x) :: lv.filter (fun q => !(q.1 == (i : Nat)) && !(q.1 + 1 == (i : Nat) && q.2.category == 2)) = lv') (kk : Z G M E Qf l k j w pc' lv' st) : Z G M E Qf l k j w pc lv (.int x :: st) := by
  subst hp
  intro p e s m args below meth c H locs ls hc hE hb hH hS hl
  exact lv_istore_n hc.1 hc.2.1 hd rfl hl hn h' (fun ls' hl' => kk p e s m args below meth c H locs ls' hc hE hb hH hS hl')
theorem Z_istore (pc' : Nat) (lv' : List (Nat × Value)) {i : Nat} {x : Int32} (hd : decode M.2.1 pc = .ok (.istore i, 2)) (hp : pc + 2 = pc') (hn : i < M.2.2.1) (h' : (i, Value.int x) :: lv.filter (fun q => !(q.1 == i) && !(q.1 + 1 == i && q.2.category == 2)) = lv') (kk : Z G M E Qf l k j w pc' lv' st) : Z G M E Qf l k j w pc lv (.int x :: st) := by
  subst hp
  intro p e s m args below meth c H locs ls hc hE hb hH hS hl
  exact lv_istore hc.1 hc.2.1 hd hl hn h' (fun ls' hl' => kk p e s m args below meth c H locs ls' hc hE hb hH hS hl')
theorem Z_astore_n (pc' : Nat) (lv' : List (Nat × Value)) {i : Fin 4} {x : Nat} (hd : decode M.2.1 pc = .ok (.astore_n i, 1)) (hp : pc + 1 = pc') (hn : (i : Nat) < M.2.2.1) (h' : ((i : Nat), Value.ref x) :: lv.filter (fun q => !(q.1 == (i : Nat)) && !(q.1 + 1 == (i : Nat) && q.2.category == 2)) = lv') (kk : Z G M E Qf l k j w pc' lv' st) : Z G M E Qf l k j w pc lv (.ref x :: st) := by
  subst hp
  intro p e s m args below meth c H locs ls hc hE hb hH hS hl
  exact lv_astore_n hc.1 hc.2.1 hd rfl hl hn h' (fun ls' hl' => kk p e s m args below meth c H locs ls' hc hE hb hH hS hl')
theorem Z_astore (pc' : Nat) (lv' : List (Nat × Value)) {i : Nat} {x : Nat} (hd : decode M.2.1 pc = .ok (.astore i, 2)) (hp : pc + 2 = pc') (hn : i < M.2.2.1) (h' : (i, Value.ref x) :: lv.filter (fun q => !(q.1 == i) && !(q.1 + 1 == i && q.2.category == 2)) = lv') (kk : Z G M E Qf l k j w pc' lv' st) : Z G M E Qf l k j w pc lv (.ref x :: st) := by
  subst hp
  intro p e s m args below meth c H locs ls hc hE hb hH hS hl
  exact lv_astore hc.1 hc.2.1 hd hl hn h' (fun ls' hl' => kk p e s m args below meth c H locs ls' hc hE hb hH hS hl')
theorem Z_dstore (pc' : Nat) (lv' : List (Nat × Value)) {i : Nat} {x : UInt64} (hd : decode M.2.1 pc = .ok (.dstore i, 2)) (hp : pc + 2 = pc') (hn : i + 1 < M.2.2.1) (h' : (i, Value.double x) :: lv.filter (fun q => !(q.1 == i) && (!(q.1 == i + 1) && !(q.1 + 1 == i && q.2.category == 2))) = lv') (kk : Z G M E Qf l k j w pc' lv' st) : Z G M E Qf l k j w pc lv (.double x :: st) := by
  subst hp
  intro p e s m args below meth c H locs ls hc hE hb hH hS hl
  exact lv_dstore hc.1 hc.2.1 hd hl hn h' (fun ls' hl' => kk p e s m args below meth c H locs ls' hc hE hb hH hS hl')
theorem Z_dstore_n (pc' : Nat) (lv' : List (Nat × Value)) {i : Fin 4} {x : UInt64} (hd : decode M.2.1 pc = .ok (.dstore_n i, 1)) (hp : pc + 1 = pc') (hn : (i : Nat) + 1 < M.2.2.1) (h' : ((i : Nat), Value.double x) :: lv.filter (fun q => !(q.1 == (i : Nat)) && (!(q.1 == (i : Nat) + 1) && !(q.1 + 1 == (i : Nat) && q.2.category == 2))) = lv') (kk : Z G M E Qf l k j w pc' lv' st) : Z G M E Qf l k j w pc lv (.double x :: st) := by
  subst hp
  intro p e s m args below meth c H locs ls hc hE hb hH hS hl
  exact lv_dstore_n hc.1 hc.2.1 hd rfl hl hn h' (fun ls' hl' => kk p e s m args below meth c H locs ls' hc hE hb hH hS hl')
theorem Z_iinc (pc' : Nat) (lv' : List (Nat × Value)) (q : Nat) (v : Int32) {i : Nat} {n : Int} {x : Int32} (hd : decode M.2.1 pc = .ok (.iinc i n, 3)) (hp : pc + 3 = pc') (hn : i < M.2.2.1) (hq : lv[q]? = some (i, .int x)) (hv : x + Int32.ofInt n = v) (h' : (i, Value.int v) :: lv.filter (fun q => !(q.1 == i) && !(q.1 + 1 == i && q.2.category == 2)) = lv') (kk : Z G M E Qf l k j w pc' lv' st) : Z G M E Qf l k j w pc lv st := by
  subst hp
  intro p e s m args below meth c H locs ls hc hE hb hH hS hl
  exact lv_iinc hc.1 hc.2.1 hd hl hq hv hn h' (fun ls' hl' => kk p e s m args below meth c H locs ls' hc hE hb hH hS hl')
theorem Z_iadd (pc' : Nat) {x y : Int32} (hd : decode M.2.1 pc = .ok (.iadd, 1)) (hp : pc + 1 = pc') (kk : Z G M E Qf l k j w pc' lv (.int (x + y) :: st)) : Z G M E Qf l k j w pc lv (.int y :: .int x :: st) := by
  subst hp
  intro p e s m args below meth c H locs ls hc hE hb hH hS hl
  exact lv_iadd hc.1 hc.2.1 hd (kk p e s m args below meth c H locs ls hc hE hb hH hS hl)
theorem Z_isub (pc' : Nat) {x y : Int32} (hd : decode M.2.1 pc = .ok (.isub, 1)) (hp : pc + 1 = pc') (kk : Z G M E Qf l k j w pc' lv (.int (x - y) :: st)) : Z G M E Qf l k j w pc lv (.int y :: .int x :: st) := by
  subst hp
  intro p e s m args below meth c H locs ls hc hE hb hH hS hl
  exact lv_isub hc.1 hc.2.1 hd (kk p e s m args below meth c H locs ls hc hE hb hH hS hl)
theorem Z_imul (pc' : Nat) {x y : Int32} (hd : decode M.2.1 pc = .ok (.imul, 1)) (hp : pc + 1 = pc') (kk : Z G M E Qf l k j w pc' lv (.int (x * y) :: st)) : Z G M E Qf l k j w pc lv (.int y :: .int x :: st) := by
  subst hp
  intro p e s m args below meth c H locs ls hc hE hb hH hS hl
  exact lv_imul hc.1 hc.2.1 hd (kk p e s m args below meth c H locs ls hc hE hb hH hS hl)
theorem Z_iand (pc' : Nat) {x y : Int32} (hd : decode M.2.1 pc = .ok (.iand, 1)) (hp : pc + 1 = pc') (kk : Z G M E Qf l k j w pc' lv (.int (x &&& y) :: st)) : Z G M E Qf l k j w pc lv (.int y :: .int x :: st) := by
  subst hp
  intro p e s m args below meth c H locs ls hc hE hb hH hS hl
  exact lv_iand hc.1 hc.2.1 hd (kk p e s m args below meth c H locs ls hc hE hb hH hS hl)
theorem Z_idiv (pc' : Nat) {x y : Int32} (hd : decode M.2.1 pc = .ok (.idiv, 1)) (hp : pc + 1 = pc') (hne : ¬ y = 0) (kk : Z G M E Qf l k j w pc' lv (.int (x / y) :: st)) : Z G M E Qf l k j w pc lv (.int y :: .int x :: st) := by
  subst hp
  intro p e s m args below meth c H locs ls hc hE hb hH hS hl
  exact lv_idiv hc.1 hc.2.1 hd hne (kk p e s m args below meth c H locs ls hc hE hb hH hS hl)
theorem Z_ineg (pc' : Nat) {x : Int32} (hd : decode M.2.1 pc = .ok (.ineg, 1)) (hp : pc + 1 = pc') (kk : Z G M E Qf l k j w pc' lv (.int (-x) :: st)) : Z G M E Qf l k j w pc lv (.int x :: st) := by
  subst hp
  intro p e s m args below meth c H locs ls hc hE hb hH hS hl
  exact lv_ineg hc.1 hc.2.1 hd (kk p e s m args below meth c H locs ls hc hE hb hH hS hl)
theorem Z_dup (pc' : Nat) {v : Value} (hd : decode M.2.1 pc = .ok (.dup, 1)) (hp : pc + 1 = pc') (hv : v.category = 1) (kk : Z G M E Qf l k j w pc' lv (v :: v :: st)) : Z G M E Qf l k j w pc lv (v :: st) := by
  subst hp
  intro p e s m args below meth c H locs ls hc hE hb hH hS hl
  exact lv_dup hc.1 hc.2.1 hd hv (kk p e s m args below meth c H locs ls hc hE hb hH hS hl)
theorem Z_dup2 (pc' : Nat) {v u : Value} (hd : decode M.2.1 pc = .ok (.dup2, 1)) (hp : pc + 1 = pc') (hv : v.category = 1) (hu : u.category = 1) (kk : Z G M E Qf l k j w pc' lv (v :: u :: v :: u :: st)) : Z G M E Qf l k j w pc lv (v :: u :: st) := by
  subst hp
  intro p e s m args below meth c H locs ls hc hE hb hH hS hl
  exact lv_dup2_11 hc.1 hc.2.1 hd hv hu (kk p e s m args below meth c H locs ls hc hE hb hH hS hl)
theorem Z_i2d (pc' : Nat) {x : Int32} (hd : decode M.2.1 pc = .ok (.i2d, 1)) (hp : pc + 1 = pc') (kk : Z G M E Qf l k j w pc' lv (.double (FP.i2d x) :: st)) : Z G M E Qf l k j w pc lv (.int x :: st) := by
  subst hp
  intro p e s m args below meth c H locs ls hc hE hb hH hS hl
  exact lv_i2d hc.1 hc.2.1 hd (kk p e s m args below meth c H locs ls hc hE hb hH hS hl)
theorem Z_ddiv (pc' : Nat) {x y : UInt64} (hd : decode M.2.1 pc = .ok (.ddiv, 1)) (hp : pc + 1 = pc') (hne : vf_n64 (FP.ddiv x y)) (kk : Z G M E Qf l k j w pc' lv (.double (FP.ddiv x y) :: st)) : Z G M E Qf l k j w pc lv (.double y :: .double x :: st) := by
  subst hp
  intro p e s m args below meth c H locs ls hc hE hb hH hS hl
  exact lv_ddiv hc.1 hc.2.1 hd hne (kk p e s m args below meth c H locs ls hc hE hb hH hS hl)
theorem Z_dcmp (pc' : Nat) {x y : UInt64} {op : CmpOp} (hd : decode M.2.1 pc = .ok (.dcmp op, 1)) (hp : pc + 1 = pc') (kk : Z G M E Qf l k j w pc' lv (.int (Op.cmpValue (FP.dcmp x y) op) :: st)) : Z G M E Qf l k j w pc lv (.double y :: .double x :: st) := by
  subst hp
  intro p e s m args below meth c H locs ls hc hE hb hH hS hl
  exact lv_dcmp hc.1 hc.2.1 hd (kk p e s m args below meth c H locs ls hc hE hb hH hS hl)
theorem Z_dconst0 (pc' : Nat)  (hd : decode M.2.1 pc = .ok (.dconst 0, 1)) (hp : pc + 1 = pc') (kk : Z G M E Qf l k j w pc' lv (.double FP.dconst0 :: st)) : Z G M E Qf l k j w pc lv st := by
  subst hp
  intro p e s m args below meth c H locs ls hc hE hb hH hS hl
  exact lv_dconst0 hc.1 hc.2.1 hd (kk p e s m args below meth c H locs ls hc hE hb hH hS hl)
theorem Z_dconst1 (pc' : Nat)  (hd : decode M.2.1 pc = .ok (.dconst 1, 1)) (hp : pc + 1 = pc') (kk : Z G M E Qf l k j w pc' lv (.double FP.dconst1 :: st)) : Z G M E Qf l k j w pc lv st := by
  subst hp
  intro p e s m args below meth c H locs ls hc hE hb hH hS hl
  exact lv_dconst1 hc.1 hc.2.1 hd (kk p e s m args below meth c H locs ls hc hE hb hH hS hl)
theorem Z_if_eq (pc' tgt : Nat) {x : Int32} {off : Int} (hd : decode M.2.1 pc = .ok (.ifCond .eq off, 3)) (hp : pc + 3 = pc') (ht : (pc : Int) + off = (tgt : Int)) (kt : x = 0 → Z G M E Qf l k j w tgt lv st) (kf : ¬ (x = 0) → Z G M E Qf l k j w pc' lv st) : Z G M E Qf l k j w pc lv (.int x :: st) := by
  subst hp
  intro p e s m args below meth c H locs ls hc hE hb hH hS hl
  exact lv_if_eq hc.1 hc.2.1 hd ht (fun h => kt h p e s m args below meth c H locs ls hc hE hb hH hS hl) (fun h => kf (by simpa using h) p e s m args below meth c H locs ls hc hE hb hH hS hl)
theorem Z_if_ne (pc' tgt : Nat) {x : Int32} {off : Int} (hd : decode M.2.1 pc = .ok (.ifCond .ne off, 3)) (hp : pc + 3 = pc') (ht : (pc : Int) + off = (tgt : Int)) (kt : ¬ x = 0 → Z G M E Qf l k j w tgt lv st) (kf : ¬ (¬ x = 0) → Z G M E Qf l k j w pc' lv st) : Z G M E Qf l k j w pc lv (.int x :: st) := by
  subst hp
  intro p e s m args below meth c H locs ls hc hE hb hH hS hl
  exact lv_if_ne hc.1 hc.2.1 hd ht (fun h => kt h p e s m args below meth c H locs ls hc hE hb hH hS hl) (fun h => kf (by simpa using h) p e s m args below meth c H locs ls hc hE hb hH hS hl)
theorem Z_if_lt (pc' tgt : Nat) {x : Int32} {off : Int} (hd : decode M.2.1 pc = .ok (.ifCond .lt off, 3)) (hp : pc + 3 = pc') (ht : (pc : Int) + off = (tgt : Int)) (kt : x < 0 → Z G M E Qf l k j w tgt lv st) (kf : ¬ (x < 0) → Z G M E Qf l k j w pc' lv st) : Z G M E Qf l k j w pc lv (.int x :: st) := by
  subst hp
  intro p e s m args below meth c H locs ls hc hE hb hH hS hl
  exact lv_if_lt hc.1 hc.2.1 hd ht (fun h => kt h p e s m args below meth c H locs ls hc hE hb hH hS hl) (fun h => kf (by simpa using h) p e s m args below meth c H locs ls hc hE hb hH hS hl)
theorem Z_if_ge (pc' tgt : Nat) {x : Int32} {off : Int} (hd : decode M.2.1 pc = .ok (.ifCond .ge off, 3)) (hp : pc + 3 = pc') (ht : (pc : Int) + off = (tgt : Int)) (kt : 0 ≤ x → Z G M E Qf l k j w tgt lv st) (kf : ¬ (0 ≤ x) → Z G M E Qf l k j w pc' lv st) : Z G M E Qf l k j w pc lv (.int x :: st) := by
  subst hp
  intro p e s m args below meth c H locs ls hc hE hb hH hS hl
  exact lv_if_ge hc.1 hc.2.1 hd ht (fun h => kt h p e s m args below meth c H locs ls hc hE hb hH hS hl) (fun h => kf (by simpa using h) p e s m args below meth c H locs ls hc hE hb hH hS hl)
theorem Z_if_gt (pc' tgt : Nat) {x : Int32} {off : Int} (hd : decode M.2.1 pc = .ok (.ifCond .gt off, 3)) (hp : pc + 3 = pc') (ht : (pc : Int) + off = (tgt : Int)) (kt : 0 < x → Z G M E Qf l k j w tgt lv st) (kf : ¬ (0 < x) → Z G M E Qf l k j w pc' lv st) : Z G M E Qf l k j w pc lv (.int x :: st) := by
  subst hp
  intro p e s m args below meth c H locs ls hc hE hb hH hS hl
  exact lv_if_gt hc.1 hc.2.1 hd ht (fun h => kt h p e s m args below meth c H locs ls hc hE hb hH hS hl) (fun h => kf (by simpa using h) p e s m args below meth c H locs ls hc hE hb hH hS hl)
theorem Z_if_le (pc' tgt : Nat) {x : Int32} {off : Int} (hd : decode M.2.1 pc = .ok (.ifCond .le off, 3)) (hp : pc + 3 = pc') (ht : (pc : Int) + off = (tgt : Int)) (kt : x ≤ 0 → Z G M E Qf l k j w tgt lv st) (kf : ¬ (x ≤ 0) → Z G M E Qf l k j w pc' lv st) : Z G M E Qf l k j w pc lv (.int x :: st) := by
  subst hp
  intro p e s m args below meth c H locs ls hc hE hb hH hS hl
  exact lv_if_le hc.1 hc.2.1 hd ht (fun h => kt h p e s m args below meth c H locs ls hc hE hb hH hS hl) (fun h => kf (by simpa using h) p e s m args below meth c H locs ls hc hE hb hH hS hl)
theorem Z_icmp_eq (pc' tgt : Nat) {x y : Int32} {off : Int} (hd : decode M.2.1 pc = .ok (.if_icmp .eq off, 3)) (hp : pc + 3 = pc') (ht : (pc : Int) + off = (tgt : Int)) (kt : x = y → Z G M E Qf l k j w tgt lv st) (kf : ¬ (x = y) → Z G M E Qf l k j w pc' lv st) : Z G M E Qf l k j w pc lv (.int y :: .int x :: st) := by
  subst hp
  intro p e s m args below meth c H locs ls hc hE hb hH hS hl
  exact lv_icmp_eq hc.1 hc.2.1 hd ht (fun h => kt h p e s m args below meth c H locs ls hc hE hb hH hS hl) (fun h => kf (by simpa using h) p e s m args below meth c H locs ls hc hE hb hH hS hl)
theorem Z_icmp_ne (pc' tgt : Nat) {x y : Int32} {off : Int} (hd : decode M.2.1 pc = .ok (.if_icmp .ne off, 3)) (hp : pc + 3 = pc') (ht : (pc : Int) + off = (tgt : Int)) (kt : ¬ x = y → Z G M E Qf l k j w tgt lv st) (kf : ¬ (¬ x = y) → Z G M E Qf l k j w pc' lv st) : Z G M E Qf l k j w pc lv (.int y :: .int x :: st) := by
  subst hp
  intro p e s m args below meth c H locs ls hc hE hb hH hS hl
  exact lv_icmp_ne hc.1 hc.2.1 hd ht (fun h => kt h p e s m args below meth c H locs ls hc hE hb hH hS hl) (fun h => kf (by simpa using h) p e s m args below meth c H locs ls hc hE hb hH hS hl)
theorem Z_icmp_lt (pc' tgt : Nat) {x y : Int32} {off : Int} (hd : decode M.2.1 pc = .ok (.if_icmp .lt off, 3)) (hp : pc + 3 = pc') (ht : (pc : Int) + off = (tgt : Int)) (kt : x < y → Z G M E Qf l k j w tgt lv st) (kf : ¬ (x < y) → Z G M E Qf l k j w pc' lv st) : Z G M E Qf l k j w pc lv (.int y :: .int x :: st) := by
  subst hp
  intro p e s m args below meth c H locs ls hc hE hb hH hS hl
  exact lv_icmp_lt hc.1 hc.2.1 hd ht (fun h => kt h p e s m args below meth c H locs ls hc hE hb hH hS hl) (fun h => kf (by simpa using h) p e s m args below meth c H locs ls hc hE hb hH hS hl)
theorem Z_icmp_ge (pc' tgt : Nat) {x y : Int32} {off : Int} (hd : decode M.2.1 pc = .ok (.if_icmp .ge off, 3)) (hp : pc + 3 = pc') (ht : (pc : Int) + off = (tgt : Int)) (kt : y ≤ x → Z G M E Qf l k j w tgt lv st) (kf : ¬ (y ≤ x) → Z G M E Qf l k j w pc' lv st) : Z G M E Qf l k j w pc lv (.int y :: .int x :: st) := by
  subst hp
  intro p e s m args below meth c H locs ls hc hE hb hH hS hl
  exact lv_icmp_ge hc.1 hc.2.1 hd ht (fun h => kt h p e s m args below meth c H locs ls hc hE hb hH hS hl) (fun h => kf (by simpa using h) p e s m args below meth c H locs ls hc hE hb hH hS hl)
theorem Z_icmp_gt (pc' tgt : Nat) {x y : Int32} {off : Int} (hd : decode M.2.1 pc = .ok (.if_icmp .gt off, 3)) (hp : pc + 3 = pc') (ht : (pc : Int) + off = (tgt : Int)) (kt : y < x → Z G M E Qf l k j w tgt lv st) (kf : ¬ (y < x) → Z G M E Qf l k j w pc' lv st) : Z G M E Qf l k j w pc lv (.int y :: .int x :: st) := by
  subst hp
  intro p e s m args below meth c H locs ls hc hE hb hH hS hl
  exact lv_icmp_gt hc.1 hc.2.1 hd ht (fun h => kt h p e s m args below meth c H locs ls hc hE hb hH hS hl) (fun h => kf (by simpa using h) p e s m args below meth c H locs ls hc hE hb hH hS hl)
theorem Z_icmp_le (pc' tgt : Nat) {x y : Int32} {off : Int} (hd : decode M.2.1 pc = .ok (.if_icmp .le off, 3)) (hp : pc + 3 = pc') (ht : (pc : Int) + off = (tgt : Int)) (kt : x ≤ y → Z G M E Qf l k j w tgt lv st) (kf : ¬ (x ≤ y) → Z G M E Qf l k j w pc' lv st) : Z G M E Qf l k j w pc lv (.int y :: .int x :: st) := by
  subst hp
  intro p e s m args below meth c H locs ls hc hE hb hH hS hl
  exact lv_icmp_le hc.1 hc.2.1 hd ht (fun h => kt h p e s m args below meth c H locs ls hc hE hb hH hS hl) (fun h => kf (by simpa using h) p e s m args below meth c H locs ls hc hE hb hH hS hl)
theorem Z_goto (tgt : Nat) {off : Int} (hd : decode M.2.1 pc = .ok (.goto off, 3)) (ht : (pc : Int) + off = (tgt : Int)) (kk : Z G M E Qf l k j w tgt lv st) : Z G M E Qf l k j w pc lv st := by
  intro p e s m args below meth c H locs ls hc hE hb hH hS hl
  exact lv_goto hc.1 hc.2.1 hd ht (kk p e s m args below meth c H locs ls hc hE hb hH hS hl)
theorem Z_tabIn (tgt : Nat) {dflt lo hi : Int} {offs : Array Int} {len : Nat} {x : Int32} {off : Int} (hd : decode M.2.1 pc = .ok (.tableswitch dflt lo hi offs, len)) (h1 : ¬ x.toInt < lo) (h2 : ¬ hi < x.toInt) (ho : offs[(x.toInt - lo).toNat]? = some off) (ht : (pc : Int) + off = (tgt : Int)) (kk : Z G M E Qf l k j w tgt lv st) : Z G M E Qf l k j w pc lv (.int x :: st) := by
  intro p e s m args below meth c H locs ls hc hE hb hH hS hl
  exact lv_tableIn hc.1 hc.2.1 hd h1 h2 ho ht (kk p e s m args below meth c H locs ls hc hE hb hH hS hl)
theorem Z_tabOut (tgt : Nat) {dflt lo hi : Int} {offs : Array Int} {len : Nat} {x : Int32} (hd : decode M.2.1 pc = .ok (.tableswitch dflt lo hi offs, len)) (h : x.toInt < lo ∨ hi < x.toInt) (ht : (pc : Int) + dflt = (tgt : Int)) (kk : Z G M E Qf l k j w tgt lv st) : Z G M E Qf l k j w pc lv (.int x :: st) := by
  intro p e s m args below meth c H locs ls hc hE hb hH hS hl
  exact lv_tableOut hc.1 hc.2.1 hd h ht (kk p e s m args below meth c H locs ls hc hE hb hH hS hl)
theorem Z_look (tgt : Nat) {dflt : Int} {ps : Array (Int × Int)} {len : Nat} {x : Int32} {off : Int} (hd : decode M.2.1 pc = .ok (.lookupswitch dflt ps, len)) (hs : (ps.toList.zip (ps.toList.drop 1)).all (fun (a, next) => a.1 < next.1) = true) (ho : Op.lookupswitch.offset ps.toList dflt x.toInt = off) (ht : (pc : Int) + off = (tgt : Int)) (kk : Z G M E Qf l k j w tgt lv st) : Z G M E Qf l k j w pc lv (.int x :: st) := by
  intro p e s m args below meth c H locs ls hc hE hb hH hS hl
  exact lv_lookup hc.1 hc.2.1 hd hs ho ht (kk p e s m args below meth c H locs ls hc hE hb hH hS hl)
/-- what a pool entry of a class names: the field k of the class at place ci -/
def zF (own : String) (idx ci k : Nat) : Prop := ∃ (C : String) (T : u_T) (N : Nat) (ty : Nat → FieldType), vwCl[ci]? = some (C, T, N) ∧ k < N ∧ Cond.fieldLink own idx (T k).1 (T k).2.1 (T k).2.2.1 ∈ lw_ok ∧ (∀ w ∈ u_ws C T N, w ∈ lw_ok) ∧ (∀ q, q < N → parseFieldDescriptor (T q).2.2.1 = some (ty q)) ∧ (∀ a, a < N → ∀ b, b < N → a ≠ b → (T a).2.1 ≠ (T b).2.1)
def zFt (ci k : Nat) (f : (String × String × String × Bool) → Prop) : Prop := ∀ r : vw_C, vwCl[ci]? = some r → f (r.2.1 k)
theorem Z_getI (pc' : Nat) {n9 : Nat} {sh : Nat → zK} {mm : zM} {idx ci q a : Nat} {rs : List (Option (Option Nat))} (hd : decode M.2.1 pc = .ok (.getfield idx, 3)) (hp : pc + 3 = pc') (hf : zF M.1 idx ci q) (ha : a < n9) (hs : sh a = .inr (.inr (ci, rs))) (hr : rs[q]? = some none) (kk : Z G M E Qf l k j (n9, sh, mm) pc' lv (.int (mm a q) :: st)) : Z G M E Qf l k j (n9, sh, mm) pc lv (.ref (G.1 + a) :: st) := by
  subst hp
  intro p e s m args below meth c H locs ls hc hE hb hH hS hl
  obtain ⟨C, T, N, ty, f1, f2, f3, f4, f5, f6⟩ := hf
  exact va_get hc.1 hc.2.1 hc.2.2.2.2.1 f4 hc.2.2.2.1 hH.2.1 hH.1 a (by rw [zws_at (w := (n9, sh, mm)) ha, zcell_o (w := (n9, sh, mm)) hs]) f1 q f2 (hc.2.2.2.2.1 _ f3) (fun _ h => h) (by rw [flds_int rs 0 q hr, Nat.zero_add]) hd (kk p e s m args below meth c H locs ls hc hE hb hH hS hl)
theorem Z_getR (pc' : Nat) {n9 : Nat} {sh : Nat → zK} {mm : zM} {idx ci q a : Nat} {r : Nat} {rs : List (Option (Option Nat))} (hd : decode M.2.1 pc = .ok (.getfield idx, 3)) (hp : pc + 3 = pc') (hf : zF M.1 idx ci q) (ha : a < n9) (hs : sh a = .inr (.inr (ci, rs))) (hr : rs[q]? = some (some (some r))) (kk : Z G M E Qf l k j (n9, sh, mm) pc' lv (.ref (G.1 + r) :: st)) : Z G M E Qf l k j (n9, sh, mm) pc lv (.ref (G.1 + a) :: st) := by
  subst hp
  intro p e s m args below meth c H locs ls hc hE hb hH hS hl
  obtain ⟨C, T, N, ty, f1, f2, f3, f4, f5, f6⟩ := hf
  exact va_get hc.1 hc.2.1 hc.2.2.2.2.1 f4 hc.2.2.2.1 hH.2.1 hH.1 a (by rw [zws_at (w := (n9, sh, mm)) ha, zcell_o (w := (n9, sh, mm)) hs]) f1 q f2 (hc.2.2.2.2.1 _ f3) (fun _ h => h) (flds_ref rs 0 q hr) hd (kk p e s m args below meth c H locs ls hc hE hb hH hS hl)
theorem Z_putI (pc' : Nat) {n9 : Nat} {sh : Nat → zK} {mm : zM} (ft : FieldType) {idx ci q a : Nat} {v : Int32} {rs : List (Option (Option Nat))} (hd : decode M.2.1 pc = .ok (.putfield idx, 3)) (hp : pc + 3 = pc') (hf : zF M.1 idx ci q) (hft : zFt ci q (fun f => f.2.2.2 = false ∧ parseFieldDescriptor f.2.2.1 = some ft)) (ha : a < n9) (hs : sh a = .inr (.inr (ci, rs))) (hr : rs[q]? = some none) (hn : narrow ft (.int v) = .int v) (hfit : fits ft (.int v) = true) (kk : Z G M E Qf l k j (n9, sh, up2 mm a q v) pc' lv st) : Z G M E Qf l k j (n9, sh, mm) pc lv (.int v :: .ref (G.1 + a) :: st) := by
  subst hp
  intro p e s m args below meth c H locs ls hc hE hb hH hS hl
  obtain ⟨C, T, N, ty, f1, f2, f3, f4, f5, f6⟩ := hf
  have g := hft _ f1
  have hts := hc.2.2.2.2.1
  have he : (zws G (n9, sh, mm))[a]? = some (G.1 + a, .inr (ci, flds G.1 (mm a) 0 rs)) := by rw [zws_at (w := (n9, sh, mm)) ha, zcell_o (w := (n9, sh, mm)) hs]
  have hap := va_apart (own := M.1) hts f4 ty f5 f6 hH.2.1 f1
  obtain ⟨r9, h1, cell, q1, q2, q3, q4⟩ := hH.1 a _ he
  have hr9 : r9 = (C, T, N) := Option.some.inj (h1.symm.trans f1)
  subst hr9
  obtain ⟨hSl, hfc, kC, hkC, hkind⟩ := hH.2.1.1 ci _ f1
  obtain ⟨cf, kf, fi, f, hi, hsl⟩ := hSl q f2
  have hlay := hts _ (f4 _ (u_in_lay f2))
  unfold u_lay at hlay
  rw [if_neg (by rw [g.1]; decide)] at hlay
  have hst := (u_facts hfc hkC (u_lays hts f4 f2) hi).1
  have h6 := u_store hfc hkC hkind hlay hi g.2 hn hfit
  refine W.putK hc.1 hc.2.1 (f := f) ⟨hc.2.2.2.1, hts _ f3, ⟨_, _, _, hi⟩, hst⟩ (by rw [q2]; exact h6) q1 q3 (by rw [hsl]; exact k2_hasslot (q4 q f2)) rfl rfl hd fun H' e1 e2 e3 => ?_
  rw [hsl] at e1 ⊢
  have hlt : q < (flds G.1 (mm a) 0 rs).length := by rw [flds_len]; exact (List.getElem?_eq_some_iff.mp hr).1
  have hP1 : va_P G.2.1 vwCl ((zws G (n9, sh, mm)).set a (G.1 + a, .inr (ci, (flds G.1 (mm a) 0 rs).set q (.int v)))) H' := hH.1.set zws_D he ⟨_, f1, t_OB.to (V := updV (vp_V (flds G.1 (mm a) 0 rs)) q (.int v)) ⟨_, e1, q2, q3, t_set q4 hap f2 _⟩ (fun j _ => vp_updV_set hlt _ j)⟩ e3
  refine kk p e s m args below meth c H' _ ls hc hE hb ⟨?_, hH.2.1, e2.trans hH.2.2⟩ (hS.put e2 e3 (Nat.le_add_right _ _)) hl
  rw [flds_set rs 0 q hr] at hP1
  rw [zws_set (G := G) (w := (n9, sh, mm)) (w' := (n9, sh, up2 mm a q v)) rfl ((zcell_o (w := (n9, sh, up2 mm a q v)) hs).trans ?_) ?_] at hP1
  · exact hP1
  · congr 2
    congr 1
    funext z
    simp [up2]
  · intro q9 hq9
    exact zcell_same rfl (up2_na _ _ _ hq9)
theorem Z_putR (pc' : Nat) {n9 : Nat} {sh : Nat → zK} {mm : zM} (ft : FieldType) {idx ci q a r : Nat} {y : Option Nat} {rs : List (Option (Option Nat))} (hd : decode M.2.1 pc = .ok (.putfield idx, 3)) (hp : pc + 3 = pc') (hf : zF M.1 idx ci q) (hft : zFt ci q (fun f => f.1 = M.1 ∧ f.2.2.2 = true ∧ parseFieldDescriptor f.2.2.1 = some ft)) (hin : M.2.2.2.2.1 = "<init>") (ha : a < n9) (hs : sh a = .inr (.inr (ci, rs))) (hr : rs[q]? = some (some y)) (hn : ∀ z, narrow ft (.ref z) = .ref z) (hfit : ∀ z, fits ft (.ref z) = true) (kk : Z G M E Qf l k j (n9, (fun a9 => if a9 = a then .inr (.inr (ci, rs.set q (some (some r)))) else sh a9), mm) pc' lv st) : Z G M E Qf l k j (n9, sh, mm) pc lv (.ref (G.1 + r) :: .ref (G.1 + a) :: st) := by
  subst hp
  intro p e s m args below meth c H locs ls hc hE hb hH hS hl
  obtain ⟨C, T, N, ty, f1, f2, f3, f4, f5, f6⟩ := hf
  have g := hft _ f1
  have hts := hc.2.2.2.2.1
  have he : (zws G (n9, sh, mm))[a]? = some (G.1 + a, .inr (ci, flds G.1 (mm a) 0 rs)) := by rw [zws_at (w := (n9, sh, mm)) ha, zcell_o (w := (n9, sh, mm)) hs]
  have hap := va_apart (own := M.1) hts f4 ty f5 f6 hH.2.1 f1
  obtain ⟨r9, h1, cell, q1, q2, q3, q4⟩ := hH.1 a _ he
  have hr9 : r9 = (C, T, N) := Option.some.inj (h1.symm.trans f1)
  subst hr9
  obtain ⟨hSl, hfc, kC, hkC, hkind⟩ := hH.2.1.1 ci _ f1
  obtain ⟨cf, kf, fi, f, hi, hsl⟩ := hSl q f2
  have hlay := hts _ (f4 _ (u_in_lay f2))
  unfold u_lay at hlay
  rw [if_pos g.2.1] at hlay
  have hst := (u_facts hfc hkC (u_lays hts f4 f2) hi).1
  have hcf : m.cls = cf := by
    obtain ⟨_, _, c', _, _, _, -, -, hf', -, -, -, hown2, -⟩ := Cond.laysFinal_spec hlay
    have e1 : c' = cf := by have := hi.symm.trans hf'; simp at this; exact this.1.symm
    rw [g.1] at hown2
    rw [← e1]
    exact Option.some.inj (hc.2.2.2.1.symm.trans hown2)
  have h6 := u_fits hfc hkC hkind (Or.inr hlay) hi g.2.2 (hn (G.1 + r)) (hfit (G.1 + r))
  have hnm : meth.name = "<init>" := by
    rcases hc.2.2.2.2.2.2.2.1 with h | h
    · rw [hin] at h
      exact absurd h (by decide)
    · rw [h, hin]
  refine W.putFinK hc.1 hc.2.1 hc.2.2.2.1 (hts _ f3) hi hst hcf hnm (by rw [q2]; exact h6) q1 q3 (by rw [hsl]; exact k2_hasslot (q4 q f2)) rfl rfl hd fun H' e1 e2 e3 => ?_
  rw [hsl] at e1 ⊢
  have hlt : q < (flds G.1 (mm a) 0 rs).length := by rw [flds_len]; exact (List.getElem?_eq_some_iff.mp hr).1
  have hP1 : va_P G.2.1 vwCl ((zws G (n9, sh, mm)).set a (G.1 + a, .inr (ci, (flds G.1 (mm a) 0 rs).set q (.ref (G.1 + r))))) H' := hH.1.set zws_D he ⟨_, f1, t_OB.to (V := updV (vp_V (flds G.1 (mm a) 0 rs)) q (.ref (G.1 + r))) ⟨_, e1, q2, q3, t_set q4 hap f2 _⟩ (fun j _ => vp_updV_set hlt _ j)⟩ e3
  refine kk p e s m args below meth c H' _ ls hc hE hb ⟨?_, hH.2.1, e2.trans hH.2.2⟩ (hS.put e2 e3 (Nat.le_add_right _ _)) hl
  rw [show (Value.ref (G.1 + r)) = zr G.1 (some r) from rfl, flds_setr rs 0 q hr] at hP1
  rw [zws_set (G := G) (w := (n9, sh, mm)) (w' := (n9, (fun a9 => if a9 = a then .inr (.inr (ci, rs.set q (some (some r)))) else sh a9), mm)) rfl (zcell_o (by simp)) ?_] at hP1
  · exact hP1
  · intro q9 hq9
    exact zcell_same (by simp [hq9]) rfl
theorem vp_inN {jj n : Nat} (h : jj < n) (hn : n < 2 ^ 31) : vp_in (nI jj) n := by
  unfold vp_in
  rw [nI_clamp (by omega)]
  have h2 := nI_pos (n := jj) (by omega)
  intro h3
  rcases h3 with h3 | h3
  · exact h2 h3
  · omega
theorem Z_iald (pc' : Nat) {n9 : Nat} {sh : Nat → zK} {mm : zM} {a n : Nat} {i : Int32} (hd : decode M.2.1 pc = .ok (.iaload, 1)) (hp : pc + 1 = pc') (ha : a < n9) (hs : sh a = .inl n) (hin : vp_in i n) (kk : Z G M E Qf l k j (n9, sh, mm) pc' lv (.int (mm a i.toNatClampNeg) :: st)) : Z G M E Qf l k j (n9, sh, mm) pc lv (.int i :: .ref (G.1 + a) :: st) := by
  subst hp
  intro p e s m args below meth c H locs ls hc hE hb hH hS hl
  exact va_iald hc.1 hc.2.1 hH.2.1 hH.1 a 0 (by rw [zws_at (w := (n9, sh, mm)) ha, zcell_i (w := (n9, sh, mm)) hs]) rfl hin hd (kk p e s m args below meth c H locs ls hc hE hb hH hS hl)
theorem Z_ialn (pc' : Nat) {n9 : Nat} {sh : Nat → zK} {mm : zM} {a n jj : Nat} (hd : decode M.2.1 pc = .ok (.iaload, 1)) (hp : pc + 1 = pc') (ha : a < n9) (hs : sh a = .inl n) (hj : jj < n) (hn : n < 2 ^ 31) (kk : Z G M E Qf l k j (n9, sh, mm) pc' lv (.int (mm a jj) :: st)) : Z G M E Qf l k j (n9, sh, mm) pc lv (.int (nI jj) :: .ref (G.1 + a) :: st) := by
  refine Z_iald pc' hd hp ha hs (vp_inN hj hn) ?_
  rw [nI_clamp (by omega)]
  exact kk
theorem Z_iast (pc' : Nat) {n9 : Nat} {sh : Nat → zK} {mm : zM} {a n : Nat} {i v : Int32} (hd : decode M.2.1 pc = .ok (.iastore, 1)) (hp : pc + 1 = pc') (ha : a < n9) (hs : sh a = .inl n) (hin : vp_in i n) (kk : Z G M E Qf l k j (n9, sh, up2 mm a i.toNatClampNeg v) pc' lv st) : Z G M E Qf l k j (n9, sh, mm) pc lv (.int v :: .int i :: .ref (G.1 + a) :: st) := by
  subst hp
  intro p e s m args below meth c H locs ls hc hE hb hH hS hl
  have he : (zws G (n9, sh, mm))[a]? = some (G.1 + a, .inl (G.2.2.1, n, .inl (mm a))) := by rw [zws_at (w := (n9, sh, mm)) ha, zcell_i (w := (n9, sh, mm)) hs]
  refine W.iast hc.1 hc.2.1 (hH.1 a _ he) ((hH.2.1.2 0 _ rfl).1 n (fun j => .int (mm a j))) (fun q => by cases q) (by show ¬ (i < 0 ∨ (arrV _ _ _).slots.size ≤ _); rw [arrV_size]; exact hin) rfl rfl hd fun H1 e9 z oq => ?_
  have hP1 : va_P G.2.1 vwCl ((zws G (n9, sh, mm)).set a (G.1 + a, .inl (G.2.2.1, n, .inl (upd (mm a) i.toNatClampNeg v)))) H1 := by
    refine hH.1.set zws_D he ?_ oq
    show H1[G.1 + a]? = some (vp_cell _ _)
    rw [e9]
    rw [vp_cell_i, vp_cell_i, arrV_store]
    congr 2
    funext q
    by_cases hq : q = i.toNatClampNeg
    · subst hq
      simp [updV, upd]
    · simp [updV, upd, hq]
  refine kk p e s m args below meth c H1 _ ls hc hE hb ⟨?_, hH.2.1, z.trans hH.2.2⟩ (hS.put z oq (Nat.le_add_right _ _)) hl
  rw [zws_set (G := G) (w := (n9, sh, mm)) (w' := (n9, sh, up2 mm a i.toNatClampNeg v)) rfl ((zcell_i (w := (n9, sh, up2 mm a i.toNatClampNeg v)) hs).trans ?_) ?_] at hP1
  · exact hP1
  · refine congrArg (fun f => (Sum.inl (G.2.2.1, n, Sum.inl f) : va_E)) ?_
    funext z
    show up2 mm a i.toNatClampNeg v a z = _
    simp [up2, upd]
  · intro q9 hq9
    exact zcell_same rfl (up2_na _ _ _ hq9)
theorem Z_iasn (pc' : Nat) {n9 : Nat} {sh : Nat → zK} {mm : zM} {a n jj : Nat} {v : Int32} (hd : decode M.2.1 pc = .ok (.iastore, 1)) (hp : pc + 1 = pc') (ha : a < n9) (hs : sh a = .inl n) (hj : jj < n) (hn : n < 2 ^ 31) (kk : Z G M E Qf l k j (n9, sh, up2 mm a jj v) pc' lv st) : Z G M E Qf l k j (n9, sh, mm) pc lv (.int v :: .int (nI jj) :: .ref (G.1 + a) :: st) := by
  refine Z_iast pc' hd hp ha hs (vp_inN hj hn) ?_
  rw [nI_clamp (by omega)]
  exact kk
theorem Z_aaln (pc' : Nat) {n9 : Nat} {sh : Nat → zK} {mm : zM} {a n jj r : Nat} {y : Bool} {f : Nat → Option Nat} (hd : decode M.2.1 pc = .ok (.aaload, 1)) (hp : pc + 1 = pc') (ha : a < n9) (hs : sh a = .inr (.inl (y, n, f))) (hj : jj < n) (hn : n < 2 ^ 31) (hf : f jj = some r) (kk : Z G M E Qf l k j (n9, sh, mm) pc' lv (.ref (G.1 + r) :: st)) : Z G M E Qf l k j (n9, sh, mm) pc lv (.int (nI jj) :: .ref (G.1 + a) :: st) := by
  subst hp
  intro p e s m args below meth c H locs ls hc hE hb hH hS hl
  have he : (zws G (n9, sh, mm))[a]? = some (G.1 + a, .inl (if y then G.2.2.2.2 else G.2.2.2.1, n, .inr (.inr (.inr (.inr (fun j => (f j).map (fun q => G.1 + q))))))) := by rw [zws_at (w := (n9, sh, mm)) ha, zcell_r (w := (n9, sh, mm)) hs]
  have hcl : (nI jj).toNatClampNeg = jj := nI_clamp (by omega)
  have hv : va_rf ((f jj).map (fun q => G.1 + q)) = Value.ref (G.1 + r) := by rw [hf]; rfl
  cases y with
  | false => exact W.aald (v := .ref (G.1 + r)) (ty := .object RX1) hc.1 hc.2.1 (hH.1 a _ he) ((hH.2.1.2 1 _ rfl).1 n (fun j => va_rf ((f j).map (fun q => G.1 + q)))) rfl (fun q => by cases q) (by show ¬ (nI jj < 0 ∨ (arrV _ _ _).slots.size ≤ _); rw [arrV_size]; exact vp_inN hj hn) (by show (arrV _ _ _).slots[_]? = _; rw [hcl, arrV_read _ _ hj, hv]) rfl rfl hd (kk p e s m args below meth c H locs ls hc hE hb hH hS hl)
  | true => exact W.aald (v := .ref (G.1 + r)) (ty := .array .int) hc.1 hc.2.1 (hH.1 a _ he) ((hH.2.1.2 2 _ rfl).1 n (fun j => va_rf ((f j).map (fun q => G.1 + q)))) rfl (fun q => by cases q) (by show ¬ (nI jj < 0 ∨ (arrV _ _ _).slots.size ≤ _); rw [arrV_size]; exact vp_inN hj hn) (by show (arrV _ _ _).slots[_]? = _; rw [hcl, arrV_read _ _ hj, hv]) rfl rfl hd (kk p e s m args below meth c H locs ls hc hE hb hH hS hl)
theorem Z_aasn (pc' : Nat) {n9 : Nat} {sh : Nat → zK} {mm : zM} {a n jj r : Nat} {f : Nat → Option Nat} {rs : List (Option (Option Nat))} (hd : decode M.2.1 pc = .ok (.aastore, 1)) (hp : pc + 1 = pc') (ha : a < n9) (hs : sh a = .inr (.inl (false, n, f))) (hj : jj < n) (hn : n < 2 ^ 31) (hra : r < n9) (hrs : sh r = .inr (.inr (1, rs))) (kk : Z G M E Qf l k j (n9, (fun a9 => if a9 = a then .inr (.inl (false, n, fun j9 => if j9 = jj then some r else f j9)) else sh a9), mm) pc' lv st) : Z G M E Qf l k j (n9, sh, mm) pc lv (.ref (G.1 + r) :: .int (nI jj) :: .ref (G.1 + a) :: st) := by
  subst hp
  intro p e s m args below meth c H locs ls hc hE hb hH hS hl
  have he : (zws G (n9, sh, mm))[a]? = some (G.1 + a, .inl (G.2.2.2.1, n, .inr (.inr (.inr (.inr (fun j => (f j).map (fun q => G.1 + q))))))) := by rw [zws_at (w := (n9, sh, mm)) ha, zcell_r (w := (n9, sh, mm)) hs]; rfl
  have hv : (zws G (n9, sh, mm))[r]? = some (G.1 + r, .inr (1, flds G.1 (mm r) 0 rs)) := by rw [zws_at (w := (n9, sh, mm)) hra, zcell_o (w := (n9, sh, mm)) hrs]
  have hcl : (nI jj).toNatClampNeg = jj := nI_clamp (by omega)
  have h0 : ¬ nI jj < 0 := nI_pos (by omega)
  obtain ⟨r', hr', cellV, g1, g2, g3, -⟩ := hH.1 r _ hv
  have hcls := (hH.2.1.1 1 _ (rfl : vwCl[1]? = some (RX1, TX1, 14))).2
  obtain ⟨kA, comp, k1, k2, k3, -⟩ := (hH.2.1.2 1 _ rfl).2
  have hcomp : comp = G.2.1.1 1 := Option.some.inj (k3.symm.trans hcls.1)
  subst hcomp
  obtain ⟨kC, hkC, -⟩ := hcls.2
  refine W.aast hc.1 hc.2.1 (hH.1 a _ he) (fun q h => by cases h) (fun h => by cases h) k1 k2 rfl hkC ⟨h0, by show _ < (arrV _ _ _).slots.size; rw [arrV_size, hcl]; exact hj⟩ g1 (fun q h => by rw [g3] at h; cases h) (by rw [g2]; exact hkC) (by rw [g2]; exact va_assign hcls) rfl rfl hd fun H1 e9 z oq => ?_
  have hP1 : va_P G.2.1 vwCl ((zws G (n9, sh, mm)).set a (G.1 + a, .inl (G.2.2.2.1, n, .inr (.inr (.inr (.inr (fun j => (if j = jj then some r else f j).map (fun q => G.1 + q)))))))) H1 := by
    refine hH.1.set zws_D he ?_ oq
    show H1[G.1 + a]? = some (vp_cell _ _)
    rw [e9]
    rw [vp_cell_q, vp_cell_q, arrV_store, hcl]
    congr 2
    funext q
    by_cases hq : q = jj
    · subst hq
      simp [updV, va_rf]
    · simp [updV, hq]
  refine kk p e s m args below meth c H1 _ ls hc hE hb ⟨?_, hH.2.1, z.trans hH.2.2⟩ (hS.put z oq (Nat.le_add_right _ _)) hl
  have hz : zcell G (n9, (fun a9 => if a9 = a then .inr (.inl (false, n, fun j9 => if j9 = jj then some r else f j9)) else sh a9), mm) a = .inl (G.2.2.2.1, n, .inr (.inr (.inr (.inr (fun j => (if j = jj then some r else f j).map (fun q => G.1 + q)))))) := (zcell_r (y := false) (n := n) (f := fun j9 => if j9 = jj then some r else f j9) (by simp)).trans rfl
  rw [zws_set (G := G) (w := (n9, sh, mm)) (a := a) (w' := (n9, (fun a9 => if a9 = a then .inr (.inl (false, n, fun j9 => if j9 = jj then some r else f j9)) else sh a9), mm)) rfl hz ?_] at hP1
  · exact hP1
  · intro q9 hq9
    exact zcell_same (by simp [hq9]) rfl
theorem Z_alen (pc' : Nat) {n9 : Nat} {sh : Nat → zK} {mm : zM} {a n : Nat} (hd : decode M.2.1 pc = .ok (.arraylength, 1)) (hp : pc + 1 = pc') (ha : a < n9) (hs : sh a = .inl n) (kk : Z G M E Qf l k j (n9, sh, mm) pc' lv (.int (nI n) :: st)) : Z G M E Qf l k j (n9, sh, mm) pc lv (.ref (G.1 + a) :: st) := by
  subst hp
  intro p e s m args below meth c H locs ls hc hE hb hH hS hl
  exact va_alen hc.1 hc.2.1 hH.2.1 hH.1 a 0 (x := (n, .inl (mm a))) (by rw [zws_at (w := (n9, sh, mm)) ha, zcell_i (w := (n9, sh, mm)) hs]) rfl rfl hd (kk p e s m args below meth c H locs ls hc hE hb hH hS hl)
theorem Z_sld (pc' : Nat) {b9 L : Nat} {xs : Nat → Int32} {i : Int32} (hE9 : ∀ s, E s → va_X b9 L xs s s.heap ∧ b9 < s.heap.size ∧ b9 < G.1) (hd : decode M.2.1 pc = .ok (.iaload, 1)) (hp : pc + 1 = pc') (hin : vp_in i L) (kk : Z G M E Qf l k j w pc' lv (.int (xs i.toNatClampNeg) :: st)) : Z G M E Qf l k j w pc lv (.int i :: .ref b9 :: st) := by
  subst hp
  intro p e s m args below meth c H locs ls hc hE hb hH hS hl
  obtain ⟨g1, g2, g3⟩ := hE9 s hE
  exact va_sld hc.1 hc.2.1 g1 g2 (Nat.not_le.mpr g3) hS hin hd (kk p e s m args below meth c H locs ls hc hE hb hH hS hl)
theorem Z_slen (pc' : Nat) {b9 L : Nat} {xs : Nat → Int32} (hE9 : ∀ s, E s → va_X b9 L xs s s.heap ∧ b9 < s.heap.size ∧ b9 < G.1) (hd : decode M.2.1 pc = .ok (.arraylength, 1)) (hp : pc + 1 = pc') (kk : Z G M E Qf l k j w pc' lv (.int (nI L) :: st)) : Z G M E Qf l k j w pc lv (.ref b9 :: st) := by
  subst hp
  intro p e s m args below meth c H locs ls hc hE hb hH hS hl
  obtain ⟨g1, g2, g3⟩ := hE9 s hE
  exact va_slen hc.1 hc.2.1 g1 g2 (Nat.not_le.mpr g3) hS hd (kk p e s m args below meth c H locs ls hc hE hb hH hS hl)
theorem Z_min (pc' : Nat) {idx : Nat} {x y : Int32} (hd : decode M.2.1 pc = .ok (.invokestatic idx, 3)) (hp : pc + 3 = pc') (hk : Cond.methodLink M.1 idx Lib.Math.min.name ∈ lw_ok) (hk2 : Cond.static Lib.Math.min.name ∈ lw_ok ∧ Cond.initialized "java/lang/Math" ∈ lw_ok ∧ Cond.code Lib.Math.min.name Lib.Math.min.code 2 (some .int) ∈ lw_ok) (hR : 1 ≤ M.2.2.2.2.2.frames ∧ (st.map fun v => v.category).sum + 13 ≤ M.2.2.2.2.2.locals ∧ k ≤ M.2.2.2.2.2.cells ∧ j ≤ M.2.2.2.2.2.slots) (kk : Z G M E Qf l k j w pc' lv (.int (if y < x then y else x) :: st)) : Z G M E Qf l k j w pc lv (.int y :: .int x :: st) := by
  subst hp
  intro p e s m args below meth c H locs ls hc hE hb hH hS hl
  exact va_mmin hc.1 hc.2.1 (hc.2.2.1.trans hl.1.symm) hc.2.2.2.1 (hc.2.2.2.2.1 _ hk) (hc.2.2.2.2.1 _ hk2.1) (hc.2.2.2.2.1 _ hk2.2.1) (hc.2.2.2.2.1 _ hk2.2.2) hR.1 hR.2.1 hR.2.2.1 hR.2.2.2 hd (kk p e s m args below meth c H locs ls hc hE hb hH hS hl)
theorem Z_top {v v' : Value} (h : v = v') (kk : Z G M E Qf l k j w pc lv (v' :: st)) : Z G M E Qf l k j w pc lv (v :: st) := h ▸ kk
end ZR
/-- what a method's end says: the answer, the world then -/
def zQ (G : zG) (P : Option Value → zW → Prop) : Array Value → State → Outcome → State → Prop := fun _ st o t => (∃ (r : Option Value) (w' : zW), o = .returned r ∧ P r w' ∧ zH G w' t t.heap) ∧ va_F (fun q => G.1 ≤ q) st t
abbrev zN (G : zG) (P : Option Value → zW → Prop) (mc ms : Nat) : List Frame → Array Value → State → State → Prop := fun below args s => MQ below (zQ G P) args s mc ms (fun q => G.1 ≤ q)
/-- a contract: the method y, with bytes and room of M, on these arguments and this world -/
def zMet (G : zG) (l : Launch) (y : MethodName) (M : zD) (as : List Value) (w : zW) (P : Option Value → zW → Prop) (mc ms : Nat) : Prop :=
  Met l y (Cond.code y M.2.1 M.2.2.1 M.2.2.2.1 :: lw_ok) M.2.2.2.2.2 (va_Pc as (fun U => zH G w U U.heap ∧ zX U)) (zQ G P) mc ms (fun q => G.1 ≤ q)
theorem lw_good : lw_ok.all goodWord = true := by
  unfold lw_ok
  rw [List.all_eq_true]
  intro w hw
  exact (List.mem_filter.mp hw).2
theorem zgood {y : MethodName} {M : zD} (h : Cond.code y M.2.1 M.2.2.1 M.2.2.2.1 ∈ lw_ok) : GoodIn lw_ok (Cond.code y M.2.1 M.2.2.1 M.2.2.2.1 :: lw_ok) := by
  have key : ∀ w ∈ lw_ok, w ∈ lw_ok ∧ ((w.onTables && w.keeps) = true ∨ ∃ ty, w = .arrayClass ty) := fun w hw => ⟨hw, good_of_word (List.all_eq_true.mp lw_good w hw)⟩
  intro w hw
  rcases List.mem_cons.mp hw with e | hw
  · rw [e]
    exact key _ h
  · exact key w hw
/-- what the tables must hold for a call -/
def zY (own : String) (idx : Nat) (y : MethodName) (M : zD) (n : Nat) : Prop := Cond.methodLink own idx y ∈ lw_ok ∧ Cond.initialized y.cls ∈ lw_ok ∧ Cond.code y M.2.1 M.2.2.1 M.2.2.2.1 ∈ lw_ok ∧ (y.cls ≠ "java/lang/invoke/MethodHandle" ∧ y.cls ≠ "java/lang/invoke/VarHandle" ∧ (parseMethodDescriptor y.desc).map (fun d => d.parameters.length) = some n)
section ZCR
variable {G : zG} {M : zD} {E : State → Prop} {Qf : List Frame → Array Value → State → State → Prop} {l : Launch} {k j : Nat} {w : zW} {pc : Nat} {lv : List (Nat × Value)} {st : List Value}
theorem zMet_of {y : MethodName} {as : List Value} {P : Option Value → zW → Prop} {mc ms : Nat} (lv : List (Nat × Value)) (hy : plainName y.cls = true) (ho : y.cls = M.1) (hn : M.2.2.2.2.1 = "" ∨ y.name = M.2.2.2.2.1) (hlen : (lg_sl as).length ≤ M.2.2.1) (hlv : lv_args 0 as = lv)
    (kk : Z G M (fun _ => True) (zN G P mc ms) l 0 0 w 0 lv []) : zMet G l y M as w P mc ms := by
  refine Met.ofW (cc := M.2.1) (maxL := M.2.2.1) (ret := M.2.2.2.1) hy rfl ?_
  intro p e s m args below meth c s₁ B hml hv
  obtain ⟨rfl, hH, hX⟩ := hv
  have hts := atoms_spec (ws := Cond.code y M.2.1 M.2.2.1 M.2.2.2.1 :: lw_ok) B.pre
  rw [lg_entry_eq]
  refine kk p e s m _ below meth c s.heap [] _ ⟨B.exec, B.bytes, hml, by rw [← ho]; exact findClass_of_methodNamed B.named, fun w hw => hts w (List.mem_cons_of_mem _ hw), B.returns, B.notSynchronized, ?_, hX⟩ trivial (by rw [hH.2.2]; exact Nat.le_add_right _ _) hH va_S.rf (by rw [← hlv]; exact lv_entry as hlen)
  rcases hn with h | h
  · exact Or.inl h
  · right
    rw [← h]
    exact (name_of_methodNamed B.named B.method).1
theorem zCore {st0 : List Value} {a : Array Value} {P : Option Value → zW → Prop} {mc ms : Nat} {p : Program} {e : Env} {s : State} {m : MethodId} {args : Array Value} {below : List Frame} {meth : Method} {c : Code} {H : Heap} {locs : List Loc} {ls : Array Slot}
    (hc : zC M p s m args meth c) (hE : E s) (hb : G.1 ≤ s.heap.size) (hH : zH G w s H) (hS : va_S (fun q => G.1 ≤ q) s.heap H locs) (hl : lv_has ls M.2.2.1 lv)
    (hr : va_Run p l e M.2.2.2.2.2 s m args below meth c H locs k j mc ms (F0 m pc ls st0) st (zQ G P a) (fun q => G.1 ≤ q))
    (kk : ∀ (r : Option Value) (w' : zW), P r w' → Z G M E Qf l (k + mc) (j + ms) w' (pc + 3) lv (r.toList ++ st)) : W p l e M.2.2.2.2.2 s m args below meth c H locs k j (Qf below args s) (F0 m pc ls st0) := by
  intro T hT X
  obtain ⟨v, st₀, t, T', L, h0, X', hL, e1, e2, ⟨⟨r, w', hv, hP, hH'⟩, hz, hk⟩, stp⟩ := hr T hT X
  cases hv
  rw [h0] at hz hk
  have hal : t.vm.Alike s.vm := by
    have := X'.warmed.alike
    rw [e2] at this
    exact this.symm
  obtain ⟨t2, a1, b1⟩ := kk v w' hP p e s m args below meth c T'.heap (locs ++ L) ls hc hE hb (by rw [e1]; exact hH'.moved hal)
    ⟨Nat.le_trans hS.1 (by rw [e1]; exact hz), fun q h1 h2 => by rw [e1, hk q (Nat.lt_of_lt_of_le h1 hS.1) h2]; exact hS.2.1 q h1 h2, fun q hq => by
      rcases List.mem_append.mp hq with h | h
      · exact hS.2.2 q h
      · exact hL q h⟩ hl T' rfl X'
  exact ⟨t2, stp t2 a1, b1⟩
theorem Z_callV (pc' : Nat) {idx n a : Nat} {y : MethodName} {M2 : zD} (As : List Value) {st0 : List Value} {rs : List (Option (Option Nat))} {P : Option Value → zW → Prop} {mc ms : Nat} (ci : Nat) (hM : zMet G l y M2 (.ref (G.1 + a) :: As) w P mc ms) (hd : decode M.2.1 pc = .ok (.invokevirtual idx, 3)) (hp : pc + 3 = pc') (hq : zY M.1 idx y M2 n) (hq2 : Cond.instanceMethod y ∈ lw_ok ∧ Cond.selects y.cls y y ∈ lw_ok) (hst : st0 = As.reverse ++ .ref (G.1 + a) :: st) (hn : As.length = n) (ha : a < w.1) (hs : w.2.1 a = .inr (.inr (ci, rs))) (hci : (vwCl[ci]?).map (fun q => q.1) = some y.cls) (hroom : M2.2.2.2.2.2.frames + 1 ≤ M.2.2.2.2.2.frames ∧ 8 + (M2.2.2.1 + 11) + M2.2.2.2.2.2.locals ≤ M.2.2.2.2.2.locals) (hcat : (st.map fun v => v.category).sum ≤ 8) (hrc : M2.2.2.2.2.2.cells = mc ∧ M2.2.2.2.2.2.slots = ms) (hf : k + mc ≤ M.2.2.2.2.2.cells ∧ j + ms ≤ M.2.2.2.2.2.slots) (kk : ∀ (r : Option Value) (w' : zW), P r w' → Z G M E Qf l (k + mc) (j + ms) w' pc' lv (r.toList ++ st)) : Z G M E Qf l k j w pc lv st0 := by
  subst hp
  intro p e s m args below meth c H locs ls hc hE hb hH hS hl
  have hts := hc.2.2.2.2.1
  obtain ⟨r9, g1, g2⟩ : ∃ r9 : vw_C, vwCl[ci]? = some r9 ∧ r9.1 = y.cls := by
    cases hv : vwCl[ci]? with
    | none => rw [hv] at hci; cases hci
    | some r9 => rw [hv] at hci; exact ⟨r9, rfl, Option.some.inj hci⟩
  have he : (zws G w)[a]? = some (G.1 + a, .inr (ci, flds G.1 (w.2.2 a) 0 rs)) := by rw [zws_at ha, zcell_o hs]
  refine zCore hc hE hb hH hS hl (va_runV (C := y.cls) (As := As) (rest := st) (n := n) ⟨hc.1, hc.2.1, hc.2.2.1, hc.2.2.2.1, hts⟩ hM ⟨callB_of n hts (zgood hq.2.2.1) rfl hrc.1 hrc.2 (hts _ hq.2.1) (hts _ hq.1) hq.2.2.2 hroom, hts _ hq2.1, hts _ hq2.2⟩ ⟨fun a U g mk q => ⟨q.1, q.2.1.moved (u := U) (U := U.calling g mk a) (Vm.Alike.refl U.vm), q.2.2.same (U := U.calling g mk a) rfl⟩, ?_, fun U hU hW => ⟨rfl, by show zH G w U U.heap; rw [hU]; exact hH.moved hW.alike, hc.2.2.2.2.2.2.2.2.warm hW⟩⟩ rfl hn hl.1 hst (lv_room hcat) hd hf) kk
  have := va_recv hH.2.1 hH.1 g1 he
  rw [g2] at this
  exact this
theorem Z_callS (pc' : Nat) {idx n : Nat} {y : MethodName} {M2 : zD} (As : List Value) {st0 : List Value} {P : Option Value → zW → Prop} {mc ms : Nat} (hM : zMet G l y M2 As w P mc ms) (hd : decode M.2.1 pc = .ok (.invokestatic idx, 3)) (hp : pc + 3 = pc') (hq : zY M.1 idx y M2 n) (hq2 : Cond.static y ∈ lw_ok) (hst : st0 = As.reverse ++ st) (hn : As.length = n) (hroom : M2.2.2.2.2.2.frames + 1 ≤ M.2.2.2.2.2.frames ∧ 8 + (M2.2.2.1 + 11) + M2.2.2.2.2.2.locals ≤ M.2.2.2.2.2.locals) (hcat : (st.map fun v => v.category).sum ≤ 8) (hrc : M2.2.2.2.2.2.cells = mc ∧ M2.2.2.2.2.2.slots = ms) (hf : k + mc ≤ M.2.2.2.2.2.cells ∧ j + ms ≤ M.2.2.2.2.2.slots) (kk : ∀ (r : Option Value) (w' : zW), P r w' → Z G M E Qf l (k + mc) (j + ms) w' pc' lv (r.toList ++ st)) : Z G M E Qf l k j w pc lv st0 := by
  subst hp
  intro p e s m args below meth c H locs ls hc hE hb hH hS hl
  have hts := hc.2.2.2.2.1
  exact zCore hc hE hb hH hS hl (va_runS (As := As) (rest := st) (n := n) ⟨hc.1, hc.2.1, hc.2.2.1, hc.2.2.2.1, hts⟩ hM ⟨callB_of n hts (zgood hq.2.2.1) rfl hrc.1 hrc.2 (hts _ hq.2.1) (hts _ hq.1) hq.2.2.2 hroom, hts _ hq2⟩ ⟨fun a U g mk q => ⟨q.1, q.2.1.moved (u := U) (U := U.calling g mk a) (Vm.Alike.refl U.vm), q.2.2.same (U := U.calling g mk a) rfl⟩, fun U hU hW => ⟨rfl, by show zH G w U U.heap; rw [hU]; exact hH.moved hW.alike, hc.2.2.2.2.2.2.2.2.warm hW⟩⟩ rfl hn hl.1 hst (lv_room hcat) hd hf) kk
theorem Z_callI (pc' : Nat) {idx n a : Nat} {y : MethodName} {M2 : zD} (As : List Value) {st0 : List Value} {P : Option Value → zW → Prop} {mc ms : Nat} (hM : zMet G l y M2 (.ref (G.1 + a) :: As) w P mc ms) (hret : M2.2.2.2.1 = none) (hd : decode M.2.1 pc = .ok (.invokespecial idx, 3)) (hp : pc + 3 = pc') (hq : zY M.1 idx y M2 n) (hq2 : y.name = "<init>" ∧ Cond.instanceMethod y ∈ lw_ok) (hst : st0 = As.reverse ++ .ref (G.1 + a) :: st) (hn : As.length = n) (hroom : M2.2.2.2.2.2.frames + 1 ≤ M.2.2.2.2.2.frames ∧ 8 + (M2.2.2.1 + 11) + M2.2.2.2.2.2.locals ≤ M.2.2.2.2.2.locals) (hcat : (st.map fun v => v.category).sum ≤ 8) (hrc : M2.2.2.2.2.2.cells = mc ∧ M2.2.2.2.2.2.slots = ms) (hf : k + mc ≤ M.2.2.2.2.2.cells ∧ j + ms ≤ M.2.2.2.2.2.slots) (kk : ∀ (r : Option Value) (w' : zW), P r w' → Z G M E Qf l (k + mc) (j + ms) w' pc' lv (r.toList ++ st)) : Z G M E Qf l k j w pc lv st0 := by
  subst hp
  intro p e s m args below meth c H locs ls hc hE hb hH hS hl
  have hts := hc.2.2.2.2.1
  obtain ⟨o2, b2, n2, r2, nm2, R2⟩ := M2
  cases (show r2 = none from hret)
  exact zCore hc hE hb hH hS hl (va_runI (As := As) (rest := st) (n := n) ⟨hc.1, hc.2.1, hc.2.2.1, hc.2.2.2.1, hts⟩ hM ⟨callB_of n hts (zgood (M := (o2, b2, n2, none, nm2, R2)) hq.2.2.1) rfl hrc.1 hrc.2 (hts _ hq.2.1) (hts _ hq.1) hq.2.2.2 hroom, hq2.1, hts _ hq2.2⟩ ⟨fun a U g mk q => ⟨q.1, q.2.1.moved (u := U) (U := U.calling g mk a) (Vm.Alike.refl U.vm), q.2.2.same (U := U.calling g mk a) rfl⟩, fun U hU hW => ⟨rfl, by show zH G w U U.heap; rw [hU]; exact hH.moved hW.alike, hc.2.2.2.2.2.2.2.2.warm hW⟩⟩ rfl hn hl.1 hst (lv_room hcat) hd hf) kk
theorem Z_objInit (pc' : Nat) {idx a : Nat} (hd : decode M.2.1 pc = .ok (.invokespecial idx, 3)) (hp : pc + 3 = pc') (hk : Cond.methodLink M.1 idx objectInit ∈ lw_ok ∧ Cond.instanceMethod objectInit ∈ lw_ok ∧ Cond.code objectInit ⟨#[0xb1]⟩ 1 none ∈ lw_ok) (hR : 1 ≤ M.2.2.2.2.2.frames ∧ 12 ≤ M.2.2.2.2.2.locals) (hz : st = []) (hsl : k ≤ M.2.2.2.2.2.cells ∧ j ≤ M.2.2.2.2.2.slots) (kk : Z G M E Qf l k j w pc' lv []) : Z G M E Qf l k j w pc lv (.ref (G.1 + a) :: st) := by
  subst hp
  subst hz
  intro p e s m args below meth c H locs ls hc hE hb hH hS hl
  have hts := hc.2.2.2.2.1
  refine W.objInit hc.1 hc.2.1 hc.2.2.2.1 (hts _ hk.1) (hts _ hk.2.1) (hts _ hk.2.2) rfl (by rw [hc.2.2.1]; exact hl.1) rfl hd hR.1 ?_ ?_
  · exact hR.2
  · exact kk p e s m args below meth c H locs ls hc hE hb hH hS hl
theorem Z_iret {P : Option Value → zW → Prop} {v : Int32} (hd : decode M.2.1 pc = .ok (.ireturn, 1)) (hr : M.2.2.2.1 = some .int) (hP : P (some (.int v)) w) : Z G M E (zN G P k j) l k j w pc lv [.int v] := by
  intro p e s m args below meth c H locs ls hc hE hb hH hS hl
  exact W.iret hc.1 hc.2.1 (hc.2.2.2.2.2.1.trans hr) (fun t ht hW => ⟨⟨_, w, rfl, hP, by rw [ht]; exact hH.moved hW.alike⟩, hS.F ht⟩) hS.2.2 hd hc.2.2.2.2.2.2.1
theorem Z_dret {P : Option Value → zW → Prop} {v : UInt64} (hd : decode M.2.1 pc = .ok (.dreturn, 1)) (hr : M.2.2.2.1 = some .double) (hP : P (some (.double v)) w) : Z G M E (zN G P k j) l k j w pc lv [.double v] := by
  intro p e s m args below meth c H locs ls hc hE hb hH hS hl
  exact W.dret hc.1 hc.2.1 (hc.2.2.2.2.2.1.trans hr) (fun t ht hW => ⟨⟨_, w, rfl, hP, by rw [ht]; exact hH.moved hW.alike⟩, hS.F ht⟩) hS.2.2 hd hc.2.2.2.2.2.2.1
theorem Z_zret {P : Option Value → zW → Prop} {v : Int32} (hd : decode M.2.1 pc = .ok (.ireturn, 1)) (hr : M.2.2.2.1 = some .boolean) (hv : v = 0 ∨ v = 1) (hP : P (some (.int v)) w) : Z G M E (zN G P k j) l k j w pc lv [.int v] := by
  intro p e s m args below meth c H locs ls hc hE hb hH hS hl
  exact W.zret hc.1 hc.2.1 (hc.2.2.2.2.2.1.trans hr) (by rcases hv with rfl | rfl <;> rfl) (fun t ht hW => ⟨⟨_, w, rfl, hP, by rw [ht]; exact hH.moved hW.alike⟩, hS.F ht⟩) hS.2.2 hd hc.2.2.2.2.2.2.1
theorem Z_vret {P : Option Value → zW → Prop} (hd : decode M.2.1 pc = .ok (.return_, 1)) (hr : M.2.2.2.1 = none) (hP : P none w) : Z G M E (zN G P k j) l k j w pc lv [] := by
  intro p e s m args below meth c H locs ls hc hE hb hH hS hl
  exact W.vret hc.1 hc.2.1 (hc.2.2.2.2.2.1.trans hr) (fun t ht hW => ⟨⟨_, w, rfl, hP, by rw [ht]; exact hH.moved hW.alike⟩, hS.F ht⟩) hS.2.2 hd hc.2.2.2.2.2.2.1
end ZCR
end
section
theorem lw_ins {ws : List Cond} (ps : List Nat) (hp : ws = ps.filterMap (fun i => lw_tbl[i]?)) (h : ws.all goodWord = true) : ∀ w ∈ ws, w ∈ lw_ok := by
  intro w hw
  have hg := List.all_eq_true.mp h w hw
  rw [hp] at hw
  obtain ⟨i, -, hi⟩ := List.mem_filterMap.mp hw
  exact List.mem_filter.mpr ⟨List.mem_of_getElem? hi, hg⟩
theorem inK_0 : ∀ w ∈ u_ws RX0 TX0 10, w ∈ lw_ok := lw_ins [149, 151, 153, 155, 157, 159, 161, 163, 165, 167] (by decide +kernel) (by decide +kernel)
theorem inK_1 : ∀ w ∈ u_ws RX1 TX1 14, w ∈ lw_ok := lw_ins [76, 78, 80, 82, 84, 86, 88, 90, 92, 94, 96, 98, 100, 102] (by decide +kernel) (by decide +kernel)
theorem inK_2 : ∀ w ∈ u_ws RX2 TX2 3, w ∈ lw_ok := lw_ins [119, 121, 123] (by decide +kernel) (by decide +kernel)
theorem inK_3 : ∀ w ∈ u_ws RX3 TX3 10, w ∈ lw_ok := lw_ins [180, 182, 184, 186, 188, 190, 192, 194, 196, 198] (by decide +kernel) (by decide +kernel)
theorem fX1_9 : zF RX1 9 1 0 := ⟨RX1, TX1, 14, tyX1, rfl, by decide, lw_in 43 (by decide +kernel) (by decide +kernel), inK_1, tyX1_ok, nmX1⟩
theorem fX3_44 : zF RX3 44 1 0 := ⟨RX1, TX1, 14, tyX1, rfl, by decide, lw_in 44 (by decide +kernel) (by decide +kernel), inK_1, tyX1_ok, nmX1⟩
theorem fX2_64 : zF RX2 64 1 0 := ⟨RX1, TX1, 14, tyX1, rfl, by decide, lw_in 45 (by decide +kernel) (by decide +kernel), inK_1, tyX1_ok, nmX1⟩
theorem fX1_15 : zF RX1 15 1 1 := ⟨RX1, TX1, 14, tyX1, rfl, by decide, lw_in 46 (by decide +kernel) (by decide +kernel), inK_1, tyX1_ok, nmX1⟩
theorem fX3_48 : zF RX3 48 1 1 := ⟨RX1, TX1, 14, tyX1, rfl, by decide, lw_in 47 (by decide +kernel) (by decide +kernel), inK_1, tyX1_ok, nmX1⟩
theorem fX1_18 : zF RX1 18 1 2 := ⟨RX1, TX1, 14, tyX1, rfl, by decide, lw_in 48 (by decide +kernel) (by decide +kernel), inK_1, tyX1_ok, nmX1⟩
theorem fX3_51 : zF RX3 51 1 2 := ⟨RX1, TX1, 14, tyX1, rfl, by decide, lw_in 49 (by decide +kernel) (by decide +kernel), inK_1, tyX1_ok, nmX1⟩
theorem fX1_21 : zF RX1 21 1 3 := ⟨RX1, TX1, 14, tyX1, rfl, by decide, lw_in 50 (by decide +kernel) (by decide +kernel), inK_1, tyX1_ok, nmX1⟩
theorem fX3_147 : zF RX3 147 1 3 := ⟨RX1, TX1, 14, tyX1, rfl, by decide, lw_in 51 (by decide +kernel) (by decide +kernel), inK_1, tyX1_ok, nmX1⟩
theorem fX1_24 : zF RX1 24 1 4 := ⟨RX1, TX1, 14, tyX1, rfl, by decide, lw_in 52 (by decide +kernel) (by decide +kernel), inK_1, tyX1_ok, nmX1⟩
theorem fX2_34 : zF RX2 34 1 4 := ⟨RX1, TX1, 14, tyX1, rfl, by decide, lw_in 53 (by decide +kernel) (by decide +kernel), inK_1, tyX1_ok, nmX1⟩
theorem fX3_150 : zF RX3 150 1 4 := ⟨RX1, TX1, 14, tyX1, rfl, by decide, lw_in 54 (by decide +kernel) (by decide +kernel), inK_1, tyX1_ok, nmX1⟩
theorem fX1_27 : zF RX1 27 1 5 := ⟨RX1, TX1, 14, tyX1, rfl, by decide, lw_in 55 (by decide +kernel) (by decide +kernel), inK_1, tyX1_ok, nmX1⟩
theorem fX2_41 : zF RX2 41 1 5 := ⟨RX1, TX1, 14, tyX1, rfl, by decide, lw_in 56 (by decide +kernel) (by decide +kernel), inK_1, tyX1_ok, nmX1⟩
theorem fX3_153 : zF RX3 153 1 5 := ⟨RX1, TX1, 14, tyX1, rfl, by decide, lw_in 57 (by decide +kernel) (by decide +kernel), inK_1, tyX1_ok, nmX1⟩
theorem fX1_30 : zF RX1 30 1 6 := ⟨RX1, TX1, 14, tyX1, rfl, by decide, lw_in 58 (by decide +kernel) (by decide +kernel), inK_1, tyX1_ok, nmX1⟩
theorem fX2_44 : zF RX2 44 1 6 := ⟨RX1, TX1, 14, tyX1, rfl, by decide, lw_in 59 (by decide +kernel) (by decide +kernel), inK_1, tyX1_ok, nmX1⟩
theorem fX3_156 : zF RX3 156 1 6 := ⟨RX1, TX1, 14, tyX1, rfl, by decide, lw_in 60 (by decide +kernel) (by decide +kernel), inK_1, tyX1_ok, nmX1⟩
theorem fX1_33 : zF RX1 33 1 7 := ⟨RX1, TX1, 14, tyX1, rfl, by decide, lw_in 61 (by decide +kernel) (by decide +kernel), inK_1, tyX1_ok, nmX1⟩
theorem fX3_110 : zF RX3 110 1 7 := ⟨RX1, TX1, 14, tyX1, rfl, by decide, lw_in 62 (by decide +kernel) (by decide +kernel), inK_1, tyX1_ok, nmX1⟩
theorem fX1_40 : zF RX1 40 1 8 := ⟨RX1, TX1, 14, tyX1, rfl, by decide, lw_in 63 (by decide +kernel) (by decide +kernel), inK_1, tyX1_ok, nmX1⟩
theorem fX2_28 : zF RX2 28 1 8 := ⟨RX1, TX1, 14, tyX1, rfl, by decide, lw_in 64 (by decide +kernel) (by decide +kernel), inK_1, tyX1_ok, nmX1⟩
theorem fX3_101 : zF RX3 101 1 8 := ⟨RX1, TX1, 14, tyX1, rfl, by decide, lw_in 65 (by decide +kernel) (by decide +kernel), inK_1, tyX1_ok, nmX1⟩
theorem fX1_43 : zF RX1 43 1 9 := ⟨RX1, TX1, 14, tyX1, rfl, by decide, lw_in 66 (by decide +kernel) (by decide +kernel), inK_1, tyX1_ok, nmX1⟩
theorem fX3_54 : zF RX3 54 1 9 := ⟨RX1, TX1, 14, tyX1, rfl, by decide, lw_in 67 (by decide +kernel) (by decide +kernel), inK_1, tyX1_ok, nmX1⟩
theorem fX1_36 : zF RX1 36 1 10 := ⟨RX1, TX1, 14, tyX1, rfl, by decide, lw_in 68 (by decide +kernel) (by decide +kernel), inK_1, tyX1_ok, nmX1⟩
theorem fX3_107 : zF RX3 107 1 10 := ⟨RX1, TX1, 14, tyX1, rfl, by decide, lw_in 69 (by decide +kernel) (by decide +kernel), inK_1, tyX1_ok, nmX1⟩
theorem fX1_46 : zF RX1 46 1 11 := ⟨RX1, TX1, 14, tyX1, rfl, by decide, lw_in 70 (by decide +kernel) (by decide +kernel), inK_1, tyX1_ok, nmX1⟩
theorem fX3_191 : zF RX3 191 1 11 := ⟨RX1, TX1, 14, tyX1, rfl, by decide, lw_in 71 (by decide +kernel) (by decide +kernel), inK_1, tyX1_ok, nmX1⟩
theorem fX1_49 : zF RX1 49 1 12 := ⟨RX1, TX1, 14, tyX1, rfl, by decide, lw_in 72 (by decide +kernel) (by decide +kernel), inK_1, tyX1_ok, nmX1⟩
theorem fX3_194 : zF RX3 194 1 12 := ⟨RX1, TX1, 14, tyX1, rfl, by decide, lw_in 73 (by decide +kernel) (by decide +kernel), inK_1, tyX1_ok, nmX1⟩
theorem fX1_52 : zF RX1 52 1 13 := ⟨RX1, TX1, 14, tyX1, rfl, by decide, lw_in 74 (by decide +kernel) (by decide +kernel), inK_1, tyX1_ok, nmX1⟩
theorem fX3_197 : zF RX3 197 1 13 := ⟨RX1, TX1, 14, tyX1, rfl, by decide, lw_in 75 (by decide +kernel) (by decide +kernel), inK_1, tyX1_ok, nmX1⟩
theorem fX2_9 : zF RX2 9 2 0 := ⟨RX2, TX2, 3, tyX2, rfl, by decide, lw_in 115 (by decide +kernel) (by decide +kernel), inK_2, tyX2_ok, nmX2⟩
theorem fX3_77 : zF RX3 77 2 0 := ⟨RX2, TX2, 3, tyX2, rfl, by decide, lw_in 116 (by decide +kernel) (by decide +kernel), inK_2, tyX2_ok, nmX2⟩
theorem fX2_15 : zF RX2 15 2 1 := ⟨RX2, TX2, 3, tyX2, rfl, by decide, lw_in 117 (by decide +kernel) (by decide +kernel), inK_2, tyX2_ok, nmX2⟩
theorem fX2_20 : zF RX2 20 2 2 := ⟨RX2, TX2, 3, tyX2, rfl, by decide, lw_in 118 (by decide +kernel) (by decide +kernel), inK_2, tyX2_ok, nmX2⟩
theorem fX0_9 : zF RX0 9 0 0 := ⟨RX0, TX0, 10, tyX0, rfl, by decide, lw_in 132 (by decide +kernel) (by decide +kernel), inK_0, tyX0_ok, nmX0⟩
theorem fX3_119 : zF RX3 119 0 0 := ⟨RX0, TX0, 10, tyX0, rfl, by decide, lw_in 133 (by decide +kernel) (by decide +kernel), inK_0, tyX0_ok, nmX0⟩
theorem fX0_31 : zF RX0 31 0 1 := ⟨RX0, TX0, 10, tyX0, rfl, by decide, lw_in 134 (by decide +kernel) (by decide +kernel), inK_0, tyX0_ok, nmX0⟩
theorem fX3_116 : zF RX3 116 0 1 := ⟨RX0, TX0, 10, tyX0, rfl, by decide, lw_in 135 (by decide +kernel) (by decide +kernel), inK_0, tyX0_ok, nmX0⟩
theorem fX0_15 : zF RX0 15 0 2 := ⟨RX0, TX0, 10, tyX0, rfl, by decide, lw_in 136 (by decide +kernel) (by decide +kernel), inK_0, tyX0_ok, nmX0⟩
theorem fX3_138 : zF RX3 138 0 2 := ⟨RX0, TX0, 10, tyX0, rfl, by decide, lw_in 137 (by decide +kernel) (by decide +kernel), inK_0, tyX0_ok, nmX0⟩
theorem fX0_18 : zF RX0 18 0 3 := ⟨RX0, TX0, 10, tyX0, rfl, by decide, lw_in 138 (by decide +kernel) (by decide +kernel), inK_0, tyX0_ok, nmX0⟩
theorem fX3_225 : zF RX3 225 0 3 := ⟨RX0, TX0, 10, tyX0, rfl, by decide, lw_in 139 (by decide +kernel) (by decide +kernel), inK_0, tyX0_ok, nmX0⟩
theorem fX0_21 : zF RX0 21 0 4 := ⟨RX0, TX0, 10, tyX0, rfl, by decide, lw_in 140 (by decide +kernel) (by decide +kernel), inK_0, tyX0_ok, nmX0⟩
theorem fX3_226 : zF RX3 226 0 4 := ⟨RX0, TX0, 10, tyX0, rfl, by decide, lw_in 141 (by decide +kernel) (by decide +kernel), inK_0, tyX0_ok, nmX0⟩
theorem fX0_24 : zF RX0 24 0 5 := ⟨RX0, TX0, 10, tyX0, rfl, by decide, lw_in 142 (by decide +kernel) (by decide +kernel), inK_0, tyX0_ok, nmX0⟩
theorem fX3_227 : zF RX3 227 0 5 := ⟨RX0, TX0, 10, tyX0, rfl, by decide, lw_in 143 (by decide +kernel) (by decide +kernel), inK_0, tyX0_ok, nmX0⟩
theorem fX0_27 : zF RX0 27 0 6 := ⟨RX0, TX0, 10, tyX0, rfl, by decide, lw_in 144 (by decide +kernel) (by decide +kernel), inK_0, tyX0_ok, nmX0⟩
theorem fX3_129 : zF RX3 129 0 6 := ⟨RX0, TX0, 10, tyX0, rfl, by decide, lw_in 145 (by decide +kernel) (by decide +kernel), inK_0, tyX0_ok, nmX0⟩
theorem fX0_58 : zF RX0 58 0 7 := ⟨RX0, TX0, 10, tyX0, rfl, by decide, lw_in 146 (by decide +kernel) (by decide +kernel), inK_0, tyX0_ok, nmX0⟩
theorem fX0_61 : zF RX0 61 0 8 := ⟨RX0, TX0, 10, tyX0, rfl, by decide, lw_in 147 (by decide +kernel) (by decide +kernel), inK_0, tyX0_ok, nmX0⟩
theorem fX0_64 : zF RX0 64 0 9 := ⟨RX0, TX0, 10, tyX0, rfl, by decide, lw_in 148 (by decide +kernel) (by decide +kernel), inK_0, tyX0_ok, nmX0⟩
theorem fX3_10 : zF RX3 10 3 0 := ⟨RX3, TX3, 10, tyX3, rfl, by decide, lw_in 170 (by decide +kernel) (by decide +kernel), inK_3, tyX3_ok, nmX3⟩
theorem fX3_16 : zF RX3 16 3 1 := ⟨RX3, TX3, 10, tyX3, rfl, by decide, lw_in 171 (by decide +kernel) (by decide +kernel), inK_3, tyX3_ok, nmX3⟩
theorem fX3_19 : zF RX3 19 3 2 := ⟨RX3, TX3, 10, tyX3, rfl, by decide, lw_in 172 (by decide +kernel) (by decide +kernel), inK_3, tyX3_ok, nmX3⟩
theorem fX3_26 : zF RX3 26 3 3 := ⟨RX3, TX3, 10, tyX3, rfl, by decide, lw_in 173 (by decide +kernel) (by decide +kernel), inK_3, tyX3_ok, nmX3⟩
theorem fX3_33 : zF RX3 33 3 4 := ⟨RX3, TX3, 10, tyX3, rfl, by decide, lw_in 174 (by decide +kernel) (by decide +kernel), inK_3, tyX3_ok, nmX3⟩
theorem fX3_200 : zF RX3 200 3 5 := ⟨RX3, TX3, 10, tyX3, rfl, by decide, lw_in 175 (by decide +kernel) (by decide +kernel), inK_3, tyX3_ok, nmX3⟩
theorem fX3_214 : zF RX3 214 3 6 := ⟨RX3, TX3, 10, tyX3, rfl, by decide, lw_in 176 (by decide +kernel) (by decide +kernel), inK_3, tyX3_ok, nmX3⟩
theorem fX3_126 : zF RX3 126 3 7 := ⟨RX3, TX3, 10, tyX3, rfl, by decide, lw_in 177 (by decide +kernel) (by decide +kernel), inK_3, tyX3_ok, nmX3⟩
theorem fX3_135 : zF RX3 135 3 8 := ⟨RX3, TX3, 10, tyX3, rfl, by decide, lw_in 178 (by decide +kernel) (by decide +kernel), inK_3, tyX3_ok, nmX3⟩
theorem fX3_141 : zF RX3 141 3 9 := ⟨RX3, TX3, 10, tyX3, rfl, by decide, lw_in 179 (by decide +kernel) (by decide +kernel), inK_3, tyX3_ok, nmX3⟩
theorem fr_0_0 : zFt 0 0 (fun f => f.1 = RX0 ∧ f.2.2.2 = true ∧ parseFieldDescriptor f.2.2.1 = some (.array .int)) := by
  intro r hr
  cases hr
  exact ⟨rfl, rfl, by decide +kernel⟩
theorem ft_0_1 : zFt 0 1 (fun f => f.2.2.2 = false ∧ parseFieldDescriptor f.2.2.1 = some .int) := by
  intro r hr
  cases hr
  exact ⟨rfl, by decide +kernel⟩
theorem fr_0_2 : zFt 0 2 (fun f => f.1 = RX0 ∧ f.2.2.2 = true ∧ parseFieldDescriptor f.2.2.1 = some (.array .int)) := by
  intro r hr
  cases hr
  exact ⟨rfl, rfl, by decide +kernel⟩
theorem fr_0_3 : zFt 0 3 (fun f => f.1 = RX0 ∧ f.2.2.2 = true ∧ parseFieldDescriptor f.2.2.1 = some (.array .int)) := by
  intro r hr
  cases hr
  exact ⟨rfl, rfl, by decide +kernel⟩
theorem fr_0_4 : zFt 0 4 (fun f => f.1 = RX0 ∧ f.2.2.2 = true ∧ parseFieldDescriptor f.2.2.1 = some (.array .int)) := by
  intro r hr
  cases hr
  exact ⟨rfl, rfl, by decide +kernel⟩
theorem fr_0_5 : zFt 0 5 (fun f => f.1 = RX0 ∧ f.2.2.2 = true ∧ parseFieldDescriptor f.2.2.1 = some (.array .int)) := by
  intro r hr
  cases hr
  exact ⟨rfl, rfl, by decide +kernel⟩
theorem ft_0_6 : zFt 0 6 (fun f => f.2.2.2 = false ∧ parseFieldDescriptor f.2.2.1 = some .int) := by
  intro r hr
  cases hr
  exact ⟨rfl, by decide +kernel⟩
theorem ft_0_7 : zFt 0 7 (fun f => f.2.2.2 = false ∧ parseFieldDescriptor f.2.2.1 = some .int) := by
  intro r hr
  cases hr
  exact ⟨rfl, by decide +kernel⟩
theorem ft_0_8 : zFt 0 8 (fun f => f.2.2.2 = false ∧ parseFieldDescriptor f.2.2.1 = some .int) := by
  intro r hr
  cases hr
  exact ⟨rfl, by decide +kernel⟩
theorem ft_0_9 : zFt 0 9 (fun f => f.2.2.2 = false ∧ parseFieldDescriptor f.2.2.1 = some .int) := by
  intro r hr
  cases hr
  exact ⟨rfl, by decide +kernel⟩
theorem fr_1_0 : zFt 1 0 (fun f => f.1 = RX1 ∧ f.2.2.2 = true ∧ parseFieldDescriptor f.2.2.1 = some (.array .int)) := by
  intro r hr
  cases hr
  exact ⟨rfl, rfl, by decide +kernel⟩
theorem fr_1_1 : zFt 1 1 (fun f => f.1 = RX1 ∧ f.2.2.2 = true ∧ parseFieldDescriptor f.2.2.1 = some (.array .int)) := by
  intro r hr
  cases hr
  exact ⟨rfl, rfl, by decide +kernel⟩
theorem fr_1_2 : zFt 1 2 (fun f => f.1 = RX1 ∧ f.2.2.2 = true ∧ parseFieldDescriptor f.2.2.1 = some (.array .int)) := by
  intro r hr
  cases hr
  exact ⟨rfl, rfl, by decide +kernel⟩
theorem fr_1_3 : zFt 1 3 (fun f => f.1 = RX1 ∧ f.2.2.2 = true ∧ parseFieldDescriptor f.2.2.1 = some (.array .int)) := by
  intro r hr
  cases hr
  exact ⟨rfl, rfl, by decide +kernel⟩
theorem fr_1_4 : zFt 1 4 (fun f => f.1 = RX1 ∧ f.2.2.2 = true ∧ parseFieldDescriptor f.2.2.1 = some (.array .int)) := by
  intro r hr
  cases hr
  exact ⟨rfl, rfl, by decide +kernel⟩
theorem fr_1_5 : zFt 1 5 (fun f => f.1 = RX1 ∧ f.2.2.2 = true ∧ parseFieldDescriptor f.2.2.1 = some (.array .int)) := by
  intro r hr
  cases hr
  exact ⟨rfl, rfl, by decide +kernel⟩
theorem fr_1_6 : zFt 1 6 (fun f => f.1 = RX1 ∧ f.2.2.2 = true ∧ parseFieldDescriptor f.2.2.1 = some (.array .int)) := by
  intro r hr
  cases hr
  exact ⟨rfl, rfl, by decide +kernel⟩
theorem fr_1_7 : zFt 1 7 (fun f => f.1 = RX1 ∧ f.2.2.2 = true ∧ parseFieldDescriptor f.2.2.1 = some (.array .int)) := by
  intro r hr
  cases hr
  exact ⟨rfl, rfl, by decide +kernel⟩
theorem ft_1_8 : zFt 1 8 (fun f => f.2.2.2 = false ∧ parseFieldDescriptor f.2.2.1 = some .int) := by
  intro r hr
  cases hr
  exact ⟨rfl, by decide +kernel⟩
theorem ft_1_9 : zFt 1 9 (fun f => f.2.2.2 = false ∧ parseFieldDescriptor f.2.2.1 = some .int) := by
  intro r hr
  cases hr
  exact ⟨rfl, by decide +kernel⟩
theorem ft_1_10 : zFt 1 10 (fun f => f.2.2.2 = false ∧ parseFieldDescriptor f.2.2.1 = some .int) := by
  intro r hr
  cases hr
  exact ⟨rfl, by decide +kernel⟩
theorem ft_1_11 : zFt 1 11 (fun f => f.2.2.2 = false ∧ parseFieldDescriptor f.2.2.1 = some .int) := by
  intro r hr
  cases hr
  exact ⟨rfl, by decide +kernel⟩
theorem ft_1_12 : zFt 1 12 (fun f => f.2.2.2 = false ∧ parseFieldDescriptor f.2.2.1 = some .int) := by
  intro r hr
  cases hr
  exact ⟨rfl, by decide +kernel⟩
theorem ft_1_13 : zFt 1 13 (fun f => f.2.2.2 = false ∧ parseFieldDescriptor f.2.2.1 = some .int) := by
  intro r hr
  cases hr
  exact ⟨rfl, by decide +kernel⟩
theorem fr_2_0 : zFt 2 0 (fun f => f.1 = RX2 ∧ f.2.2.2 = true ∧ parseFieldDescriptor f.2.2.1 = some (.array .int)) := by
  intro r hr
  cases hr
  exact ⟨rfl, rfl, by decide +kernel⟩
theorem fr_2_1 : zFt 2 1 (fun f => f.1 = RX2 ∧ f.2.2.2 = true ∧ parseFieldDescriptor f.2.2.1 = some (.array .int)) := by
  intro r hr
  cases hr
  exact ⟨rfl, rfl, by decide +kernel⟩
theorem fr_2_2 : zFt 2 2 (fun f => f.1 = RX2 ∧ f.2.2.2 = true ∧ parseFieldDescriptor f.2.2.1 = some (.array (.array .int))) := by
  intro r hr
  cases hr
  exact ⟨rfl, rfl, by decide +kernel⟩
theorem fr_3_0 : zFt 3 0 (fun f => f.1 = RX3 ∧ f.2.2.2 = true ∧ parseFieldDescriptor f.2.2.1 = some (.object "HedgeTreaties$Street")) := by
  intro r hr
  cases hr
  exact ⟨rfl, rfl, by decide +kernel⟩
theorem fr_3_1 : zFt 3 1 (fun f => f.1 = RX3 ∧ f.2.2.2 = true ∧ parseFieldDescriptor f.2.2.1 = some (.object "HedgeTreaties$Street")) := by
  intro r hr
  cases hr
  exact ⟨rfl, rfl, by decide +kernel⟩
theorem fr_3_2 : zFt 3 2 (fun f => f.1 = RX3 ∧ f.2.2.2 = true ∧ parseFieldDescriptor f.2.2.1 = some (.array (.object RX1))) := by
  intro r hr
  cases hr
  exact ⟨rfl, rfl, by decide +kernel⟩
theorem fr_3_3 : zFt 3 3 (fun f => f.1 = RX3 ∧ f.2.2.2 = true ∧ parseFieldDescriptor f.2.2.1 = some (.object "HedgeTreaties$Surveyor")) := by
  intro r hr
  cases hr
  exact ⟨rfl, rfl, by decide +kernel⟩
theorem fr_3_4 : zFt 3 4 (fun f => f.1 = RX3 ∧ f.2.2.2 = true ∧ parseFieldDescriptor f.2.2.1 = some (.object "HedgeTreaties$Pad")) := by
  intro r hr
  cases hr
  exact ⟨rfl, rfl, by decide +kernel⟩
theorem ft_3_5 : zFt 3 5 (fun f => f.2.2.2 = false ∧ parseFieldDescriptor f.2.2.1 = some .int) := by
  intro r hr
  cases hr
  exact ⟨rfl, by decide +kernel⟩
theorem ft_3_6 : zFt 3 6 (fun f => f.2.2.2 = false ∧ parseFieldDescriptor f.2.2.1 = some .boolean) := by
  intro r hr
  cases hr
  exact ⟨rfl, by decide +kernel⟩
theorem ft_3_7 : zFt 3 7 (fun f => f.2.2.2 = false ∧ parseFieldDescriptor f.2.2.1 = some .int) := by
  intro r hr
  cases hr
  exact ⟨rfl, by decide +kernel⟩
theorem ft_3_8 : zFt 3 8 (fun f => f.2.2.2 = false ∧ parseFieldDescriptor f.2.2.1 = some .int) := by
  intro r hr
  cases hr
  exact ⟨rfl, by decide +kernel⟩
theorem ft_3_9 : zFt 3 9 (fun f => f.2.2.2 = false ∧ parseFieldDescriptor f.2.2.1 = some .int) := by
  intro r hr
  cases hr
  exact ⟨rfl, by decide +kernel⟩
abbrev mX0_init : zD := (RX0, cX0_init, 1, none, "<init>", { frames := 1, cells := 5, slots := 120, locals := 12 })
abbrev mX0_read : zD := (RX0, cX0_read, 3, some .int, "", { frames := 3, cells := 0, slots := 0, locals := 66 })
abbrev mX0_placeBehind : zD := (RX0, cX0_placeBehind, 4, some .int, "", { frames := 2, cells := 0, slots := 0, locals := 43 })
abbrev mX0_isDigit : zD := (RX0, cX0_isDigit, 2, some .boolean, "", { frames := 0, cells := 0, slots := 0, locals := 0 })
abbrev mX0_startPart : zD := (RX0, cX0_startPart, 3, some .int, "", { frames := 1, cells := 0, slots := 0, locals := 21 })
abbrev mX0_takeOther : zD := (RX0, cX0_takeOther, 2, some .int, "", { frames := 1, cells := 0, slots := 0, locals := 21 })
abbrev mX0_takeSign : zD := (RX0, cX0_takeSign, 2, some .int, "", { frames := 1, cells := 0, slots := 0, locals := 22 })
abbrev mX0_startNumber : zD := (RX0, cX0_startNumber, 3, some .int, "", { frames := 0, cells := 0, slots := 0, locals := 0 })
end
section
abbrev mX0_takeDigit : zD := (RX0, cX0_takeDigit, 2, some .int, "", { frames := 1, cells := 0, slots := 0, locals := 21 })
abbrev mX1_init : zD := (RX1, cX1_init, 2, none, "<init>", { frames := 1, cells := 8, slots := 88, locals := 12 })
abbrev mX1_copyFrom : zD := (RX1, cX1_copyFrom, 3, none, "", { frames := 0, cells := 0, slots := 0, locals := 0 })
abbrev mX1_isNested : zD := (RX1, cX1_isNested, 2, some .boolean, "", { frames := 0, cells := 0, slots := 0, locals := 0 })
abbrev mX1_countNested : zD := (RX1, cX1_countNested, 3, some .int, "", { frames := 1, cells := 0, slots := 0, locals := 21 })
abbrev mX1_heightAfter : zD := (RX1, cX1_heightAfter, 3, some .int, "", { frames := 1, cells := 0, slots := 0, locals := 21 })
abbrev mX1_heightsAfter : zD := (RX1, cX1_heightsAfter, 4, some .int, "", { frames := 2, cells := 0, slots := 0, locals := 43 })
abbrev mX1_passDay : zD := (RX1, cX1_passDay, 2, none, "", { frames := 2, cells := 0, slots := 0, locals := 43 })
abbrev mX1_cutOff : zD := (RX1, cX1_cutOff, 3, none, "", { frames := 0, cells := 0, slots := 0, locals := 0 })
abbrev mX1_addTreaty : zD := (RX1, cX1_addTreaty, 4, none, "", { frames := 0, cells := 0, slots := 0, locals := 0 })
abbrev mX1_removeTreaty : zD := (RX1, cX1_removeTreaty, 3, none, "", { frames := 0, cells := 0, slots := 0, locals := 0 })
abbrev mX1_isAbout : zD := (RX1, cX1_isAbout, 3, some .boolean, "", { frames := 0, cells := 0, slots := 0, locals := 0 })
abbrev mX1_isInForce : zD := (RX1, cX1_isInForce, 2, some .boolean, "", { frames := 0, cells := 0, slots := 0, locals := 0 })
abbrev mX1_countInForce : zD := (RX1, cX1_countInForce, 4, some .int, "", { frames := 1, cells := 0, slots := 0, locals := 22 })
abbrev mX1_slackAfter : zD := (RX1, cX1_slackAfter, 4, some .int, "", { frames := 2, cells := 0, slots := 0, locals := 43 })
abbrev mX1_isBrokenAfter : zD := (RX1, cX1_isBrokenAfter, 3, some .boolean, "", { frames := 3, cells := 0, slots := 0, locals := 66 })
abbrev mX1_isBroken : zD := (RX1, cX1_isBroken, 2, some .boolean, "", { frames := 4, cells := 0, slots := 0, locals := 88 })
abbrev mX1_countBroken : zD := (RX1, cX1_countBroken, 5, some .int, "", { frames := 4, cells := 0, slots := 0, locals := 88 })
abbrev mX2_init : zD := (RX2, cX2_init, 1, none, "<init>", { frames := 1, cells := 11, slots := 88, locals := 12 })
abbrev mX2_boundByTreaties : zD := (RX2, cX2_boundByTreaties, 7, some .int, "", { frames := 2, cells := 0, slots := 0, locals := 48 })
abbrev mX2_shortenSums : zD := (RX2, cX2_shortenSums, 8, some .boolean, "", { frames := 1, cells := 0, slots := 0, locals := 21 })
abbrev mX2_boundByPairs : zD := (RX2, cX2_boundByPairs, 4, some .int, "", { frames := 3, cells := 0, slots := 0, locals := 69 })
abbrev mX2_findPairs : zD := (RX2, cX2_findPairs, 5, none, "", { frames := 2, cells := 0, slots := 0, locals := 45 })
abbrev mX2_startPairs : zD := (RX2, cX2_startPairs, 5, none, "", { frames := 1, cells := 0, slots := 0, locals := 21 })
abbrev mX2_joinPair : zD := (RX2, cX2_joinPair, 6, none, "", { frames := 0, cells := 0, slots := 0, locals := 0 })
abbrev mX2_findLeastClipping : zD := (RX2, cX2_findLeastClipping, 4, some .boolean, "", { frames := 2, cells := 0, slots := 0, locals := 48 })
abbrev mX2_findLeastClippingByBounds : zD := (RX2, cX2_findLeastClippingByBounds, 5, some .boolean, "", { frames := 3, cells := 0, slots := 0, locals := 69 })
abbrev mX2_isPossibleWith : zD := (RX2, cX2_isPossibleWith, 7, some .boolean, "", { frames := 2, cells := 0, slots := 0, locals := 48 })
abbrev mX2_pressByTreaties : zD := (RX2, cX2_pressByTreaties, 5, some .boolean, "", { frames := 1, cells := 0, slots := 0, locals := 24 })
abbrev mX2_press : zD := (RX2, cX2_press, 5, some .boolean, "", { frames := 0, cells := 0, slots := 0, locals := 0 })
abbrev mX2_areLevelsAboveGround : zD := (RX2, cX2_areLevelsAboveGround, 2, some .boolean, "", { frames := 0, cells := 0, slots := 0, locals := 0 })
abbrev mX3_init : zD := (RX3, cX3_init, 2, none, "<init>", { frames := 2, cells := 73, slots := 837, locals := 33 })
abbrev mX3_height : zD := (RX3, cX3_height, 4, some .int, "", { frames := 2, cells := 0, slots := 0, locals := 42 })
abbrev mX3_growth : zD := (RX3, cX3_growth, 4, some .int, "", { frames := 2, cells := 0, slots := 0, locals := 42 })
abbrev mX3_nest : zD := (RX3, cX3_nest, 4, some .int, "", { frames := 2, cells := 0, slots := 0, locals := 42 })
abbrev mX3_clip : zD := (RX3, cX3_clip, 3, some .int, "", { frames := 2, cells := 0, slots := 0, locals := 42 })
abbrev mX3_plan : zD := (RX3, cX3_plan, 4, some .int, "", { frames := 3, cells := 0, slots := 0, locals := 71 })
abbrev mX3_day : zD := (RX3, cX3_day, 1, some .int, "", { frames := 5, cells := 0, slots := 0, locals := 112 })
abbrev mX3_sign : zD := (RX3, cX3_sign, 5, some .int, "", { frames := 5, cells := 0, slots := 0, locals := 122 })
abbrev mX3_cancel : zD := (RX3, cX3_cancel, 2, some .int, "", { frames := 2, cells := 0, slots := 0, locals := 42 })
abbrev mX3_freeze : zD := (RX3, cX3_freeze, 3, some .int, "", { frames := 5, cells := 0, slots := 0, locals := 109 })
abbrev mX3_thaw : zD := (RX3, cX3_thaw, 3, some .int, "", { frames := 2, cells := 0, slots := 0, locals := 42 })
abbrev mX3_append : zD := (RX3, cX3_append, 2, some .int, "", { frames := 0, cells := 0, slots := 0, locals := 0 })
abbrev mX3_clear : zD := (RX3, cX3_clear, 2, some .int, "", { frames := 0, cells := 0, slots := 0, locals := 0 })
abbrev mX3_fault : zD := (RX3, cX3_fault, 1, some .int, "", { frames := 4, cells := 0, slots := 0, locals := 88 })
abbrev mX3_signAll : zD := (RX3, cX3_signAll, 4, some .int, "", { frames := 6, cells := 0, slots := 0, locals := 147 })
abbrev mX3_why : zD := (RX3, cX3_why, 2, some .int, "", { frames := 0, cells := 0, slots := 0, locals := 0 })
abbrev mX3_hedge : zD := (RX3, cX3_hedge, 3, some .int, "", { frames := 5, cells := 0, slots := 0, locals := 112 })
abbrev mX3_treaty : zD := (RX3, cX3_treaty, 3, some .int, "", { frames := 5, cells := 0, slots := 0, locals := 109 })
abbrev mX3_bound : zD := (RX3, cX3_bound, 5, some .int, "", { frames := 4, cells := 0, slots := 0, locals := 92 })
abbrev mX3_whyNot : zD := (RX3, cX3_whyNot, 4, some .int, "", { frames := 4, cells := 0, slots := 0, locals := 98 })
abbrev mX3_clipping : zD := (RX3, cX3_clipping, 3, some .int, "", { frames := 4, cells := 0, slots := 0, locals := 93 })
abbrev mX3_count : zD := (RX3, cX3_count, 2, some .int, "", { frames := 5, cells := 0, slots := 0, locals := 112 })
abbrev mX3_peace : zD := (RX3, cX3_peace, 2, some .double, "", { frames := 5, cells := 0, slots := 0, locals := 112 })
abbrev mX3_ifDays : zD := (RX3, cX3_ifDays, 3, some .int, "", { frames := 5, cells := 0, slots := 0, locals := 112 })
abbrev mX3_breaksIn : zD := (RX3, cX3_breaksIn, 2, some .int, "", { frames := 5, cells := 0, slots := 0, locals := 112 })
abbrev mX3_tightest : zD := (RX3, cX3_tightest, 6, some .int, "", { frames := 3, cells := 0, slots := 0, locals := 74 })
abbrev mX3_undo : zD := (RX3, cX3_undo, 1, some .int, "", { frames := 1, cells := 0, slots := 0, locals := 22 })
abbrev mX3_save : zD := (RX3, cX3_save, 1, some .int, "", { frames := 1, cells := 0, slots := 0, locals := 22 })
abbrev mX3_restore : zD := (RX3, cX3_restore, 1, some .int, "", { frames := 2, cells := 0, slots := 0, locals := 42 })
abbrev mX3_isHedge : zD := (RX3, cX3_isHedge, 1, some .boolean, "", { frames := 0, cells := 0, slots := 0, locals := 0 })
abbrev mX3_isTreaty : zD := (RX3, cX3_isTreaty, 2, some .boolean, "", { frames := 0, cells := 0, slots := 0, locals := 0 })
abbrev mX3_isAgreement : zD := (RX3, cX3_isAgreement, 3, some .boolean, "", { frames := 1, cells := 0, slots := 0, locals := 20 })
abbrev mX3_sum : zD := (RX3, cX3_sum, 6, some .int, "", { frames := 0, cells := 0, slots := 0, locals := 0 })
abbrev mX3_remember : zD := (RX3, cX3_remember, 1, none, "", { frames := 1, cells := 0, slots := 0, locals := 22 })
abbrev mX3_dropOldestState : zD := (RX3, cX3_dropOldestState, 3, none, "", { frames := 0, cells := 0, slots := 0, locals := 0 })
abbrev mX3_refuse : zD := (RX3, cX3_refuse, 2, some .int, "", { frames := 0, cells := 0, slots := 0, locals := 0 })
abbrev mX3_isNestInTheWay : zD := (RX3, cX3_isNestInTheWay, 2, some .boolean, "", { frames := 1, cells := 0, slots := 0, locals := 21 })
abbrev mX3_errorOfSigning : zD := (RX3, cX3_errorOfSigning, 4, some .int, "", { frames := 2, cells := 0, slots := 0, locals := 42 })
abbrev mX3_reasonAgainst : zD := (RX3, cX3_reasonAgainst, 5, some .int, "", { frames := 3, cells := 0, slots := 0, locals := 74 })
abbrev mX3_signOne : zD := (RX3, cX3_signOne, 5, some .int, "", { frames := 4, cells := 0, slots := 0, locals := 98 })
abbrev mX3_signPart : zD := (RX3, cX3_signPart, 6, some .int, "", { frames := 5, cells := 0, slots := 0, locals := 122 })
abbrev mX3_isNothingNewBesideOthers : zD := (RX3, cX3_isNothingNewBesideOthers, 4, some .boolean, "", { frames := 3, cells := 0, slots := 0, locals := 74 })
abbrev mL_lot : zD := (RL, cL_lot, 2, some .int, "", { frames := 0, cells := 0, slots := 0, locals := 0 })
abbrev mL_low : zD := (RL, cL_low, 2, some .int, "", { frames := 0, cells := 0, slots := 0, locals := 0 })
abbrev mL_look : zD := (RL, cL_look, 4, some .long, "", { frames := 6, cells := 0, slots := 0, locals := 134 })
abbrev mL_holds : zD := (RL, cL_holds, 17, some .boolean, "", { frames := 6, cells := 0, slots := 0, locals := 134 })
abbrev mL_would : zD := (RL, cL_would, 16, some .boolean, "", { frames := 6, cells := 0, slots := 0, locals := 134 })
abbrev mL_types : zD := (RL, cL_types, 8, some .boolean, "", { frames := 1, cells := 0, slots := 0, locals := 21 })
abbrev mL_signs : zD := (RL, cL_signs, 16, some .boolean, "", { frames := 7, cells := 0, slots := 0, locals := 170 })
abbrev mL_garden : zD := (RL, cL_garden, 14, some .boolean, "", { frames := 6, cells := 0, slots := 0, locals := 134 })
abbrev mL_talks : zD := (RL, cL_talks, 14, some .boolean, "", { frames := 6, cells := 0, slots := 0, locals := 133 })
abbrev mL_acts : zD := (RL, cL_acts, 13, some .boolean, "", { frames := 8, cells := 0, slots := 0, locals := 205 })
abbrev mL_law : zD := (RL, cL_law, 13, ret, "", room_1)
theorem qL_13 : zY RL 13 yX3_count mX3_count 1 := ⟨lw_in 201 (by decide +kernel) (by decide +kernel), lw_in 24 (by decide +kernel) (by decide +kernel), lw_in 204 (by decide +kernel) (by decide +kernel), by decide +kernel⟩
theorem kX3_count : Cond.instanceMethod yX3_count ∈ lw_ok ∧ Cond.selects yX3_count.cls yX3_count yX3_count ∈ lw_ok := ⟨lw_in 202 (by decide +kernel) (by decide +kernel), lw_in 203 (by decide +kernel) (by decide +kernel)⟩
theorem qL_19 : zY RL 19 yX3_hedge mX3_hedge 2 := ⟨lw_in 284 (by decide +kernel) (by decide +kernel), lw_in 24 (by decide +kernel) (by decide +kernel), lw_in 287 (by decide +kernel) (by decide +kernel), by decide +kernel⟩
theorem kX3_hedge : Cond.instanceMethod yX3_hedge ∈ lw_ok ∧ Cond.selects yX3_hedge.cls yX3_hedge yX3_hedge ∈ lw_ok := ⟨lw_in 285 (by decide +kernel) (by decide +kernel), lw_in 286 (by decide +kernel) (by decide +kernel)⟩
theorem qL_23 : zY RL 23 yX3_treaty mX3_treaty 2 := ⟨lw_in 309 (by decide +kernel) (by decide +kernel), lw_in 24 (by decide +kernel) (by decide +kernel), lw_in 312 (by decide +kernel) (by decide +kernel), by decide +kernel⟩
theorem kX3_treaty : Cond.instanceMethod yX3_treaty ∈ lw_ok ∧ Cond.selects yX3_treaty.cls yX3_treaty yX3_treaty ∈ lw_ok := ⟨lw_in 310 (by decide +kernel) (by decide +kernel), lw_in 311 (by decide +kernel) (by decide +kernel)⟩
theorem qL_26 : zY RL 26 yX3_clipping mX3_clipping 1 := ⟨lw_in 339 (by decide +kernel) (by decide +kernel), lw_in 24 (by decide +kernel) (by decide +kernel), lw_in 342 (by decide +kernel) (by decide +kernel), by decide +kernel⟩
theorem kX3_clipping : Cond.instanceMethod yX3_clipping ∈ lw_ok ∧ Cond.selects yX3_clipping.cls yX3_clipping yX3_clipping ∈ lw_ok := ⟨lw_in 340 (by decide +kernel) (by decide +kernel), lw_in 341 (by decide +kernel) (by decide +kernel)⟩
theorem qL_31 : zY RL 31 yX3_bound mX3_bound 3 := ⟨lw_in 360 (by decide +kernel) (by decide +kernel), lw_in 24 (by decide +kernel) (by decide +kernel), lw_in 363 (by decide +kernel) (by decide +kernel), by decide +kernel⟩
theorem kX3_bound : Cond.instanceMethod yX3_bound ∈ lw_ok ∧ Cond.selects yX3_bound.cls yX3_bound yX3_bound ∈ lw_ok := ⟨lw_in 361 (by decide +kernel) (by decide +kernel), lw_in 362 (by decide +kernel) (by decide +kernel)⟩
theorem qL_35 : zY RL 35 yX3_peace mX3_peace 0 := ⟨lw_in 369 (by decide +kernel) (by decide +kernel), lw_in 24 (by decide +kernel) (by decide +kernel), lw_in 372 (by decide +kernel) (by decide +kernel), by decide +kernel⟩
theorem kX3_peace : Cond.instanceMethod yX3_peace ∈ lw_ok ∧ Cond.selects yX3_peace.cls yX3_peace yX3_peace ∈ lw_ok := ⟨lw_in 370 (by decide +kernel) (by decide +kernel), lw_in 371 (by decide +kernel) (by decide +kernel)⟩
theorem qL_39 : zY RL 39 yL_low mL_low 2 := ⟨lw_in 275 (by decide +kernel) (by decide +kernel), lw_in 23 (by decide +kernel) (by decide +kernel), lw_in 277 (by decide +kernel) (by decide +kernel), by decide +kernel⟩
theorem kL_low : Cond.static yL_low ∈ lw_ok := lw_in 276 (by decide +kernel) (by decide +kernel)
theorem qL_42 : zY RL 42 yX3_whyNot mX3_whyNot 3 := ⟨lw_in 376 (by decide +kernel) (by decide +kernel), lw_in 24 (by decide +kernel) (by decide +kernel), lw_in 379 (by decide +kernel) (by decide +kernel), by decide +kernel⟩
theorem kX3_whyNot : Cond.instanceMethod yX3_whyNot ∈ lw_ok ∧ Cond.selects yX3_whyNot.cls yX3_whyNot yX3_whyNot ∈ lw_ok := ⟨lw_in 377 (by decide +kernel) (by decide +kernel), lw_in 378 (by decide +kernel) (by decide +kernel)⟩
end
section
theorem qL_45 : zY RL 45 yX3_tightest mX3_tightest 2 := ⟨lw_in 391 (by decide +kernel) (by decide +kernel), lw_in 24 (by decide +kernel) (by decide +kernel), lw_in 394 (by decide +kernel) (by decide +kernel), by decide +kernel⟩
theorem kX3_tightest : Cond.instanceMethod yX3_tightest ∈ lw_ok ∧ Cond.selects yX3_tightest.cls yX3_tightest yX3_tightest ∈ lw_ok := ⟨lw_in 392 (by decide +kernel) (by decide +kernel), lw_in 393 (by decide +kernel) (by decide +kernel)⟩
theorem qL_48 : zY RL 48 yX3_ifDays mX3_ifDays 2 := ⟨lw_in 395 (by decide +kernel) (by decide +kernel), lw_in 24 (by decide +kernel) (by decide +kernel), lw_in 398 (by decide +kernel) (by decide +kernel), by decide +kernel⟩
theorem kX3_ifDays : Cond.instanceMethod yX3_ifDays ∈ lw_ok ∧ Cond.selects yX3_ifDays.cls yX3_ifDays yX3_ifDays ∈ lw_ok := ⟨lw_in 396 (by decide +kernel) (by decide +kernel), lw_in 397 (by decide +kernel) (by decide +kernel)⟩
theorem qL_51 : zY RL 51 yX3_breaksIn mX3_breaksIn 0 := ⟨lw_in 403 (by decide +kernel) (by decide +kernel), lw_in 24 (by decide +kernel) (by decide +kernel), lw_in 406 (by decide +kernel) (by decide +kernel), by decide +kernel⟩
theorem kX3_breaksIn : Cond.instanceMethod yX3_breaksIn ∈ lw_ok ∧ Cond.selects yX3_breaksIn.cls yX3_breaksIn yX3_breaksIn ∈ lw_ok := ⟨lw_in 404 (by decide +kernel) (by decide +kernel), lw_in 405 (by decide +kernel) (by decide +kernel)⟩
theorem qL_55 : zY RL 55 yX3_clear mX3_clear 0 := ⟨lw_in 494 (by decide +kernel) (by decide +kernel), lw_in 24 (by decide +kernel) (by decide +kernel), lw_in 497 (by decide +kernel) (by decide +kernel), by decide +kernel⟩
theorem kX3_clear : Cond.instanceMethod yX3_clear ∈ lw_ok ∧ Cond.selects yX3_clear.cls yX3_clear yX3_clear ∈ lw_ok := ⟨lw_in 495 (by decide +kernel) (by decide +kernel), lw_in 496 (by decide +kernel) (by decide +kernel)⟩
theorem qL_58 : zY RL 58 yX3_append mX3_append 1 := ⟨lw_in 498 (by decide +kernel) (by decide +kernel), lw_in 24 (by decide +kernel) (by decide +kernel), lw_in 501 (by decide +kernel) (by decide +kernel), by decide +kernel⟩
theorem kX3_append : Cond.instanceMethod yX3_append ∈ lw_ok ∧ Cond.selects yX3_append.cls yX3_append yX3_append ∈ lw_ok := ⟨lw_in 499 (by decide +kernel) (by decide +kernel), lw_in 500 (by decide +kernel) (by decide +kernel)⟩
theorem qL_61 : zY RL 61 yL_types mL_types 2 := ⟨lw_in 491 (by decide +kernel) (by decide +kernel), lw_in 23 (by decide +kernel) (by decide +kernel), lw_in 493 (by decide +kernel) (by decide +kernel), by decide +kernel⟩
theorem kL_types : Cond.static yL_types ∈ lw_ok := lw_in 492 (by decide +kernel) (by decide +kernel)
theorem qL_65 : zY RL 65 yL_look mL_look 1 := ⟨lw_in 279 (by decide +kernel) (by decide +kernel), lw_in 23 (by decide +kernel) (by decide +kernel), lw_in 281 (by decide +kernel) (by decide +kernel), by decide +kernel⟩
theorem kL_look : Cond.static yL_look ∈ lw_ok := lw_in 280 (by decide +kernel) (by decide +kernel)
theorem qL_69 : zY RL 69 yX3_fault mX3_fault 0 := ⟨lw_in 502 (by decide +kernel) (by decide +kernel), lw_in 24 (by decide +kernel) (by decide +kernel), lw_in 505 (by decide +kernel) (by decide +kernel), by decide +kernel⟩
theorem kX3_fault : Cond.instanceMethod yX3_fault ∈ lw_ok ∧ Cond.selects yX3_fault.cls yX3_fault yX3_fault ∈ lw_ok := ⟨lw_in 503 (by decide +kernel) (by decide +kernel), lw_in 504 (by decide +kernel) (by decide +kernel)⟩
theorem qL_72 : zY RL 72 yX3_signAll mX3_signAll 0 := ⟨lw_in 537 (by decide +kernel) (by decide +kernel), lw_in 24 (by decide +kernel) (by decide +kernel), lw_in 540 (by decide +kernel) (by decide +kernel), by decide +kernel⟩
theorem kX3_signAll : Cond.instanceMethod yX3_signAll ∈ lw_ok ∧ Cond.selects yX3_signAll.cls yX3_signAll yX3_signAll ∈ lw_ok := ⟨lw_in 538 (by decide +kernel) (by decide +kernel), lw_in 539 (by decide +kernel) (by decide +kernel)⟩
theorem qL_75 : zY RL 75 yX3_why mX3_why 1 := ⟨lw_in 545 (by decide +kernel) (by decide +kernel), lw_in 24 (by decide +kernel) (by decide +kernel), lw_in 548 (by decide +kernel) (by decide +kernel), by decide +kernel⟩
theorem kX3_why : Cond.instanceMethod yX3_why ∈ lw_ok ∧ Cond.selects yX3_why.cls yX3_why yX3_why ∈ lw_ok := ⟨lw_in 546 (by decide +kernel) (by decide +kernel), lw_in 547 (by decide +kernel) (by decide +kernel)⟩
theorem qL_78 : zY RL 78 yX3_height mX3_height 2 := ⟨lw_in 433 (by decide +kernel) (by decide +kernel), lw_in 24 (by decide +kernel) (by decide +kernel), lw_in 436 (by decide +kernel) (by decide +kernel), by decide +kernel⟩
theorem kX3_height : Cond.instanceMethod yX3_height ∈ lw_ok ∧ Cond.selects yX3_height.cls yX3_height yX3_height ∈ lw_ok := ⟨lw_in 434 (by decide +kernel) (by decide +kernel), lw_in 435 (by decide +kernel) (by decide +kernel)⟩
theorem qL_81 : zY RL 81 yX3_growth mX3_growth 2 := ⟨lw_in 437 (by decide +kernel) (by decide +kernel), lw_in 24 (by decide +kernel) (by decide +kernel), lw_in 440 (by decide +kernel) (by decide +kernel), by decide +kernel⟩
theorem kX3_growth : Cond.instanceMethod yX3_growth ∈ lw_ok ∧ Cond.selects yX3_growth.cls yX3_growth yX3_growth ∈ lw_ok := ⟨lw_in 438 (by decide +kernel) (by decide +kernel), lw_in 439 (by decide +kernel) (by decide +kernel)⟩
theorem qL_84 : zY RL 84 yX3_nest mX3_nest 2 := ⟨lw_in 441 (by decide +kernel) (by decide +kernel), lw_in 24 (by decide +kernel) (by decide +kernel), lw_in 444 (by decide +kernel) (by decide +kernel), by decide +kernel⟩
theorem kX3_nest : Cond.instanceMethod yX3_nest ∈ lw_ok ∧ Cond.selects yX3_nest.cls yX3_nest yX3_nest ∈ lw_ok := ⟨lw_in 442 (by decide +kernel) (by decide +kernel), lw_in 443 (by decide +kernel) (by decide +kernel)⟩
theorem qL_87 : zY RL 87 yX3_clip mX3_clip 2 := ⟨lw_in 445 (by decide +kernel) (by decide +kernel), lw_in 24 (by decide +kernel) (by decide +kernel), lw_in 448 (by decide +kernel) (by decide +kernel), by decide +kernel⟩
theorem kX3_clip : Cond.instanceMethod yX3_clip ∈ lw_ok ∧ Cond.selects yX3_clip.cls yX3_clip yX3_clip ∈ lw_ok := ⟨lw_in 446 (by decide +kernel) (by decide +kernel), lw_in 447 (by decide +kernel) (by decide +kernel)⟩
theorem qL_90 : zY RL 90 yX3_freeze mX3_freeze 2 := ⟨lw_in 456 (by decide +kernel) (by decide +kernel), lw_in 24 (by decide +kernel) (by decide +kernel), lw_in 459 (by decide +kernel) (by decide +kernel), by decide +kernel⟩
theorem kX3_freeze : Cond.instanceMethod yX3_freeze ∈ lw_ok ∧ Cond.selects yX3_freeze.cls yX3_freeze yX3_freeze ∈ lw_ok := ⟨lw_in 457 (by decide +kernel) (by decide +kernel), lw_in 458 (by decide +kernel) (by decide +kernel)⟩
theorem qL_93 : zY RL 93 yX3_thaw mX3_thaw 1 := ⟨lw_in 460 (by decide +kernel) (by decide +kernel), lw_in 24 (by decide +kernel) (by decide +kernel), lw_in 463 (by decide +kernel) (by decide +kernel), by decide +kernel⟩
theorem kX3_thaw : Cond.instanceMethod yX3_thaw ∈ lw_ok ∧ Cond.selects yX3_thaw.cls yX3_thaw yX3_thaw ∈ lw_ok := ⟨lw_in 461 (by decide +kernel) (by decide +kernel), lw_in 462 (by decide +kernel) (by decide +kernel)⟩
theorem qL_96 : zY RL 96 yX3_cancel mX3_cancel 1 := ⟨lw_in 464 (by decide +kernel) (by decide +kernel), lw_in 24 (by decide +kernel) (by decide +kernel), lw_in 467 (by decide +kernel) (by decide +kernel), by decide +kernel⟩
theorem kX3_cancel : Cond.instanceMethod yX3_cancel ∈ lw_ok ∧ Cond.selects yX3_cancel.cls yX3_cancel yX3_cancel ∈ lw_ok := ⟨lw_in 465 (by decide +kernel) (by decide +kernel), lw_in 466 (by decide +kernel) (by decide +kernel)⟩
theorem qL_99 : zY RL 99 yX3_sign mX3_sign 3 := ⟨lw_in 410 (by decide +kernel) (by decide +kernel), lw_in 24 (by decide +kernel) (by decide +kernel), lw_in 413 (by decide +kernel) (by decide +kernel), by decide +kernel⟩
theorem kX3_sign : Cond.instanceMethod yX3_sign ∈ lw_ok ∧ Cond.selects yX3_sign.cls yX3_sign yX3_sign ∈ lw_ok := ⟨lw_in 411 (by decide +kernel) (by decide +kernel), lw_in 412 (by decide +kernel) (by decide +kernel)⟩
theorem kL_garden : Cond.static yL_garden ∈ lw_ok := lw_in 431 (by decide +kernel) (by decide +kernel)
theorem qL_106 : zY RL 106 yL_talks mL_talks 3 := ⟨lw_in 453 (by decide +kernel) (by decide +kernel), lw_in 23 (by decide +kernel) (by decide +kernel), lw_in 455 (by decide +kernel) (by decide +kernel), by decide +kernel⟩
theorem kL_talks : Cond.static yL_talks ∈ lw_ok := lw_in 454 (by decide +kernel) (by decide +kernel)
end
section
theorem qL_109 : zY RL 109 yX3_plan mX3_plan 0 := ⟨lw_in 472 (by decide +kernel) (by decide +kernel), lw_in 24 (by decide +kernel) (by decide +kernel), lw_in 475 (by decide +kernel) (by decide +kernel), by decide +kernel⟩
theorem kX3_plan : Cond.instanceMethod yX3_plan ∈ lw_ok ∧ Cond.selects yX3_plan.cls yX3_plan yX3_plan ∈ lw_ok := ⟨lw_in 473 (by decide +kernel) (by decide +kernel), lw_in 474 (by decide +kernel) (by decide +kernel)⟩
theorem qL_112 : zY RL 112 yX3_day mX3_day 0 := ⟨lw_in 480 (by decide +kernel) (by decide +kernel), lw_in 24 (by decide +kernel) (by decide +kernel), lw_in 483 (by decide +kernel) (by decide +kernel), by decide +kernel⟩
theorem kX3_day : Cond.instanceMethod yX3_day ∈ lw_ok ∧ Cond.selects yX3_day.cls yX3_day yX3_day ∈ lw_ok := ⟨lw_in 481 (by decide +kernel) (by decide +kernel), lw_in 482 (by decide +kernel) (by decide +kernel)⟩
theorem qL_115 : zY RL 115 yL_signs mL_signs 2 := ⟨lw_in 488 (by decide +kernel) (by decide +kernel), lw_in 23 (by decide +kernel) (by decide +kernel), lw_in 490 (by decide +kernel) (by decide +kernel), by decide +kernel⟩
theorem kL_signs : Cond.static yL_signs ∈ lw_ok := lw_in 489 (by decide +kernel) (by decide +kernel)
theorem qL_118 : zY RL 118 yX3_init mX3_init 0 := ⟨lw_in 31 (by decide +kernel) (by decide +kernel), lw_in 24 (by decide +kernel) (by decide +kernel), lw_in 33 (by decide +kernel) (by decide +kernel), by decide +kernel⟩
theorem kX3_init : yX3_init.name = "<init>" ∧ Cond.instanceMethod yX3_init ∈ lw_ok := ⟨rfl, lw_in 32 (by decide +kernel) (by decide +kernel)⟩
theorem kL_holds : Cond.static yL_holds ∈ lw_ok := lw_in 337 (by decide +kernel) (by decide +kernel)
theorem qL_123 : zY RL 123 yL_would mL_would 2 := ⟨lw_in 373 (by decide +kernel) (by decide +kernel), lw_in 23 (by decide +kernel) (by decide +kernel), lw_in 375 (by decide +kernel) (by decide +kernel), by decide +kernel⟩
theorem kL_would : Cond.static yL_would ∈ lw_ok := lw_in 374 (by decide +kernel) (by decide +kernel)
theorem qL_126 : zY RL 126 yX3_undo mX3_undo 0 := ⟨lw_in 247 (by decide +kernel) (by decide +kernel), lw_in 24 (by decide +kernel) (by decide +kernel), lw_in 250 (by decide +kernel) (by decide +kernel), by decide +kernel⟩
theorem kX3_undo : Cond.instanceMethod yX3_undo ∈ lw_ok ∧ Cond.selects yX3_undo.cls yX3_undo yX3_undo ∈ lw_ok := ⟨lw_in 248 (by decide +kernel) (by decide +kernel), lw_in 249 (by decide +kernel) (by decide +kernel)⟩
theorem qL_129 : zY RL 129 yX3_restore mX3_restore 0 := ⟨lw_in 259 (by decide +kernel) (by decide +kernel), lw_in 24 (by decide +kernel) (by decide +kernel), lw_in 262 (by decide +kernel) (by decide +kernel), by decide +kernel⟩
theorem kX3_restore : Cond.instanceMethod yX3_restore ∈ lw_ok ∧ Cond.selects yX3_restore.cls yX3_restore yX3_restore ∈ lw_ok := ⟨lw_in 260 (by decide +kernel) (by decide +kernel), lw_in 261 (by decide +kernel) (by decide +kernel)⟩
theorem qL_132 : zY RL 132 yX3_save mX3_save 0 := ⟨lw_in 255 (by decide +kernel) (by decide +kernel), lw_in 24 (by decide +kernel) (by decide +kernel), lw_in 258 (by decide +kernel) (by decide +kernel), by decide +kernel⟩
theorem kX3_save : Cond.instanceMethod yX3_save ∈ lw_ok ∧ Cond.selects yX3_save.cls yX3_save yX3_save ∈ lw_ok := ⟨lw_in 256 (by decide +kernel) (by decide +kernel), lw_in 257 (by decide +kernel) (by decide +kernel)⟩
theorem qL_135 : zY RL 135 yL_lot mL_lot 2 := ⟨lw_in 271 (by decide +kernel) (by decide +kernel), lw_in 23 (by decide +kernel) (by decide +kernel), lw_in 273 (by decide +kernel) (by decide +kernel), by decide +kernel⟩
theorem kL_lot : Cond.static yL_lot ∈ lw_ok := lw_in 272 (by decide +kernel) (by decide +kernel)
theorem kL_acts : Cond.static yL_acts ∈ lw_ok := lw_in 408 (by decide +kernel) (by decide +kernel)
theorem qX0_34 : zY RX0 34 yX0_placeBehind mX0_placeBehind 2 := ⟨lw_in 510 (by decide +kernel) (by decide +kernel), lw_in 27 (by decide +kernel) (by decide +kernel), lw_in 513 (by decide +kernel) (by decide +kernel), by decide +kernel⟩
theorem kX0_placeBehind : Cond.instanceMethod yX0_placeBehind ∈ lw_ok ∧ Cond.selects yX0_placeBehind.cls yX0_placeBehind yX0_placeBehind ∈ lw_ok := ⟨lw_in 512 (by decide +kernel) (by decide +kernel), lw_in 16 (by decide +kernel) (by decide +kernel)⟩
theorem qX0_38 : zY RX0 38 yX0_startPart mX0_startPart 1 := ⟨lw_in 514 (by decide +kernel) (by decide +kernel), lw_in 27 (by decide +kernel) (by decide +kernel), lw_in 517 (by decide +kernel) (by decide +kernel), by decide +kernel⟩
theorem kX0_startPart : Cond.instanceMethod yX0_startPart ∈ lw_ok ∧ Cond.selects yX0_startPart.cls yX0_startPart yX0_startPart ∈ lw_ok := ⟨lw_in 516 (by decide +kernel) (by decide +kernel), lw_in 17 (by decide +kernel) (by decide +kernel)⟩
theorem qX0_42 : zY RX0 42 yX0_takeOther mX0_takeOther 1 := ⟨lw_in 521 (by decide +kernel) (by decide +kernel), lw_in 27 (by decide +kernel) (by decide +kernel), lw_in 524 (by decide +kernel) (by decide +kernel), by decide +kernel⟩
theorem kX0_takeOther : Cond.instanceMethod yX0_takeOther ∈ lw_ok ∧ Cond.selects yX0_takeOther.cls yX0_takeOther yX0_takeOther ∈ lw_ok := ⟨lw_in 523 (by decide +kernel) (by decide +kernel), lw_in 18 (by decide +kernel) (by decide +kernel)⟩
theorem qX0_45 : zY RX0 45 yX0_takeSign mX0_takeSign 1 := ⟨lw_in 525 (by decide +kernel) (by decide +kernel), lw_in 27 (by decide +kernel) (by decide +kernel), lw_in 528 (by decide +kernel) (by decide +kernel), by decide +kernel⟩
theorem kX0_takeSign : Cond.instanceMethod yX0_takeSign ∈ lw_ok ∧ Cond.selects yX0_takeSign.cls yX0_takeSign yX0_takeSign ∈ lw_ok := ⟨lw_in 527 (by decide +kernel) (by decide +kernel), lw_in 19 (by decide +kernel) (by decide +kernel)⟩
theorem qX0_48 : zY RX0 48 yX0_takeDigit mX0_takeDigit 1 := ⟨lw_in 533 (by decide +kernel) (by decide +kernel), lw_in 27 (by decide +kernel) (by decide +kernel), lw_in 536 (by decide +kernel) (by decide +kernel), by decide +kernel⟩
theorem kX0_takeDigit : Cond.instanceMethod yX0_takeDigit ∈ lw_ok ∧ Cond.selects yX0_takeDigit.cls yX0_takeDigit yX0_takeDigit ∈ lw_ok := ⟨lw_in 535 (by decide +kernel) (by decide +kernel), lw_in 21 (by decide +kernel) (by decide +kernel)⟩
theorem qX0_51 : zY RX0 51 yX0_isDigit mX0_isDigit 2 := ⟨lw_in 518 (by decide +kernel) (by decide +kernel), lw_in 27 (by decide +kernel) (by decide +kernel), lw_in 520 (by decide +kernel) (by decide +kernel), by decide +kernel⟩
theorem kX0_isDigit : Cond.static yX0_isDigit ∈ lw_ok := lw_in 519 (by decide +kernel) (by decide +kernel)
theorem qX0_55 : zY RX0 55 yX0_startNumber mX0_startNumber 2 := ⟨lw_in 529 (by decide +kernel) (by decide +kernel), lw_in 27 (by decide +kernel) (by decide +kernel), lw_in 532 (by decide +kernel) (by decide +kernel), by decide +kernel⟩
theorem kX0_startNumber : Cond.instanceMethod yX0_startNumber ∈ lw_ok ∧ Cond.selects yX0_startNumber.cls yX0_startNumber yX0_startNumber ∈ lw_ok := ⟨lw_in 531 (by decide +kernel) (by decide +kernel), lw_in 20 (by decide +kernel) (by decide +kernel)⟩
theorem qX1_55 : zY RX1 55 yX1_isNested mX1_isNested 1 := ⟨lw_in 243 (by decide +kernel) (by decide +kernel), lw_in 25 (by decide +kernel) (by decide +kernel), lw_in 246 (by decide +kernel) (by decide +kernel), by decide +kernel⟩
theorem kX1_isNested : Cond.instanceMethod yX1_isNested ∈ lw_ok ∧ Cond.selects yX1_isNested.cls yX1_isNested yX1_isNested ∈ lw_ok := ⟨lw_in 244 (by decide +kernel) (by decide +kernel), lw_in 245 (by decide +kernel) (by decide +kernel)⟩
theorem qX1_65 : zY RX1 65 yX1_heightAfter mX1_heightAfter 2 := ⟨lw_in 229 (by decide +kernel) (by decide +kernel), lw_in 25 (by decide +kernel) (by decide +kernel), lw_in 232 (by decide +kernel) (by decide +kernel), by decide +kernel⟩
theorem kX1_heightAfter : Cond.instanceMethod yX1_heightAfter ∈ lw_ok ∧ Cond.selects yX1_heightAfter.cls yX1_heightAfter yX1_heightAfter ∈ lw_ok := ⟨lw_in 230 (by decide +kernel) (by decide +kernel), lw_in 231 (by decide +kernel) (by decide +kernel)⟩
end
section
theorem qX1_68 : zY RX1 68 yX1_isAbout mX1_isAbout 2 := ⟨lw_in 209 (by decide +kernel) (by decide +kernel), lw_in 25 (by decide +kernel) (by decide +kernel), lw_in 212 (by decide +kernel) (by decide +kernel), by decide +kernel⟩
theorem kX1_isAbout : Cond.instanceMethod yX1_isAbout ∈ lw_ok ∧ Cond.selects yX1_isAbout.cls yX1_isAbout yX1_isAbout ∈ lw_ok := ⟨lw_in 210 (by decide +kernel) (by decide +kernel), lw_in 211 (by decide +kernel) (by decide +kernel)⟩
theorem qX1_72 : zY RX1 72 yX1_isInForce mX1_isInForce 1 := ⟨lw_in 213 (by decide +kernel) (by decide +kernel), lw_in 25 (by decide +kernel) (by decide +kernel), lw_in 216 (by decide +kernel) (by decide +kernel), by decide +kernel⟩
theorem kX1_isInForce : Cond.instanceMethod yX1_isInForce ∈ lw_ok ∧ Cond.selects yX1_isInForce.cls yX1_isInForce yX1_isInForce ∈ lw_ok := ⟨lw_in 214 (by decide +kernel) (by decide +kernel), lw_in 215 (by decide +kernel) (by decide +kernel)⟩
theorem qX1_75 : zY RX1 75 yX1_slackAfter mX1_slackAfter 2 := ⟨lw_in 225 (by decide +kernel) (by decide +kernel), lw_in 25 (by decide +kernel) (by decide +kernel), lw_in 228 (by decide +kernel) (by decide +kernel), by decide +kernel⟩
theorem kX1_slackAfter : Cond.instanceMethod yX1_slackAfter ∈ lw_ok ∧ Cond.selects yX1_slackAfter.cls yX1_slackAfter yX1_slackAfter ∈ lw_ok := ⟨lw_in 226 (by decide +kernel) (by decide +kernel), lw_in 227 (by decide +kernel) (by decide +kernel)⟩
theorem qX1_78 : zY RX1 78 yX1_isBrokenAfter mX1_isBrokenAfter 2 := ⟨lw_in 221 (by decide +kernel) (by decide +kernel), lw_in 25 (by decide +kernel) (by decide +kernel), lw_in 224 (by decide +kernel) (by decide +kernel), by decide +kernel⟩
theorem kX1_isBrokenAfter : Cond.instanceMethod yX1_isBrokenAfter ∈ lw_ok ∧ Cond.selects yX1_isBrokenAfter.cls yX1_isBrokenAfter yX1_isBrokenAfter ∈ lw_ok := ⟨lw_in 222 (by decide +kernel) (by decide +kernel), lw_in 223 (by decide +kernel) (by decide +kernel)⟩
theorem qX2_24 : zY RX2 24 yX2_shortenSums mX2_shortenSums 2 := ⟨lw_in 332 (by decide +kernel) (by decide +kernel), lw_in 26 (by decide +kernel) (by decide +kernel), lw_in 335 (by decide +kernel) (by decide +kernel), by decide +kernel⟩
theorem kX2_shortenSums : Cond.instanceMethod yX2_shortenSums ∈ lw_ok ∧ Cond.selects yX2_shortenSums.cls yX2_shortenSums yX2_shortenSums ∈ lw_ok := ⟨lw_in 334 (by decide +kernel) (by decide +kernel), lw_in 7 (by decide +kernel) (by decide +kernel)⟩
theorem qX2_37 : zY RX2 37 yX1_isInForce mX1_isInForce 1 := ⟨lw_in 300 (by decide +kernel) (by decide +kernel), lw_in 25 (by decide +kernel) (by decide +kernel), lw_in 216 (by decide +kernel) (by decide +kernel), by decide +kernel⟩
theorem qX2_47 : zY RX2 47 yX2_findPairs mX2_findPairs 1 := ⟨lw_in 347 (by decide +kernel) (by decide +kernel), lw_in 26 (by decide +kernel) (by decide +kernel), lw_in 350 (by decide +kernel) (by decide +kernel), by decide +kernel⟩
theorem kX2_findPairs : Cond.instanceMethod yX2_findPairs ∈ lw_ok ∧ Cond.selects yX2_findPairs.cls yX2_findPairs yX2_findPairs ∈ lw_ok := ⟨lw_in 349 (by decide +kernel) (by decide +kernel), lw_in 8 (by decide +kernel) (by decide +kernel)⟩
theorem qX2_51 : zY RX2 51 yX2_startPairs mX2_startPairs 1 := ⟨lw_in 351 (by decide +kernel) (by decide +kernel), lw_in 26 (by decide +kernel) (by decide +kernel), lw_in 354 (by decide +kernel) (by decide +kernel), by decide +kernel⟩
theorem kX2_startPairs : Cond.instanceMethod yX2_startPairs ∈ lw_ok ∧ Cond.selects yX2_startPairs.cls yX2_startPairs yX2_startPairs ∈ lw_ok := ⟨lw_in 353 (by decide +kernel) (by decide +kernel), lw_in 9 (by decide +kernel) (by decide +kernel)⟩
theorem qX2_54 : zY RX2 54 yX2_joinPair mX2_joinPair 3 := ⟨lw_in 356 (by decide +kernel) (by decide +kernel), lw_in 26 (by decide +kernel) (by decide +kernel), lw_in 359 (by decide +kernel) (by decide +kernel), by decide +kernel⟩
theorem kX2_joinPair : Cond.instanceMethod yX2_joinPair ∈ lw_ok ∧ Cond.selects yX2_joinPair.cls yX2_joinPair yX2_joinPair ∈ lw_ok := ⟨lw_in 358 (by decide +kernel) (by decide +kernel), lw_in 10 (by decide +kernel) (by decide +kernel)⟩
theorem qX2_67 : zY RX2 67 yX2_pressByTreaties mX2_pressByTreaties 2 := ⟨lw_in 296 (by decide +kernel) (by decide +kernel), lw_in 26 (by decide +kernel) (by decide +kernel), lw_in 299 (by decide +kernel) (by decide +kernel), by decide +kernel⟩
theorem kX2_pressByTreaties : Cond.instanceMethod yX2_pressByTreaties ∈ lw_ok ∧ Cond.selects yX2_pressByTreaties.cls yX2_pressByTreaties yX2_pressByTreaties ∈ lw_ok := ⟨lw_in 298 (by decide +kernel) (by decide +kernel), lw_in 2 (by decide +kernel) (by decide +kernel)⟩
theorem qX2_71 : zY RX2 71 yX2_areLevelsAboveGround mX2_areLevelsAboveGround 0 := ⟨lw_in 305 (by decide +kernel) (by decide +kernel), lw_in 26 (by decide +kernel) (by decide +kernel), lw_in 308 (by decide +kernel) (by decide +kernel), by decide +kernel⟩
theorem kX2_areLevelsAboveGround : Cond.instanceMethod yX2_areLevelsAboveGround ∈ lw_ok ∧ Cond.selects yX2_areLevelsAboveGround.cls yX2_areLevelsAboveGround yX2_areLevelsAboveGround ∈ lw_ok := ⟨lw_in 307 (by decide +kernel) (by decide +kernel), lw_in 4 (by decide +kernel) (by decide +kernel)⟩
theorem qX2_75 : zY RX2 75 yX2_press mX2_press 3 := ⟨lw_in 301 (by decide +kernel) (by decide +kernel), lw_in 26 (by decide +kernel) (by decide +kernel), lw_in 304 (by decide +kernel) (by decide +kernel), by decide +kernel⟩
theorem kX2_press : Cond.instanceMethod yX2_press ∈ lw_ok ∧ Cond.selects yX2_press.cls yX2_press yX2_press ∈ lw_ok := ⟨lw_in 303 (by decide +kernel) (by decide +kernel), lw_in 3 (by decide +kernel) (by decide +kernel)⟩
theorem qX3_9 : zY RX3 9 yX1_init mX1_init 0 := ⟨lw_in 39 (by decide +kernel) (by decide +kernel), lw_in 25 (by decide +kernel) (by decide +kernel), lw_in 41 (by decide +kernel) (by decide +kernel), by decide +kernel⟩
theorem kX1_init : yX1_init.name = "<init>" ∧ Cond.instanceMethod yX1_init ∈ lw_ok := ⟨rfl, lw_in 40 (by decide +kernel) (by decide +kernel)⟩
theorem kX2_init : yX2_init.name = "<init>" ∧ Cond.instanceMethod yX2_init ∈ lw_ok := ⟨rfl, lw_in 110 (by decide +kernel) (by decide +kernel)⟩
theorem kX0_init : yX0_init.name = "<init>" ∧ Cond.instanceMethod yX0_init ∈ lw_ok := ⟨rfl, lw_in 129 (by decide +kernel) (by decide +kernel)⟩
theorem qX3_37 : zY RX3 37 yX3_isHedge mX3_isHedge 1 := ⟨lw_in 288 (by decide +kernel) (by decide +kernel), lw_in 24 (by decide +kernel) (by decide +kernel), lw_in 290 (by decide +kernel) (by decide +kernel), by decide +kernel⟩
theorem kX3_isHedge : Cond.static yX3_isHedge ∈ lw_ok := lw_in 289 (by decide +kernel) (by decide +kernel)
theorem qX3_41 : zY RX3 41 yX3_remember mX3_remember 0 := ⟨lw_in 263 (by decide +kernel) (by decide +kernel), lw_in 24 (by decide +kernel) (by decide +kernel), lw_in 266 (by decide +kernel) (by decide +kernel), by decide +kernel⟩
theorem kX3_remember : Cond.instanceMethod yX3_remember ∈ lw_ok ∧ Cond.selects yX3_remember.cls yX3_remember yX3_remember ∈ lw_ok := ⟨lw_in 265 (by decide +kernel) (by decide +kernel), lw_in 0 (by decide +kernel) (by decide +kernel)⟩
theorem qX3_58 : zY RX3 58 yX1_isNested mX1_isNested 1 := ⟨lw_in 291 (by decide +kernel) (by decide +kernel), lw_in 25 (by decide +kernel) (by decide +kernel), lw_in 246 (by decide +kernel) (by decide +kernel), by decide +kernel⟩
theorem qX3_61 : zY RX3 61 yX3_refuse mX3_refuse 1 := ⟨lw_in 422 (by decide +kernel) (by decide +kernel), lw_in 24 (by decide +kernel) (by decide +kernel), lw_in 425 (by decide +kernel) (by decide +kernel), by decide +kernel⟩
theorem kX3_refuse : Cond.instanceMethod yX3_refuse ∈ lw_ok ∧ Cond.selects yX3_refuse.cls yX3_refuse yX3_refuse ∈ lw_ok := ⟨lw_in 424 (by decide +kernel) (by decide +kernel), lw_in 14 (by decide +kernel) (by decide +kernel)⟩
theorem qX3_65 : zY RX3 65 yX1_cutOff mX1_cutOff 2 := ⟨lw_in 449 (by decide +kernel) (by decide +kernel), lw_in 25 (by decide +kernel) (by decide +kernel), lw_in 452 (by decide +kernel) (by decide +kernel), by decide +kernel⟩
theorem kX1_cutOff : Cond.instanceMethod yX1_cutOff ∈ lw_ok ∧ Cond.selects yX1_cutOff.cls yX1_cutOff yX1_cutOff ∈ lw_ok := ⟨lw_in 450 (by decide +kernel) (by decide +kernel), lw_in 451 (by decide +kernel) (by decide +kernel)⟩
theorem qX3_69 : zY RX3 69 yX2_findLeastClipping mX2_findLeastClipping 1 := ⟨lw_in 292 (by decide +kernel) (by decide +kernel), lw_in 26 (by decide +kernel) (by decide +kernel), lw_in 295 (by decide +kernel) (by decide +kernel), by decide +kernel⟩
theorem kX2_findLeastClipping : Cond.instanceMethod yX2_findLeastClipping ∈ lw_ok ∧ Cond.selects yX2_findLeastClipping.cls yX2_findLeastClipping yX2_findLeastClipping ∈ lw_ok := ⟨lw_in 293 (by decide +kernel) (by decide +kernel), lw_in 294 (by decide +kernel) (by decide +kernel)⟩
theorem qX3_73 : zY RX3 73 yX3_isNestInTheWay mX3_isNestInTheWay 0 := ⟨lw_in 476 (by decide +kernel) (by decide +kernel), lw_in 24 (by decide +kernel) (by decide +kernel), lw_in 479 (by decide +kernel) (by decide +kernel), by decide +kernel⟩
theorem kX3_isNestInTheWay : Cond.instanceMethod yX3_isNestInTheWay ∈ lw_ok ∧ Cond.selects yX3_isNestInTheWay.cls yX3_isNestInTheWay yX3_isNestInTheWay ∈ lw_ok := ⟨lw_in 478 (by decide +kernel) (by decide +kernel), lw_in 15 (by decide +kernel) (by decide +kernel)⟩
theorem qX3_80 : zY RX3 80 yX1_passDay mX1_passDay 0 := ⟨lw_in 484 (by decide +kernel) (by decide +kernel), lw_in 25 (by decide +kernel) (by decide +kernel), lw_in 487 (by decide +kernel) (by decide +kernel), by decide +kernel⟩
theorem kX1_passDay : Cond.instanceMethod yX1_passDay ∈ lw_ok ∧ Cond.selects yX1_passDay.cls yX1_passDay yX1_passDay ∈ lw_ok := ⟨lw_in 485 (by decide +kernel) (by decide +kernel), lw_in 486 (by decide +kernel) (by decide +kernel)⟩
theorem qX3_83 : zY RX3 83 yX1_countBroken mX1_countBroken 2 := ⟨lw_in 217 (by decide +kernel) (by decide +kernel), lw_in 25 (by decide +kernel) (by decide +kernel), lw_in 220 (by decide +kernel) (by decide +kernel), by decide +kernel⟩
theorem kX1_countBroken : Cond.instanceMethod yX1_countBroken ∈ lw_ok ∧ Cond.selects yX1_countBroken.cls yX1_countBroken yX1_countBroken ∈ lw_ok := ⟨lw_in 218 (by decide +kernel) (by decide +kernel), lw_in 219 (by decide +kernel) (by decide +kernel)⟩
theorem qX3_87 : zY RX3 87 yX3_errorOfSigning mX3_errorOfSigning 3 := ⟨lw_in 414 (by decide +kernel) (by decide +kernel), lw_in 24 (by decide +kernel) (by decide +kernel), lw_in 417 (by decide +kernel) (by decide +kernel), by decide +kernel⟩
theorem kX3_errorOfSigning : Cond.instanceMethod yX3_errorOfSigning ∈ lw_ok ∧ Cond.selects yX3_errorOfSigning.cls yX3_errorOfSigning yX3_errorOfSigning ∈ lw_ok := ⟨lw_in 416 (by decide +kernel) (by decide +kernel), lw_in 12 (by decide +kernel) (by decide +kernel)⟩
theorem qX3_91 : zY RX3 91 yX3_signOne mX3_signOne 3 := ⟨lw_in 418 (by decide +kernel) (by decide +kernel), lw_in 24 (by decide +kernel) (by decide +kernel), lw_in 421 (by decide +kernel) (by decide +kernel), by decide +kernel⟩
theorem kX3_signOne : Cond.instanceMethod yX3_signOne ∈ lw_ok ∧ Cond.selects yX3_signOne.cls yX3_signOne yX3_signOne ∈ lw_ok := ⟨lw_in 420 (by decide +kernel) (by decide +kernel), lw_in 13 (by decide +kernel) (by decide +kernel)⟩
theorem qX3_94 : zY RX3 94 yX3_isTreaty mX3_isTreaty 1 := ⟨lw_in 313 (by decide +kernel) (by decide +kernel), lw_in 24 (by decide +kernel) (by decide +kernel), lw_in 316 (by decide +kernel) (by decide +kernel), by decide +kernel⟩
theorem kX3_isTreaty : Cond.instanceMethod yX3_isTreaty ∈ lw_ok ∧ Cond.selects yX3_isTreaty.cls yX3_isTreaty yX3_isTreaty ∈ lw_ok := ⟨lw_in 315 (by decide +kernel) (by decide +kernel), lw_in 5 (by decide +kernel) (by decide +kernel)⟩
theorem qX3_97 : zY RX3 97 yX1_removeTreaty mX1_removeTreaty 1 := ⟨lw_in 468 (by decide +kernel) (by decide +kernel), lw_in 25 (by decide +kernel) (by decide +kernel), lw_in 471 (by decide +kernel) (by decide +kernel), by decide +kernel⟩
theorem kX1_removeTreaty : Cond.instanceMethod yX1_removeTreaty ∈ lw_ok ∧ Cond.selects yX1_removeTreaty.cls yX1_removeTreaty yX1_removeTreaty ∈ lw_ok := ⟨lw_in 469 (by decide +kernel) (by decide +kernel), lw_in 470 (by decide +kernel) (by decide +kernel)⟩
theorem qX3_104 : zY RX3 104 yX1_isBroken mX1_isBroken 1 := ⟨lw_in 318 (by decide +kernel) (by decide +kernel), lw_in 25 (by decide +kernel) (by decide +kernel), lw_in 321 (by decide +kernel) (by decide +kernel), by decide +kernel⟩
theorem kX1_isBroken : Cond.instanceMethod yX1_isBroken ∈ lw_ok ∧ Cond.selects yX1_isBroken.cls yX1_isBroken yX1_isBroken ∈ lw_ok := ⟨lw_in 319 (by decide +kernel) (by decide +kernel), lw_in 320 (by decide +kernel) (by decide +kernel)⟩
theorem qX3_113 : zY RX3 113 yX1_isInForce mX1_isInForce 1 := ⟨lw_in 317 (by decide +kernel) (by decide +kernel), lw_in 25 (by decide +kernel) (by decide +kernel), lw_in 216 (by decide +kernel) (by decide +kernel), by decide +kernel⟩
theorem qX3_122 : zY RX3 122 yX0_read mX0_read 0 := ⟨lw_in 506 (by decide +kernel) (by decide +kernel), lw_in 27 (by decide +kernel) (by decide +kernel), lw_in 509 (by decide +kernel) (by decide +kernel), by decide +kernel⟩
theorem kX0_read : Cond.instanceMethod yX0_read ∈ lw_ok ∧ Cond.selects yX0_read.cls yX0_read yX0_read ∈ lw_ok := ⟨lw_in 507 (by decide +kernel) (by decide +kernel), lw_in 508 (by decide +kernel) (by decide +kernel)⟩
theorem qX3_132 : zY RX3 132 yX3_signPart mX3_signPart 1 := ⟨lw_in 541 (by decide +kernel) (by decide +kernel), lw_in 24 (by decide +kernel) (by decide +kernel), lw_in 544 (by decide +kernel) (by decide +kernel), by decide +kernel⟩
theorem kX3_signPart : Cond.instanceMethod yX3_signPart ∈ lw_ok ∧ Cond.selects yX3_signPart.cls yX3_signPart yX3_signPart ∈ lw_ok := ⟨lw_in 543 (by decide +kernel) (by decide +kernel), lw_in 22 (by decide +kernel) (by decide +kernel)⟩
theorem qX3_144 : zY RX3 144 yX1_countInForce mX1_countInForce 1 := ⟨lw_in 205 (by decide +kernel) (by decide +kernel), lw_in 25 (by decide +kernel) (by decide +kernel), lw_in 208 (by decide +kernel) (by decide +kernel), by decide +kernel⟩
theorem kX1_countInForce : Cond.instanceMethod yX1_countInForce ∈ lw_ok ∧ Cond.selects yX1_countInForce.cls yX1_countInForce yX1_countInForce ∈ lw_ok := ⟨lw_in 206 (by decide +kernel) (by decide +kernel), lw_in 207 (by decide +kernel) (by decide +kernel)⟩
theorem qX3_159 : zY RX3 159 yX1_slackAfter mX1_slackAfter 2 := ⟨lw_in 322 (by decide +kernel) (by decide +kernel), lw_in 25 (by decide +kernel) (by decide +kernel), lw_in 228 (by decide +kernel) (by decide +kernel), by decide +kernel⟩
theorem qX3_162 : zY RX3 162 yX3_isNothingNewBesideOthers mX3_isNothingNewBesideOthers 1 := ⟨lw_in 323 (by decide +kernel) (by decide +kernel), lw_in 24 (by decide +kernel) (by decide +kernel), lw_in 326 (by decide +kernel) (by decide +kernel), by decide +kernel⟩
theorem kX3_isNothingNewBesideOthers : Cond.instanceMethod yX3_isNothingNewBesideOthers ∈ lw_ok ∧ Cond.selects yX3_isNothingNewBesideOthers.cls yX3_isNothingNewBesideOthers yX3_isNothingNewBesideOthers ∈ lw_ok := ⟨lw_in 325 (by decide +kernel) (by decide +kernel), lw_in 6 (by decide +kernel) (by decide +kernel)⟩
theorem qX3_165 : zY RX3 165 yX2_boundByTreaties mX2_boundByTreaties 4 := ⟨lw_in 327 (by decide +kernel) (by decide +kernel), lw_in 26 (by decide +kernel) (by decide +kernel), lw_in 330 (by decide +kernel) (by decide +kernel), by decide +kernel⟩
theorem kX2_boundByTreaties : Cond.instanceMethod yX2_boundByTreaties ∈ lw_ok ∧ Cond.selects yX2_boundByTreaties.cls yX2_boundByTreaties yX2_boundByTreaties ∈ lw_ok := ⟨lw_in 328 (by decide +kernel) (by decide +kernel), lw_in 329 (by decide +kernel) (by decide +kernel)⟩
theorem qX3_169 : zY RX3 169 yX2_boundByPairs mX2_boundByPairs 3 := ⟨lw_in 364 (by decide +kernel) (by decide +kernel), lw_in 26 (by decide +kernel) (by decide +kernel), lw_in 367 (by decide +kernel) (by decide +kernel), by decide +kernel⟩
theorem kX2_boundByPairs : Cond.instanceMethod yX2_boundByPairs ∈ lw_ok ∧ Cond.selects yX2_boundByPairs.cls yX2_boundByPairs yX2_boundByPairs ∈ lw_ok := ⟨lw_in 365 (by decide +kernel) (by decide +kernel), lw_in 366 (by decide +kernel) (by decide +kernel)⟩
theorem qX3_174 : zY RX3 174 yX3_isAgreement mX3_isAgreement 3 := ⟨lw_in 380 (by decide +kernel) (by decide +kernel), lw_in 24 (by decide +kernel) (by decide +kernel), lw_in 382 (by decide +kernel) (by decide +kernel), by decide +kernel⟩
theorem kX3_isAgreement : Cond.static yX3_isAgreement ∈ lw_ok := lw_in 381 (by decide +kernel) (by decide +kernel)
theorem qX3_178 : zY RX3 178 yX3_reasonAgainst mX3_reasonAgainst 3 := ⟨lw_in 383 (by decide +kernel) (by decide +kernel), lw_in 24 (by decide +kernel) (by decide +kernel), lw_in 386 (by decide +kernel) (by decide +kernel), by decide +kernel⟩
theorem kX3_reasonAgainst : Cond.instanceMethod yX3_reasonAgainst ∈ lw_ok ∧ Cond.selects yX3_reasonAgainst.cls yX3_reasonAgainst yX3_reasonAgainst ∈ lw_ok := ⟨lw_in 385 (by decide +kernel) (by decide +kernel), lw_in 11 (by decide +kernel) (by decide +kernel)⟩
theorem qX3_181 : zY RX3 181 yX2_findLeastClippingByBounds mX2_findLeastClippingByBounds 1 := ⟨lw_in 343 (by decide +kernel) (by decide +kernel), lw_in 26 (by decide +kernel) (by decide +kernel), lw_in 346 (by decide +kernel) (by decide +kernel), by decide +kernel⟩
theorem kX2_findLeastClippingByBounds : Cond.instanceMethod yX2_findLeastClippingByBounds ∈ lw_ok ∧ Cond.selects yX2_findLeastClippingByBounds.cls yX2_findLeastClippingByBounds yX2_findLeastClippingByBounds ∈ lw_ok := ⟨lw_in 344 (by decide +kernel) (by decide +kernel), lw_in 345 (by decide +kernel) (by decide +kernel)⟩
theorem qX3_184 : zY RX3 184 yX3_sum mX3_sum 1 := ⟨lw_in 236 (by decide +kernel) (by decide +kernel), lw_in 24 (by decide +kernel) (by decide +kernel), lw_in 238 (by decide +kernel) (by decide +kernel), by decide +kernel⟩
theorem kX3_sum : Cond.static yX3_sum ∈ lw_ok := lw_in 237 (by decide +kernel) (by decide +kernel)
theorem qX3_188 : zY RX3 188 yX1_countNested mX1_countNested 0 := ⟨lw_in 239 (by decide +kernel) (by decide +kernel), lw_in 25 (by decide +kernel) (by decide +kernel), lw_in 242 (by decide +kernel) (by decide +kernel), by decide +kernel⟩
theorem kX1_countNested : Cond.instanceMethod yX1_countNested ∈ lw_ok ∧ Cond.selects yX1_countNested.cls yX1_countNested yX1_countNested ∈ lw_ok := ⟨lw_in 240 (by decide +kernel) (by decide +kernel), lw_in 241 (by decide +kernel) (by decide +kernel)⟩
theorem qX3_203 : zY RX3 203 yX1_heightsAfter mX1_heightsAfter 1 := ⟨lw_in 399 (by decide +kernel) (by decide +kernel), lw_in 25 (by decide +kernel) (by decide +kernel), lw_in 402 (by decide +kernel) (by decide +kernel), by decide +kernel⟩
theorem kX1_heightsAfter : Cond.instanceMethod yX1_heightsAfter ∈ lw_ok ∧ Cond.selects yX1_heightsAfter.cls yX1_heightsAfter yX1_heightsAfter ∈ lw_ok := ⟨lw_in 400 (by decide +kernel) (by decide +kernel), lw_in 401 (by decide +kernel) (by decide +kernel)⟩
theorem qX3_206 : zY RX3 206 yX2_isPossibleWith mX2_isPossibleWith 4 := ⟨lw_in 387 (by decide +kernel) (by decide +kernel), lw_in 26 (by decide +kernel) (by decide +kernel), lw_in 390 (by decide +kernel) (by decide +kernel), by decide +kernel⟩
theorem kX2_isPossibleWith : Cond.instanceMethod yX2_isPossibleWith ∈ lw_ok ∧ Cond.selects yX2_isPossibleWith.cls yX2_isPossibleWith yX2_isPossibleWith ∈ lw_ok := ⟨lw_in 388 (by decide +kernel) (by decide +kernel), lw_in 389 (by decide +kernel) (by decide +kernel)⟩
theorem qX3_210 : zY RX3 210 yX1_copyFrom mX1_copyFrom 1 := ⟨lw_in 251 (by decide +kernel) (by decide +kernel), lw_in 25 (by decide +kernel) (by decide +kernel), lw_in 254 (by decide +kernel) (by decide +kernel), by decide +kernel⟩
theorem kX1_copyFrom : Cond.instanceMethod yX1_copyFrom ∈ lw_ok ∧ Cond.selects yX1_copyFrom.cls yX1_copyFrom yX1_copyFrom ∈ lw_ok := ⟨lw_in 252 (by decide +kernel) (by decide +kernel), lw_in 253 (by decide +kernel) (by decide +kernel)⟩
theorem qX3_218 : zY RX3 218 yX3_dropOldestState mX3_dropOldestState 0 := ⟨lw_in 267 (by decide +kernel) (by decide +kernel), lw_in 24 (by decide +kernel) (by decide +kernel), lw_in 270 (by decide +kernel) (by decide +kernel), by decide +kernel⟩
theorem kX3_dropOldestState : Cond.instanceMethod yX3_dropOldestState ∈ lw_ok ∧ Cond.selects yX3_dropOldestState.cls yX3_dropOldestState yX3_dropOldestState ∈ lw_ok := ⟨lw_in 269 (by decide +kernel) (by decide +kernel), lw_in 1 (by decide +kernel) (by decide +kernel)⟩
theorem qX3_221 : zY RX3 221 yX1_addTreaty mX1_addTreaty 3 := ⟨lw_in 426 (by decide +kernel) (by decide +kernel), lw_in 25 (by decide +kernel) (by decide +kernel), lw_in 429 (by decide +kernel) (by decide +kernel), by decide +kernel⟩
theorem kX1_addTreaty : Cond.instanceMethod yX1_addTreaty ∈ lw_ok ∧ Cond.selects yX1_addTreaty.cls yX1_addTreaty yX1_addTreaty ∈ lw_ok := ⟨lw_in 427 (by decide +kernel) (by decide +kernel), lw_in 428 (by decide +kernel) (by decide +kernel)⟩
theorem qX0_3 : Cond.methodLink RX0 3 objectInit ∈ lw_ok ∧ Cond.instanceMethod objectInit ∈ lw_ok ∧ Cond.code objectInit ⟨#[0xb1]⟩ 1 none ∈ lw_ok := ⟨lw_in 131 (by decide +kernel) (by decide +kernel), lw_in 35 (by decide +kernel) (by decide +kernel), lw_in 36 (by decide +kernel) (by decide +kernel)⟩
theorem qX1_3 : Cond.methodLink RX1 3 objectInit ∈ lw_ok ∧ Cond.instanceMethod objectInit ∈ lw_ok ∧ Cond.code objectInit ⟨#[0xb1]⟩ 1 none ∈ lw_ok := ⟨lw_in 42 (by decide +kernel) (by decide +kernel), lw_in 35 (by decide +kernel) (by decide +kernel), lw_in 36 (by decide +kernel) (by decide +kernel)⟩
theorem qX1_59 : Cond.methodLink RX1 59 Lib.Math.min.name ∈ lw_ok := lw_in 233 (by decide +kernel) (by decide +kernel)
theorem qX2_3 : Cond.methodLink RX2 3 objectInit ∈ lw_ok ∧ Cond.instanceMethod objectInit ∈ lw_ok ∧ Cond.code objectInit ⟨#[0xb1]⟩ 1 none ∈ lw_ok := ⟨lw_in 112 (by decide +kernel) (by decide +kernel), lw_in 35 (by decide +kernel) (by decide +kernel), lw_in 36 (by decide +kernel) (by decide +kernel)⟩
theorem qX2_58 : Cond.methodLink RX2 58 Lib.Math.min.name ∈ lw_ok := lw_in 355 (by decide +kernel) (by decide +kernel)
theorem qX3_1 : Cond.methodLink RX3 1 objectInit ∈ lw_ok ∧ Cond.instanceMethod objectInit ∈ lw_ok ∧ Cond.code objectInit ⟨#[0xb1]⟩ 1 none ∈ lw_ok := ⟨lw_in 34 (by decide +kernel) (by decide +kernel), lw_in 35 (by decide +kernel) (by decide +kernel), lw_in 36 (by decide +kernel) (by decide +kernel)⟩
theorem kmin : Cond.static Lib.Math.min.name ∈ lw_ok ∧ Cond.initialized "java/lang/Math" ∈ lw_ok ∧ Cond.code Lib.Math.min.name Lib.Math.min.code 2 (some .int) ∈ lw_ok := ⟨lw_in 234 (by decide +kernel) (by decide +kernel), lw_in 28 (by decide +kernel) (by decide +kernel), lw_in 235 (by decide +kernel) (by decide +kernel)⟩
theorem kL_7 : Cond.constant RL 7 673058413 ∈ lw_ok := lw_in 274 (by decide +kernel) (by decide +kernel)
theorem kL_8 : Cond.constant RL 8 2147483647 ∈ lw_ok := lw_in 278 (by decide +kernel) (by decide +kernel)
theorem kX2_23 : Cond.constant RX2 23 1000000 ∈ lw_ok := lw_in 331 (by decide +kernel) (by decide +kernel)
theorem kX3_173 : Cond.constant RX3 173 1000000 ∈ lw_ok := lw_in 368 (by decide +kernel) (by decide +kernel)
theorem karr : Cond.arrayClass .int ∈ lw_ok := lw_in 105 (by decide +kernel) (by decide +kernel)
theorem kcL_14 : Cond.classLink RL 14 RX3 ∈ lw_ok := lw_in 29 (by decide +kernel) (by decide +kernel)
theorem kcX3_7 : Cond.classLink RX3 7 RX1 ∈ lw_ok := lw_in 37 (by decide +kernel) (by decide +kernel)
theorem kcX3_23 : Cond.classLink RX3 23 RX2 ∈ lw_ok := lw_in 107 (by decide +kernel) (by decide +kernel)
theorem kcX2_18 : Cond.classLink RX2 18 "[[I" ∈ lw_ok := lw_in 113 (by decide +kernel) (by decide +kernel)
theorem kcX3_30 : Cond.classLink RX3 30 RX0 ∈ lw_ok := lw_in 126 (by decide +kernel) (by decide +kernel)
theorem kn_0 : Cond.instantiable RX0 10 ∈ lw_ok ∧ Cond.initialized RX0 ∈ lw_ok := ⟨lw_in 127 (by decide +kernel) (by decide +kernel), lw_in 27 (by decide +kernel) (by decide +kernel)⟩
theorem kn_1 : Cond.instantiable RX1 14 ∈ lw_ok ∧ Cond.initialized RX1 ∈ lw_ok := ⟨lw_in 38 (by decide +kernel) (by decide +kernel), lw_in 25 (by decide +kernel) (by decide +kernel)⟩
theorem kn_2 : Cond.instantiable RX2 3 ∈ lw_ok ∧ Cond.initialized RX2 ∈ lw_ok := ⟨lw_in 108 (by decide +kernel) (by decide +kernel), lw_in 26 (by decide +kernel) (by decide +kernel)⟩
theorem kn_3 : Cond.instantiable RX3 10 ∈ lw_ok ∧ Cond.initialized RX3 ∈ lw_ok := ⟨lw_in 30 (by decide +kernel) (by decide +kernel), lw_in 24 (by decide +kernel) (by decide +kernel)⟩
end
section
theorem qL_102 : zY RL 102 yL_garden mL_garden 3 := ⟨lw_in 430 (by decide +kernel) (by decide +kernel), lw_in 23 (by decide +kernel) (by decide +kernel), lw_in 432 (by rfl) (by decide +kernel), by decide +kernel⟩
theorem qL_119 : zY RL 119 yL_holds mL_holds 1 := ⟨lw_in 336 (by decide +kernel) (by decide +kernel), lw_in 23 (by decide +kernel) (by decide +kernel), lw_in 338 (by rfl) (by decide +kernel), by decide +kernel⟩
theorem qL_139 : zY RL 139 yL_acts mL_acts 3 := ⟨lw_in 407 (by decide +kernel) (by decide +kernel), lw_in 23 (by decide +kernel) (by decide +kernel), lw_in 409 (by rfl) (by decide +kernel), by decide +kernel⟩
end
