/-! ===== BEGIN words of one list among another's, by their places ===== -/
theorem goodIn_r {big : List Cond} (ws : List Cond) (ps : List Nat) (hp : ws = ps.filterMap (fun i => big[i]?)) (h : ws.all goodWord = true) : GoodIn big ws := by
  intro w hw
  have h1 := List.all_eq_true.mp h w hw
  rw [hp] at hw
  obtain ⟨i, -, hi⟩ := List.mem_filterMap.mp hw
  have hm : w ∈ big := by first | exact List.mem_of_getElem? hi | exact List.getElem?_mem hi
  exact ⟨hm, good_of_word h1⟩
theorem goodIn_app {big a b : List Cond} (ha : GoodIn big a) (hb : GoodIn big b) : GoodIn big (a ++ b) := fun w h => (List.mem_append.mp h).elim (ha w) (hb w)
theorem goodIn_ca {big a b : List Cond} {c : Cond} (ha : GoodIn big (c :: a)) (hb : GoodIn big b) : GoodIn big (c :: (a ++ b)) := fun w h => (List.mem_cons.mp h).elim (fun e => ha w (List.mem_cons.mpr (Or.inl e))) (fun h => (List.mem_append.mp h).elim (fun h => ha w (List.mem_cons.mpr (Or.inr h))) (hb w))
theorem goodIn_sub {big ws : List Cond} (hm : ∀ w ∈ ws, w ∈ big) (h : ws.all goodWord = true) : GoodIn big ws := fun w hw => ⟨hm w hw, good_of_word (List.all_eq_true.mp h w hw)⟩
/-! ===== END ===== -/

/-! ===== BEGIN new T[n][m]: the outer array a place, the inner ones among the pooled ===== -/
/-- f, but v at every address of l -/
def vr_up {α : Type} (f : Nat → α) (l : List Nat) (v : α) : Nat → α := fun a => if a ∈ l then v else f a
theorem vr_up_in {α : Type} {f : Nat → α} {l : List Nat} {v : α} {a : Nat} (h : a ∈ l) : vr_up f l v a = v := if_pos h
theorem vr_up_ne {α : Type} {f : Nat → α} {l : List Nat} {v : α} {a : Nat} (h : a ∉ l) : vr_up f l v a = f a := if_neg h
theorem vr_rows {L l : List Nat} {f : Nat → va_E} {e : va_E} (h : ∀ a, a ∈ l → a ∉ L) : va_pl L f ++ l.map (fun a => (a, e)) = va_pl (L ++ l) (vr_up f l e) := by
  unfold va_pl
  rw [List.map_append]
  congr 1
  · apply List.map_congr_left
    intro a ha
    rw [vr_up_ne (fun q => h a q ha)]
  · apply List.map_congr_left
    intro a ha
    rw [vr_up_in ha]
theorem vr_lay {X rows : va_W} {x : Nat × va_E} {pl : va_W} {D : va_G} {cl : List vw_C} {H : Heap} (hP : va_P D cl (((X ++ pl) ++ [x]) ++ rows) H) : va_P D cl ((X ++ [x]) ++ (pl ++ rows)) H := by
  rw [List.append_assoc (X ++ pl)] at hP
  have h := va_P.swap hP
  rw [← List.append_assoc X] at h
  have h2 := va_P.swap h
  rw [List.append_assoc (X ++ [x])] at h2
  exact h2
theorem vr_layD {X rows : va_W} {x : Nat × va_E} {pl : va_W} {A : Nat → Prop} (hD : va_D A (((X ++ pl) ++ [x]) ++ rows)) : va_D A ((X ++ [x]) ++ (pl ++ rows)) := by
  rw [List.append_assoc (X ++ pl)] at hD
  have h := va_D.swap hD
  rw [← List.append_assoc X] at h
  have h2 := va_D.swap h
  rw [List.append_assoc (X ++ [x])] at h2
  exact h2
theorem vr_outer (c : ClassId) (N h0 : Nat) : ∀ i : Nat, Jvm.Free.Multi.outerC c N h0 i = arrV c N (fun j => va_rf (if j < i then some (h0 + 1 + j) else none))
  | 0 => by
    show ({ cls := c, slots := Array.replicate N .null, vm := .none } : Cell) = _
    rw [arrV_new]
    refine congrArg (arrV c N) (funext fun j => ?_)
    simp [va_rf]
  | i + 1 => by
    show (Jvm.Free.Multi.outerC c N h0 i).setSlot i (.ref (h0 + 1 + i)) = _
    rw [vr_outer c N h0 i, arrV_store]
    refine congrArg (arrV c N) (funext fun j => ?_)
    by_cases e : j = i
    · subst e
      simp [updV, va_rf]
    · by_cases h : j < i
      · simp [updV, e, h, Nat.lt_succ_of_lt h]
      · simp [updV, e, h, show ¬ j < i + 1 by omega]
/-! ===== END ===== -/
/-! ===== BEGIN printed: names, fields, word lists, decode rows ===== -/
def RX0 : String := "HedgeTreaties$Pad"
def TX0 : u_T := fun k => match k with
  | 0 => ("HedgeTreaties$Pad", "codes", "[I", true)
  | 1 => ("HedgeTreaties$Pad", "length", "I", false)
  | 2 => ("HedgeTreaties$Pad", "positions", "[I", true)
  | 3 => ("HedgeTreaties$Pad", "firsts", "[I", true)
  | 4 => ("HedgeTreaties$Pad", "others", "[I", true)
  | 5 => ("HedgeTreaties$Pad", "ds", "[I", true)
  | 6 => ("HedgeTreaties$Pad", "parts", "I", false)
  | 7 => ("HedgeTreaties$Pad", "sign", "I", false)
  | 8 => ("HedgeTreaties$Pad", "number", "I", false)
  | _ => ("HedgeTreaties$Pad", "mostNumber", "I", false)
def tyX0 : Nat → FieldType := fun k => match k with
  | 0 => .array .int
  | 1 => .int
  | 2 => .array .int
  | 3 => .array .int
  | 4 => .array .int
  | 5 => .array .int
  | 6 => .int
  | 7 => .int
  | 8 => .int
  | _ => .int
abbrev wsX00 : List Cond := u_ws RX0 TX0 10
theorem nmX0 : ∀ a, a < 10 → ∀ b, b < 10 → a ≠ b → (TX0 a).2.1 ≠ (TX0 b).2.1 := by decide +kernel
theorem tyX0_ok : ∀ k, k < 10 → parseFieldDescriptor (TX0 k).2.2.1 = some (tyX0 k) := by decide +kernel
abbrev cX0_init : ByteArray := prog_2_method_1_code
def yX0_init : MethodName := ⟨RX0, "<init>", "()V"⟩
abbrev cX0_read : ByteArray := prog_2_method_2_code
def yX0_read : MethodName := ⟨RX0, "read", "()I"⟩
abbrev cX0_placeBehind : ByteArray := prog_2_method_3_code
def yX0_placeBehind : MethodName := ⟨RX0, "placeBehind", "(II)I"⟩
abbrev cX0_isDigit : ByteArray := prog_2_method_4_code
def yX0_isDigit : MethodName := ⟨RX0, "isDigit", "(II)Z"⟩
abbrev cX0_startPart : ByteArray := prog_2_method_5_code
def yX0_startPart : MethodName := ⟨RX0, "startPart", "(I)I"⟩
abbrev cX0_takeOther : ByteArray := prog_2_method_6_code
def yX0_takeOther : MethodName := ⟨RX0, "takeOther", "(I)I"⟩
abbrev cX0_takeSign : ByteArray := prog_2_method_7_code
def yX0_takeSign : MethodName := ⟨RX0, "takeSign", "(I)I"⟩
abbrev cX0_startNumber : ByteArray := prog_2_method_8_code
def yX0_startNumber : MethodName := ⟨RX0, "startNumber", "(II)I"⟩
abbrev cX0_takeDigit : ByteArray := prog_2_method_9_code
def yX0_takeDigit : MethodName := ⟨RX0, "takeDigit", "(I)I"⟩
def RX1 : String := "HedgeTreaties$Street"
def TX1 : u_T := fun k => match k with
  | 0 => ("HedgeTreaties$Street", "heights", "[I", true)
  | 1 => ("HedgeTreaties$Street", "growths", "[I", true)
  | 2 => ("HedgeTreaties$Street", "nestedUntil", "[I", true)
  | 3 => ("HedgeTreaties$Street", "clippedOff", "[I", true)
  | 4 => ("HedgeTreaties$Street", "firsts", "[I", true)
  | 5 => ("HedgeTreaties$Street", "others", "[I", true)
  | 6 => ("HedgeTreaties$Street", "ds", "[I", true)
  | 7 => ("HedgeTreaties$Street", "frozenUntil", "[I", true)
  | 8 => ("HedgeTreaties$Street", "treaties", "I", false)
  | 9 => ("HedgeTreaties$Street", "today", "I", false)
  | 10 => ("HedgeTreaties$Street", "cakes", "I", false)
  | 11 => ("HedgeTreaties$Street", "signedSoFar", "I", false)
  | 12 => ("HedgeTreaties$Street", "refusedSoFar", "I", false)
  | _ => ("HedgeTreaties$Street", "clipsSoFar", "I", false)
def tyX1 : Nat → FieldType := fun k => match k with
  | 0 => .array .int
  | 1 => .array .int
  | 2 => .array .int
  | 3 => .array .int
  | 4 => .array .int
  | 5 => .array .int
  | 6 => .array .int
  | 7 => .array .int
  | 8 => .int
  | 9 => .int
  | 10 => .int
  | 11 => .int
  | 12 => .int
  | _ => .int
abbrev wsX10 : List Cond := u_ws RX1 TX1 14
theorem nmX1 : ∀ a, a < 14 → ∀ b, b < 14 → a ≠ b → (TX1 a).2.1 ≠ (TX1 b).2.1 := by decide +kernel
theorem tyX1_ok : ∀ k, k < 14 → parseFieldDescriptor (TX1 k).2.2.1 = some (tyX1 k) := by decide +kernel
abbrev cX1_init : ByteArray := prog_3_method_1_code
def yX1_init : MethodName := ⟨RX1, "<init>", "()V"⟩
abbrev cX1_copyFrom : ByteArray := prog_3_method_2_code
def yX1_copyFrom : MethodName := ⟨RX1, "copyFrom", "(LHedgeTreaties$Street;)V"⟩
abbrev cX1_isNested : ByteArray := prog_3_method_3_code
def yX1_isNested : MethodName := ⟨RX1, "isNested", "(I)Z"⟩
abbrev cX1_countNested : ByteArray := prog_3_method_4_code
def yX1_countNested : MethodName := ⟨RX1, "countNested", "()I"⟩
abbrev cX1_heightAfter : ByteArray := prog_3_method_5_code
def yX1_heightAfter : MethodName := ⟨RX1, "heightAfter", "(II)I"⟩
abbrev cX1_heightsAfter : ByteArray := prog_3_method_6_code
def yX1_heightsAfter : MethodName := ⟨RX1, "heightsAfter", "(I)I"⟩
abbrev cX1_passDay : ByteArray := prog_3_method_7_code
def yX1_passDay : MethodName := ⟨RX1, "passDay", "()V"⟩
abbrev cX1_cutOff : ByteArray := prog_3_method_8_code
def yX1_cutOff : MethodName := ⟨RX1, "cutOff", "(II)V"⟩
abbrev cX1_addTreaty : ByteArray := prog_3_method_9_code
def yX1_addTreaty : MethodName := ⟨RX1, "addTreaty", "(III)V"⟩
abbrev cX1_removeTreaty : ByteArray := prog_3_method_10_code
def yX1_removeTreaty : MethodName := ⟨RX1, "removeTreaty", "(I)V"⟩
abbrev cX1_isAbout : ByteArray := prog_3_method_11_code
def yX1_isAbout : MethodName := ⟨RX1, "isAbout", "(II)Z"⟩
abbrev cX1_isInForce : ByteArray := prog_3_method_12_code
def yX1_isInForce : MethodName := ⟨RX1, "isInForce", "(I)Z"⟩
abbrev cX1_countInForce : ByteArray := prog_3_method_13_code
def yX1_countInForce : MethodName := ⟨RX1, "countInForce", "(I)I"⟩
abbrev cX1_slackAfter : ByteArray := prog_3_method_14_code
def yX1_slackAfter : MethodName := ⟨RX1, "slackAfter", "(II)I"⟩
abbrev cX1_isBrokenAfter : ByteArray := prog_3_method_15_code
def yX1_isBrokenAfter : MethodName := ⟨RX1, "isBrokenAfter", "(II)Z"⟩
abbrev cX1_isBroken : ByteArray := prog_3_method_16_code
def yX1_isBroken : MethodName := ⟨RX1, "isBroken", "(I)Z"⟩
abbrev cX1_countBroken : ByteArray := prog_3_method_17_code
def yX1_countBroken : MethodName := ⟨RX1, "countBroken", "(II)I"⟩
def RX2 : String := "HedgeTreaties$Surveyor"
def TX2 : u_T := fun k => match k with
  | 0 => ("HedgeTreaties$Surveyor", "levels", "[I", true)
  | 1 => ("HedgeTreaties$Surveyor", "sums", "[I", true)
  | _ => ("HedgeTreaties$Surveyor", "pairs", "[[I", true)
def tyX2 : Nat → FieldType := fun k => match k with
  | 0 => .array .int
  | 1 => .array .int
  | _ => .array (.array .int)
abbrev wsX20 : List Cond := u_ws RX2 TX2 3
theorem nmX2 : ∀ a, a < 3 → ∀ b, b < 3 → a ≠ b → (TX2 a).2.1 ≠ (TX2 b).2.1 := by decide +kernel
theorem tyX2_ok : ∀ k, k < 3 → parseFieldDescriptor (TX2 k).2.2.1 = some (tyX2 k) := by decide +kernel
abbrev cX2_init : ByteArray := prog_4_method_1_code
def yX2_init : MethodName := ⟨RX2, "<init>", "()V"⟩
abbrev cX2_boundByTreaties : ByteArray := prog_4_method_2_code
def yX2_boundByTreaties : MethodName := ⟨RX2, "boundByTreaties", "(LHedgeTreaties$Street;III)I"⟩
abbrev cX2_shortenSums : ByteArray := prog_4_method_3_code
def yX2_shortenSums : MethodName := ⟨RX2, "shortenSums", "(LHedgeTreaties$Street;I)Z"⟩
abbrev cX2_boundByPairs : ByteArray := prog_4_method_4_code
def yX2_boundByPairs : MethodName := ⟨RX2, "boundByPairs", "(LHedgeTreaties$Street;II)I"⟩
abbrev cX2_findPairs : ByteArray := prog_4_method_5_code
def yX2_findPairs : MethodName := ⟨RX2, "findPairs", "(LHedgeTreaties$Street;)V"⟩
abbrev cX2_startPairs : ByteArray := prog_4_method_6_code
def yX2_startPairs : MethodName := ⟨RX2, "startPairs", "(LHedgeTreaties$Street;)V"⟩
abbrev cX2_joinPair : ByteArray := prog_4_method_7_code
def yX2_joinPair : MethodName := ⟨RX2, "joinPair", "(III)V"⟩
abbrev cX2_findLeastClipping : ByteArray := prog_4_method_8_code
def yX2_findLeastClipping : MethodName := ⟨RX2, "findLeastClipping", "(LHedgeTreaties$Street;)Z"⟩
abbrev cX2_findLeastClippingByBounds : ByteArray := prog_4_method_9_code
def yX2_findLeastClippingByBounds : MethodName := ⟨RX2, "findLeastClippingByBounds", "(LHedgeTreaties$Street;)Z"⟩
abbrev cX2_isPossibleWith : ByteArray := prog_4_method_10_code
def yX2_isPossibleWith : MethodName := ⟨RX2, "isPossibleWith", "(LHedgeTreaties$Street;III)Z"⟩
abbrev cX2_pressByTreaties : ByteArray := prog_4_method_11_code
def yX2_pressByTreaties : MethodName := ⟨RX2, "pressByTreaties", "(LHedgeTreaties$Street;Z)Z"⟩
abbrev cX2_press : ByteArray := prog_4_method_12_code
def yX2_press : MethodName := ⟨RX2, "press", "(III)Z"⟩
abbrev cX2_areLevelsAboveGround : ByteArray := prog_4_method_13_code
def yX2_areLevelsAboveGround : MethodName := ⟨RX2, "areLevelsAboveGround", "()Z"⟩
def RX3 : String := "HedgeTreaties"
def TX3 : u_T := fun k => match k with
  | 0 => ("HedgeTreaties", "street", "LHedgeTreaties$Street;", true)
  | 1 => ("HedgeTreaties", "snapshot", "LHedgeTreaties$Street;", true)
  | 2 => ("HedgeTreaties", "history", "[LHedgeTreaties$Street;", true)
  | 3 => ("HedgeTreaties", "surveyor", "LHedgeTreaties$Surveyor;", true)
  | 4 => ("HedgeTreaties", "pad", "LHedgeTreaties$Pad;", true)
  | 5 => ("HedgeTreaties", "states", "I", false)
  | 6 => ("HedgeTreaties", "saved", "Z", false)
  | 7 => ("HedgeTreaties", "stopAnswer", "I", false)
  | 8 => ("HedgeTreaties", "stopPart", "I", false)
  | _ => ("HedgeTreaties", "stopPosition", "I", false)
def tyX3 : Nat → FieldType := fun k => match k with
  | 0 => .object "HedgeTreaties$Street"
  | 1 => .object "HedgeTreaties$Street"
  | 2 => .array (.object "HedgeTreaties$Street")
  | 3 => .object "HedgeTreaties$Surveyor"
  | 4 => .object "HedgeTreaties$Pad"
  | 5 => .int
  | 6 => .boolean
  | 7 => .int
  | 8 => .int
  | _ => .int
abbrev wsX30 : List Cond := u_ws RX3 TX3 10
theorem nmX3 : ∀ a, a < 10 → ∀ b, b < 10 → a ≠ b → (TX3 a).2.1 ≠ (TX3 b).2.1 := by decide +kernel
theorem tyX3_ok : ∀ k, k < 10 → parseFieldDescriptor (TX3 k).2.2.1 = some (tyX3 k) := by decide +kernel
abbrev cX3_init : ByteArray := prog_1_method_1_code
def yX3_init : MethodName := ⟨RX3, "<init>", "()V"⟩
abbrev cX3_height : ByteArray := prog_1_method_2_code
def yX3_height : MethodName := ⟨RX3, "height", "(II)I"⟩
abbrev cX3_growth : ByteArray := prog_1_method_3_code
def yX3_growth : MethodName := ⟨RX3, "growth", "(II)I"⟩
abbrev cX3_nest : ByteArray := prog_1_method_4_code
def yX3_nest : MethodName := ⟨RX3, "nest", "(II)I"⟩
abbrev cX3_clip : ByteArray := prog_1_method_5_code
def yX3_clip : MethodName := ⟨RX3, "clip", "(II)I"⟩
abbrev cX3_plan : ByteArray := prog_1_method_6_code
def yX3_plan : MethodName := ⟨RX3, "plan", "()I"⟩
abbrev cX3_day : ByteArray := prog_1_method_7_code
def yX3_day : MethodName := ⟨RX3, "day", "()I"⟩
abbrev cX3_sign : ByteArray := prog_1_method_8_code
def yX3_sign : MethodName := ⟨RX3, "sign", "(III)I"⟩
abbrev cX3_cancel : ByteArray := prog_1_method_9_code
def yX3_cancel : MethodName := ⟨RX3, "cancel", "(I)I"⟩
abbrev cX3_freeze : ByteArray := prog_1_method_10_code
def yX3_freeze : MethodName := ⟨RX3, "freeze", "(II)I"⟩
abbrev cX3_thaw : ByteArray := prog_1_method_11_code
def yX3_thaw : MethodName := ⟨RX3, "thaw", "(I)I"⟩
abbrev cX3_append : ByteArray := prog_1_method_12_code
def yX3_append : MethodName := ⟨RX3, "append", "(I)I"⟩
abbrev cX3_clear : ByteArray := prog_1_method_13_code
def yX3_clear : MethodName := ⟨RX3, "clear", "()I"⟩
abbrev cX3_fault : ByteArray := prog_1_method_14_code
def yX3_fault : MethodName := ⟨RX3, "fault", "()I"⟩
abbrev cX3_signAll : ByteArray := prog_1_method_15_code
def yX3_signAll : MethodName := ⟨RX3, "signAll", "()I"⟩
abbrev cX3_why : ByteArray := prog_1_method_16_code
def yX3_why : MethodName := ⟨RX3, "why", "(I)I"⟩
abbrev cX3_hedge : ByteArray := prog_1_method_17_code
def yX3_hedge : MethodName := ⟨RX3, "hedge", "(II)I"⟩
abbrev cX3_treaty : ByteArray := prog_1_method_18_code
def yX3_treaty : MethodName := ⟨RX3, "treaty", "(II)I"⟩
abbrev cX3_bound : ByteArray := prog_1_method_19_code
def yX3_bound : MethodName := ⟨RX3, "bound", "(III)I"⟩
abbrev cX3_whyNot : ByteArray := prog_1_method_20_code
def yX3_whyNot : MethodName := ⟨RX3, "whyNot", "(III)I"⟩
abbrev cX3_clipping : ByteArray := prog_1_method_21_code
def yX3_clipping : MethodName := ⟨RX3, "clipping", "(I)I"⟩
abbrev cX3_count : ByteArray := prog_1_method_22_code
def yX3_count : MethodName := ⟨RX3, "count", "(I)I"⟩
abbrev cX3_peace : ByteArray := prog_1_method_23_code
def yX3_peace : MethodName := ⟨RX3, "peace", "()D"⟩
abbrev cX3_ifDays : ByteArray := prog_1_method_24_code
def yX3_ifDays : MethodName := ⟨RX3, "ifDays", "(II)I"⟩
abbrev cX3_breaksIn : ByteArray := prog_1_method_25_code
def yX3_breaksIn : MethodName := ⟨RX3, "breaksIn", "()I"⟩
abbrev cX3_tightest : ByteArray := prog_1_method_26_code
def yX3_tightest : MethodName := ⟨RX3, "tightest", "(II)I"⟩
abbrev cX3_undo : ByteArray := prog_1_method_27_code
def yX3_undo : MethodName := ⟨RX3, "undo", "()I"⟩
abbrev cX3_save : ByteArray := prog_1_method_28_code
def yX3_save : MethodName := ⟨RX3, "save", "()I"⟩
abbrev cX3_restore : ByteArray := prog_1_method_29_code
def yX3_restore : MethodName := ⟨RX3, "restore", "()I"⟩
abbrev cX3_isHedge : ByteArray := prog_1_method_30_code
def yX3_isHedge : MethodName := ⟨RX3, "isHedge", "(I)Z"⟩
abbrev cX3_isTreaty : ByteArray := prog_1_method_31_code
def yX3_isTreaty : MethodName := ⟨RX3, "isTreaty", "(I)Z"⟩
abbrev cX3_isAgreement : ByteArray := prog_1_method_32_code
def yX3_isAgreement : MethodName := ⟨RX3, "isAgreement", "(III)Z"⟩
abbrev cX3_sum : ByteArray := prog_1_method_33_code
def yX3_sum : MethodName := ⟨RX3, "sum", "([I)I"⟩
abbrev cX3_remember : ByteArray := prog_1_method_34_code
def yX3_remember : MethodName := ⟨RX3, "remember", "()V"⟩
abbrev cX3_dropOldestState : ByteArray := prog_1_method_35_code
def yX3_dropOldestState : MethodName := ⟨RX3, "dropOldestState", "()V"⟩
abbrev cX3_refuse : ByteArray := prog_1_method_36_code
def yX3_refuse : MethodName := ⟨RX3, "refuse", "(I)I"⟩
abbrev cX3_isNestInTheWay : ByteArray := prog_1_method_37_code
def yX3_isNestInTheWay : MethodName := ⟨RX3, "isNestInTheWay", "()Z"⟩
abbrev cX3_errorOfSigning : ByteArray := prog_1_method_38_code
def yX3_errorOfSigning : MethodName := ⟨RX3, "errorOfSigning", "(III)I"⟩
abbrev cX3_reasonAgainst : ByteArray := prog_1_method_39_code
def yX3_reasonAgainst : MethodName := ⟨RX3, "reasonAgainst", "(III)I"⟩
abbrev cX3_signOne : ByteArray := prog_1_method_40_code
def yX3_signOne : MethodName := ⟨RX3, "signOne", "(III)I"⟩
abbrev cX3_signPart : ByteArray := prog_1_method_41_code
def yX3_signPart : MethodName := ⟨RX3, "signPart", "(I)I"⟩
abbrev cX3_isNothingNewBesideOthers : ByteArray := prog_1_method_42_code
def yX3_isNothingNewBesideOthers : MethodName := ⟨RX3, "isNothingNewBesideOthers", "(I)Z"⟩
def RX4 : String := "HedgeTreatiesModel"
def TX4 : u_T := fun k => match k with
  | _ => ("", "", "", false)
def tyX4 : Nat → FieldType := fun k => match k with
  | _ => .int
abbrev wsX40 : List Cond := u_ws RX4 TX4 0
theorem nmX4 : ∀ a, a < 0 → ∀ b, b < 0 → a ≠ b → (TX4 a).2.1 ≠ (TX4 b).2.1 := by decide +kernel
theorem tyX4_ok : ∀ k, k < 0 → parseFieldDescriptor (TX4 k).2.2.1 = some (tyX4 k) := by decide +kernel
def RL : String := "HedgeTreatiesLaw"
abbrev cL_lot : ByteArray := method_2_code
def yL_lot : MethodName := ⟨RL, "lot", "([II)I"⟩
abbrev cL_low : ByteArray := method_3_code
def yL_low : MethodName := ⟨RL, "low", "(II)I"⟩
abbrev cL_look : ByteArray := method_4_code
def yL_look : MethodName := ⟨RL, "look", "(LHedgeTreaties;)J"⟩
abbrev cL_holds : ByteArray := method_5_code
def yL_holds : MethodName := ⟨RL, "holds", "(LHedgeTreaties;)Z"⟩
abbrev cL_would : ByteArray := method_6_code
def yL_would : MethodName := ⟨RL, "would", "(LHedgeTreaties;I)Z"⟩
abbrev cL_types : ByteArray := method_7_code
def yL_types : MethodName := ⟨RL, "types", "(LHedgeTreaties;I)Z"⟩
abbrev cL_signs : ByteArray := method_8_code
def yL_signs : MethodName := ⟨RL, "signs", "(LHedgeTreaties;I)Z"⟩
abbrev cL_garden : ByteArray := method_9_code
def yL_garden : MethodName := ⟨RL, "garden", "(LHedgeTreaties;II)Z"⟩
abbrev cL_talks : ByteArray := method_10_code
def yL_talks : MethodName := ⟨RL, "talks", "(LHedgeTreaties;II)Z"⟩
abbrev cL_acts : ByteArray := method_11_code
def yL_acts : MethodName := ⟨RL, "acts", "(LHedgeTreaties;II)Z"⟩
abbrev cL_law : ByteArray := code
def yL_law : MethodName := ⟨RL, "law", "([I)Z"⟩
abbrev vwCl : List vw_C := [(RX0, TX0, 10), (RX1, TX1, 14), (RX2, TX2, 3), (RX3, TX3, 10)]
