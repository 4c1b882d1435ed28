/-! ===== BEGIN words of one list among another's, by their places ===== -/
theorem goodIn_r {big : List Cond} (ws : List Cond) (ps : List Nat) (hp : ws = ps.filterMap (fun i => big[i]?)) (h : ws.all goodWord = true) : GoodIn big ws := by
  intro w hw
  have h1 := List.all_eq_true.mp h w hw
  rw [hp] at hw
  obtain ⟨i, -, hi⟩ := List.mem_filterMap.mp hw
  have hm : w ∈ big := by first | exact List.mem_of_getElem? hi | exact List.getElem?_mem hi
  exact ⟨hm, good_of_word h1⟩
theorem goodIn_app {big a b : List Cond} (ha : GoodIn big a) (hb : GoodIn big b) : GoodIn big (a ++ b) := fun w h => (List.mem_append.mp h).elim (ha w) (hb w)
theorem goodIn_ca {big a b : List Cond} {c : Cond} (ha : GoodIn big (c :: a)) (hb : GoodIn big b) : GoodIn big (c :: (a ++ b)) := fun w h => (List.mem_cons.mp h).elim (fun e => ha w (List.mem_cons.mpr (Or.inl e))) (fun h => (List.mem_append.mp h).elim (fun h => ha w (List.mem_cons.mpr (Or.inr h))) (hb w))
theorem goodIn_sub {big ws : List Cond} (hm : ∀ w ∈ ws, w ∈ big) (h : ws.all goodWord = true) : GoodIn big ws := fun w hw => ⟨hm w hw, good_of_word (List.all_eq_true.mp h w hw)⟩
/-! ===== END ===== -/

/-! ===== BEGIN new T[n][m]: the outer array a place, the inner ones among the pooled ===== -/
/-- f, but v at every address of l -/
def vr_up {α : Type} (f : Nat → α) (l : List Nat) (v : α) : Nat → α := fun a => if a ∈ l then v else f a
theorem vr_up_in {α : Type} {f : Nat → α} {l : List Nat} {v : α} {a : Nat} (h : a ∈ l) : vr_up f l v a = v := if_pos h
theorem vr_up_ne {α : Type} {f : Nat → α} {l : List Nat} {v : α} {a : Nat} (h : a ∉ l) : vr_up f l v a = f a := if_neg h
theorem vr_rows {L l : List Nat} {f : Nat → va_E} {e : va_E} (h : ∀ a, a ∈ l → a ∉ L) : va_pl L f ++ l.map (fun a => (a, e)) = va_pl (L ++ l) (vr_up f l e) := by
  unfold va_pl
  rw [List.map_append]
  congr 1
  · apply List.map_congr_left
    intro a ha
    rw [vr_up_ne (fun q => h a q ha)]
  · apply List.map_congr_left
    intro a ha
    rw [vr_up_in ha]
theorem vr_lay {X rows : va_W} {x : Nat × va_E} {pl : va_W} {D : va_G} {cl : List vw_C} {H : Heap} (hP : va_P D cl (((X ++ pl) ++ [x]) ++ rows) H) : va_P D cl ((X ++ [x]) ++ (pl ++ rows)) H := by
  rw [List.append_assoc (X ++ pl)] at hP
  have h := va_P.swap hP
  rw [← List.append_assoc X] at h
  have h2 := va_P.swap h
  rw [List.append_assoc (X ++ [x])] at h2
  exact h2
theorem vr_layD {X rows : va_W} {x : Nat × va_E} {pl : va_W} {A : Nat → Prop} (hD : va_D A (((X ++ pl) ++ [x]) ++ rows)) : va_D A ((X ++ [x]) ++ (pl ++ rows)) := by
  rw [List.append_assoc (X ++ pl)] at hD
  have h := va_D.swap hD
  rw [← List.append_assoc X] at h
  have h2 := va_D.swap h
  rw [List.append_assoc (X ++ [x])] at h2
  exact h2
theorem vr_outer (c : ClassId) (N h0 : Nat) : ∀ i : Nat, Jvm.Free.Multi.outerC c N h0 i = arrV c N (fun j => va_rf (if j < i then some (h0 + 1 + j) else none))
  | 0 => by
    show ({ cls := c, slots := Array.replicate N .null, vm := .none } : Cell) = _
    rw [arrV_new]
    refine congrArg (arrV c N) (funext fun j => ?_)
    simp [va_rf]
  | i + 1 => by
    show (Jvm.Free.Multi.outerC c N h0 i).setSlot i (.ref (h0 + 1 + i)) = _
    rw [vr_outer c N h0 i, arrV_store]
    refine congrArg (arrV c N) (funext fun j => ?_)
    by_cases e : j = i
    · subst e
      simp [updV, va_rf]
    · by_cases h : j < i
      · simp [updV, e, h, Nat.lt_succ_of_lt h]
      · simp [updV, e, h, show ¬ j < i + 1 by omega]
def RX0 : String := "CoverMarks$Covers"
def TX0 : u_T := fun k => match k with
  | 0 => ("CoverMarks$Covers", "marks", "[LCoverMarks$Mark;", true)
  | _ => ("CoverMarks$Covers", "count", "I", false)
def tyX0 : Nat → FieldType := fun k => match k with
  | 0 => .array (.object "CoverMarks$Mark")
  | _ => .int
abbrev wsX00 : List Cond := u_ws RX0 TX0 2
theorem nmX0 : ∀ a, a < 2 → ∀ b, b < 2 → a ≠ b → (TX0 a).2.1 ≠ (TX0 b).2.1 := by decide +kernel
theorem tyX0_ok : ∀ k, k < 2 → parseFieldDescriptor (TX0 k).2.2.1 = some (tyX0 k) := by decide +kernel
abbrev cX0_init : ByteArray := prog_2_method_1_code
def yX0_init : MethodName := ⟨RX0, "<init>", "()V"⟩
abbrev cX0_add : ByteArray := prog_2_method_2_code
def yX0_add : MethodName := ⟨RX0, "add", "(LCoverMarks$Mark;)I"⟩
abbrev cX0_countOn : ByteArray := prog_2_method_3_code
def yX0_countOn : MethodName := ⟨RX0, "countOn", "(II)I"⟩
abbrev cX0_areOneMail : ByteArray := prog_2_method_4_code
def yX0_areOneMail : MethodName := ⟨RX0, "areOneMail", "(III)Z"⟩
abbrev cX0_hasMarkWith : ByteArray := prog_2_method_5_code
def yX0_hasMarkWith : MethodName := ⟨RX0, "hasMarkWith", "(LCoverMarks$Mark;II)Z"⟩
abbrev cX0_heapOf : ByteArray := prog_2_method_6_code
def yX0_heapOf : MethodName := ⟨RX0, "heapOf", "(II)I"⟩
abbrev cX0_lowestOf : ByteArray := prog_2_method_7_code
def yX0_lowestOf : MethodName := ⟨RX0, "lowestOf", "(I)I"⟩
abbrev cX0_manyOf : ByteArray := prog_2_method_8_code
def yX0_manyOf : MethodName := ⟨RX0, "manyOf", "(II)I"⟩
abbrev cX0_hasDie : ByteArray := prog_2_method_9_code
def yX0_hasDie : MethodName := ⟨RX0, "hasDie", "(III)Z"⟩
abbrev cX0_wordOf : ByteArray := prog_2_method_10_code
def yX0_wordOf : MethodName := ⟨RX0, "wordOf", "(IIII)J"⟩
abbrev cX0_nextLook : ByteArray := prog_2_method_11_code
def yX0_nextLook : MethodName := ⟨RX0, "nextLook", "(II)I"⟩
def RX1 : String := "CoverMarks$DaySet"
def TX1 : u_T := fun k => match k with
  | _ => ("CoverMarks$DaySet", "words", "[J", true)
def tyX1 : Nat → FieldType := fun k => match k with
  | _ => .array .long
abbrev wsX10 : List Cond := u_ws RX1 TX1 1
theorem nmX1 : ∀ a, a < 1 → ∀ b, b < 1 → a ≠ b → (TX1 a).2.1 ≠ (TX1 b).2.1 := by decide +kernel
theorem tyX1_ok : ∀ k, k < 1 → parseFieldDescriptor (TX1 k).2.2.1 = some (tyX1 k) := by decide +kernel
abbrev cX1_init : ByteArray := prog_3_method_1_code
def yX1_init : MethodName := ⟨RX1, "<init>", "()V"⟩
abbrev cX1_add : ByteArray := prog_3_method_2_code
def yX1_add : MethodName := ⟨RX1, "add", "(I)V"⟩
abbrev cX1_has : ByteArray := prog_3_method_3_code
def yX1_has : MethodName := ⟨RX1, "has", "(I)Z"⟩
abbrev cX1_size : ByteArray := prog_3_method_4_code
def yX1_size : MethodName := ⟨RX1, "size", "()I"⟩
abbrev cX1_firstFrom : ByteArray := prog_3_method_5_code
def yX1_firstFrom : MethodName := ⟨RX1, "firstFrom", "(I)I"⟩
abbrev cX1_lastTill : ByteArray := prog_3_method_6_code
def yX1_lastTill : MethodName := ⟨RX1, "lastTill", "(I)I"⟩
abbrev cX1_meets : ByteArray := prog_3_method_7_code
def yX1_meets : MethodName := ⟨RX1, "meets", "(LCoverMarks$DaySet;)Z"⟩
def RX2 : String := "CoverMarks$Die"
def TX2 : u_T := fun k => match k with
  | 0 => ("CoverMarks$Die", "office", "LCoverMarks$Office;", true)
  | 1 => ("CoverMarks$Die", "inks", "I", true)
  | 2 => ("CoverMarks$Die", "from", "I", true)
  | 3 => ("CoverMarks$Die", "till", "I", true)
  | _ => ("CoverMarks$Die", "nick", "I", true)
def tyX2 : Nat → FieldType := fun k => match k with
  | 0 => .object "CoverMarks$Office"
  | 1 => .int
  | 2 => .int
  | 3 => .int
  | _ => .int
abbrev wsX20 : List Cond := u_ws RX2 TX2 5
theorem nmX2 : ∀ a, a < 5 → ∀ b, b < 5 → a ≠ b → (TX2 a).2.1 ≠ (TX2 b).2.1 := by decide +kernel
theorem tyX2_ok : ∀ k, k < 5 → parseFieldDescriptor (TX2 k).2.2.1 = some (tyX2 k) := by decide +kernel
abbrev cX2_init : ByteArray := prog_4_method_1_code
def yX2_init : MethodName := ⟨RX2, "<init>", "(LCoverMarks$Office;IIII)V"⟩
abbrev cX2_strikesOn : ByteArray := prog_4_method_2_code
def yX2_strikesOn : MethodName := ⟨RX2, "strikesOn", "(I)Z"⟩
abbrev cX2_hasInk : ByteArray := prog_4_method_3_code
def yX2_hasInk : MethodName := ⟨RX2, "hasInk", "(I)Z"⟩
abbrev cX2_fitsNick : ByteArray := prog_4_method_4_code
def yX2_fitsNick : MethodName := ⟨RX2, "fitsNick", "(II)Z"⟩
def RX3 : String := "CoverMarks$Going"
def TX3 : u_T := fun k => match k with
  | 0 => ("CoverMarks$Going", "ways", "LCoverMarks$Ways;", true)
  | 1 => ("CoverMarks$Going", "chain", "[LCoverMarks$Mark;", true)
  | 2 => ("CoverMarks$Going", "soon", "[I", true)
  | 3 => ("CoverMarks$Going", "endOfSet", "[I", true)
  | 4 => ("CoverMarks$Going", "length", "I", false)
  | 5 => ("CoverMarks$Going", "fewestLetBe", "I", false)
  | 6 => ("CoverMarks$Going", "leastSet", "I", false)
  | _ => ("CoverMarks$Going", "rivals", "I", false)
def tyX3 : Nat → FieldType := fun k => match k with
  | 0 => .object "CoverMarks$Ways"
  | 1 => .array (.object "CoverMarks$Mark")
  | 2 => .array .int
  | 3 => .array .int
  | 4 => .int
  | 5 => .int
  | 6 => .int
  | _ => .int
abbrev wsX30 : List Cond := u_ws RX3 TX3 8
theorem nmX3 : ∀ a, a < 8 → ∀ b, b < 8 → a ≠ b → (TX3 a).2.1 ≠ (TX3 b).2.1 := by decide +kernel
theorem tyX3_ok : ∀ k, k < 8 → parseFieldDescriptor (TX3 k).2.2.1 = some (tyX3 k) := by decide +kernel
abbrev cX3_init : ByteArray := prog_5_method_1_code
def yX3_init : MethodName := ⟨RX3, "<init>", "(LCoverMarks$Ways;)V"⟩
abbrev cX3_gather : ByteArray := prog_5_method_2_code
def yX3_gather : MethodName := ⟨RX3, "gather", "(LCoverMarks$Covers;II)Z"⟩
abbrev cX3_firstBarred : ByteArray := prog_5_method_3_code
def yX3_firstBarred : MethodName := ⟨RX3, "firstBarred", "(I)I"⟩
abbrev cX3_lastDayOf : ByteArray := prog_5_method_4_code
def yX3_lastDayOf : MethodName := ⟨RX3, "lastDayOf", "(I)I"⟩
abbrev cX3_weighSets : ByteArray := prog_5_method_5_code
def yX3_weighSets : MethodName := ⟨RX3, "weighSets", "()V"⟩
abbrev cX3_endAllSets : ByteArray := prog_5_method_6_code
def yX3_endAllSets : MethodName := ⟨RX3, "endAllSets", "()V"⟩
abbrev cX3_lastOf : ByteArray := prog_5_method_7_code
def yX3_lastOf : MethodName := ⟨RX3, "lastOf", "(I)I"⟩
def RX4 : String := "CoverMarks$Leaning"
def TX4 : u_T := fun k => match k with
  | _ => ("CoverMarks$Leaning", "trace", "J", false)
def tyX4 : Nat → FieldType := fun k => match k with
  | _ => .long
abbrev wsX40 : List Cond := u_ws RX4 TX4 1
theorem nmX4 : ∀ a, a < 1 → ∀ b, b < 1 → a ≠ b → (TX4 a).2.1 ≠ (TX4 b).2.1 := by decide +kernel
theorem tyX4_ok : ∀ k, k < 1 → parseFieldDescriptor (TX4 k).2.2.1 = some (tyX4 k) := by decide +kernel
abbrev cX4_init : ByteArray := prog_6_method_1_code
def yX4_init : MethodName := ⟨RX4, "<init>", "()V"⟩
abbrev cX4_ofKind : ByteArray := prog_6_method_2_code
def yX4_ofKind : MethodName := ⟨RX4, "ofKind", "(ILCoverMarks$Mark;)I"⟩
abbrev cX4_ofMark : ByteArray := prog_6_method_3_code
def yX4_ofMark : MethodName := ⟨RX4, "ofMark", "(LCoverMarks$Mark;)I"⟩
abbrev cX4_ofDated : ByteArray := prog_6_method_4_code
def yX4_ofDated : MethodName := ⟨RX4, "ofDated", "(LCoverMarks$Mark;)I"⟩
abbrev cX4_ofRate : ByteArray := prog_6_method_5_code
def yX4_ofRate : MethodName := ⟨RX4, "ofRate", "(LCoverMarks$Mark;)I"⟩
abbrev cX4_ofThrough : ByteArray := prog_6_method_6_code
def yX4_ofThrough : MethodName := ⟨RX4, "ofThrough", "(LCoverMarks$Mark;)I"⟩
abbrev cX4_ofStamp : ByteArray := prog_6_method_7_code
def yX4_ofStamp : MethodName := ⟨RX4, "ofStamp", "(LCoverMarks$Mark;)I"⟩
abbrev cX4_ofDoubted : ByteArray := prog_6_method_8_code
def yX4_ofDoubted : MethodName := ⟨RX4, "ofDoubted", "(LCoverMarks$Mark;)I"⟩
def RX5 : String := "CoverMarks$Mark"
def TX5 : u_T := fun k => match k with
  | 0 => ("CoverMarks$Mark", "cover", "I", true)
  | 1 => ("CoverMarks$Mark", "kind", "I", true)
  | 2 => ("CoverMarks$Mark", "looked", "I", true)
  | 3 => ("CoverMarks$Mark", "days", "LCoverMarks$DaySet;", true)
  | 4 => ("CoverMarks$Mark", "mostLeft", "[I", true)
  | 5 => ("CoverMarks$Mark", "date", "I", false)
  | 6 => ("CoverMarks$Mark", "sum", "I", false)
  | 7 => ("CoverMarks$Mark", "dieNumber", "I", false)
  | 8 => ("CoverMarks$Mark", "die", "LCoverMarks$Die;", false)
  | 9 => ("CoverMarks$Mark", "ink", "I", false)
  | 10 => ("CoverMarks$Mark", "nick", "I", false)
  | 11 => ("CoverMarks$Mark", "town", "I", false)
  | _ => ("CoverMarks$Mark", "dayCount", "I", false)
def tyX5 : Nat → FieldType := fun k => match k with
  | 0 => .int
  | 1 => .int
  | 2 => .int
  | 3 => .object "CoverMarks$DaySet"
  | 4 => .array .int
  | 5 => .int
  | 6 => .int
  | 7 => .int
  | 8 => .object "CoverMarks$Die"
  | 9 => .int
  | 10 => .int
  | 11 => .int
  | _ => .int
abbrev wsX50 : List Cond := u_ws RX5 TX5 13
theorem nmX5 : ∀ a, a < 13 → ∀ b, b < 13 → a ≠ b → (TX5 a).2.1 ≠ (TX5 b).2.1 := by decide +kernel
theorem tyX5_ok : ∀ k, k < 13 → parseFieldDescriptor (TX5 k).2.2.1 = some (tyX5 k) := by decide +kernel
abbrev cX5_init : ByteArray := prog_7_method_1_code
def yX5_init : MethodName := ⟨RX5, "<init>", "(III)V"⟩
abbrev cX5_write : ByteArray := prog_7_method_2_code
def yX5_write : MethodName := ⟨RX5, "write", "(II)V"⟩
abbrev cX5_strike : ByteArray := prog_7_method_3_code
def yX5_strike : MethodName := ⟨RX5, "strike", "(ILCoverMarks$Die;II)V"⟩
abbrev cX5_findDays : ByteArray := prog_7_method_4_code
def yX5_findDays : MethodName := ⟨RX5, "findDays", "()V"⟩
abbrev cX5_fitsDate : ByteArray := prog_7_method_5_code
def yX5_fitsDate : MethodName := ⟨RX5, "fitsDate", "(I)Z"⟩
abbrev cX5_fitsDie : ByteArray := prog_7_method_6_code
def yX5_fitsDie : MethodName := ⟨RX5, "fitsDie", "(I)Z"⟩
abbrev cX5_mostDaysByFigure : ByteArray := prog_7_method_7_code
def yX5_mostDaysByFigure : MethodName := ⟨RX5, "mostDaysByFigure", "(I[I)I"⟩
abbrev cX5_isOn : ByteArray := prog_7_method_8_code
def yX5_isOn : MethodName := ⟨RX5, "isOn", "(II)Z"⟩
abbrev cX5_isTorn : ByteArray := prog_7_method_9_code
def yX5_isTorn : MethodName := ⟨RX5, "isTorn", "(I)Z"⟩
abbrev cX5_readBytes : ByteArray := prog_7_method_10_code
def yX5_readBytes : MethodName := ⟨RX5, "readBytes", "()I"⟩
def RX6 : String := "CoverMarks$Office"
def TX6 : u_T := fun k => match k with
  | 0 => ("CoverMarks$Office", "town", "I", true)
  | 1 => ("CoverMarks$Office", "from", "I", true)
  | _ => ("CoverMarks$Office", "till", "I", true)
def tyX6 : Nat → FieldType := fun k => match k with
  | 0 => .int
  | 1 => .int
  | _ => .int
abbrev wsX60 : List Cond := u_ws RX6 TX6 3
theorem nmX6 : ∀ a, a < 3 → ∀ b, b < 3 → a ≠ b → (TX6 a).2.1 ≠ (TX6 b).2.1 := by decide +kernel
theorem tyX6_ok : ∀ k, k < 3 → parseFieldDescriptor (TX6 k).2.2.1 = some (tyX6 k) := by decide +kernel
abbrev cX6_init : ByteArray := prog_8_method_1_code
def yX6_init : MethodName := ⟨RX6, "<init>", "(III)V"⟩
def RX7 : String := "CoverMarks$RateBook"
def TX7 : u_T := fun k => match k with
  | 0 => ("CoverMarks$RateBook", "rules", "[LCoverMarks$Rule;", true)
  | _ => ("CoverMarks$RateBook", "count", "I", false)
def tyX7 : Nat → FieldType := fun k => match k with
  | 0 => .array (.object "CoverMarks$Rule")
  | _ => .int
abbrev wsX70 : List Cond := u_ws RX7 TX7 2
theorem nmX7 : ∀ a, a < 2 → ∀ b, b < 2 → a ≠ b → (TX7 a).2.1 ≠ (TX7 b).2.1 := by decide +kernel
theorem tyX7_ok : ∀ k, k < 2 → parseFieldDescriptor (TX7 k).2.2.1 = some (tyX7 k) := by decide +kernel
abbrev cX7_init : ByteArray := prog_9_method_1_code
def yX7_init : MethodName := ⟨RX7, "<init>", "()V"⟩
abbrev cX7_lastThatHolds : ByteArray := prog_9_method_2_code
def yX7_lastThatHolds : MethodName := ⟨RX7, "lastThatHolds", "(III)I"⟩
def RX8 : String := "CoverMarks$RateText"
def TX8 : u_T := fun k => match k with
  | 0 => ("CoverMarks$RateText", "bytes", "[B", true)
  | 1 => ("CoverMarks$RateText", "length", "I", false)
  | 2 => ("CoverMarks$RateText", "at", "I", false)
  | 3 => ("CoverMarks$RateText", "start", "I", false)
  | 4 => ("CoverMarks$RateText", "token", "I", false)
  | 5 => ("CoverMarks$RateText", "number", "I", false)
  | _ => ("CoverMarks$RateText", "taken", "I", false)
def tyX8 : Nat → FieldType := fun k => match k with
  | 0 => .array .byte
  | 1 => .int
  | 2 => .int
  | 3 => .int
  | 4 => .int
  | 5 => .int
  | _ => .int
abbrev wsX80 : List Cond := u_ws RX8 TX8 7
theorem nmX8 : ∀ a, a < 7 → ∀ b, b < 7 → a ≠ b → (TX8 a).2.1 ≠ (TX8 b).2.1 := by decide +kernel
theorem tyX8_ok : ∀ k, k < 7 → parseFieldDescriptor (TX8 k).2.2.1 = some (tyX8 k) := by decide +kernel
abbrev cX8_init : ByteArray := prog_10_method_1_code
def yX8_init : MethodName := ⟨RX8, "<init>", "()V"⟩
abbrev cX8_addBytes : ByteArray := prog_10_method_2_code
def yX8_addBytes : MethodName := ⟨RX8, "addBytes", "(JI)V"⟩
abbrev cX8_readInto : ByteArray := prog_10_method_3_code
def yX8_readInto : MethodName := ⟨RX8, "readInto", "(LCoverMarks$RateBook;)I"⟩
abbrev cX8_readLandsAndDays : ByteArray := prog_10_method_4_code
def yX8_readLandsAndDays : MethodName := ⟨RX8, "readLandsAndDays", "(LCoverMarks$Rule;)Z"⟩
abbrev cX8_readSums : ByteArray := prog_10_method_5_code
def yX8_readSums : MethodName := ⟨RX8, "readSums", "(LCoverMarks$Rule;)Z"⟩
abbrev cX8_readPart : ByteArray := prog_10_method_6_code
def yX8_readPart : MethodName := ⟨RX8, "readPart", "(LCoverMarks$Rule;)Z"⟩
abbrev cX8_readEnd : ByteArray := prog_10_method_7_code
def yX8_readEnd : MethodName := ⟨RX8, "readEnd", "(LCoverMarks$Rule;)Z"⟩
abbrev cX8_take : ByteArray := prog_10_method_8_code
def yX8_take : MethodName := ⟨RX8, "take", "(I)Z"⟩
abbrev cX8_takeNumber : ByteArray := prog_10_method_9_code
def yX8_takeNumber : MethodName := ⟨RX8, "takeNumber", "(II)Z"⟩
abbrev cX8_step : ByteArray := prog_10_method_10_code
def yX8_step : MethodName := ⟨RX8, "step", "()V"⟩
abbrev cX8_stepNumber : ByteArray := prog_10_method_11_code
def yX8_stepNumber : MethodName := ⟨RX8, "stepNumber", "()I"⟩
abbrev cX8_stepWord : ByteArray := prog_10_method_12_code
def yX8_stepWord : MethodName := ⟨RX8, "stepWord", "()I"⟩
abbrev cX8_spells : ByteArray := prog_10_method_13_code
def yX8_spells : MethodName := ⟨RX8, "spells", "(Ljava/lang/String;)Z"⟩
abbrev cX8_isDigit : ByteArray := prog_10_method_14_code
def yX8_isDigit : MethodName := ⟨RX8, "isDigit", "(I)Z"⟩
abbrev cX8_isLetter : ByteArray := prog_10_method_15_code
def yX8_isLetter : MethodName := ⟨RX8, "isLetter", "(I)Z"⟩
abbrev cX8_isSign : ByteArray := prog_10_method_16_code
def yX8_isSign : MethodName := ⟨RX8, "isSign", "(I)Z"⟩
def RX9 : String := "CoverMarks$Rule"
def TX9 : u_T := fun k => match k with
  | 0 => ("CoverMarks$Rule", "fromLand", "I", false)
  | 1 => ("CoverMarks$Rule", "toLand", "I", false)
  | 2 => ("CoverMarks$Rule", "fromDay", "I", false)
  | 3 => ("CoverMarks$Rule", "tillDay", "I", false)
  | 4 => ("CoverMarks$Rule", "sum", "I", false)
  | 5 => ("CoverMarks$Rule", "grams", "I", false)
  | 6 => ("CoverMarks$Rule", "otherSum", "I", false)
  | 7 => ("CoverMarks$Rule", "partA", "I", false)
  | 8 => ("CoverMarks$Rule", "partB", "I", false)
  | _ => ("CoverMarks$Rule", "due", "Z", false)
def tyX9 : Nat → FieldType := fun k => match k with
  | 0 => .int
  | 1 => .int
  | 2 => .int
  | 3 => .int
  | 4 => .int
  | 5 => .int
  | 6 => .int
  | 7 => .int
  | 8 => .int
  | _ => .boolean
abbrev wsX90 : List Cond := u_ws RX9 TX9 10
theorem nmX9 : ∀ a, a < 10 → ∀ b, b < 10 → a ≠ b → (TX9 a).2.1 ≠ (TX9 b).2.1 := by decide +kernel
theorem tyX9_ok : ∀ k, k < 10 → parseFieldDescriptor (TX9 k).2.2.1 = some (tyX9 k) := by decide +kernel
abbrev cX9_init : ByteArray := prog_11_method_1_code
def yX9_init : MethodName := ⟨RX9, "<init>", "()V"⟩
abbrev cX9_forgetChoices : ByteArray := prog_11_method_2_code
def yX9_forgetChoices : MethodName := ⟨RX9, "forgetChoices", "()V"⟩
abbrev cX9_holds : ByteArray := prog_11_method_3_code
def yX9_holds : MethodName := ⟨RX9, "holds", "(III)Z"⟩
abbrev cX9_sumFor : ByteArray := prog_11_method_4_code
def yX9_sumFor : MethodName := ⟨RX9, "sumFor", "(I)I"⟩
abbrev cX9_partOf : ByteArray := prog_11_method_5_code
def yX9_partOf : MethodName := ⟨RX9, "partOf", "(I)I"⟩
def RX10 : String := "CoverMarks$Ways"
def TX10 : u_T := fun k => match k with
  | 0 => ("CoverMarks$Ways", "from", "[I", true)
  | 1 => ("CoverMarks$Ways", "to", "[I", true)
  | 2 => ("CoverMarks$Ways", "leaves", "[I", true)
  | 3 => ("CoverMarks$Ways", "comes", "[I", true)
  | 4 => ("CoverMarks$Ways", "roads", "[[I", true)
  | 5 => ("CoverMarks$Ways", "soonest", "[I", true)
  | 6 => ("CoverMarks$Ways", "latest", "[I", true)
  | _ => ("CoverMarks$Ways", "sailings", "I", false)
def tyX10 : Nat → FieldType := fun k => match k with
  | 0 => .array .int
  | 1 => .array .int
  | 2 => .array .int
  | 3 => .array .int
  | 4 => .array (.array .int)
  | 5 => .array .int
  | 6 => .array .int
  | _ => .int
abbrev wsX100 : List Cond := u_ws RX10 TX10 8
theorem nmX10 : ∀ a, a < 8 → ∀ b, b < 8 → a ≠ b → (TX10 a).2.1 ≠ (TX10 b).2.1 := by decide +kernel
theorem tyX10_ok : ∀ k, k < 8 → parseFieldDescriptor (TX10 k).2.2.1 = some (tyX10 k) := by decide +kernel
abbrev cX10_init : ByteArray := prog_12_method_1_code
def yX10_init : MethodName := ⟨RX10, "<init>", "()V"⟩
abbrev cX10_addSailing : ByteArray := prog_12_method_2_code
def yX10_addSailing : MethodName := ⟨RX10, "addSailing", "(IIII)I"⟩
abbrev cX10_lostSailings : ByteArray := prog_12_method_3_code
def yX10_lostSailings : MethodName := ⟨RX10, "lostSailings", "()I"⟩
abbrev cX10_spreadFrom : ByteArray := prog_12_method_4_code
def yX10_spreadFrom : MethodName := ⟨RX10, "spreadFrom", "(II)V"⟩
abbrev cX10_spreadBySailings : ByteArray := prog_12_method_5_code
def yX10_spreadBySailings : MethodName := ⟨RX10, "spreadBySailings", "()Z"⟩
abbrev cX10_spreadByRoads : ByteArray := prog_12_method_6_code
def yX10_spreadByRoads : MethodName := ⟨RX10, "spreadByRoads", "()Z"⟩
abbrev cX10_drawBackFrom : ByteArray := prog_12_method_7_code
def yX10_drawBackFrom : MethodName := ⟨RX10, "drawBackFrom", "(II)V"⟩
abbrev cX10_drawBackBySailings : ByteArray := prog_12_method_8_code
def yX10_drawBackBySailings : MethodName := ⟨RX10, "drawBackBySailings", "()Z"⟩
abbrev cX10_drawBackByRoads : ByteArray := prog_12_method_9_code
def yX10_drawBackByRoads : MethodName := ⟨RX10, "drawBackByRoads", "()Z"⟩
def RX11 : String := "CoverMarks"
def TX11 : u_T := fun k => match k with
  | 0 => ("CoverMarks", "lands", "[I", true)
  | 1 => ("CoverMarks", "offices", "[LCoverMarks$Office;", true)
  | 2 => ("CoverMarks", "dies", "[LCoverMarks$Die;", true)
  | 3 => ("CoverMarks", "covers", "LCoverMarks$Covers;", true)
  | 4 => ("CoverMarks", "leaning", "LCoverMarks$Leaning;", true)
  | 5 => ("CoverMarks", "ways", "LCoverMarks$Ways;", true)
  | 6 => ("CoverMarks", "going", "LCoverMarks$Going;", true)
  | 7 => ("CoverMarks", "text", "LCoverMarks$RateText;", true)
  | 8 => ("CoverMarks", "book", "LCoverMarks$RateBook;", false)
  | 9 => ("CoverMarks", "spareBook", "LCoverMarks$RateBook;", false)
  | 10 => ("CoverMarks", "officeCount", "I", false)
  | _ => ("CoverMarks", "dieCount", "I", false)
def tyX11 : Nat → FieldType := fun k => match k with
  | 0 => .array .int
  | 1 => .array (.object "CoverMarks$Office")
  | 2 => .array (.object "CoverMarks$Die")
  | 3 => .object "CoverMarks$Covers"
  | 4 => .object "CoverMarks$Leaning"
  | 5 => .object "CoverMarks$Ways"
  | 6 => .object "CoverMarks$Going"
  | 7 => .object "CoverMarks$RateText"
  | 8 => .object "CoverMarks$RateBook"
  | 9 => .object "CoverMarks$RateBook"
  | 10 => .int
  | _ => .int
abbrev wsX110 : List Cond := u_ws RX11 TX11 12
theorem nmX11 : ∀ a, a < 12 → ∀ b, b < 12 → a ≠ b → (TX11 a).2.1 ≠ (TX11 b).2.1 := by decide +kernel
theorem tyX11_ok : ∀ k, k < 12 → parseFieldDescriptor (TX11 k).2.2.1 = some (tyX11 k) := by decide +kernel
abbrev cX11_init : ByteArray := prog_1_method_1_code
def yX11_init : MethodName := ⟨RX11, "<init>", "()V"⟩
abbrev cX11_town : ByteArray := prog_1_method_2_code
def yX11_town : MethodName := ⟨RX11, "town", "(II)I"⟩
abbrev cX11_office : ByteArray := prog_1_method_3_code
def yX11_office : MethodName := ⟨RX11, "office", "(III)I"⟩
abbrev cX11_die : ByteArray := prog_1_method_4_code
def yX11_die : MethodName := ⟨RX11, "die", "(IIIII)I"⟩
abbrev cX11_mark : ByteArray := prog_1_method_5_code
def yX11_mark : MethodName := ⟨RX11, "mark", "(IIIIIIII)I"⟩
abbrev cX11_lean : ByteArray := prog_1_method_6_code
def yX11_lean : MethodName := ⟨RX11, "lean", "(II)I"⟩
abbrev cX11_about : ByteArray := prog_1_method_7_code
def yX11_about : MethodName := ⟨RX11, "about", "(II)I"⟩
abbrev cX11_span : ByteArray := prog_1_method_8_code
def yX11_span : MethodName := ⟨RX11, "span", "(II)I"⟩
abbrev cX11_can : ByteArray := prog_1_method_9_code
def yX11_can : MethodName := ⟨RX11, "can", "(II)I"⟩
abbrev cX11_marks : ByteArray := prog_1_method_10_code
def yX11_marks : MethodName := ⟨RX11, "marks", "(II)I"⟩
abbrev cX11_sail : ByteArray := prog_1_method_11_code
def yX11_sail : MethodName := ⟨RX11, "sail", "(IIII)I"⟩
abbrev cX11_late : ByteArray := prog_1_method_12_code
def yX11_late : MethodName := ⟨RX11, "late", "(II)I"⟩
abbrev cX11_road : ByteArray := prog_1_method_13_code
def yX11_road : MethodName := ⟨RX11, "road", "(III)I"⟩
abbrev cX11_soonest : ByteArray := prog_1_method_14_code
def yX11_soonest : MethodName := ⟨RX11, "soonest", "(III)I"⟩
abbrev cX11_goes : ByteArray := prog_1_method_15_code
def yX11_goes : MethodName := ⟨RX11, "goes", "(III)I"⟩
abbrev cX11_when : ByteArray := prog_1_method_16_code
def yX11_when : MethodName := ⟨RX11, "when", "(IIII)I"⟩
abbrev cX11_bars : ByteArray := prog_1_method_17_code
def yX11_bars : MethodName := ⟨RX11, "bars", "(II)I"⟩
abbrev cX11_fewest : ByteArray := prog_1_method_18_code
def yX11_fewest : MethodName := ⟨RX11, "fewest", "(III)I"⟩
abbrev cX11_type : ByteArray := prog_1_method_19_code
def yX11_type : MethodName := ⟨RX11, "type", "(JI)I"⟩
abbrev cX11_clear : ByteArray := prog_1_method_20_code
def yX11_clear : MethodName := ⟨RX11, "clear", "()I"⟩
abbrev cX11_rates : ByteArray := prog_1_method_21_code
def yX11_rates : MethodName := ⟨RX11, "rates", "()I"⟩
abbrev cX11_owed : ByteArray := prog_1_method_22_code
def yX11_owed : MethodName := ⟨RX11, "owed", "(IIIII)I"⟩
abbrev cX11_weights : ByteArray := prog_1_method_23_code
def yX11_weights : MethodName := ⟨RX11, "weights", "(IIIII)I"⟩
abbrev cX11_mail : ByteArray := prog_1_method_24_code
def yX11_mail : MethodName := ⟨RX11, "mail", "(III)I"⟩
abbrev cX11_heap : ByteArray := prog_1_method_25_code
def yX11_heap : MethodName := ⟨RX11, "heap", "(II)I"⟩
abbrev cX11_many : ByteArray := prog_1_method_26_code
def yX11_many : MethodName := ⟨RX11, "many", "(II)I"⟩
abbrev cX11_look : ByteArray := prog_1_method_27_code
def yX11_look : MethodName := ⟨RX11, "look", "(II)I"⟩
abbrev cX11_count : ByteArray := prog_1_method_28_code
def yX11_count : MethodName := ⟨RX11, "count", "(I)I"⟩
abbrev cX11_trace : ByteArray := prog_1_method_29_code
def yX11_trace : MethodName := ⟨RX11, "trace", "()J"⟩
abbrev cX11_within : ByteArray := prog_1_method_30_code
def yX11_within : MethodName := ⟨RX11, "within", "(III)Z"⟩
abbrev cX11_isDay : ByteArray := prog_1_method_31_code
def yX11_isDay : MethodName := ⟨RX11, "isDay", "(I)Z"⟩
abbrev cX11_isDayOrNone : ByteArray := prog_1_method_32_code
def yX11_isDayOrNone : MethodName := ⟨RX11, "isDayOrNone", "(I)Z"⟩
abbrev cX11_isStretch : ByteArray := prog_1_method_33_code
def yX11_isStretch : MethodName := ⟨RX11, "isStretch", "(II)Z"⟩
abbrev cX11_isCover : ByteArray := prog_1_method_34_code
def yX11_isCover : MethodName := ⟨RX11, "isCover", "(I)Z"⟩
abbrev cX11_isMark : ByteArray := prog_1_method_35_code
def yX11_isMark : MethodName := ⟨RX11, "isMark", "(I)Z"⟩
abbrev cX11_areTwoTowns : ByteArray := prog_1_method_36_code
def yX11_areTwoTowns : MethodName := ⟨RX11, "areTwoTowns", "(II)Z"⟩
abbrev cX11_areLandsAndDay : ByteArray := prog_1_method_37_code
def yX11_areLandsAndDay : MethodName := ⟨RX11, "areLandsAndDay", "(III)Z"⟩
abbrev cX11_isDate : ByteArray := prog_1_method_38_code
def yX11_isDate : MethodName := ⟨RX11, "isDate", "(I)Z"⟩
abbrev cX11_byteOf : ByteArray := prog_1_method_39_code
def yX11_byteOf : MethodName := ⟨RX11, "byteOf", "(II)I"⟩
abbrev cX11_figureOf : ByteArray := prog_1_method_40_code
def yX11_figureOf : MethodName := ⟨RX11, "figureOf", "(II)I"⟩
def RX12 : String := "CoverMarksModel"
def TX12 : u_T := fun k => match k with
  | 0 => ("CoverMarksModel", "thrown", "I", false)
  | 1 => ("CoverMarksModel", "trace", "J", false)
  | 2 => ("CoverMarksModel", "land", "[I", true)
  | 3 => ("CoverMarksModel", "offices", "I", false)
  | 4 => ("CoverMarksModel", "officeTown", "[I", true)
  | 5 => ("CoverMarksModel", "officeFrom", "[I", true)
  | 6 => ("CoverMarksModel", "officeTill", "[I", true)
  | 7 => ("CoverMarksModel", "dies", "I", false)
  | 8 => ("CoverMarksModel", "dieOffice", "[I", true)
  | 9 => ("CoverMarksModel", "dieInks", "[I", true)
  | 10 => ("CoverMarksModel", "dieFrom", "[I", true)
  | 11 => ("CoverMarksModel", "dieTill", "[I", true)
  | 12 => ("CoverMarksModel", "dieNick", "[I", true)
  | 13 => ("CoverMarksModel", "marks", "I", false)
  | 14 => ("CoverMarksModel", "mark", "[I", true)
  | 15 => ("CoverMarksModel", "sailings", "I", false)
  | 16 => ("CoverMarksModel", "sailFrom", "[I", true)
  | 17 => ("CoverMarksModel", "sailTo", "[I", true)
  | 18 => ("CoverMarksModel", "sailLeaves", "[I", true)
  | 19 => ("CoverMarksModel", "sailComes", "[I", true)
  | 20 => ("CoverMarksModel", "road", "[I", true)
  | 21 => ("CoverMarksModel", "soon", "[I", true)
  | 22 => ("CoverMarksModel", "isDone", "[Z", true)
  | 23 => ("CoverMarksModel", "wayMany", "I", false)
  | 24 => ("CoverMarksModel", "way", "[I", true)
  | 25 => ("CoverMarksModel", "first", "[I", true)
  | 26 => ("CoverMarksModel", "last", "[I", true)
  | 27 => ("CoverMarksModel", "bar", "I", false)
  | 28 => ("CoverMarksModel", "text", "[I", true)
  | 29 => ("CoverMarksModel", "typed", "I", false)
  | 30 => ("CoverMarksModel", "next", "I", false)
  | 31 => ("CoverMarksModel", "token", "I", false)
  | 32 => ("CoverMarksModel", "place", "I", false)
  | 33 => ("CoverMarksModel", "value", "I", false)
  | 34 => ("CoverMarksModel", "fault", "I", false)
  | 35 => ("CoverMarksModel", "rules", "I", false)
  | 36 => ("CoverMarksModel", "drafts", "I", false)
  | 37 => ("CoverMarksModel", "rule", "[I", true)
  | _ => ("CoverMarksModel", "covers", "[I", true)
def tyX12 : Nat → FieldType := fun k => match k with
  | 0 => .int
  | 1 => .long
  | 2 => .array .int
  | 3 => .int
  | 4 => .array .int
  | 5 => .array .int
  | 6 => .array .int
  | 7 => .int
  | 8 => .array .int
  | 9 => .array .int
  | 10 => .array .int
  | 11 => .array .int
  | 12 => .array .int
  | 13 => .int
  | 14 => .array .int
  | 15 => .int
  | 16 => .array .int
  | 17 => .array .int
  | 18 => .array .int
  | 19 => .array .int
  | 20 => .array .int
  | 21 => .array .int
  | 22 => .array .boolean
  | 23 => .int
  | 24 => .array .int
  | 25 => .array .int
  | 26 => .array .int
  | 27 => .int
  | 28 => .array .int
  | 29 => .int
  | 30 => .int
  | 31 => .int
  | 32 => .int
  | 33 => .int
  | 34 => .int
  | 35 => .int
  | 36 => .int
  | 37 => .array .int
  | _ => .array .int
abbrev wsX120 : List Cond := u_ws RX12 TX12 39
theorem nmX12 : ∀ a, a < 39 → ∀ b, b < 39 → a ≠ b → (TX12 a).2.1 ≠ (TX12 b).2.1 := by decide +kernel
theorem tyX12_ok : ∀ k, k < 39 → parseFieldDescriptor (TX12 k).2.2.1 = some (tyX12 k) := by decide +kernel
abbrev cX12_init : ByteArray := prog_14_method_1_code
def yX12_init : MethodName := ⟨RX12, "<init>", "()V"⟩
abbrev cX12_in : ByteArray := prog_14_method_3_code
def yX12_in : MethodName := ⟨RX12, "in", "(III)Z"⟩
abbrev cX12_isDay : ByteArray := prog_14_method_4_code
def yX12_isDay : MethodName := ⟨RX12, "isDay", "(I)Z"⟩
abbrev cX12_isTown : ByteArray := prog_14_method_5_code
def yX12_isTown : MethodName := ⟨RX12, "isTown", "(I)Z"⟩
abbrev cX12_isCover : ByteArray := prog_14_method_6_code
def yX12_isCover : MethodName := ⟨RX12, "isCover", "(I)Z"⟩
abbrev cX12_isMark : ByteArray := prog_14_method_7_code
def yX12_isMark : MethodName := ⟨RX12, "isMark", "(I)Z"⟩
abbrev cX12_town : ByteArray := prog_14_method_8_code
def yX12_town : MethodName := ⟨RX12, "town", "(II)I"⟩
abbrev cX12_office : ByteArray := prog_14_method_9_code
def yX12_office : MethodName := ⟨RX12, "office", "(III)I"⟩
abbrev cX12_die : ByteArray := prog_14_method_10_code
def yX12_die : MethodName := ⟨RX12, "die", "(IIIII)I"⟩
abbrev cX12_isFigure : ByteArray := prog_14_method_11_code
def yX12_isFigure : MethodName := ⟨RX12, "isFigure", "(I)Z"⟩
abbrev cX12_mark : ByteArray := prog_14_method_12_code
def yX12_mark : MethodName := ⟨RX12, "mark", "(IIIIIIII)I"⟩
abbrev cX12_lean : ByteArray := prog_14_method_13_code
def yX12_lean : MethodName := ⟨RX12, "lean", "(II)I"⟩
abbrev cX12_about : ByteArray := prog_14_method_14_code
def yX12_about : MethodName := ⟨RX12, "about", "(II)I"⟩
abbrev cX12_canBe : ByteArray := prog_14_method_15_code
def yX12_canBe : MethodName := ⟨RX12, "canBe", "(II)Z"⟩
abbrev cX12_spanOf : ByteArray := prog_14_method_16_code
def yX12_spanOf : MethodName := ⟨RX12, "spanOf", "(I)I"⟩
abbrev cX12_span : ByteArray := prog_14_method_17_code
def yX12_span : MethodName := ⟨RX12, "span", "(II)I"⟩
abbrev cX12_can : ByteArray := prog_14_method_18_code
def yX12_can : MethodName := ⟨RX12, "can", "(II)I"⟩
abbrev cX12_isOf : ByteArray := prog_14_method_19_code
def yX12_isOf : MethodName := ⟨RX12, "isOf", "(III)Z"⟩
abbrev cX12_marks : ByteArray := prog_14_method_20_code
def yX12_marks : MethodName := ⟨RX12, "marks", "(II)I"⟩
abbrev cX12_sail : ByteArray := prog_14_method_21_code
def yX12_sail : MethodName := ⟨RX12, "sail", "(IIII)I"⟩
abbrev cX12_late : ByteArray := prog_14_method_22_code
def yX12_late : MethodName := ⟨RX12, "late", "(II)I"⟩
abbrev cX12_road : ByteArray := prog_14_method_23_code
def yX12_road : MethodName := ⟨RX12, "road", "(III)I"⟩
abbrev cX12_soonestOf : ByteArray := prog_14_method_24_code
def yX12_soonestOf : MethodName := ⟨RX12, "soonestOf", "(III)I"⟩
abbrev cX12_soonest : ByteArray := prog_14_method_25_code
def yX12_soonest : MethodName := ⟨RX12, "soonest", "(III)I"⟩
abbrev cX12_townOf : ByteArray := prog_14_method_26_code
def yX12_townOf : MethodName := ⟨RX12, "townOf", "(I)I"⟩
abbrev cX12_ways : ByteArray := prog_14_method_27_code
def yX12_ways : MethodName := ⟨RX12, "ways", "(II)I"⟩
abbrev cX12_isGoing : ByteArray := prog_14_method_28_code
def yX12_isGoing : MethodName := ⟨RX12, "isGoing", "(I)Z"⟩
abbrev cX12_refuses : ByteArray := prog_14_method_29_code
def yX12_refuses : MethodName := ⟨RX12, "refuses", "(II)I"⟩
abbrev cX12_goes : ByteArray := prog_14_method_30_code
def yX12_goes : MethodName := ⟨RX12, "goes", "(III)I"⟩
abbrev cX12_when : ByteArray := prog_14_method_31_code
def yX12_when : MethodName := ⟨RX12, "when", "(IIII)I"⟩
abbrev cX12_bars : ByteArray := prog_14_method_32_code
def yX12_bars : MethodName := ⟨RX12, "bars", "(II)I"⟩
abbrev cX12_ones : ByteArray := prog_14_method_33_code
def yX12_ones : MethodName := ⟨RX12, "ones", "(I)I"⟩
abbrev cX12_fewest : ByteArray := prog_14_method_34_code
def yX12_fewest : MethodName := ⟨RX12, "fewest", "(III)I"⟩
abbrev cX12_type : ByteArray := prog_14_method_35_code
def yX12_type : MethodName := ⟨RX12, "type", "(JI)I"⟩
abbrev cX12_clear : ByteArray := prog_14_method_36_code
def yX12_clear : MethodName := ⟨RX12, "clear", "()I"⟩
abbrev cX12_byteAt : ByteArray := prog_14_method_37_code
def yX12_byteAt : MethodName := ⟨RX12, "byteAt", "(I)I"⟩
abbrev cX12_name : ByteArray := prog_14_method_38_code
def yX12_name : MethodName := ⟨RX12, "name", "(IIII)I"⟩
abbrev cX12_wordOf : ByteArray := prog_14_method_39_code
def yX12_wordOf : MethodName := ⟨RX12, "wordOf", "(I)I"⟩
abbrev cX12_advances : ByteArray := prog_14_method_40_code
def yX12_advances : MethodName := ⟨RX12, "advances", "()V"⟩
abbrev cX12_isWell : ByteArray := prog_14_method_41_code
def yX12_isWell : MethodName := ⟨RX12, "isWell", "()Z"⟩
abbrev cX12_fails : ByteArray := prog_14_method_42_code
def yX12_fails : MethodName := ⟨RX12, "fails", "()V"⟩
abbrev cX12_isSign : ByteArray := prog_14_method_43_code
def yX12_isSign : MethodName := ⟨RX12, "isSign", "(I)Z"⟩
abbrev cX12_isWord : ByteArray := prog_14_method_44_code
def yX12_isWord : MethodName := ⟨RX12, "isWord", "(I)Z"⟩
abbrev cX12_takesSign : ByteArray := prog_14_method_45_code
def yX12_takesSign : MethodName := ⟨RX12, "takesSign", "(I)V"⟩
abbrev cX12_takesWord : ByteArray := prog_14_method_46_code
def yX12_takesWord : MethodName := ⟨RX12, "takesWord", "(I)V"⟩
abbrev cX12_takesNumber : ByteArray := prog_14_method_47_code
def yX12_takesNumber : MethodName := ⟨RX12, "takesNumber", "(II)I"⟩
abbrev cX12_readsRule : ByteArray := prog_14_method_48_code
def yX12_readsRule : MethodName := ⟨RX12, "readsRule", "(I)V"⟩
abbrev cX12_rates : ByteArray := prog_14_method_49_code
def yX12_rates : MethodName := ⟨RX12, "rates", "()I"⟩
abbrev cX12_ruleOf : ByteArray := prog_14_method_50_code
def yX12_ruleOf : MethodName := ⟨RX12, "ruleOf", "(III)I"⟩
abbrev cX12_owedBy : ByteArray := prog_14_method_51_code
def yX12_owedBy : MethodName := ⟨RX12, "owedBy", "(II)I"⟩
abbrev cX12_isLand : ByteArray := prog_14_method_52_code
def yX12_isLand : MethodName := ⟨RX12, "isLand", "(I)Z"⟩
abbrev cX12_owed : ByteArray := prog_14_method_53_code
def yX12_owed : MethodName := ⟨RX12, "owed", "(IIIII)I"⟩
abbrev cX12_weights : ByteArray := prog_14_method_54_code
def yX12_weights : MethodName := ⟨RX12, "weights", "(IIIII)I"⟩
abbrev cX12_isMail : ByteArray := prog_14_method_55_code
def yX12_isMail : MethodName := ⟨RX12, "isMail", "(III)Z"⟩
abbrev cX12_mail : ByteArray := prog_14_method_56_code
def yX12_mail : MethodName := ⟨RX12, "mail", "(III)I"⟩
abbrev cX12_heap : ByteArray := prog_14_method_57_code
def yX12_heap : MethodName := ⟨RX12, "heap", "(II)I"⟩
abbrev cX12_many : ByteArray := prog_14_method_58_code
def yX12_many : MethodName := ⟨RX12, "many", "(II)I"⟩
abbrev cX12_look : ByteArray := prog_14_method_59_code
def yX12_look : MethodName := ⟨RX12, "look", "(II)I"⟩
abbrev cX12_count : ByteArray := prog_14_method_60_code
def yX12_count : MethodName := ⟨RX12, "count", "(I)I"⟩
abbrev cX12_trace : ByteArray := prog_14_method_61_code
def yX12_trace : MethodName := ⟨RX12, "trace", "()J"⟩
def RJ6 : String := "java/lang/Integer"
def TJ6 : u_T := fun k => match k with
  | _ => ("", "", "", false)
def tyJ6 : Nat → FieldType := fun k => match k with
  | _ => .int
abbrev wsJ60 : List Cond := u_ws RJ6 TJ6 0
theorem nmJ6 : ∀ a, a < 0 → ∀ b, b < 0 → a ≠ b → (TJ6 a).2.1 ≠ (TJ6 b).2.1 := by decide +kernel
theorem tyJ6_ok : ∀ k, k < 0 → parseFieldDescriptor (TJ6 k).2.2.1 = some (tyJ6 k) := by decide +kernel
abbrev cJ6_bitCount_0f7a4 : ByteArray := prog_15_method_49_code
def yJ6_bitCount_0f7a4 : MethodName := ⟨RJ6, "bitCount", "(I)I"⟩
def RJ13 : String := "java/lang/Long"
def TJ13 : u_T := fun k => match k with
  | _ => ("", "", "", false)
def tyJ13 : Nat → FieldType := fun k => match k with
  | _ => .int
abbrev wsJ130 : List Cond := u_ws RJ13 TJ13 0
theorem nmJ13 : ∀ a, a < 0 → ∀ b, b < 0 → a ≠ b → (TJ13 a).2.1 ≠ (TJ13 b).2.1 := by decide +kernel
theorem tyJ13_ok : ∀ k, k < 0 → parseFieldDescriptor (TJ13 k).2.2.1 = some (tyJ13 k) := by decide +kernel
abbrev cJ13_bitCount_95d88 : ByteArray := prog_16_method_50_code
def yJ13_bitCount_95d88 : MethodName := ⟨RJ13, "bitCount", "(J)I"⟩
def RJ9 : String := "java/lang/Math"
def TJ9 : u_T := fun k => match k with
  | _ => ("", "", "", false)
def tyJ9 : Nat → FieldType := fun k => match k with
  | _ => .int
abbrev wsJ90 : List Cond := u_ws RJ9 TJ9 0
theorem nmJ9 : ∀ a, a < 0 → ∀ b, b < 0 → a ≠ b → (TJ9 a).2.1 ≠ (TJ9 b).2.1 := by decide +kernel
theorem tyJ9_ok : ∀ k, k < 0 → parseFieldDescriptor (TJ9 k).2.2.1 = some (tyJ9 k) := by decide +kernel
abbrev cJ9_max_7cf53 : ByteArray := prog_17_method_65_code
def yJ9_max_7cf53 : MethodName := ⟨RJ9, "max", "(II)I"⟩
abbrev cJ9_min_7cf53 : ByteArray := prog_17_method_69_code
def yJ9_min_7cf53 : MethodName := ⟨RJ9, "min", "(II)I"⟩
def RJ0 : String := "java/lang/String"
def TJ0 : u_T := fun k => match k with
  | _ => ("", "", "", false)
def tyJ0 : Nat → FieldType := fun k => match k with
  | _ => .int
abbrev wsJ00 : List Cond := u_ws RJ0 TJ0 0
theorem nmJ0 : ∀ a, a < 0 → ∀ b, b < 0 → a ≠ b → (TJ0 a).2.1 ≠ (TJ0 b).2.1 := by decide +kernel
theorem tyJ0_ok : ∀ k, k < 0 → parseFieldDescriptor (TJ0 k).2.2.1 = some (tyJ0 k) := by decide +kernel
abbrev cJ0_length_8abf5 : ByteArray := prog_18_method_54_code
def yJ0_length_8abf5 : MethodName := ⟨RJ0, "length", "()I"⟩
abbrev cJ0_charAt_5068e : ByteArray := prog_18_method_56_code
def yJ0_charAt_5068e : MethodName := ⟨RJ0, "charAt", "(I)C"⟩
abbrev cJ0_coder_7d493 : ByteArray := prog_18_method_152_code
def yJ0_coder_7d493 : MethodName := ⟨RJ0, "coder", "()B"⟩
abbrev cJ0_isLatin1_aae02 : ByteArray := prog_18_method_154_code
def yJ0_isLatin1_aae02 : MethodName := ⟨RJ0, "isLatin1", "()Z"⟩
abbrev cJ0_checkIndex_df160 : ByteArray := prog_18_method_155_code
def yJ0_checkIndex_df160 : MethodName := ⟨RJ0, "checkIndex", "(II)V"⟩
def RJ1 : String := "java/lang/StringLatin1"
def TJ1 : u_T := fun k => match k with
  | _ => ("", "", "", false)
def tyJ1 : Nat → FieldType := fun k => match k with
  | _ => .int
abbrev wsJ10 : List Cond := u_ws RJ1 TJ1 0
theorem nmJ1 : ∀ a, a < 0 → ∀ b, b < 0 → a ≠ b → (TJ1 a).2.1 ≠ (TJ1 b).2.1 := by decide +kernel
theorem tyJ1_ok : ∀ k, k < 0 → parseFieldDescriptor (TJ1 k).2.2.1 = some (tyJ1 k) := by decide +kernel
abbrev cJ1_charAt_3b067 : ByteArray := prog_19_method_2_code
def yJ1_charAt_3b067 : MethodName := ⟨RJ1, "charAt", "([BI)C"⟩
def RJ2 : String := "java/lang/StringUTF16"
def TJ2 : u_T := fun k => match k with
  | _ => ("", "", "", false)
def tyJ2 : Nat → FieldType := fun k => match k with
  | _ => .int
abbrev wsJ20 : List Cond := u_ws RJ2 TJ2 0
theorem nmJ2 : ∀ a, a < 0 → ∀ b, b < 0 → a ≠ b → (TJ2 a).2.1 ≠ (TJ2 b).2.1 := by decide +kernel
theorem tyJ2_ok : ∀ k, k < 0 → parseFieldDescriptor (TJ2 k).2.2.1 = some (tyJ2 k) := by decide +kernel
abbrev cJ2_getChar_3b067 : ByteArray := prog_20_method_5_code
def yJ2_getChar_3b067 : MethodName := ⟨RJ2, "getChar", "([BI)C"⟩
abbrev cJ2_length_9d52b : ByteArray := prog_20_method_6_code
def yJ2_length_9d52b : MethodName := ⟨RJ2, "length", "([B)I"⟩
abbrev cJ2_charAt_3b067 : ByteArray := prog_20_method_83_code
def yJ2_charAt_3b067 : MethodName := ⟨RJ2, "charAt", "([BI)C"⟩
abbrev cJ2_checkIndex_2214a : ByteArray := prog_20_method_91_code
def yJ2_checkIndex_2214a : MethodName := ⟨RJ2, "checkIndex", "(I[B)V"⟩
def RJ7 : String := "java/util/Arrays"
def TJ7 : u_T := fun k => match k with
  | _ => ("", "", "", false)
def tyJ7 : Nat → FieldType := fun k => match k with
  | _ => .int
abbrev wsJ70 : List Cond := u_ws RJ7 TJ7 0
theorem nmJ7 : ∀ a, a < 0 → ∀ b, b < 0 → a ≠ b → (TJ7 a).2.1 ≠ (TJ7 b).2.1 := by decide +kernel
theorem tyJ7_ok : ∀ k, k < 0 → parseFieldDescriptor (TJ7 k).2.2.1 = some (tyJ7 k) := by decide +kernel
abbrev cJ7_fill_53178 : ByteArray := prog_21_method_103_code
def yJ7_fill_53178 : MethodName := ⟨RJ7, "fill", "([II)V"⟩
def RJ3 : String := "jdk/internal/util/Preconditions"
def TJ3 : u_T := fun k => match k with
  | _ => ("", "", "", false)
def tyJ3 : Nat → FieldType := fun k => match k with
  | _ => .int
abbrev wsJ30 : List Cond := u_ws RJ3 TJ3 0
theorem nmJ3 : ∀ a, a < 0 → ∀ b, b < 0 → a ≠ b → (TJ3 a).2.1 ≠ (TJ3 b).2.1 := by decide +kernel
theorem tyJ3_ok : ∀ k, k < 0 → parseFieldDescriptor (TJ3 k).2.2.1 = some (tyJ3 k) := by decide +kernel
abbrev cJ3_checkIndex_8e157 : ByteArray := prog_22_method_11_code
def yJ3_checkIndex_8e157 : MethodName := ⟨RJ3, "checkIndex", "(IILjava/util/function/BiFunction;)I"⟩
def RL : String := "CoverMarksLaw"
abbrev cL_law : ByteArray := code
def yL_law : MethodName := ⟨RL, "law", "([I)Z"⟩
abbrev vwCl : List vw_C := [(RX0, TX0, 2), (RX1, TX1, 1), (RX2, TX2, 5), (RX3, TX3, 8), (RX4, TX4, 1), (RX5, TX5, 13), (RX6, TX6, 3), (RX7, TX7, 2), (RX8, TX8, 7), (RX9, TX9, 10), (RX10, TX10, 8), (RX11, TX11, 12), (RX12, TX12, 39)]
