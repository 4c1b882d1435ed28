section
-- ===== PART A: goes FIRST, ahead of the names: the tables' words, and 'selects' of the private methods out of them =====
/-- a private method of a class that the tables say can be made, by its rows of tables_1 -/
def lw_okq (q : MethodName × Nat) : Prop := (q.1.cls ≠ "java/lang/invoke/MethodHandle" ∧ q.1.cls ≠ "java/lang/invoke/VarHandle") ∧ Cond.instantiable q.1.cls q.2 ∈ tables_1 ∧ Cond.privateMethod q.1 ∈ tables_1 ∧ Cond.instanceMethod q.1 ∈ tables_1
theorem lw_p0 : lw_okq (⟨"CoverMarks", "isMark", "(I)Z"⟩, 12) := ⟨⟨by decide +kernel, by decide +kernel⟩, List.mem_of_getElem? (i := 23) (by decide +kernel), List.mem_of_getElem? (i := 505) (by decide +kernel), List.mem_of_getElem? (i := 506) (by decide +kernel)⟩
theorem lw_p1 : lw_okq (⟨"CoverMarksModel", "isMark", "(I)Z"⟩, 39) := ⟨⟨by decide +kernel, by decide +kernel⟩, List.mem_of_getElem? (i := 912) (by decide +kernel), List.mem_of_getElem? (i := 1073) (by decide +kernel), List.mem_of_getElem? (i := 1074) (by decide +kernel)⟩
theorem lw_p2 : lw_okq (⟨"CoverMarksModel", "spanOf", "(I)I"⟩, 39) := ⟨⟨by decide +kernel, by decide +kernel⟩, List.mem_of_getElem? (i := 912) (by decide +kernel), List.mem_of_getElem? (i := 1090) (by decide +kernel), List.mem_of_getElem? (i := 1091) (by decide +kernel)⟩
theorem lw_p3 : lw_okq (⟨"CoverMarksModel", "canBe", "(II)Z"⟩, 39) := ⟨⟨by decide +kernel, by decide +kernel⟩, List.mem_of_getElem? (i := 912) (by decide +kernel), List.mem_of_getElem? (i := 1094) (by decide +kernel), List.mem_of_getElem? (i := 1095) (by decide +kernel)⟩
theorem lw_p4 : lw_okq (⟨"CoverMarksModel", "isOf", "(III)Z"⟩, 39) := ⟨⟨by decide +kernel, by decide +kernel⟩, List.mem_of_getElem? (i := 912) (by decide +kernel), List.mem_of_getElem? (i := 1106) (by decide +kernel), List.mem_of_getElem? (i := 1107) (by decide +kernel)⟩
theorem lw_p5 : lw_okq (⟨"CoverMarksModel", "soonestOf", "(III)I"⟩, 39) := ⟨⟨by decide +kernel, by decide +kernel⟩, List.mem_of_getElem? (i := 912) (by decide +kernel), List.mem_of_getElem? (i := 1126) (by decide +kernel), List.mem_of_getElem? (i := 1127) (by decide +kernel)⟩
theorem lw_p6 : lw_okq (⟨"CoverMarksModel", "refuses", "(II)I"⟩, 39) := ⟨⟨by decide +kernel, by decide +kernel⟩, List.mem_of_getElem? (i := 912) (by decide +kernel), List.mem_of_getElem? (i := 1134) (by decide +kernel), List.mem_of_getElem? (i := 1135) (by decide +kernel)⟩
theorem lw_p7 : lw_okq (⟨"CoverMarksModel", "ways", "(II)I"⟩, 39) := ⟨⟨by decide +kernel, by decide +kernel⟩, List.mem_of_getElem? (i := 912) (by decide +kernel), List.mem_of_getElem? (i := 1138) (by decide +kernel), List.mem_of_getElem? (i := 1139) (by decide +kernel)⟩
theorem lw_p8 : lw_okq (⟨"CoverMarksModel", "isGoing", "(I)Z"⟩, 39) := ⟨⟨by decide +kernel, by decide +kernel⟩, List.mem_of_getElem? (i := 912) (by decide +kernel), List.mem_of_getElem? (i := 1142) (by decide +kernel), List.mem_of_getElem? (i := 1143) (by decide +kernel)⟩
theorem lw_p9 : lw_okq (⟨"CoverMarksModel", "townOf", "(I)I"⟩, 39) := ⟨⟨by decide +kernel, by decide +kernel⟩, List.mem_of_getElem? (i := 912) (by decide +kernel), List.mem_of_getElem? (i := 1146) (by decide +kernel), List.mem_of_getElem? (i := 1147) (by decide +kernel)⟩
theorem lw_p10 : lw_okq (⟨"CoverMarksModel", "advances", "()V"⟩, 39) := ⟨⟨by decide +kernel, by decide +kernel⟩, List.mem_of_getElem? (i := 912) (by decide +kernel), List.mem_of_getElem? (i := 1178) (by decide +kernel), List.mem_of_getElem? (i := 1179) (by decide +kernel)⟩
theorem lw_p11 : lw_okq (⟨"CoverMarksModel", "byteAt", "(I)I"⟩, 39) := ⟨⟨by decide +kernel, by decide +kernel⟩, List.mem_of_getElem? (i := 912) (by decide +kernel), List.mem_of_getElem? (i := 1182) (by decide +kernel), List.mem_of_getElem? (i := 1183) (by decide +kernel)⟩
theorem lw_p12 : lw_okq (⟨"CoverMarksModel", "isWell", "()Z"⟩, 39) := ⟨⟨by decide +kernel, by decide +kernel⟩, List.mem_of_getElem? (i := 912) (by decide +kernel), List.mem_of_getElem? (i := 1192) (by decide +kernel), List.mem_of_getElem? (i := 1193) (by decide +kernel)⟩
theorem lw_p13 : lw_okq (⟨"CoverMarksModel", "fails", "()V"⟩, 39) := ⟨⟨by decide +kernel, by decide +kernel⟩, List.mem_of_getElem? (i := 912) (by decide +kernel), List.mem_of_getElem? (i := 1196) (by decide +kernel), List.mem_of_getElem? (i := 1197) (by decide +kernel)⟩
theorem lw_p14 : lw_okq (⟨"CoverMarksModel", "readsRule", "(I)V"⟩, 39) := ⟨⟨by decide +kernel, by decide +kernel⟩, List.mem_of_getElem? (i := 912) (by decide +kernel), List.mem_of_getElem? (i := 1200) (by decide +kernel), List.mem_of_getElem? (i := 1201) (by decide +kernel)⟩
theorem lw_p15 : lw_okq (⟨"CoverMarksModel", "takesWord", "(I)V"⟩, 39) := ⟨⟨by decide +kernel, by decide +kernel⟩, List.mem_of_getElem? (i := 912) (by decide +kernel), List.mem_of_getElem? (i := 1204) (by decide +kernel), List.mem_of_getElem? (i := 1205) (by decide +kernel)⟩
def lw_privs_1 : List (MethodName × Nat) := [(⟨"CoverMarks", "isMark", "(I)Z"⟩, 12), (⟨"CoverMarksModel", "isMark", "(I)Z"⟩, 39), (⟨"CoverMarksModel", "spanOf", "(I)I"⟩, 39), (⟨"CoverMarksModel", "canBe", "(II)Z"⟩, 39), (⟨"CoverMarksModel", "isOf", "(III)Z"⟩, 39), (⟨"CoverMarksModel", "soonestOf", "(III)I"⟩, 39), (⟨"CoverMarksModel", "refuses", "(II)I"⟩, 39), (⟨"CoverMarksModel", "ways", "(II)I"⟩, 39), (⟨"CoverMarksModel", "isGoing", "(I)Z"⟩, 39), (⟨"CoverMarksModel", "townOf", "(I)I"⟩, 39), (⟨"CoverMarksModel", "advances", "()V"⟩, 39), (⟨"CoverMarksModel", "byteAt", "(I)I"⟩, 39), (⟨"CoverMarksModel", "isWell", "()Z"⟩, 39), (⟨"CoverMarksModel", "fails", "()V"⟩, 39), (⟨"CoverMarksModel", "readsRule", "(I)V"⟩, 39), (⟨"CoverMarksModel", "takesWord", "(I)V"⟩, 39)]
theorem lw_r1 : ∀ q ∈ lw_privs_1, lw_okq q := List.forall_mem_cons.mpr ⟨lw_p0, List.forall_mem_cons.mpr ⟨lw_p1, List.forall_mem_cons.mpr ⟨lw_p2, List.forall_mem_cons.mpr ⟨lw_p3, List.forall_mem_cons.mpr ⟨lw_p4, List.forall_mem_cons.mpr ⟨lw_p5, List.forall_mem_cons.mpr ⟨lw_p6, List.forall_mem_cons.mpr ⟨lw_p7, List.forall_mem_cons.mpr ⟨lw_p8, List.forall_mem_cons.mpr ⟨lw_p9, List.forall_mem_cons.mpr ⟨lw_p10, List.forall_mem_cons.mpr ⟨lw_p11, List.forall_mem_cons.mpr ⟨lw_p12, List.forall_mem_cons.mpr ⟨lw_p13, List.forall_mem_cons.mpr ⟨lw_p14, List.forall_mem_cons.mpr ⟨lw_p15, fun _ h => absurd h List.not_mem_nil⟩⟩⟩⟩⟩⟩⟩⟩⟩⟩⟩⟩⟩⟩⟩⟩
theorem lw_p16 : lw_okq (⟨"CoverMarksModel", "isWord", "(I)Z"⟩, 39) := ⟨⟨by decide +kernel, by decide +kernel⟩, List.mem_of_getElem? (i := 912) (by decide +kernel), List.mem_of_getElem? (i := 1208) (by decide +kernel), List.mem_of_getElem? (i := 1209) (by decide +kernel)⟩
theorem lw_p17 : lw_okq (⟨"CoverMarksModel", "takesNumber", "(II)I"⟩, 39) := ⟨⟨by decide +kernel, by decide +kernel⟩, List.mem_of_getElem? (i := 912) (by decide +kernel), List.mem_of_getElem? (i := 1212) (by decide +kernel), List.mem_of_getElem? (i := 1213) (by decide +kernel)⟩
theorem lw_p18 : lw_okq (⟨"CoverMarksModel", "takesSign", "(I)V"⟩, 39) := ⟨⟨by decide +kernel, by decide +kernel⟩, List.mem_of_getElem? (i := 912) (by decide +kernel), List.mem_of_getElem? (i := 1216) (by decide +kernel), List.mem_of_getElem? (i := 1217) (by decide +kernel)⟩
theorem lw_p19 : lw_okq (⟨"CoverMarksModel", "isSign", "(I)Z"⟩, 39) := ⟨⟨by decide +kernel, by decide +kernel⟩, List.mem_of_getElem? (i := 912) (by decide +kernel), List.mem_of_getElem? (i := 1220) (by decide +kernel), List.mem_of_getElem? (i := 1221) (by decide +kernel)⟩
theorem lw_p20 : lw_okq (⟨"CoverMarksModel", "ruleOf", "(III)I"⟩, 39) := ⟨⟨by decide +kernel, by decide +kernel⟩, List.mem_of_getElem? (i := 912) (by decide +kernel), List.mem_of_getElem? (i := 1231) (by decide +kernel), List.mem_of_getElem? (i := 1232) (by decide +kernel)⟩
theorem lw_p21 : lw_okq (⟨"CoverMarksModel", "owedBy", "(II)I"⟩, 39) := ⟨⟨by decide +kernel, by decide +kernel⟩, List.mem_of_getElem? (i := 912) (by decide +kernel), List.mem_of_getElem? (i := 1235) (by decide +kernel), List.mem_of_getElem? (i := 1236) (by decide +kernel)⟩
theorem lw_p22 : lw_okq (⟨"CoverMarksModel", "isMail", "(III)Z"⟩, 39) := ⟨⟨by decide +kernel, by decide +kernel⟩, List.mem_of_getElem? (i := 912) (by decide +kernel), List.mem_of_getElem? (i := 1248) (by decide +kernel), List.mem_of_getElem? (i := 1249) (by decide +kernel)⟩
def lw_privs_2 : List (MethodName × Nat) := [(⟨"CoverMarksModel", "isWord", "(I)Z"⟩, 39), (⟨"CoverMarksModel", "takesNumber", "(II)I"⟩, 39), (⟨"CoverMarksModel", "takesSign", "(I)V"⟩, 39), (⟨"CoverMarksModel", "isSign", "(I)Z"⟩, 39), (⟨"CoverMarksModel", "ruleOf", "(III)I"⟩, 39), (⟨"CoverMarksModel", "owedBy", "(II)I"⟩, 39), (⟨"CoverMarksModel", "isMail", "(III)Z"⟩, 39)]
theorem lw_r2 : ∀ q ∈ lw_privs_2, lw_okq q := List.forall_mem_cons.mpr ⟨lw_p16, List.forall_mem_cons.mpr ⟨lw_p17, List.forall_mem_cons.mpr ⟨lw_p18, List.forall_mem_cons.mpr ⟨lw_p19, List.forall_mem_cons.mpr ⟨lw_p20, List.forall_mem_cons.mpr ⟨lw_p21, List.forall_mem_cons.mpr ⟨lw_p22, fun _ h => absurd h List.not_mem_nil⟩⟩⟩⟩⟩⟩⟩
def lw_privs : List (MethodName × Nat) := lw_privs_1 ++ (lw_privs_2)
def lw_tbl : List Cond := k2_sels lw_privs ++ tables_1
theorem lw_privs_ok : ∀ q ∈ lw_privs, lw_okq q := by
  show ∀ q ∈ lw_privs_1 ++ (lw_privs_2), lw_okq q
  exact List.forall_mem_append.mpr ⟨lw_r1, lw_r2⟩
end
section
/-! ===== BEGIN words of one list among another's, by their places ===== -/
theorem goodIn_r {big : List Cond} (ws : List Cond) (ps : List Nat) (hp : ws = ps.filterMap (fun i => big[i]?)) (h : ws.all goodWord = true) : GoodIn big ws := by
  intro w hw
  have h1 := List.all_eq_true.mp h w hw
  rw [hp] at hw
  obtain ⟨i, -, hi⟩ := List.mem_filterMap.mp hw
  have hm : w ∈ big := by first | exact List.mem_of_getElem? hi | exact List.getElem?_mem hi
  exact ⟨hm, good_of_word h1⟩
theorem goodIn_app {big a b : List Cond} (ha : GoodIn big a) (hb : GoodIn big b) : GoodIn big (a ++ b) := fun w h => (List.mem_append.mp h).elim (ha w) (hb w)
theorem goodIn_ca {big a b : List Cond} {c : Cond} (ha : GoodIn big (c :: a)) (hb : GoodIn big b) : GoodIn big (c :: (a ++ b)) := fun w h => (List.mem_cons.mp h).elim (fun e => ha w (List.mem_cons.mpr (Or.inl e))) (fun h => (List.mem_append.mp h).elim (fun h => ha w (List.mem_cons.mpr (Or.inr h))) (hb w))
theorem goodIn_sub {big ws : List Cond} (hm : ∀ w ∈ ws, w ∈ big) (h : ws.all goodWord = true) : GoodIn big ws := fun w hw => ⟨hm w hw, good_of_word (List.all_eq_true.mp h w hw)⟩
/-! ===== END ===== -/

/-! ===== BEGIN new T[n][m]: the outer array a place, the inner ones among the pooled ===== -/
/-- f, but v at every address of l -/
def vr_up {α : Type} (f : Nat → α) (l : List Nat) (v : α) : Nat → α := fun a => if a ∈ l then v else f a
theorem vr_up_in {α : Type} {f : Nat → α} {l : List Nat} {v : α} {a : Nat} (h : a ∈ l) : vr_up f l v a = v := if_pos h
theorem vr_up_ne {α : Type} {f : Nat → α} {l : List Nat} {v : α} {a : Nat} (h : a ∉ l) : vr_up f l v a = f a := if_neg h
theorem vr_rows {L l : List Nat} {f : Nat → va_E} {e : va_E} (h : ∀ a, a ∈ l → a ∉ L) : va_pl L f ++ l.map (fun a => (a, e)) = va_pl (L ++ l) (vr_up f l e) := by
  unfold va_pl
  rw [List.map_append]
  congr 1
  · apply List.map_congr_left
    intro a ha
    rw [vr_up_ne (fun q => h a q ha)]
  · apply List.map_congr_left
    intro a ha
    rw [vr_up_in ha]
theorem vr_lay {X rows : va_W} {x : Nat × va_E} {pl : va_W} {D : va_G} {cl : List vw_C} {H : Heap} (hP : va_P D cl (((X ++ pl) ++ [x]) ++ rows) H) : va_P D cl ((X ++ [x]) ++ (pl ++ rows)) H := by
  rw [List.append_assoc (X ++ pl)] at hP
  have h := va_P.swap hP
  rw [← List.append_assoc X] at h
  have h2 := va_P.swap h
  rw [List.append_assoc (X ++ [x])] at h2
  exact h2
theorem vr_layD {X rows : va_W} {x : Nat × va_E} {pl : va_W} {A : Nat → Prop} (hD : va_D A (((X ++ pl) ++ [x]) ++ rows)) : va_D A ((X ++ [x]) ++ (pl ++ rows)) := by
  rw [List.append_assoc (X ++ pl)] at hD
  have h := va_D.swap hD
  rw [← List.append_assoc X] at h
  have h2 := va_D.swap h
  rw [List.append_assoc (X ++ [x])] at h2
  exact h2
theorem vr_outer (c : ClassId) (N h0 : Nat) : ∀ i : Nat, Jvm.Free.Multi.outerC c N h0 i = arrV c N (fun j => va_rf (if j < i then some (h0 + 1 + j) else none))
  | 0 => by
    show ({ cls := c, slots := Array.replicate N .null, vm := .none } : Cell) = _
    rw [arrV_new]
    refine congrArg (arrV c N) (funext fun j => ?_)
    simp [va_rf]
  | i + 1 => by
    show (Jvm.Free.Multi.outerC c N h0 i).setSlot i (.ref (h0 + 1 + i)) = _
    rw [vr_outer c N h0 i, arrV_store]
    refine congrArg (arrV c N) (funext fun j => ?_)
    by_cases e : j = i
    · subst e
      simp [updV, va_rf]
    · by_cases h : j < i
      · simp [updV, e, h, Nat.lt_succ_of_lt h]
      · simp [updV, e, h, show ¬ j < i + 1 by omega]
def RX0 : String := "CoverMarks$Covers"
def TX0 : u_T := fun k => match k with
  | 0 => ("CoverMarks$Covers", "marks", "[LCoverMarks$Mark;", true)
  | _ => ("CoverMarks$Covers", "count", "I", false)
def tyX0 : Nat → FieldType := fun k => match k with
  | 0 => .array (.object "CoverMarks$Mark")
  | _ => .int
abbrev wsX00 : List Cond := u_ws RX0 TX0 2
theorem nmX0 : ∀ a, a < 2 → ∀ b, b < 2 → a ≠ b → (TX0 a).2.1 ≠ (TX0 b).2.1 := by decide +kernel
theorem tyX0_ok : ∀ k, k < 2 → parseFieldDescriptor (TX0 k).2.2.1 = some (tyX0 k) := by decide +kernel
abbrev cX0_init : ByteArray := prog_2_method_1_code
def yX0_init : MethodName := ⟨RX0, "<init>", "()V"⟩
abbrev cX0_add : ByteArray := prog_2_method_2_code
def yX0_add : MethodName := ⟨RX0, "add", "(LCoverMarks$Mark;)I"⟩
abbrev cX0_countOn : ByteArray := prog_2_method_3_code
def yX0_countOn : MethodName := ⟨RX0, "countOn", "(II)I"⟩
abbrev cX0_areOneMail : ByteArray := prog_2_method_4_code
def yX0_areOneMail : MethodName := ⟨RX0, "areOneMail", "(III)Z"⟩
abbrev cX0_hasMarkWith : ByteArray := prog_2_method_5_code
def yX0_hasMarkWith : MethodName := ⟨RX0, "hasMarkWith", "(LCoverMarks$Mark;II)Z"⟩
abbrev cX0_heapOf : ByteArray := prog_2_method_6_code
def yX0_heapOf : MethodName := ⟨RX0, "heapOf", "(II)I"⟩
abbrev cX0_lowestOf : ByteArray := prog_2_method_7_code
def yX0_lowestOf : MethodName := ⟨RX0, "lowestOf", "(I)I"⟩
abbrev cX0_manyOf : ByteArray := prog_2_method_8_code
def yX0_manyOf : MethodName := ⟨RX0, "manyOf", "(II)I"⟩
abbrev cX0_hasDie : ByteArray := prog_2_method_9_code
def yX0_hasDie : MethodName := ⟨RX0, "hasDie", "(III)Z"⟩
abbrev cX0_wordOf : ByteArray := prog_2_method_10_code
def yX0_wordOf : MethodName := ⟨RX0, "wordOf", "(IIII)J"⟩
abbrev cX0_nextLook : ByteArray := prog_2_method_11_code
def yX0_nextLook : MethodName := ⟨RX0, "nextLook", "(II)I"⟩
def RX1 : String := "CoverMarks$DaySet"
def TX1 : u_T := fun k => match k with
  | _ => ("CoverMarks$DaySet", "words", "[J", true)
def tyX1 : Nat → FieldType := fun k => match k with
  | _ => .array .long
abbrev wsX10 : List Cond := u_ws RX1 TX1 1
theorem nmX1 : ∀ a, a < 1 → ∀ b, b < 1 → a ≠ b → (TX1 a).2.1 ≠ (TX1 b).2.1 := by decide +kernel
theorem tyX1_ok : ∀ k, k < 1 → parseFieldDescriptor (TX1 k).2.2.1 = some (tyX1 k) := by decide +kernel
abbrev cX1_init : ByteArray := prog_3_method_1_code
def yX1_init : MethodName := ⟨RX1, "<init>", "()V"⟩
abbrev cX1_add : ByteArray := prog_3_method_2_code
def yX1_add : MethodName := ⟨RX1, "add", "(I)V"⟩
abbrev cX1_has : ByteArray := prog_3_method_3_code
def yX1_has : MethodName := ⟨RX1, "has", "(I)Z"⟩
abbrev cX1_size : ByteArray := prog_3_method_4_code
def yX1_size : MethodName := ⟨RX1, "size", "()I"⟩
abbrev cX1_firstFrom : ByteArray := prog_3_method_5_code
def yX1_firstFrom : MethodName := ⟨RX1, "firstFrom", "(I)I"⟩
abbrev cX1_lastTill : ByteArray := prog_3_method_6_code
def yX1_lastTill : MethodName := ⟨RX1, "lastTill", "(I)I"⟩
abbrev cX1_meets : ByteArray := prog_3_method_7_code
def yX1_meets : MethodName := ⟨RX1, "meets", "(LCoverMarks$DaySet;)Z"⟩
def RX2 : String := "CoverMarks$Die"
def TX2 : u_T := fun k => match k with
  | 0 => ("CoverMarks$Die", "office", "LCoverMarks$Office;", true)
  | 1 => ("CoverMarks$Die", "inks", "I", true)
  | 2 => ("CoverMarks$Die", "from", "I", true)
  | 3 => ("CoverMarks$Die", "till", "I", true)
  | _ => ("CoverMarks$Die", "nick", "I", true)
def tyX2 : Nat → FieldType := fun k => match k with
  | 0 => .object "CoverMarks$Office"
  | 1 => .int
  | 2 => .int
  | 3 => .int
  | _ => .int
abbrev wsX20 : List Cond := u_ws RX2 TX2 5
theorem nmX2 : ∀ a, a < 5 → ∀ b, b < 5 → a ≠ b → (TX2 a).2.1 ≠ (TX2 b).2.1 := by decide +kernel
theorem tyX2_ok : ∀ k, k < 5 → parseFieldDescriptor (TX2 k).2.2.1 = some (tyX2 k) := by decide +kernel
abbrev cX2_init : ByteArray := prog_4_method_1_code
def yX2_init : MethodName := ⟨RX2, "<init>", "(LCoverMarks$Office;IIII)V"⟩
abbrev cX2_strikesOn : ByteArray := prog_4_method_2_code
def yX2_strikesOn : MethodName := ⟨RX2, "strikesOn", "(I)Z"⟩
abbrev cX2_hasInk : ByteArray := prog_4_method_3_code
def yX2_hasInk : MethodName := ⟨RX2, "hasInk", "(I)Z"⟩
abbrev cX2_fitsNick : ByteArray := prog_4_method_4_code
def yX2_fitsNick : MethodName := ⟨RX2, "fitsNick", "(II)Z"⟩
def RX3 : String := "CoverMarks$Going"
def TX3 : u_T := fun k => match k with
  | 0 => ("CoverMarks$Going", "ways", "LCoverMarks$Ways;", true)
  | 1 => ("CoverMarks$Going", "chain", "[LCoverMarks$Mark;", true)
  | 2 => ("CoverMarks$Going", "soon", "[I", true)
  | 3 => ("CoverMarks$Going", "endOfSet", "[I", true)
  | 4 => ("CoverMarks$Going", "length", "I", false)
  | 5 => ("CoverMarks$Going", "fewestLetBe", "I", false)
  | 6 => ("CoverMarks$Going", "leastSet", "I", false)
  | _ => ("CoverMarks$Going", "rivals", "I", false)
def tyX3 : Nat → FieldType := fun k => match k with
  | 0 => .object "CoverMarks$Ways"
  | 1 => .array (.object "CoverMarks$Mark")
  | 2 => .array .int
  | 3 => .array .int
  | 4 => .int
  | 5 => .int
  | 6 => .int
  | _ => .int
abbrev wsX30 : List Cond := u_ws RX3 TX3 8
theorem nmX3 : ∀ a, a < 8 → ∀ b, b < 8 → a ≠ b → (TX3 a).2.1 ≠ (TX3 b).2.1 := by decide +kernel
theorem tyX3_ok : ∀ k, k < 8 → parseFieldDescriptor (TX3 k).2.2.1 = some (tyX3 k) := by decide +kernel
abbrev cX3_init : ByteArray := prog_5_method_1_code
def yX3_init : MethodName := ⟨RX3, "<init>", "(LCoverMarks$Ways;)V"⟩
abbrev cX3_gather : ByteArray := prog_5_method_2_code
def yX3_gather : MethodName := ⟨RX3, "gather", "(LCoverMarks$Covers;II)Z"⟩
abbrev cX3_firstBarred : ByteArray := prog_5_method_3_code
def yX3_firstBarred : MethodName := ⟨RX3, "firstBarred", "(I)I"⟩
abbrev cX3_lastDayOf : ByteArray := prog_5_method_4_code
def yX3_lastDayOf : MethodName := ⟨RX3, "lastDayOf", "(I)I"⟩
abbrev cX3_weighSets : ByteArray := prog_5_method_5_code
def yX3_weighSets : MethodName := ⟨RX3, "weighSets", "()V"⟩
abbrev cX3_endAllSets : ByteArray := prog_5_method_6_code
def yX3_endAllSets : MethodName := ⟨RX3, "endAllSets", "()V"⟩
abbrev cX3_lastOf : ByteArray := prog_5_method_7_code
def yX3_lastOf : MethodName := ⟨RX3, "lastOf", "(I)I"⟩
def RX4 : String := "CoverMarks$Leaning"
def TX4 : u_T := fun k => match k with
  | _ => ("CoverMarks$Leaning", "trace", "J", false)
def tyX4 : Nat → FieldType := fun k => match k with
  | _ => .long
abbrev wsX40 : List Cond := u_ws RX4 TX4 1
theorem nmX4 : ∀ a, a < 1 → ∀ b, b < 1 → a ≠ b → (TX4 a).2.1 ≠ (TX4 b).2.1 := by decide +kernel
theorem tyX4_ok : ∀ k, k < 1 → parseFieldDescriptor (TX4 k).2.2.1 = some (tyX4 k) := by decide +kernel
abbrev cX4_init : ByteArray := prog_6_method_1_code
def yX4_init : MethodName := ⟨RX4, "<init>", "()V"⟩
abbrev cX4_ofKind : ByteArray := prog_6_method_2_code
def yX4_ofKind : MethodName := ⟨RX4, "ofKind", "(ILCoverMarks$Mark;)I"⟩
abbrev cX4_ofMark : ByteArray := prog_6_method_3_code
def yX4_ofMark : MethodName := ⟨RX4, "ofMark", "(LCoverMarks$Mark;)I"⟩
abbrev cX4_ofDated : ByteArray := prog_6_method_4_code
def yX4_ofDated : MethodName := ⟨RX4, "ofDated", "(LCoverMarks$Mark;)I"⟩
abbrev cX4_ofRate : ByteArray := prog_6_method_5_code
def yX4_ofRate : MethodName := ⟨RX4, "ofRate", "(LCoverMarks$Mark;)I"⟩
abbrev cX4_ofThrough : ByteArray := prog_6_method_6_code
def yX4_ofThrough : MethodName := ⟨RX4, "ofThrough", "(LCoverMarks$Mark;)I"⟩
abbrev cX4_ofStamp : ByteArray := prog_6_method_7_code
def yX4_ofStamp : MethodName := ⟨RX4, "ofStamp", "(LCoverMarks$Mark;)I"⟩
abbrev cX4_ofDoubted : ByteArray := prog_6_method_8_code
def yX4_ofDoubted : MethodName := ⟨RX4, "ofDoubted", "(LCoverMarks$Mark;)I"⟩
def RX5 : String := "CoverMarks$Mark"
def TX5 : u_T := fun k => match k with
  | 0 => ("CoverMarks$Mark", "cover", "I", true)
  | 1 => ("CoverMarks$Mark", "kind", "I", true)
  | 2 => ("CoverMarks$Mark", "looked", "I", true)
  | 3 => ("CoverMarks$Mark", "days", "LCoverMarks$DaySet;", true)
  | 4 => ("CoverMarks$Mark", "mostLeft", "[I", true)
  | 5 => ("CoverMarks$Mark", "date", "I", false)
  | 6 => ("CoverMarks$Mark", "sum", "I", false)
  | 7 => ("CoverMarks$Mark", "dieNumber", "I", false)
  | 8 => ("CoverMarks$Mark", "die", "LCoverMarks$Die;", false)
  | 9 => ("CoverMarks$Mark", "ink", "I", false)
  | 10 => ("CoverMarks$Mark", "nick", "I", false)
  | 11 => ("CoverMarks$Mark", "town", "I", false)
  | _ => ("CoverMarks$Mark", "dayCount", "I", false)
def tyX5 : Nat → FieldType := fun k => match k with
  | 0 => .int
  | 1 => .int
  | 2 => .int
  | 3 => .object "CoverMarks$DaySet"
  | 4 => .array .int
  | 5 => .int
  | 6 => .int
  | 7 => .int
  | 8 => .object "CoverMarks$Die"
  | 9 => .int
  | 10 => .int
  | 11 => .int
  | _ => .int
abbrev wsX50 : List Cond := u_ws RX5 TX5 13
theorem nmX5 : ∀ a, a < 13 → ∀ b, b < 13 → a ≠ b → (TX5 a).2.1 ≠ (TX5 b).2.1 := by decide +kernel
theorem tyX5_ok : ∀ k, k < 13 → parseFieldDescriptor (TX5 k).2.2.1 = some (tyX5 k) := by decide +kernel
abbrev cX5_init : ByteArray := prog_7_method_1_code
def yX5_init : MethodName := ⟨RX5, "<init>", "(III)V"⟩
abbrev cX5_write : ByteArray := prog_7_method_2_code
def yX5_write : MethodName := ⟨RX5, "write", "(II)V"⟩
abbrev cX5_strike : ByteArray := prog_7_method_3_code
def yX5_strike : MethodName := ⟨RX5, "strike", "(ILCoverMarks$Die;II)V"⟩
abbrev cX5_findDays : ByteArray := prog_7_method_4_code
def yX5_findDays : MethodName := ⟨RX5, "findDays", "()V"⟩
abbrev cX5_fitsDate : ByteArray := prog_7_method_5_code
def yX5_fitsDate : MethodName := ⟨RX5, "fitsDate", "(I)Z"⟩
abbrev cX5_fitsDie : ByteArray := prog_7_method_6_code
def yX5_fitsDie : MethodName := ⟨RX5, "fitsDie", "(I)Z"⟩
abbrev cX5_mostDaysByFigure : ByteArray := prog_7_method_7_code
def yX5_mostDaysByFigure : MethodName := ⟨RX5, "mostDaysByFigure", "(I[I)I"⟩
abbrev cX5_isOn : ByteArray := prog_7_method_8_code
def yX5_isOn : MethodName := ⟨RX5, "isOn", "(II)Z"⟩
abbrev cX5_isTorn : ByteArray := prog_7_method_9_code
def yX5_isTorn : MethodName := ⟨RX5, "isTorn", "(I)Z"⟩
abbrev cX5_readBytes : ByteArray := prog_7_method_10_code
def yX5_readBytes : MethodName := ⟨RX5, "readBytes", "()I"⟩
def RX6 : String := "CoverMarks$Office"
def TX6 : u_T := fun k => match k with
  | 0 => ("CoverMarks$Office", "town", "I", true)
  | 1 => ("CoverMarks$Office", "from", "I", true)
  | _ => ("CoverMarks$Office", "till", "I", true)
def tyX6 : Nat → FieldType := fun k => match k with
  | 0 => .int
  | 1 => .int
  | _ => .int
abbrev wsX60 : List Cond := u_ws RX6 TX6 3
theorem nmX6 : ∀ a, a < 3 → ∀ b, b < 3 → a ≠ b → (TX6 a).2.1 ≠ (TX6 b).2.1 := by decide +kernel
theorem tyX6_ok : ∀ k, k < 3 → parseFieldDescriptor (TX6 k).2.2.1 = some (tyX6 k) := by decide +kernel
abbrev cX6_init : ByteArray := prog_8_method_1_code
def yX6_init : MethodName := ⟨RX6, "<init>", "(III)V"⟩
def RX7 : String := "CoverMarks$RateBook"
def TX7 : u_T := fun k => match k with
  | 0 => ("CoverMarks$RateBook", "rules", "[LCoverMarks$Rule;", true)
  | _ => ("CoverMarks$RateBook", "count", "I", false)
def tyX7 : Nat → FieldType := fun k => match k with
  | 0 => .array (.object "CoverMarks$Rule")
  | _ => .int
abbrev wsX70 : List Cond := u_ws RX7 TX7 2
theorem nmX7 : ∀ a, a < 2 → ∀ b, b < 2 → a ≠ b → (TX7 a).2.1 ≠ (TX7 b).2.1 := by decide +kernel
theorem tyX7_ok : ∀ k, k < 2 → parseFieldDescriptor (TX7 k).2.2.1 = some (tyX7 k) := by decide +kernel
abbrev cX7_init : ByteArray := prog_9_method_1_code
def yX7_init : MethodName := ⟨RX7, "<init>", "()V"⟩
abbrev cX7_lastThatHolds : ByteArray := prog_9_method_2_code
def yX7_lastThatHolds : MethodName := ⟨RX7, "lastThatHolds", "(III)I"⟩
def RX8 : String := "CoverMarks$RateText"
def TX8 : u_T := fun k => match k with
  | 0 => ("CoverMarks$RateText", "bytes", "[B", true)
  | 1 => ("CoverMarks$RateText", "length", "I", false)
  | 2 => ("CoverMarks$RateText", "at", "I", false)
  | 3 => ("CoverMarks$RateText", "start", "I", false)
  | 4 => ("CoverMarks$RateText", "token", "I", false)
  | 5 => ("CoverMarks$RateText", "number", "I", false)
  | _ => ("CoverMarks$RateText", "taken", "I", false)
def tyX8 : Nat → FieldType := fun k => match k with
  | 0 => .array .byte
  | 1 => .int
  | 2 => .int
  | 3 => .int
  | 4 => .int
  | 5 => .int
  | _ => .int
abbrev wsX80 : List Cond := u_ws RX8 TX8 7
theorem nmX8 : ∀ a, a < 7 → ∀ b, b < 7 → a ≠ b → (TX8 a).2.1 ≠ (TX8 b).2.1 := by decide +kernel
theorem tyX8_ok : ∀ k, k < 7 → parseFieldDescriptor (TX8 k).2.2.1 = some (tyX8 k) := by decide +kernel
abbrev cX8_init : ByteArray := prog_10_method_1_code
def yX8_init : MethodName := ⟨RX8, "<init>", "()V"⟩
abbrev cX8_addBytes : ByteArray := prog_10_method_2_code
def yX8_addBytes : MethodName := ⟨RX8, "addBytes", "(JI)V"⟩
abbrev cX8_readInto : ByteArray := prog_10_method_3_code
def yX8_readInto : MethodName := ⟨RX8, "readInto", "(LCoverMarks$RateBook;)I"⟩
abbrev cX8_readLandsAndDays : ByteArray := prog_10_method_4_code
def yX8_readLandsAndDays : MethodName := ⟨RX8, "readLandsAndDays", "(LCoverMarks$Rule;)Z"⟩
abbrev cX8_readSums : ByteArray := prog_10_method_5_code
def yX8_readSums : MethodName := ⟨RX8, "readSums", "(LCoverMarks$Rule;)Z"⟩
abbrev cX8_readPart : ByteArray := prog_10_method_6_code
def yX8_readPart : MethodName := ⟨RX8, "readPart", "(LCoverMarks$Rule;)Z"⟩
abbrev cX8_readEnd : ByteArray := prog_10_method_7_code
def yX8_readEnd : MethodName := ⟨RX8, "readEnd", "(LCoverMarks$Rule;)Z"⟩
abbrev cX8_take : ByteArray := prog_10_method_8_code
def yX8_take : MethodName := ⟨RX8, "take", "(I)Z"⟩
abbrev cX8_takeNumber : ByteArray := prog_10_method_9_code
def yX8_takeNumber : MethodName := ⟨RX8, "takeNumber", "(II)Z"⟩
abbrev cX8_step : ByteArray := prog_10_method_10_code
def yX8_step : MethodName := ⟨RX8, "step", "()V"⟩
abbrev cX8_stepNumber : ByteArray := prog_10_method_11_code
def yX8_stepNumber : MethodName := ⟨RX8, "stepNumber", "()I"⟩
abbrev cX8_stepWord : ByteArray := prog_10_method_12_code
def yX8_stepWord : MethodName := ⟨RX8, "stepWord", "()I"⟩
abbrev cX8_spells : ByteArray := prog_10_method_13_code
def yX8_spells : MethodName := ⟨RX8, "spells", "(Ljava/lang/String;)Z"⟩
abbrev cX8_isDigit : ByteArray := prog_10_method_14_code
def yX8_isDigit : MethodName := ⟨RX8, "isDigit", "(I)Z"⟩
abbrev cX8_isLetter : ByteArray := prog_10_method_15_code
def yX8_isLetter : MethodName := ⟨RX8, "isLetter", "(I)Z"⟩
abbrev cX8_isSign : ByteArray := prog_10_method_16_code
def yX8_isSign : MethodName := ⟨RX8, "isSign", "(I)Z"⟩
def RX9 : String := "CoverMarks$Rule"
def TX9 : u_T := fun k => match k with
  | 0 => ("CoverMarks$Rule", "fromLand", "I", false)
  | 1 => ("CoverMarks$Rule", "toLand", "I", false)
  | 2 => ("CoverMarks$Rule", "fromDay", "I", false)
  | 3 => ("CoverMarks$Rule", "tillDay", "I", false)
  | 4 => ("CoverMarks$Rule", "sum", "I", false)
  | 5 => ("CoverMarks$Rule", "grams", "I", false)
  | 6 => ("CoverMarks$Rule", "otherSum", "I", false)
  | 7 => ("CoverMarks$Rule", "partA", "I", false)
  | 8 => ("CoverMarks$Rule", "partB", "I", false)
  | _ => ("CoverMarks$Rule", "due", "Z", false)
def tyX9 : Nat → FieldType := fun k => match k with
  | 0 => .int
  | 1 => .int
  | 2 => .int
  | 3 => .int
  | 4 => .int
  | 5 => .int
  | 6 => .int
  | 7 => .int
  | 8 => .int
  | _ => .boolean
abbrev wsX90 : List Cond := u_ws RX9 TX9 10
theorem nmX9 : ∀ a, a < 10 → ∀ b, b < 10 → a ≠ b → (TX9 a).2.1 ≠ (TX9 b).2.1 := by decide +kernel
theorem tyX9_ok : ∀ k, k < 10 → parseFieldDescriptor (TX9 k).2.2.1 = some (tyX9 k) := by decide +kernel
abbrev cX9_init : ByteArray := prog_11_method_1_code
def yX9_init : MethodName := ⟨RX9, "<init>", "()V"⟩
abbrev cX9_forgetChoices : ByteArray := prog_11_method_2_code
def yX9_forgetChoices : MethodName := ⟨RX9, "forgetChoices", "()V"⟩
abbrev cX9_holds : ByteArray := prog_11_method_3_code
def yX9_holds : MethodName := ⟨RX9, "holds", "(III)Z"⟩
abbrev cX9_sumFor : ByteArray := prog_11_method_4_code
def yX9_sumFor : MethodName := ⟨RX9, "sumFor", "(I)I"⟩
abbrev cX9_partOf : ByteArray := prog_11_method_5_code
def yX9_partOf : MethodName := ⟨RX9, "partOf", "(I)I"⟩
def RX10 : String := "CoverMarks$Ways"
def TX10 : u_T := fun k => match k with
  | 0 => ("CoverMarks$Ways", "from", "[I", true)
  | 1 => ("CoverMarks$Ways", "to", "[I", true)
  | 2 => ("CoverMarks$Ways", "leaves", "[I", true)
  | 3 => ("CoverMarks$Ways", "comes", "[I", true)
  | 4 => ("CoverMarks$Ways", "roads", "[[I", true)
  | 5 => ("CoverMarks$Ways", "soonest", "[I", true)
  | 6 => ("CoverMarks$Ways", "latest", "[I", true)
  | _ => ("CoverMarks$Ways", "sailings", "I", false)
def tyX10 : Nat → FieldType := fun k => match k with
  | 0 => .array .int
  | 1 => .array .int
  | 2 => .array .int
  | 3 => .array .int
  | 4 => .array (.array .int)
  | 5 => .array .int
  | 6 => .array .int
  | _ => .int
abbrev wsX100 : List Cond := u_ws RX10 TX10 8
theorem nmX10 : ∀ a, a < 8 → ∀ b, b < 8 → a ≠ b → (TX10 a).2.1 ≠ (TX10 b).2.1 := by decide +kernel
theorem tyX10_ok : ∀ k, k < 8 → parseFieldDescriptor (TX10 k).2.2.1 = some (tyX10 k) := by decide +kernel
abbrev cX10_init : ByteArray := prog_12_method_1_code
def yX10_init : MethodName := ⟨RX10, "<init>", "()V"⟩
abbrev cX10_addSailing : ByteArray := prog_12_method_2_code
def yX10_addSailing : MethodName := ⟨RX10, "addSailing", "(IIII)I"⟩
abbrev cX10_lostSailings : ByteArray := prog_12_method_3_code
def yX10_lostSailings : MethodName := ⟨RX10, "lostSailings", "()I"⟩
abbrev cX10_spreadFrom : ByteArray := prog_12_method_4_code
def yX10_spreadFrom : MethodName := ⟨RX10, "spreadFrom", "(II)V"⟩
abbrev cX10_spreadBySailings : ByteArray := prog_12_method_5_code
def yX10_spreadBySailings : MethodName := ⟨RX10, "spreadBySailings", "()Z"⟩
abbrev cX10_spreadByRoads : ByteArray := prog_12_method_6_code
def yX10_spreadByRoads : MethodName := ⟨RX10, "spreadByRoads", "()Z"⟩
abbrev cX10_drawBackFrom : ByteArray := prog_12_method_7_code
def yX10_drawBackFrom : MethodName := ⟨RX10, "drawBackFrom", "(II)V"⟩
abbrev cX10_drawBackBySailings : ByteArray := prog_12_method_8_code
def yX10_drawBackBySailings : MethodName := ⟨RX10, "drawBackBySailings", "()Z"⟩
abbrev cX10_drawBackByRoads : ByteArray := prog_12_method_9_code
def yX10_drawBackByRoads : MethodName := ⟨RX10, "drawBackByRoads", "()Z"⟩
def RX11 : String := "CoverMarks"
def TX11 : u_T := fun k => match k with
  | 0 => ("CoverMarks", "lands", "[I", true)
  | 1 => ("CoverMarks", "offices", "[LCoverMarks$Office;", true)
  | 2 => ("CoverMarks", "dies", "[LCoverMarks$Die;", true)
  | 3 => ("CoverMarks", "covers", "LCoverMarks$Covers;", true)
  | 4 => ("CoverMarks", "leaning", "LCoverMarks$Leaning;", true)
  | 5 => ("CoverMarks", "ways", "LCoverMarks$Ways;", true)
  | 6 => ("CoverMarks", "going", "LCoverMarks$Going;", true)
  | 7 => ("CoverMarks", "text", "LCoverMarks$RateText;", true)
  | 8 => ("CoverMarks", "book", "LCoverMarks$RateBook;", false)
  | 9 => ("CoverMarks", "spareBook", "LCoverMarks$RateBook;", false)
  | 10 => ("CoverMarks", "officeCount", "I", false)
  | _ => ("CoverMarks", "dieCount", "I", false)
def tyX11 : Nat → FieldType := fun k => match k with
  | 0 => .array .int
  | 1 => .array (.object "CoverMarks$Office")
  | 2 => .array (.object "CoverMarks$Die")
  | 3 => .object "CoverMarks$Covers"
  | 4 => .object "CoverMarks$Leaning"
  | 5 => .object "CoverMarks$Ways"
  | 6 => .object "CoverMarks$Going"
  | 7 => .object "CoverMarks$RateText"
  | 8 => .object "CoverMarks$RateBook"
  | 9 => .object "CoverMarks$RateBook"
  | 10 => .int
  | _ => .int
abbrev wsX110 : List Cond := u_ws RX11 TX11 12
theorem nmX11 : ∀ a, a < 12 → ∀ b, b < 12 → a ≠ b → (TX11 a).2.1 ≠ (TX11 b).2.1 := by decide +kernel
theorem tyX11_ok : ∀ k, k < 12 → parseFieldDescriptor (TX11 k).2.2.1 = some (tyX11 k) := by decide +kernel
abbrev cX11_init : ByteArray := prog_1_method_1_code
def yX11_init : MethodName := ⟨RX11, "<init>", "()V"⟩
abbrev cX11_town : ByteArray := prog_1_method_2_code
def yX11_town : MethodName := ⟨RX11, "town", "(II)I"⟩
abbrev cX11_office : ByteArray := prog_1_method_3_code
def yX11_office : MethodName := ⟨RX11, "office", "(III)I"⟩
abbrev cX11_die : ByteArray := prog_1_method_4_code
def yX11_die : MethodName := ⟨RX11, "die", "(IIIII)I"⟩
abbrev cX11_mark : ByteArray := prog_1_method_5_code
def yX11_mark : MethodName := ⟨RX11, "mark", "(IIIIIIII)I"⟩
abbrev cX11_lean : ByteArray := prog_1_method_6_code
def yX11_lean : MethodName := ⟨RX11, "lean", "(II)I"⟩
abbrev cX11_about : ByteArray := prog_1_method_7_code
def yX11_about : MethodName := ⟨RX11, "about", "(II)I"⟩
abbrev cX11_span : ByteArray := prog_1_method_8_code
def yX11_span : MethodName := ⟨RX11, "span", "(II)I"⟩
abbrev cX11_can : ByteArray := prog_1_method_9_code
def yX11_can : MethodName := ⟨RX11, "can", "(II)I"⟩
abbrev cX11_marks : ByteArray := prog_1_method_10_code
def yX11_marks : MethodName := ⟨RX11, "marks", "(II)I"⟩
abbrev cX11_sail : ByteArray := prog_1_method_11_code
def yX11_sail : MethodName := ⟨RX11, "sail", "(IIII)I"⟩
abbrev cX11_late : ByteArray := prog_1_method_12_code
def yX11_late : MethodName := ⟨RX11, "late", "(II)I"⟩
abbrev cX11_road : ByteArray := prog_1_method_13_code
def yX11_road : MethodName := ⟨RX11, "road", "(III)I"⟩
abbrev cX11_soonest : ByteArray := prog_1_method_14_code
def yX11_soonest : MethodName := ⟨RX11, "soonest", "(III)I"⟩
abbrev cX11_goes : ByteArray := prog_1_method_15_code
def yX11_goes : MethodName := ⟨RX11, "goes", "(III)I"⟩
abbrev cX11_when : ByteArray := prog_1_method_16_code
def yX11_when : MethodName := ⟨RX11, "when", "(IIII)I"⟩
abbrev cX11_bars : ByteArray := prog_1_method_17_code
def yX11_bars : MethodName := ⟨RX11, "bars", "(II)I"⟩
abbrev cX11_fewest : ByteArray := prog_1_method_18_code
def yX11_fewest : MethodName := ⟨RX11, "fewest", "(III)I"⟩
abbrev cX11_type : ByteArray := prog_1_method_19_code
def yX11_type : MethodName := ⟨RX11, "type", "(JI)I"⟩
abbrev cX11_clear : ByteArray := prog_1_method_20_code
def yX11_clear : MethodName := ⟨RX11, "clear", "()I"⟩
abbrev cX11_rates : ByteArray := prog_1_method_21_code
def yX11_rates : MethodName := ⟨RX11, "rates", "()I"⟩
abbrev cX11_owed : ByteArray := prog_1_method_22_code
def yX11_owed : MethodName := ⟨RX11, "owed", "(IIIII)I"⟩
abbrev cX11_weights : ByteArray := prog_1_method_23_code
def yX11_weights : MethodName := ⟨RX11, "weights", "(IIIII)I"⟩
abbrev cX11_mail : ByteArray := prog_1_method_24_code
def yX11_mail : MethodName := ⟨RX11, "mail", "(III)I"⟩
abbrev cX11_heap : ByteArray := prog_1_method_25_code
def yX11_heap : MethodName := ⟨RX11, "heap", "(II)I"⟩
abbrev cX11_many : ByteArray := prog_1_method_26_code
def yX11_many : MethodName := ⟨RX11, "many", "(II)I"⟩
abbrev cX11_look : ByteArray := prog_1_method_27_code
def yX11_look : MethodName := ⟨RX11, "look", "(II)I"⟩
abbrev cX11_count : ByteArray := prog_1_method_28_code
def yX11_count : MethodName := ⟨RX11, "count", "(I)I"⟩
abbrev cX11_trace : ByteArray := prog_1_method_29_code
def yX11_trace : MethodName := ⟨RX11, "trace", "()J"⟩
abbrev cX11_within : ByteArray := prog_1_method_30_code
def yX11_within : MethodName := ⟨RX11, "within", "(III)Z"⟩
abbrev cX11_isDay : ByteArray := prog_1_method_31_code
def yX11_isDay : MethodName := ⟨RX11, "isDay", "(I)Z"⟩
abbrev cX11_isDayOrNone : ByteArray := prog_1_method_32_code
def yX11_isDayOrNone : MethodName := ⟨RX11, "isDayOrNone", "(I)Z"⟩
abbrev cX11_isStretch : ByteArray := prog_1_method_33_code
def yX11_isStretch : MethodName := ⟨RX11, "isStretch", "(II)Z"⟩
abbrev cX11_isCover : ByteArray := prog_1_method_34_code
def yX11_isCover : MethodName := ⟨RX11, "isCover", "(I)Z"⟩
abbrev cX11_isMark : ByteArray := prog_1_method_35_code
def yX11_isMark : MethodName := ⟨RX11, "isMark", "(I)Z"⟩
abbrev cX11_areTwoTowns : ByteArray := prog_1_method_36_code
def yX11_areTwoTowns : MethodName := ⟨RX11, "areTwoTowns", "(II)Z"⟩
abbrev cX11_areLandsAndDay : ByteArray := prog_1_method_37_code
def yX11_areLandsAndDay : MethodName := ⟨RX11, "areLandsAndDay", "(III)Z"⟩
abbrev cX11_isDate : ByteArray := prog_1_method_38_code
def yX11_isDate : MethodName := ⟨RX11, "isDate", "(I)Z"⟩
abbrev cX11_byteOf : ByteArray := prog_1_method_39_code
def yX11_byteOf : MethodName := ⟨RX11, "byteOf", "(II)I"⟩
abbrev cX11_figureOf : ByteArray := prog_1_method_40_code
def yX11_figureOf : MethodName := ⟨RX11, "figureOf", "(II)I"⟩
def RX12 : String := "CoverMarksModel"
def TX12 : u_T := fun k => match k with
  | 0 => ("CoverMarksModel", "thrown", "I", false)
  | 1 => ("CoverMarksModel", "trace", "J", false)
  | 2 => ("CoverMarksModel", "land", "[I", true)
  | 3 => ("CoverMarksModel", "offices", "I", false)
  | 4 => ("CoverMarksModel", "officeTown", "[I", true)
  | 5 => ("CoverMarksModel", "officeFrom", "[I", true)
  | 6 => ("CoverMarksModel", "officeTill", "[I", true)
  | 7 => ("CoverMarksModel", "dies", "I", false)
  | 8 => ("CoverMarksModel", "dieOffice", "[I", true)
  | 9 => ("CoverMarksModel", "dieInks", "[I", true)
  | 10 => ("CoverMarksModel", "dieFrom", "[I", true)
  | 11 => ("CoverMarksModel", "dieTill", "[I", true)
  | 12 => ("CoverMarksModel", "dieNick", "[I", true)
  | 13 => ("CoverMarksModel", "marks", "I", false)
  | 14 => ("CoverMarksModel", "mark", "[I", true)
  | 15 => ("CoverMarksModel", "sailings", "I", false)
  | 16 => ("CoverMarksModel", "sailFrom", "[I", true)
  | 17 => ("CoverMarksModel", "sailTo", "[I", true)
  | 18 => ("CoverMarksModel", "sailLeaves", "[I", true)
  | 19 => ("CoverMarksModel", "sailComes", "[I", true)
  | 20 => ("CoverMarksModel", "road", "[I", true)
  | 21 => ("CoverMarksModel", "soon", "[I", true)
  | 22 => ("CoverMarksModel", "isDone", "[Z", true)
  | 23 => ("CoverMarksModel", "wayMany", "I", false)
  | 24 => ("CoverMarksModel", "way", "[I", true)
  | 25 => ("CoverMarksModel", "first", "[I", true)
  | 26 => ("CoverMarksModel", "last", "[I", true)
  | 27 => ("CoverMarksModel", "bar", "I", false)
  | 28 => ("CoverMarksModel", "text", "[I", true)
  | 29 => ("CoverMarksModel", "typed", "I", false)
  | 30 => ("CoverMarksModel", "next", "I", false)
  | 31 => ("CoverMarksModel", "token", "I", false)
  | 32 => ("CoverMarksModel", "place", "I", false)
  | 33 => ("CoverMarksModel", "value", "I", false)
  | 34 => ("CoverMarksModel", "fault", "I", false)
  | 35 => ("CoverMarksModel", "rules", "I", false)
  | 36 => ("CoverMarksModel", "drafts", "I", false)
  | 37 => ("CoverMarksModel", "rule", "[I", true)
  | _ => ("CoverMarksModel", "covers", "[I", true)
def tyX12 : Nat → FieldType := fun k => match k with
  | 0 => .int
  | 1 => .long
  | 2 => .array .int
  | 3 => .int
  | 4 => .array .int
  | 5 => .array .int
  | 6 => .array .int
  | 7 => .int
  | 8 => .array .int
  | 9 => .array .int
  | 10 => .array .int
  | 11 => .array .int
  | 12 => .array .int
  | 13 => .int
  | 14 => .array .int
  | 15 => .int
  | 16 => .array .int
  | 17 => .array .int
  | 18 => .array .int
  | 19 => .array .int
  | 20 => .array .int
  | 21 => .array .int
  | 22 => .array .boolean
  | 23 => .int
  | 24 => .array .int
  | 25 => .array .int
  | 26 => .array .int
  | 27 => .int
  | 28 => .array .int
  | 29 => .int
  | 30 => .int
  | 31 => .int
  | 32 => .int
  | 33 => .int
  | 34 => .int
  | 35 => .int
  | 36 => .int
  | 37 => .array .int
  | _ => .array .int
abbrev wsX120 : List Cond := u_ws RX12 TX12 39
theorem nmX12 : ∀ a, a < 39 → ∀ b, b < 39 → a ≠ b → (TX12 a).2.1 ≠ (TX12 b).2.1 := by decide +kernel
theorem tyX12_ok : ∀ k, k < 39 → parseFieldDescriptor (TX12 k).2.2.1 = some (tyX12 k) := by decide +kernel
abbrev cX12_init : ByteArray := prog_14_method_1_code
def yX12_init : MethodName := ⟨RX12, "<init>", "()V"⟩
abbrev cX12_in : ByteArray := prog_14_method_3_code
def yX12_in : MethodName := ⟨RX12, "in", "(III)Z"⟩
abbrev cX12_isDay : ByteArray := prog_14_method_4_code
def yX12_isDay : MethodName := ⟨RX12, "isDay", "(I)Z"⟩
abbrev cX12_isTown : ByteArray := prog_14_method_5_code
def yX12_isTown : MethodName := ⟨RX12, "isTown", "(I)Z"⟩
abbrev cX12_isCover : ByteArray := prog_14_method_6_code
def yX12_isCover : MethodName := ⟨RX12, "isCover", "(I)Z"⟩
abbrev cX12_isMark : ByteArray := prog_14_method_7_code
def yX12_isMark : MethodName := ⟨RX12, "isMark", "(I)Z"⟩
abbrev cX12_town : ByteArray := prog_14_method_8_code
def yX12_town : MethodName := ⟨RX12, "town", "(II)I"⟩
abbrev cX12_office : ByteArray := prog_14_method_9_code
def yX12_office : MethodName := ⟨RX12, "office", "(III)I"⟩
abbrev cX12_die : ByteArray := prog_14_method_10_code
def yX12_die : MethodName := ⟨RX12, "die", "(IIIII)I"⟩
abbrev cX12_isFigure : ByteArray := prog_14_method_11_code
def yX12_isFigure : MethodName := ⟨RX12, "isFigure", "(I)Z"⟩
abbrev cX12_mark : ByteArray := prog_14_method_12_code
def yX12_mark : MethodName := ⟨RX12, "mark", "(IIIIIIII)I"⟩
abbrev cX12_lean : ByteArray := prog_14_method_13_code
def yX12_lean : MethodName := ⟨RX12, "lean", "(II)I"⟩
abbrev cX12_about : ByteArray := prog_14_method_14_code
def yX12_about : MethodName := ⟨RX12, "about", "(II)I"⟩
abbrev cX12_canBe : ByteArray := prog_14_method_15_code
def yX12_canBe : MethodName := ⟨RX12, "canBe", "(II)Z"⟩
abbrev cX12_spanOf : ByteArray := prog_14_method_16_code
def yX12_spanOf : MethodName := ⟨RX12, "spanOf", "(I)I"⟩
abbrev cX12_span : ByteArray := prog_14_method_17_code
def yX12_span : MethodName := ⟨RX12, "span", "(II)I"⟩
abbrev cX12_can : ByteArray := prog_14_method_18_code
def yX12_can : MethodName := ⟨RX12, "can", "(II)I"⟩
abbrev cX12_isOf : ByteArray := prog_14_method_19_code
def yX12_isOf : MethodName := ⟨RX12, "isOf", "(III)Z"⟩
abbrev cX12_marks : ByteArray := prog_14_method_20_code
def yX12_marks : MethodName := ⟨RX12, "marks", "(II)I"⟩
abbrev cX12_sail : ByteArray := prog_14_method_21_code
def yX12_sail : MethodName := ⟨RX12, "sail", "(IIII)I"⟩
abbrev cX12_late : ByteArray := prog_14_method_22_code
def yX12_late : MethodName := ⟨RX12, "late", "(II)I"⟩
abbrev cX12_road : ByteArray := prog_14_method_23_code
def yX12_road : MethodName := ⟨RX12, "road", "(III)I"⟩
abbrev cX12_soonestOf : ByteArray := prog_14_method_24_code
def yX12_soonestOf : MethodName := ⟨RX12, "soonestOf", "(III)I"⟩
abbrev cX12_soonest : ByteArray := prog_14_method_25_code
def yX12_soonest : MethodName := ⟨RX12, "soonest", "(III)I"⟩
abbrev cX12_townOf : ByteArray := prog_14_method_26_code
def yX12_townOf : MethodName := ⟨RX12, "townOf", "(I)I"⟩
abbrev cX12_ways : ByteArray := prog_14_method_27_code
def yX12_ways : MethodName := ⟨RX12, "ways", "(II)I"⟩
abbrev cX12_isGoing : ByteArray := prog_14_method_28_code
def yX12_isGoing : MethodName := ⟨RX12, "isGoing", "(I)Z"⟩
abbrev cX12_refuses : ByteArray := prog_14_method_29_code
def yX12_refuses : MethodName := ⟨RX12, "refuses", "(II)I"⟩
abbrev cX12_goes : ByteArray := prog_14_method_30_code
def yX12_goes : MethodName := ⟨RX12, "goes", "(III)I"⟩
abbrev cX12_when : ByteArray := prog_14_method_31_code
def yX12_when : MethodName := ⟨RX12, "when", "(IIII)I"⟩
abbrev cX12_bars : ByteArray := prog_14_method_32_code
def yX12_bars : MethodName := ⟨RX12, "bars", "(II)I"⟩
abbrev cX12_ones : ByteArray := prog_14_method_33_code
def yX12_ones : MethodName := ⟨RX12, "ones", "(I)I"⟩
abbrev cX12_fewest : ByteArray := prog_14_method_34_code
def yX12_fewest : MethodName := ⟨RX12, "fewest", "(III)I"⟩
abbrev cX12_type : ByteArray := prog_14_method_35_code
def yX12_type : MethodName := ⟨RX12, "type", "(JI)I"⟩
abbrev cX12_clear : ByteArray := prog_14_method_36_code
def yX12_clear : MethodName := ⟨RX12, "clear", "()I"⟩
abbrev cX12_byteAt : ByteArray := prog_14_method_37_code
def yX12_byteAt : MethodName := ⟨RX12, "byteAt", "(I)I"⟩
abbrev cX12_name : ByteArray := prog_14_method_38_code
def yX12_name : MethodName := ⟨RX12, "name", "(IIII)I"⟩
abbrev cX12_wordOf : ByteArray := prog_14_method_39_code
def yX12_wordOf : MethodName := ⟨RX12, "wordOf", "(I)I"⟩
abbrev cX12_advances : ByteArray := prog_14_method_40_code
def yX12_advances : MethodName := ⟨RX12, "advances", "()V"⟩
abbrev cX12_isWell : ByteArray := prog_14_method_41_code
def yX12_isWell : MethodName := ⟨RX12, "isWell", "()Z"⟩
abbrev cX12_fails : ByteArray := prog_14_method_42_code
def yX12_fails : MethodName := ⟨RX12, "fails", "()V"⟩
abbrev cX12_isSign : ByteArray := prog_14_method_43_code
def yX12_isSign : MethodName := ⟨RX12, "isSign", "(I)Z"⟩
abbrev cX12_isWord : ByteArray := prog_14_method_44_code
def yX12_isWord : MethodName := ⟨RX12, "isWord", "(I)Z"⟩
abbrev cX12_takesSign : ByteArray := prog_14_method_45_code
def yX12_takesSign : MethodName := ⟨RX12, "takesSign", "(I)V"⟩
abbrev cX12_takesWord : ByteArray := prog_14_method_46_code
def yX12_takesWord : MethodName := ⟨RX12, "takesWord", "(I)V"⟩
abbrev cX12_takesNumber : ByteArray := prog_14_method_47_code
def yX12_takesNumber : MethodName := ⟨RX12, "takesNumber", "(II)I"⟩
abbrev cX12_readsRule : ByteArray := prog_14_method_48_code
def yX12_readsRule : MethodName := ⟨RX12, "readsRule", "(I)V"⟩
abbrev cX12_rates : ByteArray := prog_14_method_49_code
def yX12_rates : MethodName := ⟨RX12, "rates", "()I"⟩
abbrev cX12_ruleOf : ByteArray := prog_14_method_50_code
def yX12_ruleOf : MethodName := ⟨RX12, "ruleOf", "(III)I"⟩
abbrev cX12_owedBy : ByteArray := prog_14_method_51_code
def yX12_owedBy : MethodName := ⟨RX12, "owedBy", "(II)I"⟩
abbrev cX12_isLand : ByteArray := prog_14_method_52_code
def yX12_isLand : MethodName := ⟨RX12, "isLand", "(I)Z"⟩
abbrev cX12_owed : ByteArray := prog_14_method_53_code
def yX12_owed : MethodName := ⟨RX12, "owed", "(IIIII)I"⟩
abbrev cX12_weights : ByteArray := prog_14_method_54_code
def yX12_weights : MethodName := ⟨RX12, "weights", "(IIIII)I"⟩
abbrev cX12_isMail : ByteArray := prog_14_method_55_code
def yX12_isMail : MethodName := ⟨RX12, "isMail", "(III)Z"⟩
abbrev cX12_mail : ByteArray := prog_14_method_56_code
def yX12_mail : MethodName := ⟨RX12, "mail", "(III)I"⟩
abbrev cX12_heap : ByteArray := prog_14_method_57_code
def yX12_heap : MethodName := ⟨RX12, "heap", "(II)I"⟩
abbrev cX12_many : ByteArray := prog_14_method_58_code
def yX12_many : MethodName := ⟨RX12, "many", "(II)I"⟩
abbrev cX12_look : ByteArray := prog_14_method_59_code
def yX12_look : MethodName := ⟨RX12, "look", "(II)I"⟩
abbrev cX12_count : ByteArray := prog_14_method_60_code
def yX12_count : MethodName := ⟨RX12, "count", "(I)I"⟩
abbrev cX12_trace : ByteArray := prog_14_method_61_code
def yX12_trace : MethodName := ⟨RX12, "trace", "()J"⟩
def RJ6 : String := "java/lang/Integer"
def TJ6 : u_T := fun k => match k with
  | _ => ("", "", "", false)
def tyJ6 : Nat → FieldType := fun k => match k with
  | _ => .int
abbrev wsJ60 : List Cond := u_ws RJ6 TJ6 0
theorem nmJ6 : ∀ a, a < 0 → ∀ b, b < 0 → a ≠ b → (TJ6 a).2.1 ≠ (TJ6 b).2.1 := by decide +kernel
theorem tyJ6_ok : ∀ k, k < 0 → parseFieldDescriptor (TJ6 k).2.2.1 = some (tyJ6 k) := by decide +kernel
abbrev cJ6_bitCount_0f7a4 : ByteArray := prog_15_method_49_code
def yJ6_bitCount_0f7a4 : MethodName := ⟨RJ6, "bitCount", "(I)I"⟩
def RJ13 : String := "java/lang/Long"
def TJ13 : u_T := fun k => match k with
  | _ => ("", "", "", false)
def tyJ13 : Nat → FieldType := fun k => match k with
  | _ => .int
abbrev wsJ130 : List Cond := u_ws RJ13 TJ13 0
theorem nmJ13 : ∀ a, a < 0 → ∀ b, b < 0 → a ≠ b → (TJ13 a).2.1 ≠ (TJ13 b).2.1 := by decide +kernel
theorem tyJ13_ok : ∀ k, k < 0 → parseFieldDescriptor (TJ13 k).2.2.1 = some (tyJ13 k) := by decide +kernel
abbrev cJ13_bitCount_95d88 : ByteArray := prog_16_method_50_code
def yJ13_bitCount_95d88 : MethodName := ⟨RJ13, "bitCount", "(J)I"⟩
def RJ9 : String := "java/lang/Math"
def TJ9 : u_T := fun k => match k with
  | _ => ("", "", "", false)
def tyJ9 : Nat → FieldType := fun k => match k with
  | _ => .int
abbrev wsJ90 : List Cond := u_ws RJ9 TJ9 0
theorem nmJ9 : ∀ a, a < 0 → ∀ b, b < 0 → a ≠ b → (TJ9 a).2.1 ≠ (TJ9 b).2.1 := by decide +kernel
theorem tyJ9_ok : ∀ k, k < 0 → parseFieldDescriptor (TJ9 k).2.2.1 = some (tyJ9 k) := by decide +kernel
abbrev cJ9_max_7cf53 : ByteArray := prog_17_method_65_code
def yJ9_max_7cf53 : MethodName := ⟨RJ9, "max", "(II)I"⟩
abbrev cJ9_min_7cf53 : ByteArray := prog_17_method_69_code
def yJ9_min_7cf53 : MethodName := ⟨RJ9, "min", "(II)I"⟩
def RJ0 : String := "java/lang/String"
def TJ0 : u_T := fun k => match k with
  | _ => ("", "", "", false)
def tyJ0 : Nat → FieldType := fun k => match k with
  | _ => .int
abbrev wsJ00 : List Cond := u_ws RJ0 TJ0 0
theorem nmJ0 : ∀ a, a < 0 → ∀ b, b < 0 → a ≠ b → (TJ0 a).2.1 ≠ (TJ0 b).2.1 := by decide +kernel
theorem tyJ0_ok : ∀ k, k < 0 → parseFieldDescriptor (TJ0 k).2.2.1 = some (tyJ0 k) := by decide +kernel
abbrev cJ0_length_8abf5 : ByteArray := prog_18_method_54_code
def yJ0_length_8abf5 : MethodName := ⟨RJ0, "length", "()I"⟩
abbrev cJ0_charAt_5068e : ByteArray := prog_18_method_56_code
def yJ0_charAt_5068e : MethodName := ⟨RJ0, "charAt", "(I)C"⟩
abbrev cJ0_coder_7d493 : ByteArray := prog_18_method_152_code
def yJ0_coder_7d493 : MethodName := ⟨RJ0, "coder", "()B"⟩
abbrev cJ0_isLatin1_aae02 : ByteArray := prog_18_method_154_code
def yJ0_isLatin1_aae02 : MethodName := ⟨RJ0, "isLatin1", "()Z"⟩
abbrev cJ0_checkIndex_df160 : ByteArray := prog_18_method_155_code
def yJ0_checkIndex_df160 : MethodName := ⟨RJ0, "checkIndex", "(II)V"⟩
def RJ1 : String := "java/lang/StringLatin1"
def TJ1 : u_T := fun k => match k with
  | _ => ("", "", "", false)
def tyJ1 : Nat → FieldType := fun k => match k with
  | _ => .int
abbrev wsJ10 : List Cond := u_ws RJ1 TJ1 0
theorem nmJ1 : ∀ a, a < 0 → ∀ b, b < 0 → a ≠ b → (TJ1 a).2.1 ≠ (TJ1 b).2.1 := by decide +kernel
theorem tyJ1_ok : ∀ k, k < 0 → parseFieldDescriptor (TJ1 k).2.2.1 = some (tyJ1 k) := by decide +kernel
abbrev cJ1_charAt_3b067 : ByteArray := prog_19_method_2_code
def yJ1_charAt_3b067 : MethodName := ⟨RJ1, "charAt", "([BI)C"⟩
def RJ2 : String := "java/lang/StringUTF16"
def TJ2 : u_T := fun k => match k with
  | _ => ("", "", "", false)
def tyJ2 : Nat → FieldType := fun k => match k with
  | _ => .int
abbrev wsJ20 : List Cond := u_ws RJ2 TJ2 0
theorem nmJ2 : ∀ a, a < 0 → ∀ b, b < 0 → a ≠ b → (TJ2 a).2.1 ≠ (TJ2 b).2.1 := by decide +kernel
theorem tyJ2_ok : ∀ k, k < 0 → parseFieldDescriptor (TJ2 k).2.2.1 = some (tyJ2 k) := by decide +kernel
abbrev cJ2_getChar_3b067 : ByteArray := prog_20_method_5_code
def yJ2_getChar_3b067 : MethodName := ⟨RJ2, "getChar", "([BI)C"⟩
abbrev cJ2_length_9d52b : ByteArray := prog_20_method_6_code
def yJ2_length_9d52b : MethodName := ⟨RJ2, "length", "([B)I"⟩
abbrev cJ2_charAt_3b067 : ByteArray := prog_20_method_83_code
def yJ2_charAt_3b067 : MethodName := ⟨RJ2, "charAt", "([BI)C"⟩
abbrev cJ2_checkIndex_2214a : ByteArray := prog_20_method_91_code
def yJ2_checkIndex_2214a : MethodName := ⟨RJ2, "checkIndex", "(I[B)V"⟩
def RJ7 : String := "java/util/Arrays"
def TJ7 : u_T := fun k => match k with
  | _ => ("", "", "", false)
def tyJ7 : Nat → FieldType := fun k => match k with
  | _ => .int
abbrev wsJ70 : List Cond := u_ws RJ7 TJ7 0
theorem nmJ7 : ∀ a, a < 0 → ∀ b, b < 0 → a ≠ b → (TJ7 a).2.1 ≠ (TJ7 b).2.1 := by decide +kernel
theorem tyJ7_ok : ∀ k, k < 0 → parseFieldDescriptor (TJ7 k).2.2.1 = some (tyJ7 k) := by decide +kernel
abbrev cJ7_fill_53178 : ByteArray := prog_21_method_103_code
def yJ7_fill_53178 : MethodName := ⟨RJ7, "fill", "([II)V"⟩
def RJ3 : String := "jdk/internal/util/Preconditions"
def TJ3 : u_T := fun k => match k with
  | _ => ("", "", "", false)
def tyJ3 : Nat → FieldType := fun k => match k with
  | _ => .int
abbrev wsJ30 : List Cond := u_ws RJ3 TJ3 0
theorem nmJ3 : ∀ a, a < 0 → ∀ b, b < 0 → a ≠ b → (TJ3 a).2.1 ≠ (TJ3 b).2.1 := by decide +kernel
theorem tyJ3_ok : ∀ k, k < 0 → parseFieldDescriptor (TJ3 k).2.2.1 = some (tyJ3 k) := by decide +kernel
abbrev cJ3_checkIndex_8e157 : ByteArray := prog_22_method_11_code
def yJ3_checkIndex_8e157 : MethodName := ⟨RJ3, "checkIndex", "(IILjava/util/function/BiFunction;)I"⟩
def RL : String := "CoverMarksLaw"
abbrev cL_law : ByteArray := code
def yL_law : MethodName := ⟨RL, "law", "([I)Z"⟩
abbrev vwCl : List vw_C := [(RX0, TX0, 2), (RX1, TX1, 1), (RX2, TX2, 5), (RX3, TX3, 8), (RX4, TX4, 1), (RX5, TX5, 13), (RX6, TX6, 3), (RX7, TX7, 2), (RX8, TX8, 7), (RX9, TX9, 10), (RX10, TX10, 8), (RX11, TX11, 12), (RX12, TX12, 39)]
end
section
theorem dL_law_0 : decode cL_law 0 = .ok (.new 7, 3) := by decide +kernel
theorem dL_law_3 : decode cL_law 3 = .ok (.dup, 1) := by decide +kernel
theorem dL_law_4 : decode cL_law 4 = .ok (.invokespecial 9, 3) := by decide +kernel
theorem dL_law_7 : decode cL_law 7 = .ok (.astore_n 1, 1) := by decide +kernel
theorem dL_law_8 : decode cL_law 8 = .ok (.new 10, 3) := by decide +kernel
theorem dL_law_11 : decode cL_law 11 = .ok (.dup, 1) := by decide +kernel
theorem dL_law_12 : decode cL_law 12 = .ok (.invokespecial 12, 3) := by decide +kernel
theorem dL_law_15 : decode cL_law 15 = .ok (.astore_n 2, 1) := by decide +kernel
theorem dL_law_16 : decode cL_law 16 = .ok (.iconst 0, 1) := by decide +kernel
theorem dL_law_17 : decode cL_law 17 = .ok (.istore_n 3, 1) := by decide +kernel
theorem dL_law_18 : decode cL_law 18 = .ok (.iload_n 3, 1) := by decide +kernel
theorem dL_law_19 : decode cL_law 19 = .ok (.aload_n 0, 1) := by decide +kernel
theorem dL_law_20 : decode cL_law 20 = .ok (.arraylength, 1) := by decide +kernel
theorem dL_law_21 : decode cL_law 21 = .ok (.bipush 9, 2) := by decide +kernel
theorem dL_law_23 : decode cL_law 23 = .ok (.isub, 1) := by decide +kernel
theorem dL_law_24 : decode cL_law 24 = .ok (.if_icmp .gt 1283, 3) := by decide +kernel
theorem dL_law_27 : decode cL_law 27 = .ok (.aload_n 0, 1) := by decide +kernel
theorem dL_law_28 : decode cL_law 28 = .ok (.iload_n 3, 1) := by decide +kernel
theorem dL_law_29 : decode cL_law 29 = .ok (.iaload, 1) := by decide +kernel
theorem dL_law_30 : decode cL_law 30 = .ok (.bipush 31, 2) := by decide +kernel
theorem dL_law_32 : decode cL_law 32 = .ok (.iand, 1) := by decide +kernel
theorem dL_law_33 : decode cL_law 33 = .ok (.tableswitch 1268 0 27 #[127, 160, 203, 266, 365, 398, 431, 464, 497, 530, 583, 616, 659, 702, 745, 798, 831, 874, 937, 950, 963, 1026, 1089, 1132, 1165, 1198, 1231, 1254], 127) := by decide +kernel
theorem dL_law_160 : decode cL_law 160 = .ok (.aload_n 1, 1) := by decide +kernel
theorem dL_law_161 : decode cL_law 161 = .ok (.aload_n 0, 1) := by decide +kernel
theorem dL_law_162 : decode cL_law 162 = .ok (.iload_n 3, 1) := by decide +kernel
theorem dL_law_163 : decode cL_law 163 = .ok (.iconst 1, 1) := by decide +kernel
theorem dL_law_164 : decode cL_law 164 = .ok (.iadd, 1) := by decide +kernel
theorem dL_law_165 : decode cL_law 165 = .ok (.iaload, 1) := by decide +kernel
theorem dL_law_166 : decode cL_law 166 = .ok (.aload_n 0, 1) := by decide +kernel
theorem dL_law_167 : decode cL_law 167 = .ok (.iload_n 3, 1) := by decide +kernel
theorem dL_law_168 : decode cL_law 168 = .ok (.iconst 2, 1) := by decide +kernel
theorem dL_law_169 : decode cL_law 169 = .ok (.iadd, 1) := by decide +kernel
theorem dL_law_170 : decode cL_law 170 = .ok (.iaload, 1) := by decide +kernel
theorem dL_law_171 : decode cL_law 171 = .ok (.invokevirtual 13, 3) := by decide +kernel
theorem dL_law_174 : decode cL_law 174 = .ok (.aload_n 2, 1) := by decide +kernel
theorem dL_law_175 : decode cL_law 175 = .ok (.aload_n 0, 1) := by decide +kernel
theorem dL_law_176 : decode cL_law 176 = .ok (.iload_n 3, 1) := by decide +kernel
theorem dL_law_177 : decode cL_law 177 = .ok (.iconst 1, 1) := by decide +kernel
theorem dL_law_178 : decode cL_law 178 = .ok (.iadd, 1) := by decide +kernel
theorem dL_law_179 : decode cL_law 179 = .ok (.iaload, 1) := by decide +kernel
theorem dL_law_180 : decode cL_law 180 = .ok (.aload_n 0, 1) := by decide +kernel
theorem dL_law_181 : decode cL_law 181 = .ok (.iload_n 3, 1) := by decide +kernel
theorem dL_law_182 : decode cL_law 182 = .ok (.iconst 2, 1) := by decide +kernel
theorem dL_law_183 : decode cL_law 183 = .ok (.iadd, 1) := by decide +kernel
theorem dL_law_184 : decode cL_law 184 = .ok (.iaload, 1) := by decide +kernel
theorem dL_law_185 : decode cL_law 185 = .ok (.invokevirtual 17, 3) := by decide +kernel
theorem dL_law_188 : decode cL_law 188 = .ok (.if_icmp .eq 1113, 3) := by decide +kernel
theorem dL_law_191 : decode cL_law 191 = .ok (.iconst 0, 1) := by decide +kernel
theorem dL_law_192 : decode cL_law 192 = .ok (.ireturn, 1) := by decide +kernel
theorem dL_law_193 : decode cL_law 193 = .ok (.aload_n 1, 1) := by decide +kernel
theorem dL_law_194 : decode cL_law 194 = .ok (.aload_n 0, 1) := by decide +kernel
theorem dL_law_195 : decode cL_law 195 = .ok (.iload_n 3, 1) := by decide +kernel
theorem dL_law_196 : decode cL_law 196 = .ok (.iconst 1, 1) := by decide +kernel
theorem dL_law_197 : decode cL_law 197 = .ok (.iadd, 1) := by decide +kernel
theorem dL_law_198 : decode cL_law 198 = .ok (.iaload, 1) := by decide +kernel
theorem dL_law_199 : decode cL_law 199 = .ok (.aload_n 0, 1) := by decide +kernel
theorem dL_law_200 : decode cL_law 200 = .ok (.iload_n 3, 1) := by decide +kernel
theorem dL_law_201 : decode cL_law 201 = .ok (.iconst 2, 1) := by decide +kernel
theorem dL_law_202 : decode cL_law 202 = .ok (.iadd, 1) := by decide +kernel
theorem dL_law_203 : decode cL_law 203 = .ok (.iaload, 1) := by decide +kernel
theorem dL_law_204 : decode cL_law 204 = .ok (.aload_n 0, 1) := by decide +kernel
theorem dL_law_205 : decode cL_law 205 = .ok (.iload_n 3, 1) := by decide +kernel
theorem dL_law_206 : decode cL_law 206 = .ok (.iconst 3, 1) := by decide +kernel
theorem dL_law_207 : decode cL_law 207 = .ok (.iadd, 1) := by decide +kernel
theorem dL_law_208 : decode cL_law 208 = .ok (.iaload, 1) := by decide +kernel
theorem dL_law_209 : decode cL_law 209 = .ok (.invokevirtual 18, 3) := by decide +kernel
theorem dL_law_212 : decode cL_law 212 = .ok (.aload_n 2, 1) := by decide +kernel
theorem dL_law_213 : decode cL_law 213 = .ok (.aload_n 0, 1) := by decide +kernel
theorem dL_law_214 : decode cL_law 214 = .ok (.iload_n 3, 1) := by decide +kernel
theorem dL_law_215 : decode cL_law 215 = .ok (.iconst 1, 1) := by decide +kernel
theorem dL_law_216 : decode cL_law 216 = .ok (.iadd, 1) := by decide +kernel
theorem dL_law_217 : decode cL_law 217 = .ok (.iaload, 1) := by decide +kernel
theorem dL_law_218 : decode cL_law 218 = .ok (.aload_n 0, 1) := by decide +kernel
theorem dL_law_219 : decode cL_law 219 = .ok (.iload_n 3, 1) := by decide +kernel
theorem dL_law_220 : decode cL_law 220 = .ok (.iconst 2, 1) := by decide +kernel
theorem dL_law_221 : decode cL_law 221 = .ok (.iadd, 1) := by decide +kernel
theorem dL_law_222 : decode cL_law 222 = .ok (.iaload, 1) := by decide +kernel
theorem dL_law_223 : decode cL_law 223 = .ok (.aload_n 0, 1) := by decide +kernel
theorem dL_law_224 : decode cL_law 224 = .ok (.iload_n 3, 1) := by decide +kernel
theorem dL_law_225 : decode cL_law 225 = .ok (.iconst 3, 1) := by decide +kernel
theorem dL_law_226 : decode cL_law 226 = .ok (.iadd, 1) := by decide +kernel
theorem dL_law_227 : decode cL_law 227 = .ok (.iaload, 1) := by decide +kernel
theorem dL_law_228 : decode cL_law 228 = .ok (.invokevirtual 22, 3) := by decide +kernel
theorem dL_law_231 : decode cL_law 231 = .ok (.if_icmp .eq 1070, 3) := by decide +kernel
theorem dL_law_234 : decode cL_law 234 = .ok (.iconst 0, 1) := by decide +kernel
theorem dL_law_235 : decode cL_law 235 = .ok (.ireturn, 1) := by decide +kernel
theorem dL_law_236 : decode cL_law 236 = .ok (.aload_n 1, 1) := by decide +kernel
theorem dL_law_237 : decode cL_law 237 = .ok (.aload_n 0, 1) := by decide +kernel
theorem dL_law_238 : decode cL_law 238 = .ok (.iload_n 3, 1) := by decide +kernel
theorem dL_law_239 : decode cL_law 239 = .ok (.iconst 1, 1) := by decide +kernel
theorem dL_law_240 : decode cL_law 240 = .ok (.iadd, 1) := by decide +kernel
theorem dL_law_241 : decode cL_law 241 = .ok (.iaload, 1) := by decide +kernel
theorem dL_law_242 : decode cL_law 242 = .ok (.aload_n 0, 1) := by decide +kernel
theorem dL_law_243 : decode cL_law 243 = .ok (.iload_n 3, 1) := by decide +kernel
theorem dL_law_244 : decode cL_law 244 = .ok (.iconst 2, 1) := by decide +kernel
theorem dL_law_245 : decode cL_law 245 = .ok (.iadd, 1) := by decide +kernel
theorem dL_law_246 : decode cL_law 246 = .ok (.iaload, 1) := by decide +kernel
theorem dL_law_247 : decode cL_law 247 = .ok (.aload_n 0, 1) := by decide +kernel
theorem dL_law_248 : decode cL_law 248 = .ok (.iload_n 3, 1) := by decide +kernel
theorem dL_law_249 : decode cL_law 249 = .ok (.iconst 3, 1) := by decide +kernel
theorem dL_law_250 : decode cL_law 250 = .ok (.iadd, 1) := by decide +kernel
theorem dL_law_251 : decode cL_law 251 = .ok (.iaload, 1) := by decide +kernel
theorem dL_law_252 : decode cL_law 252 = .ok (.aload_n 0, 1) := by decide +kernel
theorem dL_law_253 : decode cL_law 253 = .ok (.iload_n 3, 1) := by decide +kernel
theorem dL_law_254 : decode cL_law 254 = .ok (.iconst 4, 1) := by decide +kernel
theorem dL_law_255 : decode cL_law 255 = .ok (.iadd, 1) := by decide +kernel
theorem dL_law_256 : decode cL_law 256 = .ok (.iaload, 1) := by decide +kernel
theorem dL_law_257 : decode cL_law 257 = .ok (.aload_n 0, 1) := by decide +kernel
theorem dL_law_258 : decode cL_law 258 = .ok (.iload_n 3, 1) := by decide +kernel
theorem dL_law_259 : decode cL_law 259 = .ok (.iconst 5, 1) := by decide +kernel
theorem dL_law_260 : decode cL_law 260 = .ok (.iadd, 1) := by decide +kernel
theorem dL_law_261 : decode cL_law 261 = .ok (.iaload, 1) := by decide +kernel
theorem dL_law_262 : decode cL_law 262 = .ok (.invokevirtual 23, 3) := by decide +kernel
theorem dL_law_265 : decode cL_law 265 = .ok (.aload_n 2, 1) := by decide +kernel
theorem dL_law_266 : decode cL_law 266 = .ok (.aload_n 0, 1) := by decide +kernel
theorem dL_law_267 : decode cL_law 267 = .ok (.iload_n 3, 1) := by decide +kernel
theorem dL_law_268 : decode cL_law 268 = .ok (.iconst 1, 1) := by decide +kernel
theorem dL_law_269 : decode cL_law 269 = .ok (.iadd, 1) := by decide +kernel
theorem dL_law_270 : decode cL_law 270 = .ok (.iaload, 1) := by decide +kernel
theorem dL_law_271 : decode cL_law 271 = .ok (.aload_n 0, 1) := by decide +kernel
theorem dL_law_272 : decode cL_law 272 = .ok (.iload_n 3, 1) := by decide +kernel
theorem dL_law_273 : decode cL_law 273 = .ok (.iconst 2, 1) := by decide +kernel
theorem dL_law_274 : decode cL_law 274 = .ok (.iadd, 1) := by decide +kernel
theorem dL_law_275 : decode cL_law 275 = .ok (.iaload, 1) := by decide +kernel
theorem dL_law_276 : decode cL_law 276 = .ok (.aload_n 0, 1) := by decide +kernel
theorem dL_law_277 : decode cL_law 277 = .ok (.iload_n 3, 1) := by decide +kernel
theorem dL_law_278 : decode cL_law 278 = .ok (.iconst 3, 1) := by decide +kernel
theorem dL_law_279 : decode cL_law 279 = .ok (.iadd, 1) := by decide +kernel
theorem dL_law_280 : decode cL_law 280 = .ok (.iaload, 1) := by decide +kernel
theorem dL_law_281 : decode cL_law 281 = .ok (.aload_n 0, 1) := by decide +kernel
theorem dL_law_282 : decode cL_law 282 = .ok (.iload_n 3, 1) := by decide +kernel
theorem dL_law_283 : decode cL_law 283 = .ok (.iconst 4, 1) := by decide +kernel
theorem dL_law_284 : decode cL_law 284 = .ok (.iadd, 1) := by decide +kernel
theorem dL_law_285 : decode cL_law 285 = .ok (.iaload, 1) := by decide +kernel
theorem dL_law_286 : decode cL_law 286 = .ok (.aload_n 0, 1) := by decide +kernel
theorem dL_law_287 : decode cL_law 287 = .ok (.iload_n 3, 1) := by decide +kernel
theorem dL_law_288 : decode cL_law 288 = .ok (.iconst 5, 1) := by decide +kernel
theorem dL_law_289 : decode cL_law 289 = .ok (.iadd, 1) := by decide +kernel
theorem dL_law_290 : decode cL_law 290 = .ok (.iaload, 1) := by decide +kernel
theorem dL_law_291 : decode cL_law 291 = .ok (.invokevirtual 27, 3) := by decide +kernel
theorem dL_law_294 : decode cL_law 294 = .ok (.if_icmp .eq 1007, 3) := by decide +kernel
theorem dL_law_297 : decode cL_law 297 = .ok (.iconst 0, 1) := by decide +kernel
theorem dL_law_298 : decode cL_law 298 = .ok (.ireturn, 1) := by decide +kernel
theorem dL_law_299 : decode cL_law 299 = .ok (.aload_n 1, 1) := by decide +kernel
theorem dL_law_300 : decode cL_law 300 = .ok (.aload_n 0, 1) := by decide +kernel
theorem dL_law_301 : decode cL_law 301 = .ok (.iload_n 3, 1) := by decide +kernel
theorem dL_law_302 : decode cL_law 302 = .ok (.iconst 1, 1) := by decide +kernel
theorem dL_law_303 : decode cL_law 303 = .ok (.iadd, 1) := by decide +kernel
theorem dL_law_304 : decode cL_law 304 = .ok (.iaload, 1) := by decide +kernel
theorem dL_law_305 : decode cL_law 305 = .ok (.aload_n 0, 1) := by decide +kernel
theorem dL_law_306 : decode cL_law 306 = .ok (.iload_n 3, 1) := by decide +kernel
theorem dL_law_307 : decode cL_law 307 = .ok (.iconst 2, 1) := by decide +kernel
theorem dL_law_308 : decode cL_law 308 = .ok (.iadd, 1) := by decide +kernel
theorem dL_law_309 : decode cL_law 309 = .ok (.iaload, 1) := by decide +kernel
theorem dL_law_310 : decode cL_law 310 = .ok (.aload_n 0, 1) := by decide +kernel
theorem dL_law_311 : decode cL_law 311 = .ok (.iload_n 3, 1) := by decide +kernel
theorem dL_law_312 : decode cL_law 312 = .ok (.iconst 3, 1) := by decide +kernel
theorem dL_law_313 : decode cL_law 313 = .ok (.iadd, 1) := by decide +kernel
theorem dL_law_314 : decode cL_law 314 = .ok (.iaload, 1) := by decide +kernel
theorem dL_law_315 : decode cL_law 315 = .ok (.aload_n 0, 1) := by decide +kernel
theorem dL_law_316 : decode cL_law 316 = .ok (.iload_n 3, 1) := by decide +kernel
theorem dL_law_317 : decode cL_law 317 = .ok (.iconst 4, 1) := by decide +kernel
theorem dL_law_318 : decode cL_law 318 = .ok (.iadd, 1) := by decide +kernel
theorem dL_law_319 : decode cL_law 319 = .ok (.iaload, 1) := by decide +kernel
theorem dL_law_320 : decode cL_law 320 = .ok (.aload_n 0, 1) := by decide +kernel
theorem dL_law_321 : decode cL_law 321 = .ok (.iload_n 3, 1) := by decide +kernel
theorem dL_law_322 : decode cL_law 322 = .ok (.iconst 5, 1) := by decide +kernel
theorem dL_law_323 : decode cL_law 323 = .ok (.iadd, 1) := by decide +kernel
theorem dL_law_324 : decode cL_law 324 = .ok (.iaload, 1) := by decide +kernel
theorem dL_law_325 : decode cL_law 325 = .ok (.aload_n 0, 1) := by decide +kernel
theorem dL_law_326 : decode cL_law 326 = .ok (.iload_n 3, 1) := by decide +kernel
theorem dL_law_327 : decode cL_law 327 = .ok (.bipush 6, 2) := by decide +kernel
theorem dL_law_329 : decode cL_law 329 = .ok (.iadd, 1) := by decide +kernel
theorem dL_law_330 : decode cL_law 330 = .ok (.iaload, 1) := by decide +kernel
theorem dL_law_331 : decode cL_law 331 = .ok (.aload_n 0, 1) := by decide +kernel
theorem dL_law_332 : decode cL_law 332 = .ok (.iload_n 3, 1) := by decide +kernel
theorem dL_law_333 : decode cL_law 333 = .ok (.bipush 7, 2) := by decide +kernel
theorem dL_law_335 : decode cL_law 335 = .ok (.iadd, 1) := by decide +kernel
theorem dL_law_336 : decode cL_law 336 = .ok (.iaload, 1) := by decide +kernel
theorem dL_law_337 : decode cL_law 337 = .ok (.aload_n 0, 1) := by decide +kernel
theorem dL_law_338 : decode cL_law 338 = .ok (.iload_n 3, 1) := by decide +kernel
theorem dL_law_339 : decode cL_law 339 = .ok (.bipush 8, 2) := by decide +kernel
theorem dL_law_341 : decode cL_law 341 = .ok (.iadd, 1) := by decide +kernel
theorem dL_law_342 : decode cL_law 342 = .ok (.iaload, 1) := by decide +kernel
theorem dL_law_343 : decode cL_law 343 = .ok (.invokevirtual 28, 3) := by decide +kernel
theorem dL_law_346 : decode cL_law 346 = .ok (.aload_n 2, 1) := by decide +kernel
theorem dL_law_347 : decode cL_law 347 = .ok (.aload_n 0, 1) := by decide +kernel
theorem dL_law_348 : decode cL_law 348 = .ok (.iload_n 3, 1) := by decide +kernel
theorem dL_law_349 : decode cL_law 349 = .ok (.iconst 1, 1) := by decide +kernel
theorem dL_law_350 : decode cL_law 350 = .ok (.iadd, 1) := by decide +kernel
theorem dL_law_351 : decode cL_law 351 = .ok (.iaload, 1) := by decide +kernel
theorem dL_law_352 : decode cL_law 352 = .ok (.aload_n 0, 1) := by decide +kernel
theorem dL_law_353 : decode cL_law 353 = .ok (.iload_n 3, 1) := by decide +kernel
theorem dL_law_354 : decode cL_law 354 = .ok (.iconst 2, 1) := by decide +kernel
theorem dL_law_355 : decode cL_law 355 = .ok (.iadd, 1) := by decide +kernel
theorem dL_law_356 : decode cL_law 356 = .ok (.iaload, 1) := by decide +kernel
theorem dL_law_357 : decode cL_law 357 = .ok (.aload_n 0, 1) := by decide +kernel
theorem dL_law_358 : decode cL_law 358 = .ok (.iload_n 3, 1) := by decide +kernel
theorem dL_law_359 : decode cL_law 359 = .ok (.iconst 3, 1) := by decide +kernel
theorem dL_law_360 : decode cL_law 360 = .ok (.iadd, 1) := by decide +kernel
theorem dL_law_361 : decode cL_law 361 = .ok (.iaload, 1) := by decide +kernel
theorem dL_law_362 : decode cL_law 362 = .ok (.aload_n 0, 1) := by decide +kernel
theorem dL_law_363 : decode cL_law 363 = .ok (.iload_n 3, 1) := by decide +kernel
theorem dL_law_364 : decode cL_law 364 = .ok (.iconst 4, 1) := by decide +kernel
theorem dL_law_365 : decode cL_law 365 = .ok (.iadd, 1) := by decide +kernel
theorem dL_law_366 : decode cL_law 366 = .ok (.iaload, 1) := by decide +kernel
theorem dL_law_367 : decode cL_law 367 = .ok (.aload_n 0, 1) := by decide +kernel
theorem dL_law_368 : decode cL_law 368 = .ok (.iload_n 3, 1) := by decide +kernel
theorem dL_law_369 : decode cL_law 369 = .ok (.iconst 5, 1) := by decide +kernel
theorem dL_law_370 : decode cL_law 370 = .ok (.iadd, 1) := by decide +kernel
theorem dL_law_371 : decode cL_law 371 = .ok (.iaload, 1) := by decide +kernel
theorem dL_law_372 : decode cL_law 372 = .ok (.aload_n 0, 1) := by decide +kernel
theorem dL_law_373 : decode cL_law 373 = .ok (.iload_n 3, 1) := by decide +kernel
theorem dL_law_374 : decode cL_law 374 = .ok (.bipush 6, 2) := by decide +kernel
theorem dL_law_376 : decode cL_law 376 = .ok (.iadd, 1) := by decide +kernel
theorem dL_law_377 : decode cL_law 377 = .ok (.iaload, 1) := by decide +kernel
theorem dL_law_378 : decode cL_law 378 = .ok (.aload_n 0, 1) := by decide +kernel
theorem dL_law_379 : decode cL_law 379 = .ok (.iload_n 3, 1) := by decide +kernel
theorem dL_law_380 : decode cL_law 380 = .ok (.bipush 7, 2) := by decide +kernel
theorem dL_law_382 : decode cL_law 382 = .ok (.iadd, 1) := by decide +kernel
theorem dL_law_383 : decode cL_law 383 = .ok (.iaload, 1) := by decide +kernel
theorem dL_law_384 : decode cL_law 384 = .ok (.aload_n 0, 1) := by decide +kernel
theorem dL_law_385 : decode cL_law 385 = .ok (.iload_n 3, 1) := by decide +kernel
theorem dL_law_386 : decode cL_law 386 = .ok (.bipush 8, 2) := by decide +kernel
theorem dL_law_388 : decode cL_law 388 = .ok (.iadd, 1) := by decide +kernel
theorem dL_law_389 : decode cL_law 389 = .ok (.iaload, 1) := by decide +kernel
theorem dL_law_390 : decode cL_law 390 = .ok (.invokevirtual 32, 3) := by decide +kernel
theorem dL_law_393 : decode cL_law 393 = .ok (.if_icmp .eq 908, 3) := by decide +kernel
theorem dL_law_396 : decode cL_law 396 = .ok (.iconst 0, 1) := by decide +kernel
theorem dL_law_397 : decode cL_law 397 = .ok (.ireturn, 1) := by decide +kernel
theorem dL_law_398 : decode cL_law 398 = .ok (.aload_n 1, 1) := by decide +kernel
theorem dL_law_399 : decode cL_law 399 = .ok (.aload_n 0, 1) := by decide +kernel
theorem dL_law_400 : decode cL_law 400 = .ok (.iload_n 3, 1) := by decide +kernel
theorem dL_law_401 : decode cL_law 401 = .ok (.iconst 1, 1) := by decide +kernel
theorem dL_law_402 : decode cL_law 402 = .ok (.iadd, 1) := by decide +kernel
theorem dL_law_403 : decode cL_law 403 = .ok (.iaload, 1) := by decide +kernel
theorem dL_law_404 : decode cL_law 404 = .ok (.aload_n 0, 1) := by decide +kernel
theorem dL_law_405 : decode cL_law 405 = .ok (.iload_n 3, 1) := by decide +kernel
theorem dL_law_406 : decode cL_law 406 = .ok (.iconst 2, 1) := by decide +kernel
theorem dL_law_407 : decode cL_law 407 = .ok (.iadd, 1) := by decide +kernel
theorem dL_law_408 : decode cL_law 408 = .ok (.iaload, 1) := by decide +kernel
theorem dL_law_409 : decode cL_law 409 = .ok (.invokevirtual 33, 3) := by decide +kernel
theorem dL_law_412 : decode cL_law 412 = .ok (.aload_n 2, 1) := by decide +kernel
theorem dL_law_413 : decode cL_law 413 = .ok (.aload_n 0, 1) := by decide +kernel
theorem dL_law_414 : decode cL_law 414 = .ok (.iload_n 3, 1) := by decide +kernel
theorem dL_law_415 : decode cL_law 415 = .ok (.iconst 1, 1) := by decide +kernel
theorem dL_law_416 : decode cL_law 416 = .ok (.iadd, 1) := by decide +kernel
theorem dL_law_417 : decode cL_law 417 = .ok (.iaload, 1) := by decide +kernel
theorem dL_law_418 : decode cL_law 418 = .ok (.aload_n 0, 1) := by decide +kernel
theorem dL_law_419 : decode cL_law 419 = .ok (.iload_n 3, 1) := by decide +kernel
theorem dL_law_420 : decode cL_law 420 = .ok (.iconst 2, 1) := by decide +kernel
theorem dL_law_421 : decode cL_law 421 = .ok (.iadd, 1) := by decide +kernel
theorem dL_law_422 : decode cL_law 422 = .ok (.iaload, 1) := by decide +kernel
theorem dL_law_423 : decode cL_law 423 = .ok (.invokevirtual 36, 3) := by decide +kernel
theorem dL_law_426 : decode cL_law 426 = .ok (.if_icmp .eq 875, 3) := by decide +kernel
theorem dL_law_429 : decode cL_law 429 = .ok (.iconst 0, 1) := by decide +kernel
theorem dL_law_430 : decode cL_law 430 = .ok (.ireturn, 1) := by decide +kernel
theorem dL_law_431 : decode cL_law 431 = .ok (.aload_n 1, 1) := by decide +kernel
theorem dL_law_432 : decode cL_law 432 = .ok (.aload_n 0, 1) := by decide +kernel
theorem dL_law_433 : decode cL_law 433 = .ok (.iload_n 3, 1) := by decide +kernel
theorem dL_law_434 : decode cL_law 434 = .ok (.iconst 1, 1) := by decide +kernel
theorem dL_law_435 : decode cL_law 435 = .ok (.iadd, 1) := by decide +kernel
theorem dL_law_436 : decode cL_law 436 = .ok (.iaload, 1) := by decide +kernel
theorem dL_law_437 : decode cL_law 437 = .ok (.aload_n 0, 1) := by decide +kernel
theorem dL_law_438 : decode cL_law 438 = .ok (.iload_n 3, 1) := by decide +kernel
theorem dL_law_439 : decode cL_law 439 = .ok (.iconst 2, 1) := by decide +kernel
theorem dL_law_440 : decode cL_law 440 = .ok (.iadd, 1) := by decide +kernel
theorem dL_law_441 : decode cL_law 441 = .ok (.iaload, 1) := by decide +kernel
theorem dL_law_442 : decode cL_law 442 = .ok (.invokevirtual 37, 3) := by decide +kernel
theorem dL_law_445 : decode cL_law 445 = .ok (.aload_n 2, 1) := by decide +kernel
theorem dL_law_446 : decode cL_law 446 = .ok (.aload_n 0, 1) := by decide +kernel
theorem dL_law_447 : decode cL_law 447 = .ok (.iload_n 3, 1) := by decide +kernel
theorem dL_law_448 : decode cL_law 448 = .ok (.iconst 1, 1) := by decide +kernel
theorem dL_law_449 : decode cL_law 449 = .ok (.iadd, 1) := by decide +kernel
theorem dL_law_450 : decode cL_law 450 = .ok (.iaload, 1) := by decide +kernel
theorem dL_law_451 : decode cL_law 451 = .ok (.aload_n 0, 1) := by decide +kernel
theorem dL_law_452 : decode cL_law 452 = .ok (.iload_n 3, 1) := by decide +kernel
theorem dL_law_453 : decode cL_law 453 = .ok (.iconst 2, 1) := by decide +kernel
theorem dL_law_454 : decode cL_law 454 = .ok (.iadd, 1) := by decide +kernel
theorem dL_law_455 : decode cL_law 455 = .ok (.iaload, 1) := by decide +kernel
theorem dL_law_456 : decode cL_law 456 = .ok (.invokevirtual 40, 3) := by decide +kernel
theorem dL_law_459 : decode cL_law 459 = .ok (.if_icmp .eq 842, 3) := by decide +kernel
theorem dL_law_462 : decode cL_law 462 = .ok (.iconst 0, 1) := by decide +kernel
theorem dL_law_463 : decode cL_law 463 = .ok (.ireturn, 1) := by decide +kernel
theorem dL_law_464 : decode cL_law 464 = .ok (.aload_n 1, 1) := by decide +kernel
theorem dL_law_465 : decode cL_law 465 = .ok (.aload_n 0, 1) := by decide +kernel
theorem dL_law_466 : decode cL_law 466 = .ok (.iload_n 3, 1) := by decide +kernel
theorem dL_law_467 : decode cL_law 467 = .ok (.iconst 1, 1) := by decide +kernel
theorem dL_law_468 : decode cL_law 468 = .ok (.iadd, 1) := by decide +kernel
theorem dL_law_469 : decode cL_law 469 = .ok (.iaload, 1) := by decide +kernel
theorem dL_law_470 : decode cL_law 470 = .ok (.aload_n 0, 1) := by decide +kernel
theorem dL_law_471 : decode cL_law 471 = .ok (.iload_n 3, 1) := by decide +kernel
theorem dL_law_472 : decode cL_law 472 = .ok (.iconst 2, 1) := by decide +kernel
theorem dL_law_473 : decode cL_law 473 = .ok (.iadd, 1) := by decide +kernel
theorem dL_law_474 : decode cL_law 474 = .ok (.iaload, 1) := by decide +kernel
theorem dL_law_475 : decode cL_law 475 = .ok (.invokevirtual 41, 3) := by decide +kernel
theorem dL_law_478 : decode cL_law 478 = .ok (.aload_n 2, 1) := by decide +kernel
theorem dL_law_479 : decode cL_law 479 = .ok (.aload_n 0, 1) := by decide +kernel
theorem dL_law_480 : decode cL_law 480 = .ok (.iload_n 3, 1) := by decide +kernel
theorem dL_law_481 : decode cL_law 481 = .ok (.iconst 1, 1) := by decide +kernel
theorem dL_law_482 : decode cL_law 482 = .ok (.iadd, 1) := by decide +kernel
theorem dL_law_483 : decode cL_law 483 = .ok (.iaload, 1) := by decide +kernel
theorem dL_law_484 : decode cL_law 484 = .ok (.aload_n 0, 1) := by decide +kernel
theorem dL_law_485 : decode cL_law 485 = .ok (.iload_n 3, 1) := by decide +kernel
theorem dL_law_486 : decode cL_law 486 = .ok (.iconst 2, 1) := by decide +kernel
theorem dL_law_487 : decode cL_law 487 = .ok (.iadd, 1) := by decide +kernel
theorem dL_law_488 : decode cL_law 488 = .ok (.iaload, 1) := by decide +kernel
theorem dL_law_489 : decode cL_law 489 = .ok (.invokevirtual 44, 3) := by decide +kernel
theorem dL_law_492 : decode cL_law 492 = .ok (.if_icmp .eq 809, 3) := by decide +kernel
theorem dL_law_495 : decode cL_law 495 = .ok (.iconst 0, 1) := by decide +kernel
theorem dL_law_496 : decode cL_law 496 = .ok (.ireturn, 1) := by decide +kernel
theorem dL_law_497 : decode cL_law 497 = .ok (.aload_n 1, 1) := by decide +kernel
theorem dL_law_498 : decode cL_law 498 = .ok (.aload_n 0, 1) := by decide +kernel
theorem dL_law_499 : decode cL_law 499 = .ok (.iload_n 3, 1) := by decide +kernel
theorem dL_law_500 : decode cL_law 500 = .ok (.iconst 1, 1) := by decide +kernel
theorem dL_law_501 : decode cL_law 501 = .ok (.iadd, 1) := by decide +kernel
theorem dL_law_502 : decode cL_law 502 = .ok (.iaload, 1) := by decide +kernel
theorem dL_law_503 : decode cL_law 503 = .ok (.aload_n 0, 1) := by decide +kernel
theorem dL_law_504 : decode cL_law 504 = .ok (.iload_n 3, 1) := by decide +kernel
theorem dL_law_505 : decode cL_law 505 = .ok (.iconst 2, 1) := by decide +kernel
theorem dL_law_506 : decode cL_law 506 = .ok (.iadd, 1) := by decide +kernel
theorem dL_law_507 : decode cL_law 507 = .ok (.iaload, 1) := by decide +kernel
theorem dL_law_508 : decode cL_law 508 = .ok (.invokevirtual 45, 3) := by decide +kernel
theorem dL_law_511 : decode cL_law 511 = .ok (.aload_n 2, 1) := by decide +kernel
theorem dL_law_512 : decode cL_law 512 = .ok (.aload_n 0, 1) := by decide +kernel
theorem dL_law_513 : decode cL_law 513 = .ok (.iload_n 3, 1) := by decide +kernel
theorem dL_law_514 : decode cL_law 514 = .ok (.iconst 1, 1) := by decide +kernel
theorem dL_law_515 : decode cL_law 515 = .ok (.iadd, 1) := by decide +kernel
theorem dL_law_516 : decode cL_law 516 = .ok (.iaload, 1) := by decide +kernel
theorem dL_law_517 : decode cL_law 517 = .ok (.aload_n 0, 1) := by decide +kernel
theorem dL_law_518 : decode cL_law 518 = .ok (.iload_n 3, 1) := by decide +kernel
theorem dL_law_519 : decode cL_law 519 = .ok (.iconst 2, 1) := by decide +kernel
theorem dL_law_520 : decode cL_law 520 = .ok (.iadd, 1) := by decide +kernel
theorem dL_law_521 : decode cL_law 521 = .ok (.iaload, 1) := by decide +kernel
theorem dL_law_522 : decode cL_law 522 = .ok (.invokevirtual 48, 3) := by decide +kernel
theorem dL_law_525 : decode cL_law 525 = .ok (.if_icmp .eq 776, 3) := by decide +kernel
theorem dL_law_528 : decode cL_law 528 = .ok (.iconst 0, 1) := by decide +kernel
theorem dL_law_529 : decode cL_law 529 = .ok (.ireturn, 1) := by decide +kernel
theorem dL_law_530 : decode cL_law 530 = .ok (.aload_n 1, 1) := by decide +kernel
theorem dL_law_531 : decode cL_law 531 = .ok (.aload_n 0, 1) := by decide +kernel
theorem dL_law_532 : decode cL_law 532 = .ok (.iload_n 3, 1) := by decide +kernel
theorem dL_law_533 : decode cL_law 533 = .ok (.iconst 1, 1) := by decide +kernel
theorem dL_law_534 : decode cL_law 534 = .ok (.iadd, 1) := by decide +kernel
theorem dL_law_535 : decode cL_law 535 = .ok (.iaload, 1) := by decide +kernel
theorem dL_law_536 : decode cL_law 536 = .ok (.aload_n 0, 1) := by decide +kernel
theorem dL_law_537 : decode cL_law 537 = .ok (.iload_n 3, 1) := by decide +kernel
theorem dL_law_538 : decode cL_law 538 = .ok (.iconst 2, 1) := by decide +kernel
theorem dL_law_539 : decode cL_law 539 = .ok (.iadd, 1) := by decide +kernel
theorem dL_law_540 : decode cL_law 540 = .ok (.iaload, 1) := by decide +kernel
theorem dL_law_541 : decode cL_law 541 = .ok (.invokevirtual 49, 3) := by decide +kernel
theorem dL_law_544 : decode cL_law 544 = .ok (.aload_n 2, 1) := by decide +kernel
theorem dL_law_545 : decode cL_law 545 = .ok (.aload_n 0, 1) := by decide +kernel
theorem dL_law_546 : decode cL_law 546 = .ok (.iload_n 3, 1) := by decide +kernel
theorem dL_law_547 : decode cL_law 547 = .ok (.iconst 1, 1) := by decide +kernel
theorem dL_law_548 : decode cL_law 548 = .ok (.iadd, 1) := by decide +kernel
theorem dL_law_549 : decode cL_law 549 = .ok (.iaload, 1) := by decide +kernel
theorem dL_law_550 : decode cL_law 550 = .ok (.aload_n 0, 1) := by decide +kernel
theorem dL_law_551 : decode cL_law 551 = .ok (.iload_n 3, 1) := by decide +kernel
theorem dL_law_552 : decode cL_law 552 = .ok (.iconst 2, 1) := by decide +kernel
theorem dL_law_553 : decode cL_law 553 = .ok (.iadd, 1) := by decide +kernel
theorem dL_law_554 : decode cL_law 554 = .ok (.iaload, 1) := by decide +kernel
theorem dL_law_555 : decode cL_law 555 = .ok (.invokevirtual 52, 3) := by decide +kernel
theorem dL_law_558 : decode cL_law 558 = .ok (.if_icmp .eq 743, 3) := by decide +kernel
theorem dL_law_561 : decode cL_law 561 = .ok (.iconst 0, 1) := by decide +kernel
theorem dL_law_562 : decode cL_law 562 = .ok (.ireturn, 1) := by decide +kernel
theorem dL_law_563 : decode cL_law 563 = .ok (.aload_n 1, 1) := by decide +kernel
theorem dL_law_564 : decode cL_law 564 = .ok (.aload_n 0, 1) := by decide +kernel
theorem dL_law_565 : decode cL_law 565 = .ok (.iload_n 3, 1) := by decide +kernel
theorem dL_law_566 : decode cL_law 566 = .ok (.iconst 1, 1) := by decide +kernel
theorem dL_law_567 : decode cL_law 567 = .ok (.iadd, 1) := by decide +kernel
theorem dL_law_568 : decode cL_law 568 = .ok (.iaload, 1) := by decide +kernel
theorem dL_law_569 : decode cL_law 569 = .ok (.aload_n 0, 1) := by decide +kernel
theorem dL_law_570 : decode cL_law 570 = .ok (.iload_n 3, 1) := by decide +kernel
theorem dL_law_571 : decode cL_law 571 = .ok (.iconst 2, 1) := by decide +kernel
theorem dL_law_572 : decode cL_law 572 = .ok (.iadd, 1) := by decide +kernel
theorem dL_law_573 : decode cL_law 573 = .ok (.iaload, 1) := by decide +kernel
theorem dL_law_574 : decode cL_law 574 = .ok (.aload_n 0, 1) := by decide +kernel
theorem dL_law_575 : decode cL_law 575 = .ok (.iload_n 3, 1) := by decide +kernel
theorem dL_law_576 : decode cL_law 576 = .ok (.iconst 3, 1) := by decide +kernel
theorem dL_law_577 : decode cL_law 577 = .ok (.iadd, 1) := by decide +kernel
theorem dL_law_578 : decode cL_law 578 = .ok (.iaload, 1) := by decide +kernel
theorem dL_law_579 : decode cL_law 579 = .ok (.aload_n 0, 1) := by decide +kernel
theorem dL_law_580 : decode cL_law 580 = .ok (.iload_n 3, 1) := by decide +kernel
theorem dL_law_581 : decode cL_law 581 = .ok (.iconst 4, 1) := by decide +kernel
theorem dL_law_582 : decode cL_law 582 = .ok (.iadd, 1) := by decide +kernel
theorem dL_law_583 : decode cL_law 583 = .ok (.iaload, 1) := by decide +kernel
theorem dL_law_584 : decode cL_law 584 = .ok (.invokevirtual 53, 3) := by decide +kernel
theorem dL_law_587 : decode cL_law 587 = .ok (.aload_n 2, 1) := by decide +kernel
theorem dL_law_588 : decode cL_law 588 = .ok (.aload_n 0, 1) := by decide +kernel
theorem dL_law_589 : decode cL_law 589 = .ok (.iload_n 3, 1) := by decide +kernel
theorem dL_law_590 : decode cL_law 590 = .ok (.iconst 1, 1) := by decide +kernel
theorem dL_law_591 : decode cL_law 591 = .ok (.iadd, 1) := by decide +kernel
theorem dL_law_592 : decode cL_law 592 = .ok (.iaload, 1) := by decide +kernel
theorem dL_law_593 : decode cL_law 593 = .ok (.aload_n 0, 1) := by decide +kernel
theorem dL_law_594 : decode cL_law 594 = .ok (.iload_n 3, 1) := by decide +kernel
theorem dL_law_595 : decode cL_law 595 = .ok (.iconst 2, 1) := by decide +kernel
theorem dL_law_596 : decode cL_law 596 = .ok (.iadd, 1) := by decide +kernel
theorem dL_law_597 : decode cL_law 597 = .ok (.iaload, 1) := by decide +kernel
theorem dL_law_598 : decode cL_law 598 = .ok (.aload_n 0, 1) := by decide +kernel
theorem dL_law_599 : decode cL_law 599 = .ok (.iload_n 3, 1) := by decide +kernel
theorem dL_law_600 : decode cL_law 600 = .ok (.iconst 3, 1) := by decide +kernel
theorem dL_law_601 : decode cL_law 601 = .ok (.iadd, 1) := by decide +kernel
theorem dL_law_602 : decode cL_law 602 = .ok (.iaload, 1) := by decide +kernel
theorem dL_law_603 : decode cL_law 603 = .ok (.aload_n 0, 1) := by decide +kernel
theorem dL_law_604 : decode cL_law 604 = .ok (.iload_n 3, 1) := by decide +kernel
theorem dL_law_605 : decode cL_law 605 = .ok (.iconst 4, 1) := by decide +kernel
theorem dL_law_606 : decode cL_law 606 = .ok (.iadd, 1) := by decide +kernel
theorem dL_law_607 : decode cL_law 607 = .ok (.iaload, 1) := by decide +kernel
theorem dL_law_608 : decode cL_law 608 = .ok (.invokevirtual 57, 3) := by decide +kernel
theorem dL_law_611 : decode cL_law 611 = .ok (.if_icmp .eq 690, 3) := by decide +kernel
theorem dL_law_614 : decode cL_law 614 = .ok (.iconst 0, 1) := by decide +kernel
theorem dL_law_615 : decode cL_law 615 = .ok (.ireturn, 1) := by decide +kernel
theorem dL_law_616 : decode cL_law 616 = .ok (.aload_n 1, 1) := by decide +kernel
theorem dL_law_617 : decode cL_law 617 = .ok (.aload_n 0, 1) := by decide +kernel
theorem dL_law_618 : decode cL_law 618 = .ok (.iload_n 3, 1) := by decide +kernel
theorem dL_law_619 : decode cL_law 619 = .ok (.iconst 1, 1) := by decide +kernel
theorem dL_law_620 : decode cL_law 620 = .ok (.iadd, 1) := by decide +kernel
theorem dL_law_621 : decode cL_law 621 = .ok (.iaload, 1) := by decide +kernel
theorem dL_law_622 : decode cL_law 622 = .ok (.aload_n 0, 1) := by decide +kernel
theorem dL_law_623 : decode cL_law 623 = .ok (.iload_n 3, 1) := by decide +kernel
theorem dL_law_624 : decode cL_law 624 = .ok (.iconst 2, 1) := by decide +kernel
theorem dL_law_625 : decode cL_law 625 = .ok (.iadd, 1) := by decide +kernel
theorem dL_law_626 : decode cL_law 626 = .ok (.iaload, 1) := by decide +kernel
theorem dL_law_627 : decode cL_law 627 = .ok (.invokevirtual 58, 3) := by decide +kernel
theorem dL_law_630 : decode cL_law 630 = .ok (.aload_n 2, 1) := by decide +kernel
theorem dL_law_631 : decode cL_law 631 = .ok (.aload_n 0, 1) := by decide +kernel
theorem dL_law_632 : decode cL_law 632 = .ok (.iload_n 3, 1) := by decide +kernel
theorem dL_law_633 : decode cL_law 633 = .ok (.iconst 1, 1) := by decide +kernel
theorem dL_law_634 : decode cL_law 634 = .ok (.iadd, 1) := by decide +kernel
theorem dL_law_635 : decode cL_law 635 = .ok (.iaload, 1) := by decide +kernel
theorem dL_law_636 : decode cL_law 636 = .ok (.aload_n 0, 1) := by decide +kernel
theorem dL_law_637 : decode cL_law 637 = .ok (.iload_n 3, 1) := by decide +kernel
theorem dL_law_638 : decode cL_law 638 = .ok (.iconst 2, 1) := by decide +kernel
theorem dL_law_639 : decode cL_law 639 = .ok (.iadd, 1) := by decide +kernel
theorem dL_law_640 : decode cL_law 640 = .ok (.iaload, 1) := by decide +kernel
theorem dL_law_641 : decode cL_law 641 = .ok (.invokevirtual 61, 3) := by decide +kernel
theorem dL_law_644 : decode cL_law 644 = .ok (.if_icmp .eq 657, 3) := by decide +kernel
theorem dL_law_647 : decode cL_law 647 = .ok (.iconst 0, 1) := by decide +kernel
theorem dL_law_648 : decode cL_law 648 = .ok (.ireturn, 1) := by decide +kernel
theorem dL_law_649 : decode cL_law 649 = .ok (.aload_n 1, 1) := by decide +kernel
theorem dL_law_650 : decode cL_law 650 = .ok (.aload_n 0, 1) := by decide +kernel
theorem dL_law_651 : decode cL_law 651 = .ok (.iload_n 3, 1) := by decide +kernel
theorem dL_law_652 : decode cL_law 652 = .ok (.iconst 1, 1) := by decide +kernel
theorem dL_law_653 : decode cL_law 653 = .ok (.iadd, 1) := by decide +kernel
theorem dL_law_654 : decode cL_law 654 = .ok (.iaload, 1) := by decide +kernel
theorem dL_law_655 : decode cL_law 655 = .ok (.aload_n 0, 1) := by decide +kernel
theorem dL_law_656 : decode cL_law 656 = .ok (.iload_n 3, 1) := by decide +kernel
theorem dL_law_657 : decode cL_law 657 = .ok (.iconst 2, 1) := by decide +kernel
theorem dL_law_658 : decode cL_law 658 = .ok (.iadd, 1) := by decide +kernel
theorem dL_law_659 : decode cL_law 659 = .ok (.iaload, 1) := by decide +kernel
theorem dL_law_660 : decode cL_law 660 = .ok (.aload_n 0, 1) := by decide +kernel
theorem dL_law_661 : decode cL_law 661 = .ok (.iload_n 3, 1) := by decide +kernel
theorem dL_law_662 : decode cL_law 662 = .ok (.iconst 3, 1) := by decide +kernel
theorem dL_law_663 : decode cL_law 663 = .ok (.iadd, 1) := by decide +kernel
theorem dL_law_664 : decode cL_law 664 = .ok (.iaload, 1) := by decide +kernel
theorem dL_law_665 : decode cL_law 665 = .ok (.invokevirtual 62, 3) := by decide +kernel
theorem dL_law_668 : decode cL_law 668 = .ok (.aload_n 2, 1) := by decide +kernel
theorem dL_law_669 : decode cL_law 669 = .ok (.aload_n 0, 1) := by decide +kernel
theorem dL_law_670 : decode cL_law 670 = .ok (.iload_n 3, 1) := by decide +kernel
theorem dL_law_671 : decode cL_law 671 = .ok (.iconst 1, 1) := by decide +kernel
theorem dL_law_672 : decode cL_law 672 = .ok (.iadd, 1) := by decide +kernel
theorem dL_law_673 : decode cL_law 673 = .ok (.iaload, 1) := by decide +kernel
theorem dL_law_674 : decode cL_law 674 = .ok (.aload_n 0, 1) := by decide +kernel
theorem dL_law_675 : decode cL_law 675 = .ok (.iload_n 3, 1) := by decide +kernel
theorem dL_law_676 : decode cL_law 676 = .ok (.iconst 2, 1) := by decide +kernel
theorem dL_law_677 : decode cL_law 677 = .ok (.iadd, 1) := by decide +kernel
theorem dL_law_678 : decode cL_law 678 = .ok (.iaload, 1) := by decide +kernel
theorem dL_law_679 : decode cL_law 679 = .ok (.aload_n 0, 1) := by decide +kernel
theorem dL_law_680 : decode cL_law 680 = .ok (.iload_n 3, 1) := by decide +kernel
theorem dL_law_681 : decode cL_law 681 = .ok (.iconst 3, 1) := by decide +kernel
theorem dL_law_682 : decode cL_law 682 = .ok (.iadd, 1) := by decide +kernel
theorem dL_law_683 : decode cL_law 683 = .ok (.iaload, 1) := by decide +kernel
theorem dL_law_684 : decode cL_law 684 = .ok (.invokevirtual 65, 3) := by decide +kernel
theorem dL_law_687 : decode cL_law 687 = .ok (.if_icmp .eq 614, 3) := by decide +kernel
theorem dL_law_690 : decode cL_law 690 = .ok (.iconst 0, 1) := by decide +kernel
theorem dL_law_691 : decode cL_law 691 = .ok (.ireturn, 1) := by decide +kernel
theorem dL_law_692 : decode cL_law 692 = .ok (.aload_n 1, 1) := by decide +kernel
theorem dL_law_693 : decode cL_law 693 = .ok (.aload_n 0, 1) := by decide +kernel
theorem dL_law_694 : decode cL_law 694 = .ok (.iload_n 3, 1) := by decide +kernel
theorem dL_law_695 : decode cL_law 695 = .ok (.iconst 1, 1) := by decide +kernel
theorem dL_law_696 : decode cL_law 696 = .ok (.iadd, 1) := by decide +kernel
theorem dL_law_697 : decode cL_law 697 = .ok (.iaload, 1) := by decide +kernel
theorem dL_law_698 : decode cL_law 698 = .ok (.aload_n 0, 1) := by decide +kernel
theorem dL_law_699 : decode cL_law 699 = .ok (.iload_n 3, 1) := by decide +kernel
theorem dL_law_700 : decode cL_law 700 = .ok (.iconst 2, 1) := by decide +kernel
theorem dL_law_701 : decode cL_law 701 = .ok (.iadd, 1) := by decide +kernel
theorem dL_law_702 : decode cL_law 702 = .ok (.iaload, 1) := by decide +kernel
theorem dL_law_703 : decode cL_law 703 = .ok (.aload_n 0, 1) := by decide +kernel
theorem dL_law_704 : decode cL_law 704 = .ok (.iload_n 3, 1) := by decide +kernel
theorem dL_law_705 : decode cL_law 705 = .ok (.iconst 3, 1) := by decide +kernel
theorem dL_law_706 : decode cL_law 706 = .ok (.iadd, 1) := by decide +kernel
theorem dL_law_707 : decode cL_law 707 = .ok (.iaload, 1) := by decide +kernel
theorem dL_law_708 : decode cL_law 708 = .ok (.invokevirtual 66, 3) := by decide +kernel
theorem dL_law_711 : decode cL_law 711 = .ok (.aload_n 2, 1) := by decide +kernel
theorem dL_law_712 : decode cL_law 712 = .ok (.aload_n 0, 1) := by decide +kernel
theorem dL_law_713 : decode cL_law 713 = .ok (.iload_n 3, 1) := by decide +kernel
theorem dL_law_714 : decode cL_law 714 = .ok (.iconst 1, 1) := by decide +kernel
theorem dL_law_715 : decode cL_law 715 = .ok (.iadd, 1) := by decide +kernel
theorem dL_law_716 : decode cL_law 716 = .ok (.iaload, 1) := by decide +kernel
theorem dL_law_717 : decode cL_law 717 = .ok (.aload_n 0, 1) := by decide +kernel
theorem dL_law_718 : decode cL_law 718 = .ok (.iload_n 3, 1) := by decide +kernel
theorem dL_law_719 : decode cL_law 719 = .ok (.iconst 2, 1) := by decide +kernel
theorem dL_law_720 : decode cL_law 720 = .ok (.iadd, 1) := by decide +kernel
theorem dL_law_721 : decode cL_law 721 = .ok (.iaload, 1) := by decide +kernel
theorem dL_law_722 : decode cL_law 722 = .ok (.aload_n 0, 1) := by decide +kernel
theorem dL_law_723 : decode cL_law 723 = .ok (.iload_n 3, 1) := by decide +kernel
theorem dL_law_724 : decode cL_law 724 = .ok (.iconst 3, 1) := by decide +kernel
theorem dL_law_725 : decode cL_law 725 = .ok (.iadd, 1) := by decide +kernel
theorem dL_law_726 : decode cL_law 726 = .ok (.iaload, 1) := by decide +kernel
theorem dL_law_727 : decode cL_law 727 = .ok (.invokevirtual 69, 3) := by decide +kernel
theorem dL_law_730 : decode cL_law 730 = .ok (.if_icmp .eq 571, 3) := by decide +kernel
theorem dL_law_733 : decode cL_law 733 = .ok (.iconst 0, 1) := by decide +kernel
theorem dL_law_734 : decode cL_law 734 = .ok (.ireturn, 1) := by decide +kernel
theorem dL_law_735 : decode cL_law 735 = .ok (.aload_n 1, 1) := by decide +kernel
theorem dL_law_736 : decode cL_law 736 = .ok (.aload_n 0, 1) := by decide +kernel
theorem dL_law_737 : decode cL_law 737 = .ok (.iload_n 3, 1) := by decide +kernel
theorem dL_law_738 : decode cL_law 738 = .ok (.iconst 1, 1) := by decide +kernel
theorem dL_law_739 : decode cL_law 739 = .ok (.iadd, 1) := by decide +kernel
theorem dL_law_740 : decode cL_law 740 = .ok (.iaload, 1) := by decide +kernel
theorem dL_law_741 : decode cL_law 741 = .ok (.aload_n 0, 1) := by decide +kernel
theorem dL_law_742 : decode cL_law 742 = .ok (.iload_n 3, 1) := by decide +kernel
theorem dL_law_743 : decode cL_law 743 = .ok (.iconst 2, 1) := by decide +kernel
theorem dL_law_744 : decode cL_law 744 = .ok (.iadd, 1) := by decide +kernel
theorem dL_law_745 : decode cL_law 745 = .ok (.iaload, 1) := by decide +kernel
theorem dL_law_746 : decode cL_law 746 = .ok (.aload_n 0, 1) := by decide +kernel
theorem dL_law_747 : decode cL_law 747 = .ok (.iload_n 3, 1) := by decide +kernel
theorem dL_law_748 : decode cL_law 748 = .ok (.iconst 3, 1) := by decide +kernel
theorem dL_law_749 : decode cL_law 749 = .ok (.iadd, 1) := by decide +kernel
theorem dL_law_750 : decode cL_law 750 = .ok (.iaload, 1) := by decide +kernel
theorem dL_law_751 : decode cL_law 751 = .ok (.invokevirtual 70, 3) := by decide +kernel
theorem dL_law_754 : decode cL_law 754 = .ok (.aload_n 2, 1) := by decide +kernel
theorem dL_law_755 : decode cL_law 755 = .ok (.aload_n 0, 1) := by decide +kernel
theorem dL_law_756 : decode cL_law 756 = .ok (.iload_n 3, 1) := by decide +kernel
theorem dL_law_757 : decode cL_law 757 = .ok (.iconst 1, 1) := by decide +kernel
theorem dL_law_758 : decode cL_law 758 = .ok (.iadd, 1) := by decide +kernel
theorem dL_law_759 : decode cL_law 759 = .ok (.iaload, 1) := by decide +kernel
theorem dL_law_760 : decode cL_law 760 = .ok (.aload_n 0, 1) := by decide +kernel
theorem dL_law_761 : decode cL_law 761 = .ok (.iload_n 3, 1) := by decide +kernel
theorem dL_law_762 : decode cL_law 762 = .ok (.iconst 2, 1) := by decide +kernel
theorem dL_law_763 : decode cL_law 763 = .ok (.iadd, 1) := by decide +kernel
theorem dL_law_764 : decode cL_law 764 = .ok (.iaload, 1) := by decide +kernel
theorem dL_law_765 : decode cL_law 765 = .ok (.aload_n 0, 1) := by decide +kernel
theorem dL_law_766 : decode cL_law 766 = .ok (.iload_n 3, 1) := by decide +kernel
theorem dL_law_767 : decode cL_law 767 = .ok (.iconst 3, 1) := by decide +kernel
theorem dL_law_768 : decode cL_law 768 = .ok (.iadd, 1) := by decide +kernel
theorem dL_law_769 : decode cL_law 769 = .ok (.iaload, 1) := by decide +kernel
theorem dL_law_770 : decode cL_law 770 = .ok (.invokevirtual 73, 3) := by decide +kernel
theorem dL_law_773 : decode cL_law 773 = .ok (.if_icmp .eq 528, 3) := by decide +kernel
theorem dL_law_776 : decode cL_law 776 = .ok (.iconst 0, 1) := by decide +kernel
theorem dL_law_777 : decode cL_law 777 = .ok (.ireturn, 1) := by decide +kernel
theorem dL_law_778 : decode cL_law 778 = .ok (.aload_n 1, 1) := by decide +kernel
theorem dL_law_779 : decode cL_law 779 = .ok (.aload_n 0, 1) := by decide +kernel
theorem dL_law_780 : decode cL_law 780 = .ok (.iload_n 3, 1) := by decide +kernel
theorem dL_law_781 : decode cL_law 781 = .ok (.iconst 1, 1) := by decide +kernel
theorem dL_law_782 : decode cL_law 782 = .ok (.iadd, 1) := by decide +kernel
theorem dL_law_783 : decode cL_law 783 = .ok (.iaload, 1) := by decide +kernel
theorem dL_law_784 : decode cL_law 784 = .ok (.aload_n 0, 1) := by decide +kernel
theorem dL_law_785 : decode cL_law 785 = .ok (.iload_n 3, 1) := by decide +kernel
theorem dL_law_786 : decode cL_law 786 = .ok (.iconst 2, 1) := by decide +kernel
theorem dL_law_787 : decode cL_law 787 = .ok (.iadd, 1) := by decide +kernel
theorem dL_law_788 : decode cL_law 788 = .ok (.iaload, 1) := by decide +kernel
theorem dL_law_789 : decode cL_law 789 = .ok (.aload_n 0, 1) := by decide +kernel
theorem dL_law_790 : decode cL_law 790 = .ok (.iload_n 3, 1) := by decide +kernel
theorem dL_law_791 : decode cL_law 791 = .ok (.iconst 3, 1) := by decide +kernel
theorem dL_law_792 : decode cL_law 792 = .ok (.iadd, 1) := by decide +kernel
theorem dL_law_793 : decode cL_law 793 = .ok (.iaload, 1) := by decide +kernel
theorem dL_law_794 : decode cL_law 794 = .ok (.aload_n 0, 1) := by decide +kernel
theorem dL_law_795 : decode cL_law 795 = .ok (.iload_n 3, 1) := by decide +kernel
theorem dL_law_796 : decode cL_law 796 = .ok (.iconst 4, 1) := by decide +kernel
theorem dL_law_797 : decode cL_law 797 = .ok (.iadd, 1) := by decide +kernel
theorem dL_law_798 : decode cL_law 798 = .ok (.iaload, 1) := by decide +kernel
theorem dL_law_799 : decode cL_law 799 = .ok (.invokevirtual 74, 3) := by decide +kernel
theorem dL_law_802 : decode cL_law 802 = .ok (.aload_n 2, 1) := by decide +kernel
theorem dL_law_803 : decode cL_law 803 = .ok (.aload_n 0, 1) := by decide +kernel
theorem dL_law_804 : decode cL_law 804 = .ok (.iload_n 3, 1) := by decide +kernel
theorem dL_law_805 : decode cL_law 805 = .ok (.iconst 1, 1) := by decide +kernel
theorem dL_law_806 : decode cL_law 806 = .ok (.iadd, 1) := by decide +kernel
theorem dL_law_807 : decode cL_law 807 = .ok (.iaload, 1) := by decide +kernel
theorem dL_law_808 : decode cL_law 808 = .ok (.aload_n 0, 1) := by decide +kernel
theorem dL_law_809 : decode cL_law 809 = .ok (.iload_n 3, 1) := by decide +kernel
theorem dL_law_810 : decode cL_law 810 = .ok (.iconst 2, 1) := by decide +kernel
theorem dL_law_811 : decode cL_law 811 = .ok (.iadd, 1) := by decide +kernel
theorem dL_law_812 : decode cL_law 812 = .ok (.iaload, 1) := by decide +kernel
theorem dL_law_813 : decode cL_law 813 = .ok (.aload_n 0, 1) := by decide +kernel
theorem dL_law_814 : decode cL_law 814 = .ok (.iload_n 3, 1) := by decide +kernel
theorem dL_law_815 : decode cL_law 815 = .ok (.iconst 3, 1) := by decide +kernel
theorem dL_law_816 : decode cL_law 816 = .ok (.iadd, 1) := by decide +kernel
theorem dL_law_817 : decode cL_law 817 = .ok (.iaload, 1) := by decide +kernel
theorem dL_law_818 : decode cL_law 818 = .ok (.aload_n 0, 1) := by decide +kernel
theorem dL_law_819 : decode cL_law 819 = .ok (.iload_n 3, 1) := by decide +kernel
theorem dL_law_820 : decode cL_law 820 = .ok (.iconst 4, 1) := by decide +kernel
theorem dL_law_821 : decode cL_law 821 = .ok (.iadd, 1) := by decide +kernel
theorem dL_law_822 : decode cL_law 822 = .ok (.iaload, 1) := by decide +kernel
theorem dL_law_823 : decode cL_law 823 = .ok (.invokevirtual 77, 3) := by decide +kernel
theorem dL_law_826 : decode cL_law 826 = .ok (.if_icmp .eq 475, 3) := by decide +kernel
theorem dL_law_829 : decode cL_law 829 = .ok (.iconst 0, 1) := by decide +kernel
theorem dL_law_830 : decode cL_law 830 = .ok (.ireturn, 1) := by decide +kernel
theorem dL_law_831 : decode cL_law 831 = .ok (.aload_n 1, 1) := by decide +kernel
theorem dL_law_832 : decode cL_law 832 = .ok (.aload_n 0, 1) := by decide +kernel
theorem dL_law_833 : decode cL_law 833 = .ok (.iload_n 3, 1) := by decide +kernel
theorem dL_law_834 : decode cL_law 834 = .ok (.iconst 1, 1) := by decide +kernel
theorem dL_law_835 : decode cL_law 835 = .ok (.iadd, 1) := by decide +kernel
theorem dL_law_836 : decode cL_law 836 = .ok (.iaload, 1) := by decide +kernel
theorem dL_law_837 : decode cL_law 837 = .ok (.aload_n 0, 1) := by decide +kernel
theorem dL_law_838 : decode cL_law 838 = .ok (.iload_n 3, 1) := by decide +kernel
theorem dL_law_839 : decode cL_law 839 = .ok (.iconst 2, 1) := by decide +kernel
theorem dL_law_840 : decode cL_law 840 = .ok (.iadd, 1) := by decide +kernel
theorem dL_law_841 : decode cL_law 841 = .ok (.iaload, 1) := by decide +kernel
theorem dL_law_842 : decode cL_law 842 = .ok (.invokevirtual 78, 3) := by decide +kernel
theorem dL_law_845 : decode cL_law 845 = .ok (.aload_n 2, 1) := by decide +kernel
theorem dL_law_846 : decode cL_law 846 = .ok (.aload_n 0, 1) := by decide +kernel
theorem dL_law_847 : decode cL_law 847 = .ok (.iload_n 3, 1) := by decide +kernel
theorem dL_law_848 : decode cL_law 848 = .ok (.iconst 1, 1) := by decide +kernel
theorem dL_law_849 : decode cL_law 849 = .ok (.iadd, 1) := by decide +kernel
theorem dL_law_850 : decode cL_law 850 = .ok (.iaload, 1) := by decide +kernel
theorem dL_law_851 : decode cL_law 851 = .ok (.aload_n 0, 1) := by decide +kernel
theorem dL_law_852 : decode cL_law 852 = .ok (.iload_n 3, 1) := by decide +kernel
theorem dL_law_853 : decode cL_law 853 = .ok (.iconst 2, 1) := by decide +kernel
theorem dL_law_854 : decode cL_law 854 = .ok (.iadd, 1) := by decide +kernel
theorem dL_law_855 : decode cL_law 855 = .ok (.iaload, 1) := by decide +kernel
theorem dL_law_856 : decode cL_law 856 = .ok (.invokevirtual 81, 3) := by decide +kernel
theorem dL_law_859 : decode cL_law 859 = .ok (.if_icmp .eq 442, 3) := by decide +kernel
theorem dL_law_862 : decode cL_law 862 = .ok (.iconst 0, 1) := by decide +kernel
theorem dL_law_863 : decode cL_law 863 = .ok (.ireturn, 1) := by decide +kernel
theorem dL_law_864 : decode cL_law 864 = .ok (.aload_n 1, 1) := by decide +kernel
theorem dL_law_865 : decode cL_law 865 = .ok (.aload_n 0, 1) := by decide +kernel
theorem dL_law_866 : decode cL_law 866 = .ok (.iload_n 3, 1) := by decide +kernel
theorem dL_law_867 : decode cL_law 867 = .ok (.iconst 1, 1) := by decide +kernel
theorem dL_law_868 : decode cL_law 868 = .ok (.iadd, 1) := by decide +kernel
theorem dL_law_869 : decode cL_law 869 = .ok (.iaload, 1) := by decide +kernel
theorem dL_law_870 : decode cL_law 870 = .ok (.aload_n 0, 1) := by decide +kernel
theorem dL_law_871 : decode cL_law 871 = .ok (.iload_n 3, 1) := by decide +kernel
theorem dL_law_872 : decode cL_law 872 = .ok (.iconst 2, 1) := by decide +kernel
theorem dL_law_873 : decode cL_law 873 = .ok (.iadd, 1) := by decide +kernel
theorem dL_law_874 : decode cL_law 874 = .ok (.iaload, 1) := by decide +kernel
theorem dL_law_875 : decode cL_law 875 = .ok (.aload_n 0, 1) := by decide +kernel
theorem dL_law_876 : decode cL_law 876 = .ok (.iload_n 3, 1) := by decide +kernel
theorem dL_law_877 : decode cL_law 877 = .ok (.iconst 3, 1) := by decide +kernel
theorem dL_law_878 : decode cL_law 878 = .ok (.iadd, 1) := by decide +kernel
theorem dL_law_879 : decode cL_law 879 = .ok (.iaload, 1) := by decide +kernel
theorem dL_law_880 : decode cL_law 880 = .ok (.invokevirtual 82, 3) := by decide +kernel
theorem dL_law_883 : decode cL_law 883 = .ok (.aload_n 2, 1) := by decide +kernel
theorem dL_law_884 : decode cL_law 884 = .ok (.aload_n 0, 1) := by decide +kernel
theorem dL_law_885 : decode cL_law 885 = .ok (.iload_n 3, 1) := by decide +kernel
theorem dL_law_886 : decode cL_law 886 = .ok (.iconst 1, 1) := by decide +kernel
theorem dL_law_887 : decode cL_law 887 = .ok (.iadd, 1) := by decide +kernel
theorem dL_law_888 : decode cL_law 888 = .ok (.iaload, 1) := by decide +kernel
theorem dL_law_889 : decode cL_law 889 = .ok (.aload_n 0, 1) := by decide +kernel
theorem dL_law_890 : decode cL_law 890 = .ok (.iload_n 3, 1) := by decide +kernel
theorem dL_law_891 : decode cL_law 891 = .ok (.iconst 2, 1) := by decide +kernel
theorem dL_law_892 : decode cL_law 892 = .ok (.iadd, 1) := by decide +kernel
theorem dL_law_893 : decode cL_law 893 = .ok (.iaload, 1) := by decide +kernel
theorem dL_law_894 : decode cL_law 894 = .ok (.aload_n 0, 1) := by decide +kernel
theorem dL_law_895 : decode cL_law 895 = .ok (.iload_n 3, 1) := by decide +kernel
theorem dL_law_896 : decode cL_law 896 = .ok (.iconst 3, 1) := by decide +kernel
theorem dL_law_897 : decode cL_law 897 = .ok (.iadd, 1) := by decide +kernel
theorem dL_law_898 : decode cL_law 898 = .ok (.iaload, 1) := by decide +kernel
theorem dL_law_899 : decode cL_law 899 = .ok (.invokevirtual 85, 3) := by decide +kernel
theorem dL_law_902 : decode cL_law 902 = .ok (.if_icmp .eq 399, 3) := by decide +kernel
theorem dL_law_905 : decode cL_law 905 = .ok (.iconst 0, 1) := by decide +kernel
theorem dL_law_906 : decode cL_law 906 = .ok (.ireturn, 1) := by decide +kernel
theorem dL_law_907 : decode cL_law 907 = .ok (.aload_n 1, 1) := by decide +kernel
theorem dL_law_908 : decode cL_law 908 = .ok (.aload_n 0, 1) := by decide +kernel
theorem dL_law_909 : decode cL_law 909 = .ok (.iload_n 3, 1) := by decide +kernel
theorem dL_law_910 : decode cL_law 910 = .ok (.iconst 1, 1) := by decide +kernel
theorem dL_law_911 : decode cL_law 911 = .ok (.iadd, 1) := by decide +kernel
theorem dL_law_912 : decode cL_law 912 = .ok (.iaload, 1) := by decide +kernel
theorem dL_law_913 : decode cL_law 913 = .ok (.i2l, 1) := by decide +kernel
theorem dL_law_914 : decode cL_law 914 = .ok (.bipush 32, 2) := by decide +kernel
theorem dL_law_916 : decode cL_law 916 = .ok (.lshl, 1) := by decide +kernel
theorem dL_law_917 : decode cL_law 917 = .ok (.aload_n 0, 1) := by decide +kernel
theorem dL_law_918 : decode cL_law 918 = .ok (.iload_n 3, 1) := by decide +kernel
theorem dL_law_919 : decode cL_law 919 = .ok (.iconst 2, 1) := by decide +kernel
theorem dL_law_920 : decode cL_law 920 = .ok (.iadd, 1) := by decide +kernel
theorem dL_law_921 : decode cL_law 921 = .ok (.iaload, 1) := by decide +kernel
theorem dL_law_922 : decode cL_law 922 = .ok (.i2l, 1) := by decide +kernel
theorem dL_law_923 : decode cL_law 923 = .ok (.ldc2_w 86, 3) := by decide +kernel
theorem dL_law_926 : decode cL_law 926 = .ok (.land, 1) := by decide +kernel
theorem dL_law_927 : decode cL_law 927 = .ok (.lor, 1) := by decide +kernel
theorem dL_law_928 : decode cL_law 928 = .ok (.aload_n 0, 1) := by decide +kernel
theorem dL_law_929 : decode cL_law 929 = .ok (.iload_n 3, 1) := by decide +kernel
theorem dL_law_930 : decode cL_law 930 = .ok (.iconst 3, 1) := by decide +kernel
theorem dL_law_931 : decode cL_law 931 = .ok (.iadd, 1) := by decide +kernel
theorem dL_law_932 : decode cL_law 932 = .ok (.iaload, 1) := by decide +kernel
theorem dL_law_933 : decode cL_law 933 = .ok (.invokevirtual 88, 3) := by decide +kernel
theorem dL_law_936 : decode cL_law 936 = .ok (.aload_n 2, 1) := by decide +kernel
theorem dL_law_937 : decode cL_law 937 = .ok (.aload_n 0, 1) := by decide +kernel
theorem dL_law_938 : decode cL_law 938 = .ok (.iload_n 3, 1) := by decide +kernel
theorem dL_law_939 : decode cL_law 939 = .ok (.iconst 1, 1) := by decide +kernel
theorem dL_law_940 : decode cL_law 940 = .ok (.iadd, 1) := by decide +kernel
theorem dL_law_941 : decode cL_law 941 = .ok (.iaload, 1) := by decide +kernel
theorem dL_law_942 : decode cL_law 942 = .ok (.i2l, 1) := by decide +kernel
theorem dL_law_943 : decode cL_law 943 = .ok (.bipush 32, 2) := by decide +kernel
theorem dL_law_945 : decode cL_law 945 = .ok (.lshl, 1) := by decide +kernel
theorem dL_law_946 : decode cL_law 946 = .ok (.aload_n 0, 1) := by decide +kernel
theorem dL_law_947 : decode cL_law 947 = .ok (.iload_n 3, 1) := by decide +kernel
theorem dL_law_948 : decode cL_law 948 = .ok (.iconst 2, 1) := by decide +kernel
theorem dL_law_949 : decode cL_law 949 = .ok (.iadd, 1) := by decide +kernel
theorem dL_law_950 : decode cL_law 950 = .ok (.iaload, 1) := by decide +kernel
theorem dL_law_951 : decode cL_law 951 = .ok (.i2l, 1) := by decide +kernel
theorem dL_law_952 : decode cL_law 952 = .ok (.ldc2_w 86, 3) := by decide +kernel
theorem dL_law_955 : decode cL_law 955 = .ok (.land, 1) := by decide +kernel
theorem dL_law_956 : decode cL_law 956 = .ok (.lor, 1) := by decide +kernel
theorem dL_law_957 : decode cL_law 957 = .ok (.aload_n 0, 1) := by decide +kernel
theorem dL_law_958 : decode cL_law 958 = .ok (.iload_n 3, 1) := by decide +kernel
theorem dL_law_959 : decode cL_law 959 = .ok (.iconst 3, 1) := by decide +kernel
theorem dL_law_960 : decode cL_law 960 = .ok (.iadd, 1) := by decide +kernel
theorem dL_law_961 : decode cL_law 961 = .ok (.iaload, 1) := by decide +kernel
theorem dL_law_962 : decode cL_law 962 = .ok (.invokevirtual 92, 3) := by decide +kernel
theorem dL_law_965 : decode cL_law 965 = .ok (.if_icmp .eq 336, 3) := by decide +kernel
theorem dL_law_968 : decode cL_law 968 = .ok (.iconst 0, 1) := by decide +kernel
theorem dL_law_969 : decode cL_law 969 = .ok (.ireturn, 1) := by decide +kernel
theorem dL_law_970 : decode cL_law 970 = .ok (.aload_n 1, 1) := by decide +kernel
theorem dL_law_971 : decode cL_law 971 = .ok (.invokevirtual 93, 3) := by decide +kernel
theorem dL_law_974 : decode cL_law 974 = .ok (.aload_n 2, 1) := by decide +kernel
theorem dL_law_975 : decode cL_law 975 = .ok (.invokevirtual 97, 3) := by decide +kernel
theorem dL_law_978 : decode cL_law 978 = .ok (.if_icmp .eq 323, 3) := by decide +kernel
theorem dL_law_981 : decode cL_law 981 = .ok (.iconst 0, 1) := by decide +kernel
theorem dL_law_982 : decode cL_law 982 = .ok (.ireturn, 1) := by decide +kernel
theorem dL_law_983 : decode cL_law 983 = .ok (.aload_n 1, 1) := by decide +kernel
theorem dL_law_984 : decode cL_law 984 = .ok (.invokevirtual 98, 3) := by decide +kernel
theorem dL_law_987 : decode cL_law 987 = .ok (.aload_n 2, 1) := by decide +kernel
theorem dL_law_988 : decode cL_law 988 = .ok (.invokevirtual 101, 3) := by decide +kernel
theorem dL_law_991 : decode cL_law 991 = .ok (.if_icmp .eq 310, 3) := by decide +kernel
theorem dL_law_994 : decode cL_law 994 = .ok (.iconst 0, 1) := by decide +kernel
theorem dL_law_995 : decode cL_law 995 = .ok (.ireturn, 1) := by decide +kernel
theorem dL_law_996 : decode cL_law 996 = .ok (.aload_n 1, 1) := by decide +kernel
theorem dL_law_997 : decode cL_law 997 = .ok (.aload_n 0, 1) := by decide +kernel
theorem dL_law_998 : decode cL_law 998 = .ok (.iload_n 3, 1) := by decide +kernel
theorem dL_law_999 : decode cL_law 999 = .ok (.iconst 1, 1) := by decide +kernel
theorem dL_law_1000 : decode cL_law 1000 = .ok (.iadd, 1) := by decide +kernel
theorem dL_law_1001 : decode cL_law 1001 = .ok (.iaload, 1) := by decide +kernel
theorem dL_law_1002 : decode cL_law 1002 = .ok (.aload_n 0, 1) := by decide +kernel
theorem dL_law_1003 : decode cL_law 1003 = .ok (.iload_n 3, 1) := by decide +kernel
theorem dL_law_1004 : decode cL_law 1004 = .ok (.iconst 2, 1) := by decide +kernel
theorem dL_law_1005 : decode cL_law 1005 = .ok (.iadd, 1) := by decide +kernel
theorem dL_law_1006 : decode cL_law 1006 = .ok (.iaload, 1) := by decide +kernel
theorem dL_law_1007 : decode cL_law 1007 = .ok (.aload_n 0, 1) := by decide +kernel
theorem dL_law_1008 : decode cL_law 1008 = .ok (.iload_n 3, 1) := by decide +kernel
theorem dL_law_1009 : decode cL_law 1009 = .ok (.iconst 3, 1) := by decide +kernel
theorem dL_law_1010 : decode cL_law 1010 = .ok (.iadd, 1) := by decide +kernel
theorem dL_law_1011 : decode cL_law 1011 = .ok (.iaload, 1) := by decide +kernel
theorem dL_law_1012 : decode cL_law 1012 = .ok (.aload_n 0, 1) := by decide +kernel
theorem dL_law_1013 : decode cL_law 1013 = .ok (.iload_n 3, 1) := by decide +kernel
theorem dL_law_1014 : decode cL_law 1014 = .ok (.iconst 4, 1) := by decide +kernel
theorem dL_law_1015 : decode cL_law 1015 = .ok (.iadd, 1) := by decide +kernel
theorem dL_law_1016 : decode cL_law 1016 = .ok (.iaload, 1) := by decide +kernel
theorem dL_law_1017 : decode cL_law 1017 = .ok (.aload_n 0, 1) := by decide +kernel
theorem dL_law_1018 : decode cL_law 1018 = .ok (.iload_n 3, 1) := by decide +kernel
theorem dL_law_1019 : decode cL_law 1019 = .ok (.iconst 5, 1) := by decide +kernel
theorem dL_law_1020 : decode cL_law 1020 = .ok (.iadd, 1) := by decide +kernel
theorem dL_law_1021 : decode cL_law 1021 = .ok (.iaload, 1) := by decide +kernel
theorem dL_law_1022 : decode cL_law 1022 = .ok (.invokevirtual 102, 3) := by decide +kernel
theorem dL_law_1025 : decode cL_law 1025 = .ok (.aload_n 2, 1) := by decide +kernel
theorem dL_law_1026 : decode cL_law 1026 = .ok (.aload_n 0, 1) := by decide +kernel
theorem dL_law_1027 : decode cL_law 1027 = .ok (.iload_n 3, 1) := by decide +kernel
theorem dL_law_1028 : decode cL_law 1028 = .ok (.iconst 1, 1) := by decide +kernel
theorem dL_law_1029 : decode cL_law 1029 = .ok (.iadd, 1) := by decide +kernel
theorem dL_law_1030 : decode cL_law 1030 = .ok (.iaload, 1) := by decide +kernel
theorem dL_law_1031 : decode cL_law 1031 = .ok (.aload_n 0, 1) := by decide +kernel
theorem dL_law_1032 : decode cL_law 1032 = .ok (.iload_n 3, 1) := by decide +kernel
theorem dL_law_1033 : decode cL_law 1033 = .ok (.iconst 2, 1) := by decide +kernel
theorem dL_law_1034 : decode cL_law 1034 = .ok (.iadd, 1) := by decide +kernel
theorem dL_law_1035 : decode cL_law 1035 = .ok (.iaload, 1) := by decide +kernel
theorem dL_law_1036 : decode cL_law 1036 = .ok (.aload_n 0, 1) := by decide +kernel
theorem dL_law_1037 : decode cL_law 1037 = .ok (.iload_n 3, 1) := by decide +kernel
theorem dL_law_1038 : decode cL_law 1038 = .ok (.iconst 3, 1) := by decide +kernel
theorem dL_law_1039 : decode cL_law 1039 = .ok (.iadd, 1) := by decide +kernel
theorem dL_law_1040 : decode cL_law 1040 = .ok (.iaload, 1) := by decide +kernel
theorem dL_law_1041 : decode cL_law 1041 = .ok (.aload_n 0, 1) := by decide +kernel
theorem dL_law_1042 : decode cL_law 1042 = .ok (.iload_n 3, 1) := by decide +kernel
theorem dL_law_1043 : decode cL_law 1043 = .ok (.iconst 4, 1) := by decide +kernel
theorem dL_law_1044 : decode cL_law 1044 = .ok (.iadd, 1) := by decide +kernel
theorem dL_law_1045 : decode cL_law 1045 = .ok (.iaload, 1) := by decide +kernel
theorem dL_law_1046 : decode cL_law 1046 = .ok (.aload_n 0, 1) := by decide +kernel
theorem dL_law_1047 : decode cL_law 1047 = .ok (.iload_n 3, 1) := by decide +kernel
theorem dL_law_1048 : decode cL_law 1048 = .ok (.iconst 5, 1) := by decide +kernel
theorem dL_law_1049 : decode cL_law 1049 = .ok (.iadd, 1) := by decide +kernel
theorem dL_law_1050 : decode cL_law 1050 = .ok (.iaload, 1) := by decide +kernel
theorem dL_law_1051 : decode cL_law 1051 = .ok (.invokevirtual 105, 3) := by decide +kernel
theorem dL_law_1054 : decode cL_law 1054 = .ok (.if_icmp .eq 247, 3) := by decide +kernel
theorem dL_law_1057 : decode cL_law 1057 = .ok (.iconst 0, 1) := by decide +kernel
theorem dL_law_1058 : decode cL_law 1058 = .ok (.ireturn, 1) := by decide +kernel
theorem dL_law_1059 : decode cL_law 1059 = .ok (.aload_n 1, 1) := by decide +kernel
theorem dL_law_1060 : decode cL_law 1060 = .ok (.aload_n 0, 1) := by decide +kernel
theorem dL_law_1061 : decode cL_law 1061 = .ok (.iload_n 3, 1) := by decide +kernel
theorem dL_law_1062 : decode cL_law 1062 = .ok (.iconst 1, 1) := by decide +kernel
theorem dL_law_1063 : decode cL_law 1063 = .ok (.iadd, 1) := by decide +kernel
theorem dL_law_1064 : decode cL_law 1064 = .ok (.iaload, 1) := by decide +kernel
theorem dL_law_1065 : decode cL_law 1065 = .ok (.aload_n 0, 1) := by decide +kernel
theorem dL_law_1066 : decode cL_law 1066 = .ok (.iload_n 3, 1) := by decide +kernel
theorem dL_law_1067 : decode cL_law 1067 = .ok (.iconst 2, 1) := by decide +kernel
theorem dL_law_1068 : decode cL_law 1068 = .ok (.iadd, 1) := by decide +kernel
theorem dL_law_1069 : decode cL_law 1069 = .ok (.iaload, 1) := by decide +kernel
theorem dL_law_1070 : decode cL_law 1070 = .ok (.aload_n 0, 1) := by decide +kernel
theorem dL_law_1071 : decode cL_law 1071 = .ok (.iload_n 3, 1) := by decide +kernel
theorem dL_law_1072 : decode cL_law 1072 = .ok (.iconst 3, 1) := by decide +kernel
theorem dL_law_1073 : decode cL_law 1073 = .ok (.iadd, 1) := by decide +kernel
theorem dL_law_1074 : decode cL_law 1074 = .ok (.iaload, 1) := by decide +kernel
theorem dL_law_1075 : decode cL_law 1075 = .ok (.aload_n 0, 1) := by decide +kernel
theorem dL_law_1076 : decode cL_law 1076 = .ok (.iload_n 3, 1) := by decide +kernel
theorem dL_law_1077 : decode cL_law 1077 = .ok (.iconst 4, 1) := by decide +kernel
theorem dL_law_1078 : decode cL_law 1078 = .ok (.iadd, 1) := by decide +kernel
theorem dL_law_1079 : decode cL_law 1079 = .ok (.iaload, 1) := by decide +kernel
theorem dL_law_1080 : decode cL_law 1080 = .ok (.aload_n 0, 1) := by decide +kernel
theorem dL_law_1081 : decode cL_law 1081 = .ok (.iload_n 3, 1) := by decide +kernel
theorem dL_law_1082 : decode cL_law 1082 = .ok (.iconst 5, 1) := by decide +kernel
theorem dL_law_1083 : decode cL_law 1083 = .ok (.iadd, 1) := by decide +kernel
theorem dL_law_1084 : decode cL_law 1084 = .ok (.iaload, 1) := by decide +kernel
theorem dL_law_1085 : decode cL_law 1085 = .ok (.invokevirtual 106, 3) := by decide +kernel
theorem dL_law_1088 : decode cL_law 1088 = .ok (.aload_n 2, 1) := by decide +kernel
theorem dL_law_1089 : decode cL_law 1089 = .ok (.aload_n 0, 1) := by decide +kernel
theorem dL_law_1090 : decode cL_law 1090 = .ok (.iload_n 3, 1) := by decide +kernel
theorem dL_law_1091 : decode cL_law 1091 = .ok (.iconst 1, 1) := by decide +kernel
theorem dL_law_1092 : decode cL_law 1092 = .ok (.iadd, 1) := by decide +kernel
theorem dL_law_1093 : decode cL_law 1093 = .ok (.iaload, 1) := by decide +kernel
theorem dL_law_1094 : decode cL_law 1094 = .ok (.aload_n 0, 1) := by decide +kernel
theorem dL_law_1095 : decode cL_law 1095 = .ok (.iload_n 3, 1) := by decide +kernel
theorem dL_law_1096 : decode cL_law 1096 = .ok (.iconst 2, 1) := by decide +kernel
theorem dL_law_1097 : decode cL_law 1097 = .ok (.iadd, 1) := by decide +kernel
theorem dL_law_1098 : decode cL_law 1098 = .ok (.iaload, 1) := by decide +kernel
theorem dL_law_1099 : decode cL_law 1099 = .ok (.aload_n 0, 1) := by decide +kernel
theorem dL_law_1100 : decode cL_law 1100 = .ok (.iload_n 3, 1) := by decide +kernel
theorem dL_law_1101 : decode cL_law 1101 = .ok (.iconst 3, 1) := by decide +kernel
theorem dL_law_1102 : decode cL_law 1102 = .ok (.iadd, 1) := by decide +kernel
theorem dL_law_1103 : decode cL_law 1103 = .ok (.iaload, 1) := by decide +kernel
theorem dL_law_1104 : decode cL_law 1104 = .ok (.aload_n 0, 1) := by decide +kernel
theorem dL_law_1105 : decode cL_law 1105 = .ok (.iload_n 3, 1) := by decide +kernel
theorem dL_law_1106 : decode cL_law 1106 = .ok (.iconst 4, 1) := by decide +kernel
theorem dL_law_1107 : decode cL_law 1107 = .ok (.iadd, 1) := by decide +kernel
theorem dL_law_1108 : decode cL_law 1108 = .ok (.iaload, 1) := by decide +kernel
theorem dL_law_1109 : decode cL_law 1109 = .ok (.aload_n 0, 1) := by decide +kernel
theorem dL_law_1110 : decode cL_law 1110 = .ok (.iload_n 3, 1) := by decide +kernel
theorem dL_law_1111 : decode cL_law 1111 = .ok (.iconst 5, 1) := by decide +kernel
theorem dL_law_1112 : decode cL_law 1112 = .ok (.iadd, 1) := by decide +kernel
theorem dL_law_1113 : decode cL_law 1113 = .ok (.iaload, 1) := by decide +kernel
theorem dL_law_1114 : decode cL_law 1114 = .ok (.invokevirtual 109, 3) := by decide +kernel
theorem dL_law_1117 : decode cL_law 1117 = .ok (.if_icmp .eq 184, 3) := by decide +kernel
theorem dL_law_1120 : decode cL_law 1120 = .ok (.iconst 0, 1) := by decide +kernel
theorem dL_law_1121 : decode cL_law 1121 = .ok (.ireturn, 1) := by decide +kernel
theorem dL_law_1122 : decode cL_law 1122 = .ok (.aload_n 1, 1) := by decide +kernel
theorem dL_law_1123 : decode cL_law 1123 = .ok (.aload_n 0, 1) := by decide +kernel
theorem dL_law_1124 : decode cL_law 1124 = .ok (.iload_n 3, 1) := by decide +kernel
theorem dL_law_1125 : decode cL_law 1125 = .ok (.iconst 1, 1) := by decide +kernel
theorem dL_law_1126 : decode cL_law 1126 = .ok (.iadd, 1) := by decide +kernel
theorem dL_law_1127 : decode cL_law 1127 = .ok (.iaload, 1) := by decide +kernel
theorem dL_law_1128 : decode cL_law 1128 = .ok (.aload_n 0, 1) := by decide +kernel
theorem dL_law_1129 : decode cL_law 1129 = .ok (.iload_n 3, 1) := by decide +kernel
theorem dL_law_1130 : decode cL_law 1130 = .ok (.iconst 2, 1) := by decide +kernel
theorem dL_law_1131 : decode cL_law 1131 = .ok (.iadd, 1) := by decide +kernel
theorem dL_law_1132 : decode cL_law 1132 = .ok (.iaload, 1) := by decide +kernel
theorem dL_law_1133 : decode cL_law 1133 = .ok (.aload_n 0, 1) := by decide +kernel
theorem dL_law_1134 : decode cL_law 1134 = .ok (.iload_n 3, 1) := by decide +kernel
theorem dL_law_1135 : decode cL_law 1135 = .ok (.iconst 3, 1) := by decide +kernel
theorem dL_law_1136 : decode cL_law 1136 = .ok (.iadd, 1) := by decide +kernel
theorem dL_law_1137 : decode cL_law 1137 = .ok (.iaload, 1) := by decide +kernel
theorem dL_law_1138 : decode cL_law 1138 = .ok (.invokevirtual 110, 3) := by decide +kernel
theorem dL_law_1141 : decode cL_law 1141 = .ok (.aload_n 2, 1) := by decide +kernel
theorem dL_law_1142 : decode cL_law 1142 = .ok (.aload_n 0, 1) := by decide +kernel
theorem dL_law_1143 : decode cL_law 1143 = .ok (.iload_n 3, 1) := by decide +kernel
theorem dL_law_1144 : decode cL_law 1144 = .ok (.iconst 1, 1) := by decide +kernel
theorem dL_law_1145 : decode cL_law 1145 = .ok (.iadd, 1) := by decide +kernel
theorem dL_law_1146 : decode cL_law 1146 = .ok (.iaload, 1) := by decide +kernel
theorem dL_law_1147 : decode cL_law 1147 = .ok (.aload_n 0, 1) := by decide +kernel
theorem dL_law_1148 : decode cL_law 1148 = .ok (.iload_n 3, 1) := by decide +kernel
theorem dL_law_1149 : decode cL_law 1149 = .ok (.iconst 2, 1) := by decide +kernel
theorem dL_law_1150 : decode cL_law 1150 = .ok (.iadd, 1) := by decide +kernel
theorem dL_law_1151 : decode cL_law 1151 = .ok (.iaload, 1) := by decide +kernel
theorem dL_law_1152 : decode cL_law 1152 = .ok (.aload_n 0, 1) := by decide +kernel
theorem dL_law_1153 : decode cL_law 1153 = .ok (.iload_n 3, 1) := by decide +kernel
theorem dL_law_1154 : decode cL_law 1154 = .ok (.iconst 3, 1) := by decide +kernel
theorem dL_law_1155 : decode cL_law 1155 = .ok (.iadd, 1) := by decide +kernel
theorem dL_law_1156 : decode cL_law 1156 = .ok (.iaload, 1) := by decide +kernel
theorem dL_law_1157 : decode cL_law 1157 = .ok (.invokevirtual 113, 3) := by decide +kernel
theorem dL_law_1160 : decode cL_law 1160 = .ok (.if_icmp .eq 141, 3) := by decide +kernel
theorem dL_law_1163 : decode cL_law 1163 = .ok (.iconst 0, 1) := by decide +kernel
theorem dL_law_1164 : decode cL_law 1164 = .ok (.ireturn, 1) := by decide +kernel
theorem dL_law_1165 : decode cL_law 1165 = .ok (.aload_n 1, 1) := by decide +kernel
theorem dL_law_1166 : decode cL_law 1166 = .ok (.aload_n 0, 1) := by decide +kernel
theorem dL_law_1167 : decode cL_law 1167 = .ok (.iload_n 3, 1) := by decide +kernel
theorem dL_law_1168 : decode cL_law 1168 = .ok (.iconst 1, 1) := by decide +kernel
theorem dL_law_1169 : decode cL_law 1169 = .ok (.iadd, 1) := by decide +kernel
theorem dL_law_1170 : decode cL_law 1170 = .ok (.iaload, 1) := by decide +kernel
theorem dL_law_1171 : decode cL_law 1171 = .ok (.aload_n 0, 1) := by decide +kernel
theorem dL_law_1172 : decode cL_law 1172 = .ok (.iload_n 3, 1) := by decide +kernel
theorem dL_law_1173 : decode cL_law 1173 = .ok (.iconst 2, 1) := by decide +kernel
theorem dL_law_1174 : decode cL_law 1174 = .ok (.iadd, 1) := by decide +kernel
theorem dL_law_1175 : decode cL_law 1175 = .ok (.iaload, 1) := by decide +kernel
theorem dL_law_1176 : decode cL_law 1176 = .ok (.invokevirtual 114, 3) := by decide +kernel
theorem dL_law_1179 : decode cL_law 1179 = .ok (.aload_n 2, 1) := by decide +kernel
theorem dL_law_1180 : decode cL_law 1180 = .ok (.aload_n 0, 1) := by decide +kernel
theorem dL_law_1181 : decode cL_law 1181 = .ok (.iload_n 3, 1) := by decide +kernel
theorem dL_law_1182 : decode cL_law 1182 = .ok (.iconst 1, 1) := by decide +kernel
theorem dL_law_1183 : decode cL_law 1183 = .ok (.iadd, 1) := by decide +kernel
theorem dL_law_1184 : decode cL_law 1184 = .ok (.iaload, 1) := by decide +kernel
theorem dL_law_1185 : decode cL_law 1185 = .ok (.aload_n 0, 1) := by decide +kernel
theorem dL_law_1186 : decode cL_law 1186 = .ok (.iload_n 3, 1) := by decide +kernel
theorem dL_law_1187 : decode cL_law 1187 = .ok (.iconst 2, 1) := by decide +kernel
theorem dL_law_1188 : decode cL_law 1188 = .ok (.iadd, 1) := by decide +kernel
theorem dL_law_1189 : decode cL_law 1189 = .ok (.iaload, 1) := by decide +kernel
theorem dL_law_1190 : decode cL_law 1190 = .ok (.invokevirtual 117, 3) := by decide +kernel
theorem dL_law_1193 : decode cL_law 1193 = .ok (.if_icmp .eq 108, 3) := by decide +kernel
theorem dL_law_1196 : decode cL_law 1196 = .ok (.iconst 0, 1) := by decide +kernel
theorem dL_law_1197 : decode cL_law 1197 = .ok (.ireturn, 1) := by decide +kernel
theorem dL_law_1198 : decode cL_law 1198 = .ok (.aload_n 1, 1) := by decide +kernel
theorem dL_law_1199 : decode cL_law 1199 = .ok (.aload_n 0, 1) := by decide +kernel
theorem dL_law_1200 : decode cL_law 1200 = .ok (.iload_n 3, 1) := by decide +kernel
theorem dL_law_1201 : decode cL_law 1201 = .ok (.iconst 1, 1) := by decide +kernel
theorem dL_law_1202 : decode cL_law 1202 = .ok (.iadd, 1) := by decide +kernel
theorem dL_law_1203 : decode cL_law 1203 = .ok (.iaload, 1) := by decide +kernel
theorem dL_law_1204 : decode cL_law 1204 = .ok (.aload_n 0, 1) := by decide +kernel
theorem dL_law_1205 : decode cL_law 1205 = .ok (.iload_n 3, 1) := by decide +kernel
theorem dL_law_1206 : decode cL_law 1206 = .ok (.iconst 2, 1) := by decide +kernel
theorem dL_law_1207 : decode cL_law 1207 = .ok (.iadd, 1) := by decide +kernel
theorem dL_law_1208 : decode cL_law 1208 = .ok (.iaload, 1) := by decide +kernel
theorem dL_law_1209 : decode cL_law 1209 = .ok (.invokevirtual 118, 3) := by decide +kernel
theorem dL_law_1212 : decode cL_law 1212 = .ok (.aload_n 2, 1) := by decide +kernel
theorem dL_law_1213 : decode cL_law 1213 = .ok (.aload_n 0, 1) := by decide +kernel
theorem dL_law_1214 : decode cL_law 1214 = .ok (.iload_n 3, 1) := by decide +kernel
theorem dL_law_1215 : decode cL_law 1215 = .ok (.iconst 1, 1) := by decide +kernel
theorem dL_law_1216 : decode cL_law 1216 = .ok (.iadd, 1) := by decide +kernel
theorem dL_law_1217 : decode cL_law 1217 = .ok (.iaload, 1) := by decide +kernel
theorem dL_law_1218 : decode cL_law 1218 = .ok (.aload_n 0, 1) := by decide +kernel
theorem dL_law_1219 : decode cL_law 1219 = .ok (.iload_n 3, 1) := by decide +kernel
theorem dL_law_1220 : decode cL_law 1220 = .ok (.iconst 2, 1) := by decide +kernel
theorem dL_law_1221 : decode cL_law 1221 = .ok (.iadd, 1) := by decide +kernel
theorem dL_law_1222 : decode cL_law 1222 = .ok (.iaload, 1) := by decide +kernel
theorem dL_law_1223 : decode cL_law 1223 = .ok (.invokevirtual 121, 3) := by decide +kernel
theorem dL_law_1226 : decode cL_law 1226 = .ok (.if_icmp .eq 75, 3) := by decide +kernel
theorem dL_law_1229 : decode cL_law 1229 = .ok (.iconst 0, 1) := by decide +kernel
theorem dL_law_1230 : decode cL_law 1230 = .ok (.ireturn, 1) := by decide +kernel
theorem dL_law_1231 : decode cL_law 1231 = .ok (.aload_n 1, 1) := by decide +kernel
theorem dL_law_1232 : decode cL_law 1232 = .ok (.aload_n 0, 1) := by decide +kernel
theorem dL_law_1233 : decode cL_law 1233 = .ok (.iload_n 3, 1) := by decide +kernel
theorem dL_law_1234 : decode cL_law 1234 = .ok (.iconst 1, 1) := by decide +kernel
theorem dL_law_1235 : decode cL_law 1235 = .ok (.iadd, 1) := by decide +kernel
theorem dL_law_1236 : decode cL_law 1236 = .ok (.iaload, 1) := by decide +kernel
theorem dL_law_1237 : decode cL_law 1237 = .ok (.aload_n 0, 1) := by decide +kernel
theorem dL_law_1238 : decode cL_law 1238 = .ok (.iload_n 3, 1) := by decide +kernel
theorem dL_law_1239 : decode cL_law 1239 = .ok (.iconst 2, 1) := by decide +kernel
theorem dL_law_1240 : decode cL_law 1240 = .ok (.iadd, 1) := by decide +kernel
theorem dL_law_1241 : decode cL_law 1241 = .ok (.iaload, 1) := by decide +kernel
theorem dL_law_1242 : decode cL_law 1242 = .ok (.invokevirtual 122, 3) := by decide +kernel
theorem dL_law_1245 : decode cL_law 1245 = .ok (.aload_n 2, 1) := by decide +kernel
theorem dL_law_1246 : decode cL_law 1246 = .ok (.aload_n 0, 1) := by decide +kernel
theorem dL_law_1247 : decode cL_law 1247 = .ok (.iload_n 3, 1) := by decide +kernel
theorem dL_law_1248 : decode cL_law 1248 = .ok (.iconst 1, 1) := by decide +kernel
theorem dL_law_1249 : decode cL_law 1249 = .ok (.iadd, 1) := by decide +kernel
theorem dL_law_1250 : decode cL_law 1250 = .ok (.iaload, 1) := by decide +kernel
theorem dL_law_1251 : decode cL_law 1251 = .ok (.aload_n 0, 1) := by decide +kernel
theorem dL_law_1252 : decode cL_law 1252 = .ok (.iload_n 3, 1) := by decide +kernel
theorem dL_law_1253 : decode cL_law 1253 = .ok (.iconst 2, 1) := by decide +kernel
theorem dL_law_1254 : decode cL_law 1254 = .ok (.iadd, 1) := by decide +kernel
theorem dL_law_1255 : decode cL_law 1255 = .ok (.iaload, 1) := by decide +kernel
theorem dL_law_1256 : decode cL_law 1256 = .ok (.invokevirtual 125, 3) := by decide +kernel
theorem dL_law_1259 : decode cL_law 1259 = .ok (.if_icmp .eq 42, 3) := by decide +kernel
theorem dL_law_1262 : decode cL_law 1262 = .ok (.iconst 0, 1) := by decide +kernel
theorem dL_law_1263 : decode cL_law 1263 = .ok (.ireturn, 1) := by decide +kernel
theorem dL_law_1264 : decode cL_law 1264 = .ok (.aload_n 1, 1) := by decide +kernel
theorem dL_law_1265 : decode cL_law 1265 = .ok (.aload_n 0, 1) := by decide +kernel
theorem dL_law_1266 : decode cL_law 1266 = .ok (.iload_n 3, 1) := by decide +kernel
theorem dL_law_1267 : decode cL_law 1267 = .ok (.iconst 1, 1) := by decide +kernel
theorem dL_law_1268 : decode cL_law 1268 = .ok (.iadd, 1) := by decide +kernel
theorem dL_law_1269 : decode cL_law 1269 = .ok (.iaload, 1) := by decide +kernel
theorem dL_law_1270 : decode cL_law 1270 = .ok (.invokevirtual 126, 3) := by decide +kernel
theorem dL_law_1273 : decode cL_law 1273 = .ok (.aload_n 2, 1) := by decide +kernel
theorem dL_law_1274 : decode cL_law 1274 = .ok (.aload_n 0, 1) := by decide +kernel
theorem dL_law_1275 : decode cL_law 1275 = .ok (.iload_n 3, 1) := by decide +kernel
theorem dL_law_1276 : decode cL_law 1276 = .ok (.iconst 1, 1) := by decide +kernel
theorem dL_law_1277 : decode cL_law 1277 = .ok (.iadd, 1) := by decide +kernel
theorem dL_law_1278 : decode cL_law 1278 = .ok (.iaload, 1) := by decide +kernel
theorem dL_law_1279 : decode cL_law 1279 = .ok (.invokevirtual 130, 3) := by decide +kernel
theorem dL_law_1282 : decode cL_law 1282 = .ok (.if_icmp .eq 19, 3) := by decide +kernel
theorem dL_law_1285 : decode cL_law 1285 = .ok (.iconst 0, 1) := by decide +kernel
theorem dL_law_1286 : decode cL_law 1286 = .ok (.ireturn, 1) := by decide +kernel
theorem dL_law_1287 : decode cL_law 1287 = .ok (.aload_n 1, 1) := by decide +kernel
theorem dL_law_1288 : decode cL_law 1288 = .ok (.invokevirtual 131, 3) := by decide +kernel
theorem dL_law_1291 : decode cL_law 1291 = .ok (.aload_n 2, 1) := by decide +kernel
theorem dL_law_1292 : decode cL_law 1292 = .ok (.invokevirtual 135, 3) := by decide +kernel
theorem dL_law_1295 : decode cL_law 1295 = .ok (.lcmp, 1) := by decide +kernel
theorem dL_law_1296 : decode cL_law 1296 = .ok (.ifCond .eq 5, 3) := by decide +kernel
theorem dL_law_1299 : decode cL_law 1299 = .ok (.iconst 0, 1) := by decide +kernel
theorem dL_law_1300 : decode cL_law 1300 = .ok (.ireturn, 1) := by decide +kernel
theorem dL_law_1301 : decode cL_law 1301 = .ok (.iinc 3 9, 3) := by decide +kernel
theorem dL_law_1304 : decode cL_law 1304 = .ok (.goto (-1286), 3) := by decide +kernel
theorem dL_law_1307 : decode cL_law 1307 = .ok (.iconst 1, 1) := by decide +kernel
theorem dL_law_1308 : decode cL_law 1308 = .ok (.ireturn, 1) := by decide +kernel
end
section
theorem dX12_init_0 : decode cX12_init 0 = .ok (.aload_n 0, 1) := by decide +kernel
theorem dX12_init_1 : decode cX12_init 1 = .ok (.invokespecial 1, 3) := by decide +kernel
theorem dX12_init_4 : decode cX12_init 4 = .ok (.aload_n 0, 1) := by decide +kernel
theorem dX12_init_5 : decode cX12_init 5 = .ok (.bipush 6, 2) := by decide +kernel
theorem dX12_init_7 : decode cX12_init 7 = .ok (.newarray .int, 2) := by decide +kernel
theorem dX12_init_9 : decode cX12_init 9 = .ok (.putfield 7, 3) := by decide +kernel
theorem dX12_init_12 : decode cX12_init 12 = .ok (.aload_n 0, 1) := by decide +kernel
theorem dX12_init_13 : decode cX12_init 13 = .ok (.bipush 8, 2) := by decide +kernel
theorem dX12_init_15 : decode cX12_init 15 = .ok (.newarray .int, 2) := by decide +kernel
theorem dX12_init_17 : decode cX12_init 17 = .ok (.putfield 13, 3) := by decide +kernel
theorem dX12_init_20 : decode cX12_init 20 = .ok (.aload_n 0, 1) := by decide +kernel
theorem dX12_init_21 : decode cX12_init 21 = .ok (.bipush 8, 2) := by decide +kernel
theorem dX12_init_23 : decode cX12_init 23 = .ok (.newarray .int, 2) := by decide +kernel
theorem dX12_init_25 : decode cX12_init 25 = .ok (.putfield 16, 3) := by decide +kernel
theorem dX12_init_28 : decode cX12_init 28 = .ok (.aload_n 0, 1) := by decide +kernel
theorem dX12_init_29 : decode cX12_init 29 = .ok (.bipush 8, 2) := by decide +kernel
theorem dX12_init_31 : decode cX12_init 31 = .ok (.newarray .int, 2) := by decide +kernel
theorem dX12_init_33 : decode cX12_init 33 = .ok (.putfield 19, 3) := by decide +kernel
theorem dX12_init_36 : decode cX12_init 36 = .ok (.aload_n 0, 1) := by decide +kernel
theorem dX12_init_37 : decode cX12_init 37 = .ok (.bipush 12, 2) := by decide +kernel
theorem dX12_init_39 : decode cX12_init 39 = .ok (.newarray .int, 2) := by decide +kernel
theorem dX12_init_41 : decode cX12_init 41 = .ok (.putfield 22, 3) := by decide +kernel
theorem dX12_init_44 : decode cX12_init 44 = .ok (.aload_n 0, 1) := by decide +kernel
theorem dX12_init_45 : decode cX12_init 45 = .ok (.bipush 12, 2) := by decide +kernel
theorem dX12_init_47 : decode cX12_init 47 = .ok (.newarray .int, 2) := by decide +kernel
theorem dX12_init_49 : decode cX12_init 49 = .ok (.putfield 25, 3) := by decide +kernel
theorem dX12_init_52 : decode cX12_init 52 = .ok (.aload_n 0, 1) := by decide +kernel
theorem dX12_init_53 : decode cX12_init 53 = .ok (.bipush 12, 2) := by decide +kernel
theorem dX12_init_55 : decode cX12_init 55 = .ok (.newarray .int, 2) := by decide +kernel
theorem dX12_init_57 : decode cX12_init 57 = .ok (.putfield 28, 3) := by decide +kernel
theorem dX12_init_60 : decode cX12_init 60 = .ok (.aload_n 0, 1) := by decide +kernel
theorem dX12_init_61 : decode cX12_init 61 = .ok (.bipush 12, 2) := by decide +kernel
theorem dX12_init_63 : decode cX12_init 63 = .ok (.newarray .int, 2) := by decide +kernel
theorem dX12_init_65 : decode cX12_init 65 = .ok (.putfield 31, 3) := by decide +kernel
theorem dX12_init_68 : decode cX12_init 68 = .ok (.aload_n 0, 1) := by decide +kernel
theorem dX12_init_69 : decode cX12_init 69 = .ok (.bipush 12, 2) := by decide +kernel
theorem dX12_init_71 : decode cX12_init 71 = .ok (.newarray .int, 2) := by decide +kernel
theorem dX12_init_73 : decode cX12_init 73 = .ok (.putfield 34, 3) := by decide +kernel
theorem dX12_init_76 : decode cX12_init 76 = .ok (.aload_n 0, 1) := by decide +kernel
theorem dX12_init_77 : decode cX12_init 77 = .ok (.sipush 400, 3) := by decide +kernel
theorem dX12_init_80 : decode cX12_init 80 = .ok (.newarray .int, 2) := by decide +kernel
theorem dX12_init_82 : decode cX12_init 82 = .ok (.putfield 37, 3) := by decide +kernel
theorem dX12_init_85 : decode cX12_init 85 = .ok (.aload_n 0, 1) := by decide +kernel
theorem dX12_init_86 : decode cX12_init 86 = .ok (.bipush 20, 2) := by decide +kernel
theorem dX12_init_88 : decode cX12_init 88 = .ok (.newarray .int, 2) := by decide +kernel
theorem dX12_init_90 : decode cX12_init 90 = .ok (.putfield 40, 3) := by decide +kernel
theorem dX12_init_93 : decode cX12_init 93 = .ok (.aload_n 0, 1) := by decide +kernel
theorem dX12_init_94 : decode cX12_init 94 = .ok (.bipush 20, 2) := by decide +kernel
theorem dX12_init_96 : decode cX12_init 96 = .ok (.newarray .int, 2) := by decide +kernel
theorem dX12_init_98 : decode cX12_init 98 = .ok (.putfield 43, 3) := by decide +kernel
theorem dX12_init_101 : decode cX12_init 101 = .ok (.aload_n 0, 1) := by decide +kernel
theorem dX12_init_102 : decode cX12_init 102 = .ok (.bipush 20, 2) := by decide +kernel
theorem dX12_init_104 : decode cX12_init 104 = .ok (.newarray .int, 2) := by decide +kernel
theorem dX12_init_106 : decode cX12_init 106 = .ok (.putfield 46, 3) := by decide +kernel
theorem dX12_init_109 : decode cX12_init 109 = .ok (.aload_n 0, 1) := by decide +kernel
theorem dX12_init_110 : decode cX12_init 110 = .ok (.bipush 20, 2) := by decide +kernel
theorem dX12_init_112 : decode cX12_init 112 = .ok (.newarray .int, 2) := by decide +kernel
theorem dX12_init_114 : decode cX12_init 114 = .ok (.putfield 49, 3) := by decide +kernel
theorem dX12_init_117 : decode cX12_init 117 = .ok (.aload_n 0, 1) := by decide +kernel
theorem dX12_init_118 : decode cX12_init 118 = .ok (.bipush 36, 2) := by decide +kernel
theorem dX12_init_120 : decode cX12_init 120 = .ok (.newarray .int, 2) := by decide +kernel
theorem dX12_init_122 : decode cX12_init 122 = .ok (.putfield 52, 3) := by decide +kernel
theorem dX12_init_125 : decode cX12_init 125 = .ok (.aload_n 0, 1) := by decide +kernel
theorem dX12_init_126 : decode cX12_init 126 = .ok (.bipush 6, 2) := by decide +kernel
theorem dX12_init_128 : decode cX12_init 128 = .ok (.newarray .int, 2) := by decide +kernel
theorem dX12_init_130 : decode cX12_init 130 = .ok (.putfield 55, 3) := by decide +kernel
theorem dX12_init_133 : decode cX12_init 133 = .ok (.aload_n 0, 1) := by decide +kernel
theorem dX12_init_134 : decode cX12_init 134 = .ok (.bipush 6, 2) := by decide +kernel
theorem dX12_init_136 : decode cX12_init 136 = .ok (.newarray .boolean, 2) := by decide +kernel
theorem dX12_init_138 : decode cX12_init 138 = .ok (.putfield 58, 3) := by decide +kernel
theorem dX12_init_141 : decode cX12_init 141 = .ok (.aload_n 0, 1) := by decide +kernel
theorem dX12_init_142 : decode cX12_init 142 = .ok (.bipush 40, 2) := by decide +kernel
theorem dX12_init_144 : decode cX12_init 144 = .ok (.newarray .int, 2) := by decide +kernel
theorem dX12_init_146 : decode cX12_init 146 = .ok (.putfield 62, 3) := by decide +kernel
theorem dX12_init_149 : decode cX12_init 149 = .ok (.aload_n 0, 1) := by decide +kernel
theorem dX12_init_150 : decode cX12_init 150 = .ok (.bipush 40, 2) := by decide +kernel
theorem dX12_init_152 : decode cX12_init 152 = .ok (.newarray .int, 2) := by decide +kernel
theorem dX12_init_154 : decode cX12_init 154 = .ok (.putfield 65, 3) := by decide +kernel
theorem dX12_init_157 : decode cX12_init 157 = .ok (.aload_n 0, 1) := by decide +kernel
theorem dX12_init_158 : decode cX12_init 158 = .ok (.bipush 40, 2) := by decide +kernel
theorem dX12_init_160 : decode cX12_init 160 = .ok (.newarray .int, 2) := by decide +kernel
theorem dX12_init_162 : decode cX12_init 162 = .ok (.putfield 68, 3) := by decide +kernel
theorem dX12_init_165 : decode cX12_init 165 = .ok (.aload_n 0, 1) := by decide +kernel
theorem dX12_init_166 : decode cX12_init 166 = .ok (.sipush 600, 3) := by decide +kernel
theorem dX12_init_169 : decode cX12_init 169 = .ok (.newarray .int, 2) := by decide +kernel
theorem dX12_init_171 : decode cX12_init 171 = .ok (.putfield 71, 3) := by decide +kernel
theorem dX12_init_174 : decode cX12_init 174 = .ok (.aload_n 0, 1) := by decide +kernel
theorem dX12_init_175 : decode cX12_init 175 = .ok (.sipush 240, 3) := by decide +kernel
theorem dX12_init_178 : decode cX12_init 178 = .ok (.newarray .int, 2) := by decide +kernel
theorem dX12_init_180 : decode cX12_init 180 = .ok (.putfield 74, 3) := by decide +kernel
theorem dX12_init_183 : decode cX12_init 183 = .ok (.aload_n 0, 1) := by decide +kernel
theorem dX12_init_184 : decode cX12_init 184 = .ok (.sipush 1000, 3) := by decide +kernel
theorem dX12_init_187 : decode cX12_init 187 = .ok (.newarray .int, 2) := by decide +kernel
theorem dX12_init_189 : decode cX12_init 189 = .ok (.putfield 77, 3) := by decide +kernel
theorem dX12_init_192 : decode cX12_init 192 = .ok (.iconst 0, 1) := by decide +kernel
theorem dX12_init_193 : decode cX12_init 193 = .ok (.istore_n 1, 1) := by decide +kernel
theorem dX12_init_194 : decode cX12_init 194 = .ok (.iload_n 1, 1) := by decide +kernel
theorem dX12_init_195 : decode cX12_init 195 = .ok (.bipush 36, 2) := by decide +kernel
theorem dX12_init_197 : decode cX12_init 197 = .ok (.if_icmp .ge 17, 3) := by decide +kernel
theorem dX12_init_200 : decode cX12_init 200 = .ok (.aload_n 0, 1) := by decide +kernel
theorem dX12_init_201 : decode cX12_init 201 = .ok (.getfield 52, 3) := by decide +kernel
theorem dX12_init_204 : decode cX12_init 204 = .ok (.iload_n 1, 1) := by decide +kernel
theorem dX12_init_205 : decode cX12_init 205 = .ok (.bipush (-9), 2) := by decide +kernel
theorem dX12_init_207 : decode cX12_init 207 = .ok (.iastore, 1) := by decide +kernel
theorem dX12_init_208 : decode cX12_init 208 = .ok (.iinc 1 1, 3) := by decide +kernel
theorem dX12_init_211 : decode cX12_init 211 = .ok (.goto (-17), 3) := by decide +kernel
theorem dX12_init_214 : decode cX12_init 214 = .ok (.return_, 1) := by decide +kernel
theorem dX12_in_0 : decode cX12_in 0 = .ok (.iload_n 0, 1) := by decide +kernel
theorem dX12_in_1 : decode cX12_in 1 = .ok (.iload_n 1, 1) := by decide +kernel
theorem dX12_in_2 : decode cX12_in 2 = .ok (.if_icmp .lt 12, 3) := by decide +kernel
theorem dX12_in_5 : decode cX12_in 5 = .ok (.iload_n 0, 1) := by decide +kernel
theorem dX12_in_6 : decode cX12_in 6 = .ok (.iload_n 2, 1) := by decide +kernel
theorem dX12_in_7 : decode cX12_in 7 = .ok (.if_icmp .gt 7, 3) := by decide +kernel
theorem dX12_in_10 : decode cX12_in 10 = .ok (.iconst 1, 1) := by decide +kernel
theorem dX12_in_11 : decode cX12_in 11 = .ok (.goto 4, 3) := by decide +kernel
theorem dX12_in_14 : decode cX12_in 14 = .ok (.iconst 0, 1) := by decide +kernel
theorem dX12_in_15 : decode cX12_in 15 = .ok (.ireturn, 1) := by decide +kernel
theorem dX12_isDay_0 : decode cX12_isDay 0 = .ok (.iload_n 0, 1) := by decide +kernel
theorem dX12_isDay_1 : decode cX12_isDay 1 = .ok (.iconst 0, 1) := by decide +kernel
theorem dX12_isDay_2 : decode cX12_isDay 2 = .ok (.sipush 999, 3) := by decide +kernel
theorem dX12_isDay_5 : decode cX12_isDay 5 = .ok (.invokestatic 84, 3) := by decide +kernel
theorem dX12_isDay_8 : decode cX12_isDay 8 = .ok (.ireturn, 1) := by decide +kernel
theorem dX12_isTown_0 : decode cX12_isTown 0 = .ok (.iload_n 0, 1) := by decide +kernel
theorem dX12_isTown_1 : decode cX12_isTown 1 = .ok (.iconst 0, 1) := by decide +kernel
theorem dX12_isTown_2 : decode cX12_isTown 2 = .ok (.iconst 5, 1) := by decide +kernel
theorem dX12_isTown_3 : decode cX12_isTown 3 = .ok (.invokestatic 84, 3) := by decide +kernel
theorem dX12_isTown_6 : decode cX12_isTown 6 = .ok (.ireturn, 1) := by decide +kernel
theorem dX12_isCover_0 : decode cX12_isCover 0 = .ok (.iload_n 0, 1) := by decide +kernel
theorem dX12_isCover_1 : decode cX12_isCover 1 = .ok (.iconst 0, 1) := by decide +kernel
theorem dX12_isCover_2 : decode cX12_isCover 2 = .ok (.bipush 7, 2) := by decide +kernel
theorem dX12_isCover_4 : decode cX12_isCover 4 = .ok (.invokestatic 84, 3) := by decide +kernel
theorem dX12_isCover_7 : decode cX12_isCover 7 = .ok (.ireturn, 1) := by decide +kernel
theorem dX12_isMark_0 : decode cX12_isMark 0 = .ok (.iload_n 1, 1) := by decide +kernel
theorem dX12_isMark_1 : decode cX12_isMark 1 = .ok (.iconst 0, 1) := by decide +kernel
theorem dX12_isMark_2 : decode cX12_isMark 2 = .ok (.aload_n 0, 1) := by decide +kernel
theorem dX12_isMark_3 : decode cX12_isMark 3 = .ok (.getfield 88, 3) := by decide +kernel
theorem dX12_isMark_6 : decode cX12_isMark 6 = .ok (.iconst 1, 1) := by decide +kernel
theorem dX12_isMark_7 : decode cX12_isMark 7 = .ok (.isub, 1) := by decide +kernel
theorem dX12_isMark_8 : decode cX12_isMark 8 = .ok (.invokestatic 84, 3) := by decide +kernel
theorem dX12_isMark_11 : decode cX12_isMark 11 = .ok (.ireturn, 1) := by decide +kernel
theorem dX12_town_0 : decode cX12_town 0 = .ok (.aload_n 0, 1) := by decide +kernel
theorem dX12_town_1 : decode cX12_town 1 = .ok (.iconst 0, 1) := by decide +kernel
theorem dX12_town_2 : decode cX12_town 2 = .ok (.putfield 80, 3) := by decide +kernel
theorem dX12_town_5 : decode cX12_town 5 = .ok (.iload_n 1, 1) := by decide +kernel
theorem dX12_town_6 : decode cX12_town 6 = .ok (.invokestatic 91, 3) := by decide +kernel
theorem dX12_town_9 : decode cX12_town 9 = .ok (.ifCond .eq 12, 3) := by decide +kernel
theorem dX12_town_12 : decode cX12_town 12 = .ok (.iload_n 2, 1) := by decide +kernel
theorem dX12_town_13 : decode cX12_town 13 = .ok (.iconst 0, 1) := by decide +kernel
theorem dX12_town_14 : decode cX12_town 14 = .ok (.iconst 2, 1) := by decide +kernel
theorem dX12_town_15 : decode cX12_town 15 = .ok (.invokestatic 84, 3) := by decide +kernel
theorem dX12_town_18 : decode cX12_town 18 = .ok (.ifCond .ne 5, 3) := by decide +kernel
theorem dX12_town_21 : decode cX12_town 21 = .ok (.iconst (-1), 1) := by decide +kernel
theorem dX12_town_22 : decode cX12_town 22 = .ok (.ireturn, 1) := by decide +kernel
theorem dX12_town_23 : decode cX12_town 23 = .ok (.aload_n 0, 1) := by decide +kernel
theorem dX12_town_24 : decode cX12_town 24 = .ok (.getfield 7, 3) := by decide +kernel
theorem dX12_town_27 : decode cX12_town 27 = .ok (.iload_n 1, 1) := by decide +kernel
theorem dX12_town_28 : decode cX12_town 28 = .ok (.iaload, 1) := by decide +kernel
theorem dX12_town_29 : decode cX12_town 29 = .ok (.istore_n 3, 1) := by decide +kernel
theorem dX12_town_30 : decode cX12_town 30 = .ok (.aload_n 0, 1) := by decide +kernel
theorem dX12_town_31 : decode cX12_town 31 = .ok (.getfield 7, 3) := by decide +kernel
theorem dX12_town_34 : decode cX12_town 34 = .ok (.iload_n 1, 1) := by decide +kernel
theorem dX12_town_35 : decode cX12_town 35 = .ok (.iload_n 2, 1) := by decide +kernel
theorem dX12_town_36 : decode cX12_town 36 = .ok (.iastore, 1) := by decide +kernel
theorem dX12_town_37 : decode cX12_town 37 = .ok (.iload_n 3, 1) := by decide +kernel
theorem dX12_town_38 : decode cX12_town 38 = .ok (.ireturn, 1) := by decide +kernel
theorem dX12_office_0 : decode cX12_office 0 = .ok (.aload_n 0, 1) := by decide +kernel
theorem dX12_office_1 : decode cX12_office 1 = .ok (.iconst 0, 1) := by decide +kernel
theorem dX12_office_2 : decode cX12_office 2 = .ok (.putfield 80, 3) := by decide +kernel
theorem dX12_office_5 : decode cX12_office 5 = .ok (.iload_n 1, 1) := by decide +kernel
theorem dX12_office_6 : decode cX12_office 6 = .ok (.invokestatic 91, 3) := by decide +kernel
theorem dX12_office_9 : decode cX12_office 9 = .ok (.ifCond .eq 21, 3) := by decide +kernel
theorem dX12_office_12 : decode cX12_office 12 = .ok (.iload_n 2, 1) := by decide +kernel
theorem dX12_office_13 : decode cX12_office 13 = .ok (.invokestatic 95, 3) := by decide +kernel
theorem dX12_office_16 : decode cX12_office 16 = .ok (.ifCond .eq 14, 3) := by decide +kernel
theorem dX12_office_19 : decode cX12_office 19 = .ok (.iload_n 3, 1) := by decide +kernel
theorem dX12_office_20 : decode cX12_office 20 = .ok (.iload_n 2, 1) := by decide +kernel
theorem dX12_office_21 : decode cX12_office 21 = .ok (.sipush 999, 3) := by decide +kernel
theorem dX12_office_24 : decode cX12_office 24 = .ok (.invokestatic 84, 3) := by decide +kernel
theorem dX12_office_27 : decode cX12_office 27 = .ok (.ifCond .ne 5, 3) := by decide +kernel
theorem dX12_office_30 : decode cX12_office 30 = .ok (.iconst (-1), 1) := by decide +kernel
theorem dX12_office_31 : decode cX12_office 31 = .ok (.ireturn, 1) := by decide +kernel
theorem dX12_office_32 : decode cX12_office 32 = .ok (.aload_n 0, 1) := by decide +kernel
theorem dX12_office_33 : decode cX12_office 33 = .ok (.getfield 98, 3) := by decide +kernel
theorem dX12_office_36 : decode cX12_office 36 = .ok (.bipush 8, 2) := by decide +kernel
theorem dX12_office_38 : decode cX12_office 38 = .ok (.if_icmp .ne 6, 3) := by decide +kernel
theorem dX12_office_41 : decode cX12_office 41 = .ok (.bipush (-3), 2) := by decide +kernel
theorem dX12_office_43 : decode cX12_office 43 = .ok (.ireturn, 1) := by decide +kernel
theorem dX12_office_44 : decode cX12_office 44 = .ok (.aload_n 0, 1) := by decide +kernel
theorem dX12_office_45 : decode cX12_office 45 = .ok (.getfield 13, 3) := by decide +kernel
theorem dX12_office_48 : decode cX12_office 48 = .ok (.aload_n 0, 1) := by decide +kernel
theorem dX12_office_49 : decode cX12_office 49 = .ok (.getfield 98, 3) := by decide +kernel
theorem dX12_office_52 : decode cX12_office 52 = .ok (.iload_n 1, 1) := by decide +kernel
theorem dX12_office_53 : decode cX12_office 53 = .ok (.iastore, 1) := by decide +kernel
theorem dX12_office_54 : decode cX12_office 54 = .ok (.aload_n 0, 1) := by decide +kernel
theorem dX12_office_55 : decode cX12_office 55 = .ok (.getfield 16, 3) := by decide +kernel
theorem dX12_office_58 : decode cX12_office 58 = .ok (.aload_n 0, 1) := by decide +kernel
theorem dX12_office_59 : decode cX12_office 59 = .ok (.getfield 98, 3) := by decide +kernel
theorem dX12_office_62 : decode cX12_office 62 = .ok (.iload_n 2, 1) := by decide +kernel
theorem dX12_office_63 : decode cX12_office 63 = .ok (.iastore, 1) := by decide +kernel
theorem dX12_office_64 : decode cX12_office 64 = .ok (.aload_n 0, 1) := by decide +kernel
theorem dX12_office_65 : decode cX12_office 65 = .ok (.getfield 19, 3) := by decide +kernel
theorem dX12_office_68 : decode cX12_office 68 = .ok (.aload_n 0, 1) := by decide +kernel
theorem dX12_office_69 : decode cX12_office 69 = .ok (.getfield 98, 3) := by decide +kernel
theorem dX12_office_72 : decode cX12_office 72 = .ok (.iload_n 3, 1) := by decide +kernel
theorem dX12_office_73 : decode cX12_office 73 = .ok (.iastore, 1) := by decide +kernel
theorem dX12_office_74 : decode cX12_office 74 = .ok (.aload_n 0, 1) := by decide +kernel
theorem dX12_office_75 : decode cX12_office 75 = .ok (.dup, 1) := by decide +kernel
theorem dX12_office_76 : decode cX12_office 76 = .ok (.getfield 98, 3) := by decide +kernel
theorem dX12_office_79 : decode cX12_office 79 = .ok (.iconst 1, 1) := by decide +kernel
theorem dX12_office_80 : decode cX12_office 80 = .ok (.iadd, 1) := by decide +kernel
theorem dX12_office_81 : decode cX12_office 81 = .ok (.putfield 98, 3) := by decide +kernel
theorem dX12_office_84 : decode cX12_office 84 = .ok (.aload_n 0, 1) := by decide +kernel
theorem dX12_office_85 : decode cX12_office 85 = .ok (.getfield 98, 3) := by decide +kernel
theorem dX12_office_88 : decode cX12_office 88 = .ok (.iconst 1, 1) := by decide +kernel
theorem dX12_office_89 : decode cX12_office 89 = .ok (.isub, 1) := by decide +kernel
theorem dX12_office_90 : decode cX12_office 90 = .ok (.ireturn, 1) := by decide +kernel
theorem dX12_die_0 : decode cX12_die 0 = .ok (.aload_n 0, 1) := by decide +kernel
theorem dX12_die_1 : decode cX12_die 1 = .ok (.iconst 0, 1) := by decide +kernel
theorem dX12_die_2 : decode cX12_die 2 = .ok (.putfield 80, 3) := by decide +kernel
theorem dX12_die_5 : decode cX12_die 5 = .ok (.iload_n 1, 1) := by decide +kernel
theorem dX12_die_6 : decode cX12_die 6 = .ok (.iconst 0, 1) := by decide +kernel
theorem dX12_die_7 : decode cX12_die 7 = .ok (.aload_n 0, 1) := by decide +kernel
theorem dX12_die_8 : decode cX12_die 8 = .ok (.getfield 98, 3) := by decide +kernel
theorem dX12_die_11 : decode cX12_die 11 = .ok (.iconst 1, 1) := by decide +kernel
theorem dX12_die_12 : decode cX12_die 12 = .ok (.isub, 1) := by decide +kernel
theorem dX12_die_13 : decode cX12_die 13 = .ok (.invokestatic 84, 3) := by decide +kernel
theorem dX12_die_16 : decode cX12_die 16 = .ok (.ifCond .eq 47, 3) := by decide +kernel
theorem dX12_die_19 : decode cX12_die 19 = .ok (.iload_n 2, 1) := by decide +kernel
theorem dX12_die_20 : decode cX12_die 20 = .ok (.iconst 0, 1) := by decide +kernel
theorem dX12_die_21 : decode cX12_die 21 = .ok (.bipush 15, 2) := by decide +kernel
theorem dX12_die_23 : decode cX12_die 23 = .ok (.invokestatic 84, 3) := by decide +kernel
theorem dX12_die_26 : decode cX12_die 26 = .ok (.ifCond .eq 37, 3) := by decide +kernel
theorem dX12_die_29 : decode cX12_die 29 = .ok (.iload_n 3, 1) := by decide +kernel
theorem dX12_die_30 : decode cX12_die 30 = .ok (.invokestatic 95, 3) := by decide +kernel
theorem dX12_die_33 : decode cX12_die 33 = .ok (.ifCond .eq 30, 3) := by decide +kernel
theorem dX12_die_36 : decode cX12_die 36 = .ok (.iload 4, 2) := by decide +kernel
theorem dX12_die_38 : decode cX12_die 38 = .ok (.iload_n 3, 1) := by decide +kernel
theorem dX12_die_39 : decode cX12_die 39 = .ok (.sipush 999, 3) := by decide +kernel
theorem dX12_die_42 : decode cX12_die 42 = .ok (.invokestatic 84, 3) := by decide +kernel
theorem dX12_die_45 : decode cX12_die 45 = .ok (.ifCond .eq 18, 3) := by decide +kernel
theorem dX12_die_48 : decode cX12_die 48 = .ok (.iload 5, 2) := by decide +kernel
theorem dX12_die_50 : decode cX12_die 50 = .ok (.bipush (-9), 2) := by decide +kernel
theorem dX12_die_52 : decode cX12_die 52 = .ok (.if_icmp .eq 13, 3) := by decide +kernel
theorem dX12_die_55 : decode cX12_die 55 = .ok (.iload 5, 2) := by decide +kernel
theorem dX12_die_57 : decode cX12_die 57 = .ok (.invokestatic 95, 3) := by decide +kernel
theorem dX12_die_60 : decode cX12_die 60 = .ok (.ifCond .ne 5, 3) := by decide +kernel
theorem dX12_die_63 : decode cX12_die 63 = .ok (.iconst (-1), 1) := by decide +kernel
theorem dX12_die_64 : decode cX12_die 64 = .ok (.ireturn, 1) := by decide +kernel
theorem dX12_die_65 : decode cX12_die 65 = .ok (.aload_n 0, 1) := by decide +kernel
theorem dX12_die_66 : decode cX12_die 66 = .ok (.getfield 101, 3) := by decide +kernel
theorem dX12_die_69 : decode cX12_die 69 = .ok (.bipush 12, 2) := by decide +kernel
theorem dX12_die_71 : decode cX12_die 71 = .ok (.if_icmp .ne 6, 3) := by decide +kernel
theorem dX12_die_74 : decode cX12_die 74 = .ok (.bipush (-3), 2) := by decide +kernel
theorem dX12_die_76 : decode cX12_die 76 = .ok (.ireturn, 1) := by decide +kernel
theorem dX12_die_77 : decode cX12_die 77 = .ok (.aload_n 0, 1) := by decide +kernel
theorem dX12_die_78 : decode cX12_die 78 = .ok (.getfield 22, 3) := by decide +kernel
theorem dX12_die_81 : decode cX12_die 81 = .ok (.aload_n 0, 1) := by decide +kernel
theorem dX12_die_82 : decode cX12_die 82 = .ok (.getfield 101, 3) := by decide +kernel
theorem dX12_die_85 : decode cX12_die 85 = .ok (.iload_n 1, 1) := by decide +kernel
theorem dX12_die_86 : decode cX12_die 86 = .ok (.iastore, 1) := by decide +kernel
theorem dX12_die_87 : decode cX12_die 87 = .ok (.aload_n 0, 1) := by decide +kernel
theorem dX12_die_88 : decode cX12_die 88 = .ok (.getfield 25, 3) := by decide +kernel
theorem dX12_die_91 : decode cX12_die 91 = .ok (.aload_n 0, 1) := by decide +kernel
theorem dX12_die_92 : decode cX12_die 92 = .ok (.getfield 101, 3) := by decide +kernel
theorem dX12_die_95 : decode cX12_die 95 = .ok (.iload_n 2, 1) := by decide +kernel
theorem dX12_die_96 : decode cX12_die 96 = .ok (.iastore, 1) := by decide +kernel
theorem dX12_die_97 : decode cX12_die 97 = .ok (.aload_n 0, 1) := by decide +kernel
theorem dX12_die_98 : decode cX12_die 98 = .ok (.getfield 28, 3) := by decide +kernel
theorem dX12_die_101 : decode cX12_die 101 = .ok (.aload_n 0, 1) := by decide +kernel
theorem dX12_die_102 : decode cX12_die 102 = .ok (.getfield 101, 3) := by decide +kernel
theorem dX12_die_105 : decode cX12_die 105 = .ok (.iload_n 3, 1) := by decide +kernel
theorem dX12_die_106 : decode cX12_die 106 = .ok (.iastore, 1) := by decide +kernel
theorem dX12_die_107 : decode cX12_die 107 = .ok (.aload_n 0, 1) := by decide +kernel
theorem dX12_die_108 : decode cX12_die 108 = .ok (.getfield 31, 3) := by decide +kernel
theorem dX12_die_111 : decode cX12_die 111 = .ok (.aload_n 0, 1) := by decide +kernel
theorem dX12_die_112 : decode cX12_die 112 = .ok (.getfield 101, 3) := by decide +kernel
theorem dX12_die_115 : decode cX12_die 115 = .ok (.iload 4, 2) := by decide +kernel
theorem dX12_die_117 : decode cX12_die 117 = .ok (.iastore, 1) := by decide +kernel
theorem dX12_die_118 : decode cX12_die 118 = .ok (.aload_n 0, 1) := by decide +kernel
theorem dX12_die_119 : decode cX12_die 119 = .ok (.getfield 34, 3) := by decide +kernel
theorem dX12_die_122 : decode cX12_die 122 = .ok (.aload_n 0, 1) := by decide +kernel
theorem dX12_die_123 : decode cX12_die 123 = .ok (.getfield 101, 3) := by decide +kernel
theorem dX12_die_126 : decode cX12_die 126 = .ok (.iload 5, 2) := by decide +kernel
theorem dX12_die_128 : decode cX12_die 128 = .ok (.iastore, 1) := by decide +kernel
theorem dX12_die_129 : decode cX12_die 129 = .ok (.aload_n 0, 1) := by decide +kernel
theorem dX12_die_130 : decode cX12_die 130 = .ok (.dup, 1) := by decide +kernel
theorem dX12_die_131 : decode cX12_die 131 = .ok (.getfield 101, 3) := by decide +kernel
theorem dX12_die_134 : decode cX12_die 134 = .ok (.iconst 1, 1) := by decide +kernel
theorem dX12_die_135 : decode cX12_die 135 = .ok (.iadd, 1) := by decide +kernel
theorem dX12_die_136 : decode cX12_die 136 = .ok (.putfield 101, 3) := by decide +kernel
theorem dX12_die_139 : decode cX12_die 139 = .ok (.aload_n 0, 1) := by decide +kernel
theorem dX12_die_140 : decode cX12_die 140 = .ok (.getfield 101, 3) := by decide +kernel
theorem dX12_die_143 : decode cX12_die 143 = .ok (.iconst 1, 1) := by decide +kernel
theorem dX12_die_144 : decode cX12_die 144 = .ok (.isub, 1) := by decide +kernel
theorem dX12_die_145 : decode cX12_die 145 = .ok (.ireturn, 1) := by decide +kernel
theorem dX12_isFigure_0 : decode cX12_isFigure 0 = .ok (.iload_n 0, 1) := by decide +kernel
theorem dX12_isFigure_1 : decode cX12_isFigure 1 = .ok (.bipush 63, 2) := by decide +kernel
theorem dX12_isFigure_3 : decode cX12_isFigure 3 = .ok (.if_icmp .eq 14, 3) := by decide +kernel
theorem dX12_isFigure_6 : decode cX12_isFigure 6 = .ok (.iload_n 0, 1) := by decide +kernel
theorem dX12_isFigure_7 : decode cX12_isFigure 7 = .ok (.bipush 48, 2) := by decide +kernel
theorem dX12_isFigure_9 : decode cX12_isFigure 9 = .ok (.bipush 57, 2) := by decide +kernel
theorem dX12_isFigure_11 : decode cX12_isFigure 11 = .ok (.invokestatic 84, 3) := by decide +kernel
theorem dX12_isFigure_14 : decode cX12_isFigure 14 = .ok (.ifCond .eq 7, 3) := by decide +kernel
theorem dX12_isFigure_17 : decode cX12_isFigure 17 = .ok (.iconst 1, 1) := by decide +kernel
theorem dX12_isFigure_18 : decode cX12_isFigure 18 = .ok (.goto 4, 3) := by decide +kernel
theorem dX12_isFigure_21 : decode cX12_isFigure 21 = .ok (.iconst 0, 1) := by decide +kernel
theorem dX12_isFigure_22 : decode cX12_isFigure 22 = .ok (.ireturn, 1) := by decide +kernel
theorem dX12_mark_0 : decode cX12_mark 0 = .ok (.aload_n 0, 1) := by decide +kernel
theorem dX12_mark_1 : decode cX12_mark 1 = .ok (.iconst 0, 1) := by decide +kernel
theorem dX12_mark_2 : decode cX12_mark 2 = .ok (.putfield 80, 3) := by decide +kernel
theorem dX12_mark_5 : decode cX12_mark 5 = .ok (.iload_n 1, 1) := by decide +kernel
theorem dX12_mark_6 : decode cX12_mark 6 = .ok (.invokestatic 104, 3) := by decide +kernel
theorem dX12_mark_9 : decode cX12_mark 9 = .ok (.ifCond .eq 135, 3) := by decide +kernel
theorem dX12_mark_12 : decode cX12_mark 12 = .ok (.iload_n 2, 1) := by decide +kernel
theorem dX12_mark_13 : decode cX12_mark 13 = .ok (.iconst 0, 1) := by decide +kernel
theorem dX12_mark_14 : decode cX12_mark 14 = .ok (.iconst 5, 1) := by decide +kernel
theorem dX12_mark_15 : decode cX12_mark 15 = .ok (.invokestatic 84, 3) := by decide +kernel
theorem dX12_mark_18 : decode cX12_mark 18 = .ok (.ifCond .eq 126, 3) := by decide +kernel
theorem dX12_mark_21 : decode cX12_mark 21 = .ok (.iload_n 3, 1) := by decide +kernel
theorem dX12_mark_22 : decode cX12_mark 22 = .ok (.bipush (-9), 2) := by decide +kernel
theorem dX12_mark_24 : decode cX12_mark 24 = .ok (.if_icmp .eq 17, 3) := by decide +kernel
theorem dX12_mark_27 : decode cX12_mark 27 = .ok (.iload_n 3, 1) := by decide +kernel
theorem dX12_mark_28 : decode cX12_mark 28 = .ok (.iconst 0, 1) := by decide +kernel
theorem dX12_mark_29 : decode cX12_mark 29 = .ok (.aload_n 0, 1) := by decide +kernel
theorem dX12_mark_30 : decode cX12_mark 30 = .ok (.getfield 101, 3) := by decide +kernel
theorem dX12_mark_33 : decode cX12_mark 33 = .ok (.iconst 1, 1) := by decide +kernel
theorem dX12_mark_34 : decode cX12_mark 34 = .ok (.isub, 1) := by decide +kernel
theorem dX12_mark_35 : decode cX12_mark 35 = .ok (.invokestatic 84, 3) := by decide +kernel
theorem dX12_mark_38 : decode cX12_mark 38 = .ok (.ifCond .eq 106, 3) := by decide +kernel
theorem dX12_mark_41 : decode cX12_mark 41 = .ok (.iload 4, 2) := by decide +kernel
theorem dX12_mark_43 : decode cX12_mark 43 = .ok (.iconst 0, 1) := by decide +kernel
theorem dX12_mark_44 : decode cX12_mark 44 = .ok (.iconst 3, 1) := by decide +kernel
theorem dX12_mark_45 : decode cX12_mark 45 = .ok (.invokestatic 84, 3) := by decide +kernel
theorem dX12_mark_48 : decode cX12_mark 48 = .ok (.ifCond .eq 96, 3) := by decide +kernel
theorem dX12_mark_51 : decode cX12_mark 51 = .ok (.iload 5, 2) := by decide +kernel
theorem dX12_mark_53 : decode cX12_mark 53 = .ok (.bipush (-9), 2) := by decide +kernel
theorem dX12_mark_55 : decode cX12_mark 55 = .ok (.if_icmp .eq 13, 3) := by decide +kernel
theorem dX12_mark_58 : decode cX12_mark 58 = .ok (.iload 5, 2) := by decide +kernel
theorem dX12_mark_60 : decode cX12_mark 60 = .ok (.iconst 0, 1) := by decide +kernel
theorem dX12_mark_61 : decode cX12_mark 61 = .ok (.iconst 1, 1) := by decide +kernel
theorem dX12_mark_62 : decode cX12_mark 62 = .ok (.invokestatic 84, 3) := by decide +kernel
theorem dX12_mark_65 : decode cX12_mark 65 = .ok (.ifCond .eq 79, 3) := by decide +kernel
theorem dX12_mark_68 : decode cX12_mark 68 = .ok (.iload 6, 2) := by decide +kernel
theorem dX12_mark_70 : decode cX12_mark 70 = .ok (.iconst 0, 1) := by decide +kernel
theorem dX12_mark_71 : decode cX12_mark 71 = .ok (.ldc 107, 2) := by decide +kernel
theorem dX12_mark_73 : decode cX12_mark 73 = .ok (.invokestatic 84, 3) := by decide +kernel
theorem dX12_mark_76 : decode cX12_mark 76 = .ok (.ifCond .eq 68, 3) := by decide +kernel
theorem dX12_mark_79 : decode cX12_mark 79 = .ok (.iload 6, 2) := by decide +kernel
theorem dX12_mark_81 : decode cX12_mark 81 = .ok (.bipush 16, 2) := by decide +kernel
theorem dX12_mark_83 : decode cX12_mark 83 = .ok (.ishr, 1) := by decide +kernel
theorem dX12_mark_84 : decode cX12_mark 84 = .ok (.invokestatic 108, 3) := by decide +kernel
theorem dX12_mark_87 : decode cX12_mark 87 = .ok (.ifCond .eq 57, 3) := by decide +kernel
theorem dX12_mark_90 : decode cX12_mark 90 = .ok (.iload 6, 2) := by decide +kernel
theorem dX12_mark_92 : decode cX12_mark 92 = .ok (.bipush 8, 2) := by decide +kernel
theorem dX12_mark_94 : decode cX12_mark 94 = .ok (.ishr, 1) := by decide +kernel
theorem dX12_mark_95 : decode cX12_mark 95 = .ok (.sipush 255, 3) := by decide +kernel
theorem dX12_mark_98 : decode cX12_mark 98 = .ok (.iand, 1) := by decide +kernel
theorem dX12_mark_99 : decode cX12_mark 99 = .ok (.invokestatic 108, 3) := by decide +kernel
theorem dX12_mark_102 : decode cX12_mark 102 = .ok (.ifCond .eq 42, 3) := by decide +kernel
theorem dX12_mark_105 : decode cX12_mark 105 = .ok (.iload 6, 2) := by decide +kernel
theorem dX12_mark_107 : decode cX12_mark 107 = .ok (.sipush 255, 3) := by decide +kernel
theorem dX12_mark_110 : decode cX12_mark 110 = .ok (.iand, 1) := by decide +kernel
theorem dX12_mark_111 : decode cX12_mark 111 = .ok (.invokestatic 108, 3) := by decide +kernel
theorem dX12_mark_114 : decode cX12_mark 114 = .ok (.ifCond .eq 30, 3) := by decide +kernel
theorem dX12_mark_117 : decode cX12_mark 117 = .ok (.iload 7, 2) := by decide +kernel
theorem dX12_mark_119 : decode cX12_mark 119 = .ok (.bipush (-9), 2) := by decide +kernel
theorem dX12_mark_121 : decode cX12_mark 121 = .ok (.if_icmp .eq 15, 3) := by decide +kernel
theorem dX12_mark_124 : decode cX12_mark 124 = .ok (.iload 7, 2) := by decide +kernel
theorem dX12_mark_126 : decode cX12_mark 126 = .ok (.iconst 0, 1) := by decide +kernel
theorem dX12_mark_127 : decode cX12_mark 127 = .ok (.sipush 999, 3) := by decide +kernel
theorem dX12_mark_130 : decode cX12_mark 130 = .ok (.invokestatic 84, 3) := by decide +kernel
theorem dX12_mark_133 : decode cX12_mark 133 = .ok (.ifCond .eq 11, 3) := by decide +kernel
theorem dX12_mark_136 : decode cX12_mark 136 = .ok (.iload 8, 2) := by decide +kernel
theorem dX12_mark_138 : decode cX12_mark 138 = .ok (.invokestatic 95, 3) := by decide +kernel
theorem dX12_mark_141 : decode cX12_mark 141 = .ok (.ifCond .ne 5, 3) := by decide +kernel
theorem dX12_mark_144 : decode cX12_mark 144 = .ok (.iconst (-1), 1) := by decide +kernel
theorem dX12_mark_145 : decode cX12_mark 145 = .ok (.ireturn, 1) := by decide +kernel
theorem dX12_mark_146 : decode cX12_mark 146 = .ok (.aload_n 0, 1) := by decide +kernel
theorem dX12_mark_147 : decode cX12_mark 147 = .ok (.getfield 88, 3) := by decide +kernel
theorem dX12_mark_150 : decode cX12_mark 150 = .ok (.bipush 40, 2) := by decide +kernel
theorem dX12_mark_152 : decode cX12_mark 152 = .ok (.if_icmp .ne 6, 3) := by decide +kernel
theorem dX12_mark_155 : decode cX12_mark 155 = .ok (.bipush (-3), 2) := by decide +kernel
theorem dX12_mark_157 : decode cX12_mark 157 = .ok (.ireturn, 1) := by decide +kernel
theorem dX12_mark_158 : decode cX12_mark 158 = .ok (.bipush 10, 2) := by decide +kernel
theorem dX12_mark_160 : decode cX12_mark 160 = .ok (.aload_n 0, 1) := by decide +kernel
theorem dX12_mark_161 : decode cX12_mark 161 = .ok (.getfield 88, 3) := by decide +kernel
theorem dX12_mark_164 : decode cX12_mark 164 = .ok (.imul, 1) := by decide +kernel
theorem dX12_mark_165 : decode cX12_mark 165 = .ok (.istore 9, 2) := by decide +kernel
theorem dX12_mark_167 : decode cX12_mark 167 = .ok (.aload_n 0, 1) := by decide +kernel
theorem dX12_mark_168 : decode cX12_mark 168 = .ok (.getfield 37, 3) := by decide +kernel
theorem dX12_mark_171 : decode cX12_mark 171 = .ok (.iload 9, 2) := by decide +kernel
theorem dX12_mark_173 : decode cX12_mark 173 = .ok (.iload_n 1, 1) := by decide +kernel
theorem dX12_mark_174 : decode cX12_mark 174 = .ok (.iastore, 1) := by decide +kernel
theorem dX12_mark_175 : decode cX12_mark 175 = .ok (.aload_n 0, 1) := by decide +kernel
theorem dX12_mark_176 : decode cX12_mark 176 = .ok (.getfield 37, 3) := by decide +kernel
theorem dX12_mark_179 : decode cX12_mark 179 = .ok (.iload 9, 2) := by decide +kernel
theorem dX12_mark_181 : decode cX12_mark 181 = .ok (.iconst 1, 1) := by decide +kernel
theorem dX12_mark_182 : decode cX12_mark 182 = .ok (.iadd, 1) := by decide +kernel
theorem dX12_mark_183 : decode cX12_mark 183 = .ok (.iload_n 2, 1) := by decide +kernel
theorem dX12_mark_184 : decode cX12_mark 184 = .ok (.iastore, 1) := by decide +kernel
theorem dX12_mark_185 : decode cX12_mark 185 = .ok (.aload_n 0, 1) := by decide +kernel
theorem dX12_mark_186 : decode cX12_mark 186 = .ok (.getfield 37, 3) := by decide +kernel
theorem dX12_mark_189 : decode cX12_mark 189 = .ok (.iload 9, 2) := by decide +kernel
theorem dX12_mark_191 : decode cX12_mark 191 = .ok (.iconst 2, 1) := by decide +kernel
theorem dX12_mark_192 : decode cX12_mark 192 = .ok (.iadd, 1) := by decide +kernel
theorem dX12_mark_193 : decode cX12_mark 193 = .ok (.iload_n 3, 1) := by decide +kernel
theorem dX12_mark_194 : decode cX12_mark 194 = .ok (.iastore, 1) := by decide +kernel
theorem dX12_mark_195 : decode cX12_mark 195 = .ok (.aload_n 0, 1) := by decide +kernel
theorem dX12_mark_196 : decode cX12_mark 196 = .ok (.getfield 37, 3) := by decide +kernel
theorem dX12_mark_199 : decode cX12_mark 199 = .ok (.iload 9, 2) := by decide +kernel
theorem dX12_mark_201 : decode cX12_mark 201 = .ok (.iconst 3, 1) := by decide +kernel
theorem dX12_mark_202 : decode cX12_mark 202 = .ok (.iadd, 1) := by decide +kernel
theorem dX12_mark_203 : decode cX12_mark 203 = .ok (.iload 4, 2) := by decide +kernel
theorem dX12_mark_205 : decode cX12_mark 205 = .ok (.iastore, 1) := by decide +kernel
theorem dX12_mark_206 : decode cX12_mark 206 = .ok (.aload_n 0, 1) := by decide +kernel
theorem dX12_mark_207 : decode cX12_mark 207 = .ok (.getfield 37, 3) := by decide +kernel
theorem dX12_mark_210 : decode cX12_mark 210 = .ok (.iload 9, 2) := by decide +kernel
theorem dX12_mark_212 : decode cX12_mark 212 = .ok (.iconst 4, 1) := by decide +kernel
theorem dX12_mark_213 : decode cX12_mark 213 = .ok (.iadd, 1) := by decide +kernel
theorem dX12_mark_214 : decode cX12_mark 214 = .ok (.iload 5, 2) := by decide +kernel
theorem dX12_mark_216 : decode cX12_mark 216 = .ok (.iastore, 1) := by decide +kernel
theorem dX12_mark_217 : decode cX12_mark 217 = .ok (.iconst 0, 1) := by decide +kernel
theorem dX12_mark_218 : decode cX12_mark 218 = .ok (.istore 10, 2) := by decide +kernel
theorem dX12_mark_220 : decode cX12_mark 220 = .ok (.iload 10, 2) := by decide +kernel
theorem dX12_mark_222 : decode cX12_mark 222 = .ok (.iconst 3, 1) := by decide +kernel
theorem dX12_mark_223 : decode cX12_mark 223 = .ok (.if_icmp .ge 54, 3) := by decide +kernel
theorem dX12_mark_226 : decode cX12_mark 226 = .ok (.iload 6, 2) := by decide +kernel
theorem dX12_mark_228 : decode cX12_mark 228 = .ok (.bipush 16, 2) := by decide +kernel
theorem dX12_mark_230 : decode cX12_mark 230 = .ok (.bipush 8, 2) := by decide +kernel
theorem dX12_mark_232 : decode cX12_mark 232 = .ok (.iload 10, 2) := by decide +kernel
theorem dX12_mark_234 : decode cX12_mark 234 = .ok (.imul, 1) := by decide +kernel
theorem dX12_mark_235 : decode cX12_mark 235 = .ok (.isub, 1) := by decide +kernel
theorem dX12_mark_236 : decode cX12_mark 236 = .ok (.ishr, 1) := by decide +kernel
theorem dX12_mark_237 : decode cX12_mark 237 = .ok (.sipush 255, 3) := by decide +kernel
theorem dX12_mark_240 : decode cX12_mark 240 = .ok (.iand, 1) := by decide +kernel
theorem dX12_mark_241 : decode cX12_mark 241 = .ok (.istore 11, 2) := by decide +kernel
theorem dX12_mark_243 : decode cX12_mark 243 = .ok (.aload_n 0, 1) := by decide +kernel
theorem dX12_mark_244 : decode cX12_mark 244 = .ok (.getfield 37, 3) := by decide +kernel
theorem dX12_mark_247 : decode cX12_mark 247 = .ok (.iload 9, 2) := by decide +kernel
theorem dX12_mark_249 : decode cX12_mark 249 = .ok (.iconst 5, 1) := by decide +kernel
theorem dX12_mark_250 : decode cX12_mark 250 = .ok (.iadd, 1) := by decide +kernel
theorem dX12_mark_251 : decode cX12_mark 251 = .ok (.iload 10, 2) := by decide +kernel
theorem dX12_mark_253 : decode cX12_mark 253 = .ok (.iadd, 1) := by decide +kernel
theorem dX12_mark_254 : decode cX12_mark 254 = .ok (.iload 11, 2) := by decide +kernel
theorem dX12_mark_256 : decode cX12_mark 256 = .ok (.bipush 63, 2) := by decide +kernel
theorem dX12_mark_258 : decode cX12_mark 258 = .ok (.if_icmp .ne 7, 3) := by decide +kernel
theorem dX12_mark_261 : decode cX12_mark 261 = .ok (.iconst (-1), 1) := by decide +kernel
theorem dX12_mark_262 : decode cX12_mark 262 = .ok (.goto 8, 3) := by decide +kernel
theorem dX12_mark_265 : decode cX12_mark 265 = .ok (.iload 11, 2) := by decide +kernel
theorem dX12_mark_267 : decode cX12_mark 267 = .ok (.bipush 48, 2) := by decide +kernel
theorem dX12_mark_269 : decode cX12_mark 269 = .ok (.isub, 1) := by decide +kernel
theorem dX12_mark_270 : decode cX12_mark 270 = .ok (.iastore, 1) := by decide +kernel
theorem dX12_mark_271 : decode cX12_mark 271 = .ok (.iinc 10 1, 3) := by decide +kernel
theorem dX12_mark_274 : decode cX12_mark 274 = .ok (.goto (-54), 3) := by decide +kernel
theorem dX12_mark_277 : decode cX12_mark 277 = .ok (.aload_n 0, 1) := by decide +kernel
theorem dX12_mark_278 : decode cX12_mark 278 = .ok (.getfield 37, 3) := by decide +kernel
theorem dX12_mark_281 : decode cX12_mark 281 = .ok (.iload 9, 2) := by decide +kernel
theorem dX12_mark_283 : decode cX12_mark 283 = .ok (.bipush 8, 2) := by decide +kernel
theorem dX12_mark_285 : decode cX12_mark 285 = .ok (.iadd, 1) := by decide +kernel
theorem dX12_mark_286 : decode cX12_mark 286 = .ok (.iload 7, 2) := by decide +kernel
theorem dX12_mark_288 : decode cX12_mark 288 = .ok (.iastore, 1) := by decide +kernel
theorem dX12_mark_289 : decode cX12_mark 289 = .ok (.aload_n 0, 1) := by decide +kernel
theorem dX12_mark_290 : decode cX12_mark 290 = .ok (.getfield 37, 3) := by decide +kernel
theorem dX12_mark_293 : decode cX12_mark 293 = .ok (.iload 9, 2) := by decide +kernel
theorem dX12_mark_295 : decode cX12_mark 295 = .ok (.bipush 9, 2) := by decide +kernel
theorem dX12_mark_297 : decode cX12_mark 297 = .ok (.iadd, 1) := by decide +kernel
theorem dX12_mark_298 : decode cX12_mark 298 = .ok (.iload 8, 2) := by decide +kernel
theorem dX12_mark_300 : decode cX12_mark 300 = .ok (.iastore, 1) := by decide +kernel
theorem dX12_mark_301 : decode cX12_mark 301 = .ok (.aload_n 0, 1) := by decide +kernel
theorem dX12_mark_302 : decode cX12_mark 302 = .ok (.dup, 1) := by decide +kernel
theorem dX12_mark_303 : decode cX12_mark 303 = .ok (.getfield 88, 3) := by decide +kernel
theorem dX12_mark_306 : decode cX12_mark 306 = .ok (.iconst 1, 1) := by decide +kernel
theorem dX12_mark_307 : decode cX12_mark 307 = .ok (.iadd, 1) := by decide +kernel
theorem dX12_mark_308 : decode cX12_mark 308 = .ok (.putfield 88, 3) := by decide +kernel
theorem dX12_mark_311 : decode cX12_mark 311 = .ok (.aload_n 0, 1) := by decide +kernel
theorem dX12_mark_312 : decode cX12_mark 312 = .ok (.getfield 88, 3) := by decide +kernel
theorem dX12_mark_315 : decode cX12_mark 315 = .ok (.iconst 1, 1) := by decide +kernel
theorem dX12_mark_316 : decode cX12_mark 316 = .ok (.isub, 1) := by decide +kernel
theorem dX12_mark_317 : decode cX12_mark 317 = .ok (.ireturn, 1) := by decide +kernel
theorem dX12_lean_0 : decode cX12_lean 0 = .ok (.aload_n 0, 1) := by decide +kernel
theorem dX12_lean_1 : decode cX12_lean 1 = .ok (.iconst 0, 1) := by decide +kernel
theorem dX12_lean_2 : decode cX12_lean 2 = .ok (.putfield 80, 3) := by decide +kernel
theorem dX12_lean_5 : decode cX12_lean 5 = .ok (.iload_n 1, 1) := by decide +kernel
theorem dX12_lean_6 : decode cX12_lean 6 = .ok (.iconst 0, 1) := by decide +kernel
theorem dX12_lean_7 : decode cX12_lean 7 = .ok (.iconst 5, 1) := by decide +kernel
theorem dX12_lean_8 : decode cX12_lean 8 = .ok (.invokestatic 84, 3) := by decide +kernel
theorem dX12_lean_11 : decode cX12_lean 11 = .ok (.ifCond .eq 11, 3) := by decide +kernel
theorem dX12_lean_14 : decode cX12_lean 14 = .ok (.aload_n 0, 1) := by decide +kernel
theorem dX12_lean_15 : decode cX12_lean 15 = .ok (.iload_n 2, 1) := by decide +kernel
theorem dX12_lean_16 : decode cX12_lean 16 = .ok (.invokevirtual 111, 3) := by decide +kernel
theorem dX12_lean_19 : decode cX12_lean 19 = .ok (.ifCond .ne 5, 3) := by decide +kernel
theorem dX12_lean_22 : decode cX12_lean 22 = .ok (.iconst (-1), 1) := by decide +kernel
theorem dX12_lean_23 : decode cX12_lean 23 = .ok (.ireturn, 1) := by decide +kernel
theorem dX12_lean_24 : decode cX12_lean 24 = .ok (.bipush 10, 2) := by decide +kernel
theorem dX12_lean_26 : decode cX12_lean 26 = .ok (.iload_n 2, 1) := by decide +kernel
theorem dX12_lean_27 : decode cX12_lean 27 = .ok (.imul, 1) := by decide +kernel
theorem dX12_lean_28 : decode cX12_lean 28 = .ok (.istore_n 3, 1) := by decide +kernel
theorem dX12_lean_29 : decode cX12_lean 29 = .ok (.bipush 10, 2) := by decide +kernel
theorem dX12_lean_31 : decode cX12_lean 31 = .ok (.aload_n 0, 1) := by decide +kernel
theorem dX12_lean_32 : decode cX12_lean 32 = .ok (.getfield 37, 3) := by decide +kernel
theorem dX12_lean_35 : decode cX12_lean 35 = .ok (.iload_n 3, 1) := by decide +kernel
theorem dX12_lean_36 : decode cX12_lean 36 = .ok (.iconst 2, 1) := by decide +kernel
theorem dX12_lean_37 : decode cX12_lean 37 = .ok (.iadd, 1) := by decide +kernel
theorem dX12_lean_38 : decode cX12_lean 38 = .ok (.iaload, 1) := by decide +kernel
theorem dX12_lean_39 : decode cX12_lean 39 = .ok (.bipush (-9), 2) := by decide +kernel
theorem dX12_lean_41 : decode cX12_lean 41 = .ok (.if_icmp .ne 7, 3) := by decide +kernel
theorem dX12_lean_44 : decode cX12_lean 44 = .ok (.iconst 0, 1) := by decide +kernel
theorem dX12_lean_45 : decode cX12_lean 45 = .ok (.goto 4, 3) := by decide +kernel
theorem dX12_lean_48 : decode cX12_lean 48 = .ok (.iconst 5, 1) := by decide +kernel
theorem dX12_lean_49 : decode cX12_lean 49 = .ok (.iadd, 1) := by decide +kernel
theorem dX12_lean_50 : decode cX12_lean 50 = .ok (.istore 4, 2) := by decide +kernel
theorem dX12_lean_52 : decode cX12_lean 52 = .ok (.aload_n 0, 1) := by decide +kernel
theorem dX12_lean_53 : decode cX12_lean 53 = .ok (.dup, 1) := by decide +kernel
theorem dX12_lean_54 : decode cX12_lean 54 = .ok (.getfield 114, 3) := by decide +kernel
theorem dX12_lean_57 : decode cX12_lean 57 = .ok (.lconst 1, 1) := by decide +kernel
theorem dX12_lean_58 : decode cX12_lean 58 = .ok (.ladd, 1) := by decide +kernel
theorem dX12_lean_59 : decode cX12_lean 59 = .ok (.putfield 114, 3) := by decide +kernel
theorem dX12_lean_62 : decode cX12_lean 62 = .ok (.iload_n 1, 1) := by decide +kernel
theorem dX12_lean_63 : decode cX12_lean 63 = .ok (.iconst 1, 1) := by decide +kernel
theorem dX12_lean_64 : decode cX12_lean 64 = .ok (.if_icmp .eq 8, 3) := by decide +kernel
theorem dX12_lean_67 : decode cX12_lean 67 = .ok (.iload_n 1, 1) := by decide +kernel
theorem dX12_lean_68 : decode cX12_lean 68 = .ok (.iconst 3, 1) := by decide +kernel
theorem dX12_lean_69 : decode cX12_lean 69 = .ok (.if_icmp .ne 54, 3) := by decide +kernel
theorem dX12_lean_72 : decode cX12_lean 72 = .ok (.iconst 0, 1) := by decide +kernel
theorem dX12_lean_73 : decode cX12_lean 73 = .ok (.istore 5, 2) := by decide +kernel
theorem dX12_lean_75 : decode cX12_lean 75 = .ok (.iload 5, 2) := by decide +kernel
theorem dX12_lean_77 : decode cX12_lean 77 = .ok (.iconst 3, 1) := by decide +kernel
theorem dX12_lean_78 : decode cX12_lean 78 = .ok (.if_icmp .ge 33, 3) := by decide +kernel
theorem dX12_lean_81 : decode cX12_lean 81 = .ok (.iload 4, 2) := by decide +kernel
theorem dX12_lean_83 : decode cX12_lean 83 = .ok (.aload_n 0, 1) := by decide +kernel
theorem dX12_lean_84 : decode cX12_lean 84 = .ok (.getfield 37, 3) := by decide +kernel
theorem dX12_lean_87 : decode cX12_lean 87 = .ok (.iload_n 3, 1) := by decide +kernel
theorem dX12_lean_88 : decode cX12_lean 88 = .ok (.iconst 5, 1) := by decide +kernel
theorem dX12_lean_89 : decode cX12_lean 89 = .ok (.iadd, 1) := by decide +kernel
theorem dX12_lean_90 : decode cX12_lean 90 = .ok (.iload 5, 2) := by decide +kernel
theorem dX12_lean_92 : decode cX12_lean 92 = .ok (.iadd, 1) := by decide +kernel
theorem dX12_lean_93 : decode cX12_lean 93 = .ok (.iaload, 1) := by decide +kernel
theorem dX12_lean_94 : decode cX12_lean 94 = .ok (.ifCond .ge 7, 3) := by decide +kernel
theorem dX12_lean_97 : decode cX12_lean 97 = .ok (.iconst 0, 1) := by decide +kernel
theorem dX12_lean_98 : decode cX12_lean 98 = .ok (.goto 4, 3) := by decide +kernel
theorem dX12_lean_101 : decode cX12_lean 101 = .ok (.iconst 4, 1) := by decide +kernel
theorem dX12_lean_102 : decode cX12_lean 102 = .ok (.iadd, 1) := by decide +kernel
theorem dX12_lean_103 : decode cX12_lean 103 = .ok (.istore 4, 2) := by decide +kernel
theorem dX12_lean_105 : decode cX12_lean 105 = .ok (.iinc 5 1, 3) := by decide +kernel
theorem dX12_lean_108 : decode cX12_lean 108 = .ok (.goto (-33), 3) := by decide +kernel
theorem dX12_lean_111 : decode cX12_lean 111 = .ok (.aload_n 0, 1) := by decide +kernel
theorem dX12_lean_112 : decode cX12_lean 112 = .ok (.dup, 1) := by decide +kernel
theorem dX12_lean_113 : decode cX12_lean 113 = .ok (.getfield 114, 3) := by decide +kernel
theorem dX12_lean_116 : decode cX12_lean 116 = .ok (.ldc2_w 118, 3) := by decide +kernel
theorem dX12_lean_119 : decode cX12_lean 119 = .ok (.ladd, 1) := by decide +kernel
theorem dX12_lean_120 : decode cX12_lean 120 = .ok (.putfield 114, 3) := by decide +kernel
theorem dX12_lean_123 : decode cX12_lean 123 = .ok (.iload_n 1, 1) := by decide +kernel
theorem dX12_lean_124 : decode cX12_lean 124 = .ok (.iconst 2, 1) := by decide +kernel
theorem dX12_lean_125 : decode cX12_lean 125 = .ok (.if_icmp .ne 43, 3) := by decide +kernel
theorem dX12_lean_128 : decode cX12_lean 128 = .ok (.iload 4, 2) := by decide +kernel
theorem dX12_lean_130 : decode cX12_lean 130 = .ok (.aload_n 0, 1) := by decide +kernel
theorem dX12_lean_131 : decode cX12_lean 131 = .ok (.getfield 37, 3) := by decide +kernel
theorem dX12_lean_134 : decode cX12_lean 134 = .ok (.iload_n 3, 1) := by decide +kernel
theorem dX12_lean_135 : decode cX12_lean 135 = .ok (.bipush 8, 2) := by decide +kernel
theorem dX12_lean_137 : decode cX12_lean 137 = .ok (.iadd, 1) := by decide +kernel
theorem dX12_lean_138 : decode cX12_lean 138 = .ok (.iaload, 1) := by decide +kernel
theorem dX12_lean_139 : decode cX12_lean 139 = .ok (.bipush (-9), 2) := by decide +kernel
theorem dX12_lean_141 : decode cX12_lean 141 = .ok (.if_icmp .ne 7, 3) := by decide +kernel
theorem dX12_lean_144 : decode cX12_lean 144 = .ok (.iconst 0, 1) := by decide +kernel
theorem dX12_lean_145 : decode cX12_lean 145 = .ok (.goto 5, 3) := by decide +kernel
theorem dX12_lean_148 : decode cX12_lean 148 = .ok (.bipush 7, 2) := by decide +kernel
theorem dX12_lean_150 : decode cX12_lean 150 = .ok (.iadd, 1) := by decide +kernel
theorem dX12_lean_151 : decode cX12_lean 151 = .ok (.istore 4, 2) := by decide +kernel
theorem dX12_lean_153 : decode cX12_lean 153 = .ok (.aload_n 0, 1) := by decide +kernel
theorem dX12_lean_154 : decode cX12_lean 154 = .ok (.dup, 1) := by decide +kernel
theorem dX12_lean_155 : decode cX12_lean 155 = .ok (.getfield 114, 3) := by decide +kernel
theorem dX12_lean_158 : decode cX12_lean 158 = .ok (.ldc2_w 120, 3) := by decide +kernel
theorem dX12_lean_161 : decode cX12_lean 161 = .ok (.ladd, 1) := by decide +kernel
theorem dX12_lean_162 : decode cX12_lean 162 = .ok (.putfield 114, 3) := by decide +kernel
theorem dX12_lean_165 : decode cX12_lean 165 = .ok (.goto 88, 3) := by decide +kernel
theorem dX12_lean_168 : decode cX12_lean 168 = .ok (.iload_n 1, 1) := by decide +kernel
theorem dX12_lean_169 : decode cX12_lean 169 = .ok (.iconst 3, 1) := by decide +kernel
theorem dX12_lean_170 : decode cX12_lean 170 = .ok (.if_icmp .ne 27, 3) := by decide +kernel
theorem dX12_lean_173 : decode cX12_lean 173 = .ok (.iload 4, 2) := by decide +kernel
theorem dX12_lean_175 : decode cX12_lean 175 = .ok (.iload 4, 2) := by decide +kernel
theorem dX12_lean_177 : decode cX12_lean 177 = .ok (.iconst 3, 1) := by decide +kernel
theorem dX12_lean_178 : decode cX12_lean 178 = .ok (.idiv, 1) := by decide +kernel
theorem dX12_lean_179 : decode cX12_lean 179 = .ok (.iadd, 1) := by decide +kernel
theorem dX12_lean_180 : decode cX12_lean 180 = .ok (.istore 4, 2) := by decide +kernel
theorem dX12_lean_182 : decode cX12_lean 182 = .ok (.aload_n 0, 1) := by decide +kernel
theorem dX12_lean_183 : decode cX12_lean 183 = .ok (.dup, 1) := by decide +kernel
theorem dX12_lean_184 : decode cX12_lean 184 = .ok (.getfield 114, 3) := by decide +kernel
theorem dX12_lean_187 : decode cX12_lean 187 = .ok (.ldc2_w 122, 3) := by decide +kernel
theorem dX12_lean_190 : decode cX12_lean 190 = .ok (.ladd, 1) := by decide +kernel
theorem dX12_lean_191 : decode cX12_lean 191 = .ok (.putfield 114, 3) := by decide +kernel
theorem dX12_lean_194 : decode cX12_lean 194 = .ok (.goto 59, 3) := by decide +kernel
theorem dX12_lean_197 : decode cX12_lean 197 = .ok (.iload_n 1, 1) := by decide +kernel
theorem dX12_lean_198 : decode cX12_lean 198 = .ok (.iconst 4, 1) := by decide +kernel
theorem dX12_lean_199 : decode cX12_lean 199 = .ok (.if_icmp .ne 31, 3) := by decide +kernel
theorem dX12_lean_202 : decode cX12_lean 202 = .ok (.iload 4, 2) := by decide +kernel
theorem dX12_lean_204 : decode cX12_lean 204 = .ok (.aload_n 0, 1) := by decide +kernel
theorem dX12_lean_205 : decode cX12_lean 205 = .ok (.getfield 37, 3) := by decide +kernel
theorem dX12_lean_208 : decode cX12_lean 208 = .ok (.iload_n 3, 1) := by decide +kernel
theorem dX12_lean_209 : decode cX12_lean 209 = .ok (.iconst 3, 1) := by decide +kernel
theorem dX12_lean_210 : decode cX12_lean 210 = .ok (.iadd, 1) := by decide +kernel
theorem dX12_lean_211 : decode cX12_lean 211 = .ok (.iaload, 1) := by decide +kernel
theorem dX12_lean_212 : decode cX12_lean 212 = .ok (.iadd, 1) := by decide +kernel
theorem dX12_lean_213 : decode cX12_lean 213 = .ok (.istore 4, 2) := by decide +kernel
theorem dX12_lean_215 : decode cX12_lean 215 = .ok (.aload_n 0, 1) := by decide +kernel
theorem dX12_lean_216 : decode cX12_lean 216 = .ok (.dup, 1) := by decide +kernel
theorem dX12_lean_217 : decode cX12_lean 217 = .ok (.getfield 114, 3) := by decide +kernel
theorem dX12_lean_220 : decode cX12_lean 220 = .ok (.ldc2_w 124, 3) := by decide +kernel
theorem dX12_lean_223 : decode cX12_lean 223 = .ok (.ladd, 1) := by decide +kernel
theorem dX12_lean_224 : decode cX12_lean 224 = .ok (.putfield 114, 3) := by decide +kernel
theorem dX12_lean_227 : decode cX12_lean 227 = .ok (.goto 26, 3) := by decide +kernel
theorem dX12_lean_230 : decode cX12_lean 230 = .ok (.iload_n 1, 1) := by decide +kernel
theorem dX12_lean_231 : decode cX12_lean 231 = .ok (.iconst 5, 1) := by decide +kernel
theorem dX12_lean_232 : decode cX12_lean 232 = .ok (.if_icmp .ne 21, 3) := by decide +kernel
theorem dX12_lean_235 : decode cX12_lean 235 = .ok (.iload 4, 2) := by decide +kernel
theorem dX12_lean_237 : decode cX12_lean 237 = .ok (.iconst 2, 1) := by decide +kernel
theorem dX12_lean_238 : decode cX12_lean 238 = .ok (.idiv, 1) := by decide +kernel
theorem dX12_lean_239 : decode cX12_lean 239 = .ok (.istore 4, 2) := by decide +kernel
theorem dX12_lean_241 : decode cX12_lean 241 = .ok (.aload_n 0, 1) := by decide +kernel
theorem dX12_lean_242 : decode cX12_lean 242 = .ok (.dup, 1) := by decide +kernel
theorem dX12_lean_243 : decode cX12_lean 243 = .ok (.getfield 114, 3) := by decide +kernel
theorem dX12_lean_246 : decode cX12_lean 246 = .ok (.ldc2_w 126, 3) := by decide +kernel
theorem dX12_lean_249 : decode cX12_lean 249 = .ok (.ladd, 1) := by decide +kernel
theorem dX12_lean_250 : decode cX12_lean 250 = .ok (.putfield 114, 3) := by decide +kernel
theorem dX12_lean_253 : decode cX12_lean 253 = .ok (.iload 4, 2) := by decide +kernel
theorem dX12_lean_255 : decode cX12_lean 255 = .ok (.ireturn, 1) := by decide +kernel
theorem dX12_about_0 : decode cX12_about 0 = .ok (.aload_n 0, 1) := by decide +kernel
theorem dX12_about_1 : decode cX12_about 1 = .ok (.iconst 0, 1) := by decide +kernel
theorem dX12_about_2 : decode cX12_about 2 = .ok (.putfield 80, 3) := by decide +kernel
theorem dX12_about_5 : decode cX12_about 5 = .ok (.aload_n 0, 1) := by decide +kernel
theorem dX12_about_6 : decode cX12_about 6 = .ok (.iload_n 1, 1) := by decide +kernel
theorem dX12_about_7 : decode cX12_about 7 = .ok (.invokevirtual 111, 3) := by decide +kernel
theorem dX12_about_10 : decode cX12_about 10 = .ok (.ifCond .eq 12, 3) := by decide +kernel
theorem dX12_about_13 : decode cX12_about 13 = .ok (.iload_n 2, 1) := by decide +kernel
theorem dX12_about_14 : decode cX12_about 14 = .ok (.iconst 0, 1) := by decide +kernel
theorem dX12_about_15 : decode cX12_about 15 = .ok (.iconst 4, 1) := by decide +kernel
theorem dX12_about_16 : decode cX12_about 16 = .ok (.invokestatic 84, 3) := by decide +kernel
theorem dX12_about_19 : decode cX12_about 19 = .ok (.ifCond .ne 5, 3) := by decide +kernel
theorem dX12_about_22 : decode cX12_about 22 = .ok (.iconst (-1), 1) := by decide +kernel
theorem dX12_about_23 : decode cX12_about 23 = .ok (.ireturn, 1) := by decide +kernel
theorem dX12_about_24 : decode cX12_about 24 = .ok (.bipush 10, 2) := by decide +kernel
theorem dX12_about_26 : decode cX12_about 26 = .ok (.iload_n 1, 1) := by decide +kernel
theorem dX12_about_27 : decode cX12_about 27 = .ok (.imul, 1) := by decide +kernel
theorem dX12_about_28 : decode cX12_about 28 = .ok (.istore_n 3, 1) := by decide +kernel
theorem dX12_about_29 : decode cX12_about 29 = .ok (.iload_n 2, 1) := by decide +kernel
theorem dX12_about_30 : decode cX12_about 30 = .ok (.iconst 3, 1) := by decide +kernel
theorem dX12_about_31 : decode cX12_about 31 = .ok (.if_icmp .ge 14, 3) := by decide +kernel
theorem dX12_about_34 : decode cX12_about 34 = .ok (.aload_n 0, 1) := by decide +kernel
theorem dX12_about_35 : decode cX12_about 35 = .ok (.getfield 37, 3) := by decide +kernel
theorem dX12_about_38 : decode cX12_about 38 = .ok (.iload_n 3, 1) := by decide +kernel
theorem dX12_about_39 : decode cX12_about 39 = .ok (.iload_n 2, 1) := by decide +kernel
theorem dX12_about_40 : decode cX12_about 40 = .ok (.iadd, 1) := by decide +kernel
theorem dX12_about_41 : decode cX12_about 41 = .ok (.iaload, 1) := by decide +kernel
theorem dX12_about_42 : decode cX12_about 42 = .ok (.goto 29, 3) := by decide +kernel
theorem dX12_about_45 : decode cX12_about 45 = .ok (.iload_n 2, 1) := by decide +kernel
theorem dX12_about_46 : decode cX12_about 46 = .ok (.iconst 3, 1) := by decide +kernel
theorem dX12_about_47 : decode cX12_about 47 = .ok (.if_icmp .ne 15, 3) := by decide +kernel
theorem dX12_about_50 : decode cX12_about 50 = .ok (.aload_n 0, 1) := by decide +kernel
theorem dX12_about_51 : decode cX12_about 51 = .ok (.getfield 37, 3) := by decide +kernel
theorem dX12_about_54 : decode cX12_about 54 = .ok (.iload_n 3, 1) := by decide +kernel
theorem dX12_about_55 : decode cX12_about 55 = .ok (.bipush 8, 2) := by decide +kernel
theorem dX12_about_57 : decode cX12_about 57 = .ok (.iadd, 1) := by decide +kernel
theorem dX12_about_58 : decode cX12_about 58 = .ok (.iaload, 1) := by decide +kernel
theorem dX12_about_59 : decode cX12_about 59 = .ok (.goto 12, 3) := by decide +kernel
theorem dX12_about_62 : decode cX12_about 62 = .ok (.aload_n 0, 1) := by decide +kernel
theorem dX12_about_63 : decode cX12_about 63 = .ok (.getfield 37, 3) := by decide +kernel
theorem dX12_about_66 : decode cX12_about 66 = .ok (.iload_n 3, 1) := by decide +kernel
theorem dX12_about_67 : decode cX12_about 67 = .ok (.bipush 9, 2) := by decide +kernel
theorem dX12_about_69 : decode cX12_about 69 = .ok (.iadd, 1) := by decide +kernel
theorem dX12_about_70 : decode cX12_about 70 = .ok (.iaload, 1) := by decide +kernel
theorem dX12_about_71 : decode cX12_about 71 = .ok (.ireturn, 1) := by decide +kernel
theorem dX12_canBe_0 : decode cX12_canBe 0 = .ok (.bipush 10, 2) := by decide +kernel
theorem dX12_canBe_2 : decode cX12_canBe 2 = .ok (.iload_n 1, 1) := by decide +kernel
theorem dX12_canBe_3 : decode cX12_canBe 3 = .ok (.imul, 1) := by decide +kernel
theorem dX12_canBe_4 : decode cX12_canBe 4 = .ok (.istore_n 3, 1) := by decide +kernel
theorem dX12_canBe_5 : decode cX12_canBe 5 = .ok (.aload_n 0, 1) := by decide +kernel
theorem dX12_canBe_6 : decode cX12_canBe 6 = .ok (.getfield 37, 3) := by decide +kernel
theorem dX12_canBe_9 : decode cX12_canBe 9 = .ok (.iload_n 3, 1) := by decide +kernel
theorem dX12_canBe_10 : decode cX12_canBe 10 = .ok (.iconst 5, 1) := by decide +kernel
theorem dX12_canBe_11 : decode cX12_canBe 11 = .ok (.iadd, 1) := by decide +kernel
theorem dX12_canBe_12 : decode cX12_canBe 12 = .ok (.iaload, 1) := by decide +kernel
theorem dX12_canBe_13 : decode cX12_canBe 13 = .ok (.ifCond .lt 18, 3) := by decide +kernel
theorem dX12_canBe_16 : decode cX12_canBe 16 = .ok (.aload_n 0, 1) := by decide +kernel
theorem dX12_canBe_17 : decode cX12_canBe 17 = .ok (.getfield 37, 3) := by decide +kernel
theorem dX12_canBe_20 : decode cX12_canBe 20 = .ok (.iload_n 3, 1) := by decide +kernel
theorem dX12_canBe_21 : decode cX12_canBe 21 = .ok (.iconst 5, 1) := by decide +kernel
theorem dX12_canBe_22 : decode cX12_canBe 22 = .ok (.iadd, 1) := by decide +kernel
theorem dX12_canBe_23 : decode cX12_canBe 23 = .ok (.iaload, 1) := by decide +kernel
theorem dX12_canBe_24 : decode cX12_canBe 24 = .ok (.iload_n 2, 1) := by decide +kernel
theorem dX12_canBe_25 : decode cX12_canBe 25 = .ok (.bipush 100, 2) := by decide +kernel
theorem dX12_canBe_27 : decode cX12_canBe 27 = .ok (.idiv, 1) := by decide +kernel
theorem dX12_canBe_28 : decode cX12_canBe 28 = .ok (.if_icmp .ne 66, 3) := by decide +kernel
theorem dX12_canBe_31 : decode cX12_canBe 31 = .ok (.aload_n 0, 1) := by decide +kernel
theorem dX12_canBe_32 : decode cX12_canBe 32 = .ok (.getfield 37, 3) := by decide +kernel
theorem dX12_canBe_35 : decode cX12_canBe 35 = .ok (.iload_n 3, 1) := by decide +kernel
theorem dX12_canBe_36 : decode cX12_canBe 36 = .ok (.bipush 6, 2) := by decide +kernel
theorem dX12_canBe_38 : decode cX12_canBe 38 = .ok (.iadd, 1) := by decide +kernel
theorem dX12_canBe_39 : decode cX12_canBe 39 = .ok (.iaload, 1) := by decide +kernel
theorem dX12_canBe_40 : decode cX12_canBe 40 = .ok (.ifCond .lt 22, 3) := by decide +kernel
theorem dX12_canBe_43 : decode cX12_canBe 43 = .ok (.aload_n 0, 1) := by decide +kernel
theorem dX12_canBe_44 : decode cX12_canBe 44 = .ok (.getfield 37, 3) := by decide +kernel
theorem dX12_canBe_47 : decode cX12_canBe 47 = .ok (.iload_n 3, 1) := by decide +kernel
theorem dX12_canBe_48 : decode cX12_canBe 48 = .ok (.bipush 6, 2) := by decide +kernel
theorem dX12_canBe_50 : decode cX12_canBe 50 = .ok (.iadd, 1) := by decide +kernel
theorem dX12_canBe_51 : decode cX12_canBe 51 = .ok (.iaload, 1) := by decide +kernel
theorem dX12_canBe_52 : decode cX12_canBe 52 = .ok (.iload_n 2, 1) := by decide +kernel
theorem dX12_canBe_53 : decode cX12_canBe 53 = .ok (.bipush 10, 2) := by decide +kernel
theorem dX12_canBe_55 : decode cX12_canBe 55 = .ok (.idiv, 1) := by decide +kernel
theorem dX12_canBe_56 : decode cX12_canBe 56 = .ok (.bipush 10, 2) := by decide +kernel
theorem dX12_canBe_58 : decode cX12_canBe 58 = .ok (.irem, 1) := by decide +kernel
theorem dX12_canBe_59 : decode cX12_canBe 59 = .ok (.if_icmp .ne 35, 3) := by decide +kernel
theorem dX12_canBe_62 : decode cX12_canBe 62 = .ok (.aload_n 0, 1) := by decide +kernel
theorem dX12_canBe_63 : decode cX12_canBe 63 = .ok (.getfield 37, 3) := by decide +kernel
theorem dX12_canBe_66 : decode cX12_canBe 66 = .ok (.iload_n 3, 1) := by decide +kernel
theorem dX12_canBe_67 : decode cX12_canBe 67 = .ok (.bipush 7, 2) := by decide +kernel
theorem dX12_canBe_69 : decode cX12_canBe 69 = .ok (.iadd, 1) := by decide +kernel
theorem dX12_canBe_70 : decode cX12_canBe 70 = .ok (.iaload, 1) := by decide +kernel
theorem dX12_canBe_71 : decode cX12_canBe 71 = .ok (.ifCond .lt 19, 3) := by decide +kernel
theorem dX12_canBe_74 : decode cX12_canBe 74 = .ok (.aload_n 0, 1) := by decide +kernel
theorem dX12_canBe_75 : decode cX12_canBe 75 = .ok (.getfield 37, 3) := by decide +kernel
theorem dX12_canBe_78 : decode cX12_canBe 78 = .ok (.iload_n 3, 1) := by decide +kernel
theorem dX12_canBe_79 : decode cX12_canBe 79 = .ok (.bipush 7, 2) := by decide +kernel
theorem dX12_canBe_81 : decode cX12_canBe 81 = .ok (.iadd, 1) := by decide +kernel
theorem dX12_canBe_82 : decode cX12_canBe 82 = .ok (.iaload, 1) := by decide +kernel
theorem dX12_canBe_83 : decode cX12_canBe 83 = .ok (.iload_n 2, 1) := by decide +kernel
theorem dX12_canBe_84 : decode cX12_canBe 84 = .ok (.bipush 10, 2) := by decide +kernel
theorem dX12_canBe_86 : decode cX12_canBe 86 = .ok (.irem, 1) := by decide +kernel
theorem dX12_canBe_87 : decode cX12_canBe 87 = .ok (.if_icmp .ne 7, 3) := by decide +kernel
theorem dX12_canBe_90 : decode cX12_canBe 90 = .ok (.iconst 1, 1) := by decide +kernel
theorem dX12_canBe_91 : decode cX12_canBe 91 = .ok (.goto 4, 3) := by decide +kernel
theorem dX12_canBe_94 : decode cX12_canBe 94 = .ok (.iconst 0, 1) := by decide +kernel
theorem dX12_canBe_95 : decode cX12_canBe 95 = .ok (.istore 4, 2) := by decide +kernel
theorem dX12_canBe_97 : decode cX12_canBe 97 = .ok (.aload_n 0, 1) := by decide +kernel
theorem dX12_canBe_98 : decode cX12_canBe 98 = .ok (.getfield 37, 3) := by decide +kernel
theorem dX12_canBe_101 : decode cX12_canBe 101 = .ok (.iload_n 3, 1) := by decide +kernel
theorem dX12_canBe_102 : decode cX12_canBe 102 = .ok (.iconst 2, 1) := by decide +kernel
theorem dX12_canBe_103 : decode cX12_canBe 103 = .ok (.iadd, 1) := by decide +kernel
theorem dX12_canBe_104 : decode cX12_canBe 104 = .ok (.iaload, 1) := by decide +kernel
theorem dX12_canBe_105 : decode cX12_canBe 105 = .ok (.istore 5, 2) := by decide +kernel
theorem dX12_canBe_107 : decode cX12_canBe 107 = .ok (.iload 4, 2) := by decide +kernel
theorem dX12_canBe_109 : decode cX12_canBe 109 = .ok (.ifCond .eq 10, 3) := by decide +kernel
theorem dX12_canBe_112 : decode cX12_canBe 112 = .ok (.iload 5, 2) := by decide +kernel
theorem dX12_canBe_114 : decode cX12_canBe 114 = .ok (.bipush (-9), 2) := by decide +kernel
theorem dX12_canBe_116 : decode cX12_canBe 116 = .ok (.if_icmp .ne 6, 3) := by decide +kernel
theorem dX12_canBe_119 : decode cX12_canBe 119 = .ok (.iload 4, 2) := by decide +kernel
theorem dX12_canBe_121 : decode cX12_canBe 121 = .ok (.ireturn, 1) := by decide +kernel
theorem dX12_canBe_122 : decode cX12_canBe 122 = .ok (.aload_n 0, 1) := by decide +kernel
theorem dX12_canBe_123 : decode cX12_canBe 123 = .ok (.getfield 22, 3) := by decide +kernel
theorem dX12_canBe_126 : decode cX12_canBe 126 = .ok (.iload 5, 2) := by decide +kernel
theorem dX12_canBe_128 : decode cX12_canBe 128 = .ok (.iaload, 1) := by decide +kernel
theorem dX12_canBe_129 : decode cX12_canBe 129 = .ok (.istore 6, 2) := by decide +kernel
theorem dX12_canBe_131 : decode cX12_canBe 131 = .ok (.aload_n 0, 1) := by decide +kernel
theorem dX12_canBe_132 : decode cX12_canBe 132 = .ok (.getfield 34, 3) := by decide +kernel
theorem dX12_canBe_135 : decode cX12_canBe 135 = .ok (.iload 5, 2) := by decide +kernel
theorem dX12_canBe_137 : decode cX12_canBe 137 = .ok (.iaload, 1) := by decide +kernel
theorem dX12_canBe_138 : decode cX12_canBe 138 = .ok (.bipush (-9), 2) := by decide +kernel
theorem dX12_canBe_140 : decode cX12_canBe 140 = .ok (.if_icmp .eq 18, 3) := by decide +kernel
theorem dX12_canBe_143 : decode cX12_canBe 143 = .ok (.iload_n 2, 1) := by decide +kernel
theorem dX12_canBe_144 : decode cX12_canBe 144 = .ok (.aload_n 0, 1) := by decide +kernel
theorem dX12_canBe_145 : decode cX12_canBe 145 = .ok (.getfield 34, 3) := by decide +kernel
theorem dX12_canBe_148 : decode cX12_canBe 148 = .ok (.iload 5, 2) := by decide +kernel
theorem dX12_canBe_150 : decode cX12_canBe 150 = .ok (.iaload, 1) := by decide +kernel
theorem dX12_canBe_151 : decode cX12_canBe 151 = .ok (.if_icmp .lt 7, 3) := by decide +kernel
theorem dX12_canBe_154 : decode cX12_canBe 154 = .ok (.iconst 1, 1) := by decide +kernel
theorem dX12_canBe_155 : decode cX12_canBe 155 = .ok (.goto 4, 3) := by decide +kernel
theorem dX12_canBe_158 : decode cX12_canBe 158 = .ok (.iconst 0, 1) := by decide +kernel
theorem dX12_canBe_159 : decode cX12_canBe 159 = .ok (.istore 7, 2) := by decide +kernel
theorem dX12_canBe_161 : decode cX12_canBe 161 = .ok (.iload_n 2, 1) := by decide +kernel
theorem dX12_canBe_162 : decode cX12_canBe 162 = .ok (.aload_n 0, 1) := by decide +kernel
theorem dX12_canBe_163 : decode cX12_canBe 163 = .ok (.getfield 16, 3) := by decide +kernel
theorem dX12_canBe_166 : decode cX12_canBe 166 = .ok (.iload 6, 2) := by decide +kernel
theorem dX12_canBe_168 : decode cX12_canBe 168 = .ok (.iaload, 1) := by decide +kernel
theorem dX12_canBe_169 : decode cX12_canBe 169 = .ok (.aload_n 0, 1) := by decide +kernel
theorem dX12_canBe_170 : decode cX12_canBe 170 = .ok (.getfield 19, 3) := by decide +kernel
theorem dX12_canBe_173 : decode cX12_canBe 173 = .ok (.iload 6, 2) := by decide +kernel
theorem dX12_canBe_175 : decode cX12_canBe 175 = .ok (.iaload, 1) := by decide +kernel
theorem dX12_canBe_176 : decode cX12_canBe 176 = .ok (.invokestatic 84, 3) := by decide +kernel
theorem dX12_canBe_179 : decode cX12_canBe 179 = .ok (.ifCond .eq 85, 3) := by decide +kernel
theorem dX12_canBe_182 : decode cX12_canBe 182 = .ok (.iload_n 2, 1) := by decide +kernel
theorem dX12_canBe_183 : decode cX12_canBe 183 = .ok (.aload_n 0, 1) := by decide +kernel
theorem dX12_canBe_184 : decode cX12_canBe 184 = .ok (.getfield 28, 3) := by decide +kernel
theorem dX12_canBe_187 : decode cX12_canBe 187 = .ok (.iload 5, 2) := by decide +kernel
theorem dX12_canBe_189 : decode cX12_canBe 189 = .ok (.iaload, 1) := by decide +kernel
theorem dX12_canBe_190 : decode cX12_canBe 190 = .ok (.aload_n 0, 1) := by decide +kernel
theorem dX12_canBe_191 : decode cX12_canBe 191 = .ok (.getfield 31, 3) := by decide +kernel
theorem dX12_canBe_194 : decode cX12_canBe 194 = .ok (.iload 5, 2) := by decide +kernel
theorem dX12_canBe_196 : decode cX12_canBe 196 = .ok (.iaload, 1) := by decide +kernel
theorem dX12_canBe_197 : decode cX12_canBe 197 = .ok (.invokestatic 84, 3) := by decide +kernel
theorem dX12_canBe_200 : decode cX12_canBe 200 = .ok (.ifCond .eq 64, 3) := by decide +kernel
theorem dX12_canBe_203 : decode cX12_canBe 203 = .ok (.aload_n 0, 1) := by decide +kernel
theorem dX12_canBe_204 : decode cX12_canBe 204 = .ok (.getfield 25, 3) := by decide +kernel
theorem dX12_canBe_207 : decode cX12_canBe 207 = .ok (.iload 5, 2) := by decide +kernel
theorem dX12_canBe_209 : decode cX12_canBe 209 = .ok (.iaload, 1) := by decide +kernel
theorem dX12_canBe_210 : decode cX12_canBe 210 = .ok (.aload_n 0, 1) := by decide +kernel
theorem dX12_canBe_211 : decode cX12_canBe 211 = .ok (.getfield 37, 3) := by decide +kernel
theorem dX12_canBe_214 : decode cX12_canBe 214 = .ok (.iload_n 3, 1) := by decide +kernel
theorem dX12_canBe_215 : decode cX12_canBe 215 = .ok (.iconst 3, 1) := by decide +kernel
theorem dX12_canBe_216 : decode cX12_canBe 216 = .ok (.iadd, 1) := by decide +kernel
theorem dX12_canBe_217 : decode cX12_canBe 217 = .ok (.iaload, 1) := by decide +kernel
theorem dX12_canBe_218 : decode cX12_canBe 218 = .ok (.ishr, 1) := by decide +kernel
theorem dX12_canBe_219 : decode cX12_canBe 219 = .ok (.iconst 1, 1) := by decide +kernel
theorem dX12_canBe_220 : decode cX12_canBe 220 = .ok (.iand, 1) := by decide +kernel
theorem dX12_canBe_221 : decode cX12_canBe 221 = .ok (.iconst 1, 1) := by decide +kernel
theorem dX12_canBe_222 : decode cX12_canBe 222 = .ok (.if_icmp .ne 42, 3) := by decide +kernel
theorem dX12_canBe_225 : decode cX12_canBe 225 = .ok (.aload_n 0, 1) := by decide +kernel
theorem dX12_canBe_226 : decode cX12_canBe 226 = .ok (.getfield 37, 3) := by decide +kernel
theorem dX12_canBe_229 : decode cX12_canBe 229 = .ok (.iload_n 3, 1) := by decide +kernel
theorem dX12_canBe_230 : decode cX12_canBe 230 = .ok (.iconst 4, 1) := by decide +kernel
theorem dX12_canBe_231 : decode cX12_canBe 231 = .ok (.iadd, 1) := by decide +kernel
theorem dX12_canBe_232 : decode cX12_canBe 232 = .ok (.iaload, 1) := by decide +kernel
theorem dX12_canBe_233 : decode cX12_canBe 233 = .ok (.bipush (-9), 2) := by decide +kernel
theorem dX12_canBe_235 : decode cX12_canBe 235 = .ok (.if_icmp .eq 25, 3) := by decide +kernel
theorem dX12_canBe_238 : decode cX12_canBe 238 = .ok (.aload_n 0, 1) := by decide +kernel
theorem dX12_canBe_239 : decode cX12_canBe 239 = .ok (.getfield 37, 3) := by decide +kernel
theorem dX12_canBe_242 : decode cX12_canBe 242 = .ok (.iload_n 3, 1) := by decide +kernel
theorem dX12_canBe_243 : decode cX12_canBe 243 = .ok (.iconst 4, 1) := by decide +kernel
theorem dX12_canBe_244 : decode cX12_canBe 244 = .ok (.iadd, 1) := by decide +kernel
theorem dX12_canBe_245 : decode cX12_canBe 245 = .ok (.iaload, 1) := by decide +kernel
theorem dX12_canBe_246 : decode cX12_canBe 246 = .ok (.iconst 1, 1) := by decide +kernel
theorem dX12_canBe_247 : decode cX12_canBe 247 = .ok (.if_icmp .ne 7, 3) := by decide +kernel
theorem dX12_canBe_250 : decode cX12_canBe 250 = .ok (.iconst 1, 1) := by decide +kernel
theorem dX12_canBe_251 : decode cX12_canBe 251 = .ok (.goto 4, 3) := by decide +kernel
theorem dX12_canBe_254 : decode cX12_canBe 254 = .ok (.iconst 0, 1) := by decide +kernel
theorem dX12_canBe_255 : decode cX12_canBe 255 = .ok (.iload 7, 2) := by decide +kernel
theorem dX12_canBe_257 : decode cX12_canBe 257 = .ok (.if_icmp .ne 7, 3) := by decide +kernel
theorem dX12_canBe_260 : decode cX12_canBe 260 = .ok (.iconst 1, 1) := by decide +kernel
theorem dX12_canBe_261 : decode cX12_canBe 261 = .ok (.goto 4, 3) := by decide +kernel
theorem dX12_canBe_264 : decode cX12_canBe 264 = .ok (.iconst 0, 1) := by decide +kernel
theorem dX12_canBe_265 : decode cX12_canBe 265 = .ok (.ireturn, 1) := by decide +kernel
theorem dX12_spanOf_0 : decode cX12_spanOf 0 = .ok (.iconst 0, 1) := by decide +kernel
theorem dX12_spanOf_1 : decode cX12_spanOf 1 = .ok (.istore_n 2, 1) := by decide +kernel
theorem dX12_spanOf_2 : decode cX12_spanOf 2 = .ok (.iconst 0, 1) := by decide +kernel
theorem dX12_spanOf_3 : decode cX12_spanOf 3 = .ok (.istore_n 3, 1) := by decide +kernel
theorem dX12_spanOf_4 : decode cX12_spanOf 4 = .ok (.iload_n 3, 1) := by decide +kernel
theorem dX12_spanOf_5 : decode cX12_spanOf 5 = .ok (.sipush 999, 3) := by decide +kernel
theorem dX12_spanOf_8 : decode cX12_spanOf 8 = .ok (.if_icmp .gt 26, 3) := by decide +kernel
theorem dX12_spanOf_11 : decode cX12_spanOf 11 = .ok (.iload_n 2, 1) := by decide +kernel
theorem dX12_spanOf_12 : decode cX12_spanOf 12 = .ok (.aload_n 0, 1) := by decide +kernel
theorem dX12_spanOf_13 : decode cX12_spanOf 13 = .ok (.iload_n 1, 1) := by decide +kernel
theorem dX12_spanOf_14 : decode cX12_spanOf 14 = .ok (.iload_n 3, 1) := by decide +kernel
theorem dX12_spanOf_15 : decode cX12_spanOf 15 = .ok (.invokevirtual 128, 3) := by decide +kernel
theorem dX12_spanOf_18 : decode cX12_spanOf 18 = .ok (.ifCond .eq 7, 3) := by decide +kernel
theorem dX12_spanOf_21 : decode cX12_spanOf 21 = .ok (.iconst 1, 1) := by decide +kernel
theorem dX12_spanOf_22 : decode cX12_spanOf 22 = .ok (.goto 4, 3) := by decide +kernel
theorem dX12_spanOf_25 : decode cX12_spanOf 25 = .ok (.iconst 0, 1) := by decide +kernel
theorem dX12_spanOf_26 : decode cX12_spanOf 26 = .ok (.iadd, 1) := by decide +kernel
theorem dX12_spanOf_27 : decode cX12_spanOf 27 = .ok (.istore_n 2, 1) := by decide +kernel
theorem dX12_spanOf_28 : decode cX12_spanOf 28 = .ok (.iinc 3 1, 3) := by decide +kernel
theorem dX12_spanOf_31 : decode cX12_spanOf 31 = .ok (.goto (-27), 3) := by decide +kernel
theorem dX12_spanOf_34 : decode cX12_spanOf 34 = .ok (.iload_n 2, 1) := by decide +kernel
theorem dX12_spanOf_35 : decode cX12_spanOf 35 = .ok (.ireturn, 1) := by decide +kernel
theorem dX12_span_0 : decode cX12_span 0 = .ok (.aload_n 0, 1) := by decide +kernel
theorem dX12_span_1 : decode cX12_span 1 = .ok (.iconst 0, 1) := by decide +kernel
theorem dX12_span_2 : decode cX12_span 2 = .ok (.putfield 80, 3) := by decide +kernel
theorem dX12_span_5 : decode cX12_span 5 = .ok (.aload_n 0, 1) := by decide +kernel
theorem dX12_span_6 : decode cX12_span 6 = .ok (.iload_n 1, 1) := by decide +kernel
theorem dX12_span_7 : decode cX12_span 7 = .ok (.invokevirtual 111, 3) := by decide +kernel
theorem dX12_span_10 : decode cX12_span 10 = .ok (.ifCond .eq 12, 3) := by decide +kernel
theorem dX12_span_13 : decode cX12_span 13 = .ok (.iload_n 2, 1) := by decide +kernel
theorem dX12_span_14 : decode cX12_span 14 = .ok (.iconst 0, 1) := by decide +kernel
theorem dX12_span_15 : decode cX12_span 15 = .ok (.iconst 2, 1) := by decide +kernel
theorem dX12_span_16 : decode cX12_span 16 = .ok (.invokestatic 84, 3) := by decide +kernel
theorem dX12_span_19 : decode cX12_span 19 = .ok (.ifCond .ne 5, 3) := by decide +kernel
theorem dX12_span_22 : decode cX12_span 22 = .ok (.iconst (-1), 1) := by decide +kernel
theorem dX12_span_23 : decode cX12_span 23 = .ok (.ireturn, 1) := by decide +kernel
theorem dX12_span_24 : decode cX12_span 24 = .ok (.iload_n 2, 1) := by decide +kernel
theorem dX12_span_25 : decode cX12_span 25 = .ok (.ifCond .ne 9, 3) := by decide +kernel
theorem dX12_span_28 : decode cX12_span 28 = .ok (.aload_n 0, 1) := by decide +kernel
theorem dX12_span_29 : decode cX12_span 29 = .ok (.iload_n 1, 1) := by decide +kernel
theorem dX12_span_30 : decode cX12_span 30 = .ok (.invokevirtual 132, 3) := by decide +kernel
theorem dX12_span_33 : decode cX12_span 33 = .ok (.ireturn, 1) := by decide +kernel
theorem dX12_span_34 : decode cX12_span 34 = .ok (.bipush (-9), 2) := by decide +kernel
theorem dX12_span_36 : decode cX12_span 36 = .ok (.istore_n 3, 1) := by decide +kernel
theorem dX12_span_37 : decode cX12_span 37 = .ok (.iconst 0, 1) := by decide +kernel
theorem dX12_span_38 : decode cX12_span 38 = .ok (.istore 4, 2) := by decide +kernel
theorem dX12_span_40 : decode cX12_span 40 = .ok (.iload 4, 2) := by decide +kernel
theorem dX12_span_42 : decode cX12_span 42 = .ok (.sipush 999, 3) := by decide +kernel
theorem dX12_span_45 : decode cX12_span 45 = .ok (.if_icmp .gt 37, 3) := by decide +kernel
theorem dX12_span_48 : decode cX12_span 48 = .ok (.aload_n 0, 1) := by decide +kernel
theorem dX12_span_49 : decode cX12_span 49 = .ok (.iload_n 1, 1) := by decide +kernel
theorem dX12_span_50 : decode cX12_span 50 = .ok (.iload 4, 2) := by decide +kernel
theorem dX12_span_52 : decode cX12_span 52 = .ok (.invokevirtual 128, 3) := by decide +kernel
theorem dX12_span_55 : decode cX12_span 55 = .ok (.ifCond .eq 19, 3) := by decide +kernel
theorem dX12_span_58 : decode cX12_span 58 = .ok (.iload_n 2, 1) := by decide +kernel
theorem dX12_span_59 : decode cX12_span 59 = .ok (.iconst 2, 1) := by decide +kernel
theorem dX12_span_60 : decode cX12_span 60 = .ok (.if_icmp .eq 9, 3) := by decide +kernel
theorem dX12_span_63 : decode cX12_span 63 = .ok (.iload_n 3, 1) := by decide +kernel
theorem dX12_span_64 : decode cX12_span 64 = .ok (.bipush (-9), 2) := by decide +kernel
theorem dX12_span_66 : decode cX12_span 66 = .ok (.if_icmp .ne 8, 3) := by decide +kernel
theorem dX12_span_69 : decode cX12_span 69 = .ok (.iload 4, 2) := by decide +kernel
theorem dX12_span_71 : decode cX12_span 71 = .ok (.goto 4, 3) := by decide +kernel
theorem dX12_span_74 : decode cX12_span 74 = .ok (.iload_n 3, 1) := by decide +kernel
theorem dX12_span_75 : decode cX12_span 75 = .ok (.istore_n 3, 1) := by decide +kernel
theorem dX12_span_76 : decode cX12_span 76 = .ok (.iinc 4 1, 3) := by decide +kernel
theorem dX12_span_79 : decode cX12_span 79 = .ok (.goto (-39), 3) := by decide +kernel
theorem dX12_span_82 : decode cX12_span 82 = .ok (.iload_n 3, 1) := by decide +kernel
theorem dX12_span_83 : decode cX12_span 83 = .ok (.ireturn, 1) := by decide +kernel
theorem dX12_can_0 : decode cX12_can 0 = .ok (.aload_n 0, 1) := by decide +kernel
theorem dX12_can_1 : decode cX12_can 1 = .ok (.iconst 0, 1) := by decide +kernel
theorem dX12_can_2 : decode cX12_can 2 = .ok (.putfield 80, 3) := by decide +kernel
theorem dX12_can_5 : decode cX12_can 5 = .ok (.aload_n 0, 1) := by decide +kernel
theorem dX12_can_6 : decode cX12_can 6 = .ok (.iload_n 1, 1) := by decide +kernel
theorem dX12_can_7 : decode cX12_can 7 = .ok (.invokevirtual 111, 3) := by decide +kernel
theorem dX12_can_10 : decode cX12_can 10 = .ok (.ifCond .eq 10, 3) := by decide +kernel
theorem dX12_can_13 : decode cX12_can 13 = .ok (.iload_n 2, 1) := by decide +kernel
theorem dX12_can_14 : decode cX12_can 14 = .ok (.invokestatic 95, 3) := by decide +kernel
theorem dX12_can_17 : decode cX12_can 17 = .ok (.ifCond .ne 7, 3) := by decide +kernel
theorem dX12_can_20 : decode cX12_can 20 = .ok (.iconst (-1), 1) := by decide +kernel
theorem dX12_can_21 : decode cX12_can 21 = .ok (.goto 17, 3) := by decide +kernel
theorem dX12_can_24 : decode cX12_can 24 = .ok (.aload_n 0, 1) := by decide +kernel
theorem dX12_can_25 : decode cX12_can 25 = .ok (.iload_n 1, 1) := by decide +kernel
theorem dX12_can_26 : decode cX12_can 26 = .ok (.iload_n 2, 1) := by decide +kernel
theorem dX12_can_27 : decode cX12_can 27 = .ok (.invokevirtual 128, 3) := by decide +kernel
theorem dX12_can_30 : decode cX12_can 30 = .ok (.ifCond .eq 7, 3) := by decide +kernel
theorem dX12_can_33 : decode cX12_can 33 = .ok (.iconst 1, 1) := by decide +kernel
theorem dX12_can_34 : decode cX12_can 34 = .ok (.goto 4, 3) := by decide +kernel
theorem dX12_can_37 : decode cX12_can 37 = .ok (.iconst 0, 1) := by decide +kernel
theorem dX12_can_38 : decode cX12_can 38 = .ok (.ireturn, 1) := by decide +kernel
theorem dX12_isOf_0 : decode cX12_isOf 0 = .ok (.aload_n 0, 1) := by decide +kernel
theorem dX12_isOf_1 : decode cX12_isOf 1 = .ok (.getfield 37, 3) := by decide +kernel
theorem dX12_isOf_4 : decode cX12_isOf 4 = .ok (.bipush 10, 2) := by decide +kernel
theorem dX12_isOf_6 : decode cX12_isOf 6 = .ok (.iload_n 1, 1) := by decide +kernel
theorem dX12_isOf_7 : decode cX12_isOf 7 = .ok (.imul, 1) := by decide +kernel
theorem dX12_isOf_8 : decode cX12_isOf 8 = .ok (.iaload, 1) := by decide +kernel
theorem dX12_isOf_9 : decode cX12_isOf 9 = .ok (.iload_n 2, 1) := by decide +kernel
theorem dX12_isOf_10 : decode cX12_isOf 10 = .ok (.if_icmp .ne 23, 3) := by decide +kernel
theorem dX12_isOf_13 : decode cX12_isOf 13 = .ok (.aload_n 0, 1) := by decide +kernel
theorem dX12_isOf_14 : decode cX12_isOf 14 = .ok (.getfield 37, 3) := by decide +kernel
theorem dX12_isOf_17 : decode cX12_isOf 17 = .ok (.bipush 10, 2) := by decide +kernel
theorem dX12_isOf_19 : decode cX12_isOf 19 = .ok (.iload_n 1, 1) := by decide +kernel
theorem dX12_isOf_20 : decode cX12_isOf 20 = .ok (.imul, 1) := by decide +kernel
theorem dX12_isOf_21 : decode cX12_isOf 21 = .ok (.bipush 9, 2) := by decide +kernel
theorem dX12_isOf_23 : decode cX12_isOf 23 = .ok (.iadd, 1) := by decide +kernel
theorem dX12_isOf_24 : decode cX12_isOf 24 = .ok (.iaload, 1) := by decide +kernel
theorem dX12_isOf_25 : decode cX12_isOf 25 = .ok (.iload_n 3, 1) := by decide +kernel
theorem dX12_isOf_26 : decode cX12_isOf 26 = .ok (.if_icmp .gt 7, 3) := by decide +kernel
theorem dX12_isOf_29 : decode cX12_isOf 29 = .ok (.iconst 1, 1) := by decide +kernel
theorem dX12_isOf_30 : decode cX12_isOf 30 = .ok (.goto 4, 3) := by decide +kernel
theorem dX12_isOf_33 : decode cX12_isOf 33 = .ok (.iconst 0, 1) := by decide +kernel
theorem dX12_isOf_34 : decode cX12_isOf 34 = .ok (.ireturn, 1) := by decide +kernel
theorem dX12_marks_0 : decode cX12_marks 0 = .ok (.aload_n 0, 1) := by decide +kernel
theorem dX12_marks_1 : decode cX12_marks 1 = .ok (.iconst 0, 1) := by decide +kernel
theorem dX12_marks_2 : decode cX12_marks 2 = .ok (.putfield 80, 3) := by decide +kernel
theorem dX12_marks_5 : decode cX12_marks 5 = .ok (.iload_n 1, 1) := by decide +kernel
theorem dX12_marks_6 : decode cX12_marks 6 = .ok (.invokestatic 104, 3) := by decide +kernel
theorem dX12_marks_9 : decode cX12_marks 9 = .ok (.ifCond .eq 10, 3) := by decide +kernel
theorem dX12_marks_12 : decode cX12_marks 12 = .ok (.iload_n 2, 1) := by decide +kernel
theorem dX12_marks_13 : decode cX12_marks 13 = .ok (.invokestatic 95, 3) := by decide +kernel
theorem dX12_marks_16 : decode cX12_marks 16 = .ok (.ifCond .ne 5, 3) := by decide +kernel
theorem dX12_marks_19 : decode cX12_marks 19 = .ok (.iconst (-1), 1) := by decide +kernel
theorem dX12_marks_20 : decode cX12_marks 20 = .ok (.ireturn, 1) := by decide +kernel
theorem dX12_marks_21 : decode cX12_marks 21 = .ok (.iconst 0, 1) := by decide +kernel
theorem dX12_marks_22 : decode cX12_marks 22 = .ok (.istore_n 3, 1) := by decide +kernel
theorem dX12_marks_23 : decode cX12_marks 23 = .ok (.iconst 0, 1) := by decide +kernel
theorem dX12_marks_24 : decode cX12_marks 24 = .ok (.istore 4, 2) := by decide +kernel
theorem dX12_marks_26 : decode cX12_marks 26 = .ok (.iload 4, 2) := by decide +kernel
theorem dX12_marks_28 : decode cX12_marks 28 = .ok (.aload_n 0, 1) := by decide +kernel
theorem dX12_marks_29 : decode cX12_marks 29 = .ok (.getfield 88, 3) := by decide +kernel
theorem dX12_marks_32 : decode cX12_marks 32 = .ok (.if_icmp .ge 28, 3) := by decide +kernel
theorem dX12_marks_35 : decode cX12_marks 35 = .ok (.iload_n 3, 1) := by decide +kernel
theorem dX12_marks_36 : decode cX12_marks 36 = .ok (.aload_n 0, 1) := by decide +kernel
theorem dX12_marks_37 : decode cX12_marks 37 = .ok (.iload 4, 2) := by decide +kernel
theorem dX12_marks_39 : decode cX12_marks 39 = .ok (.iload_n 1, 1) := by decide +kernel
theorem dX12_marks_40 : decode cX12_marks 40 = .ok (.iload_n 2, 1) := by decide +kernel
theorem dX12_marks_41 : decode cX12_marks 41 = .ok (.invokevirtual 136, 3) := by decide +kernel
theorem dX12_marks_44 : decode cX12_marks 44 = .ok (.ifCond .eq 7, 3) := by decide +kernel
theorem dX12_marks_47 : decode cX12_marks 47 = .ok (.iconst 1, 1) := by decide +kernel
theorem dX12_marks_48 : decode cX12_marks 48 = .ok (.goto 4, 3) := by decide +kernel
theorem dX12_marks_51 : decode cX12_marks 51 = .ok (.iconst 0, 1) := by decide +kernel
theorem dX12_marks_52 : decode cX12_marks 52 = .ok (.iadd, 1) := by decide +kernel
theorem dX12_marks_53 : decode cX12_marks 53 = .ok (.istore_n 3, 1) := by decide +kernel
theorem dX12_marks_54 : decode cX12_marks 54 = .ok (.iinc 4 1, 3) := by decide +kernel
theorem dX12_marks_57 : decode cX12_marks 57 = .ok (.goto (-31), 3) := by decide +kernel
theorem dX12_marks_60 : decode cX12_marks 60 = .ok (.iload_n 3, 1) := by decide +kernel
theorem dX12_marks_61 : decode cX12_marks 61 = .ok (.ireturn, 1) := by decide +kernel
theorem dX12_sail_0 : decode cX12_sail 0 = .ok (.aload_n 0, 1) := by decide +kernel
theorem dX12_sail_1 : decode cX12_sail 1 = .ok (.iconst 0, 1) := by decide +kernel
theorem dX12_sail_2 : decode cX12_sail 2 = .ok (.putfield 80, 3) := by decide +kernel
theorem dX12_sail_5 : decode cX12_sail 5 = .ok (.iload_n 1, 1) := by decide +kernel
theorem dX12_sail_6 : decode cX12_sail 6 = .ok (.invokestatic 91, 3) := by decide +kernel
theorem dX12_sail_9 : decode cX12_sail 9 = .ok (.ifCond .eq 34, 3) := by decide +kernel
theorem dX12_sail_12 : decode cX12_sail 12 = .ok (.iload_n 2, 1) := by decide +kernel
theorem dX12_sail_13 : decode cX12_sail 13 = .ok (.invokestatic 91, 3) := by decide +kernel
theorem dX12_sail_16 : decode cX12_sail 16 = .ok (.ifCond .eq 27, 3) := by decide +kernel
theorem dX12_sail_19 : decode cX12_sail 19 = .ok (.iload_n 1, 1) := by decide +kernel
theorem dX12_sail_20 : decode cX12_sail 20 = .ok (.iload_n 2, 1) := by decide +kernel
theorem dX12_sail_21 : decode cX12_sail 21 = .ok (.if_icmp .eq 22, 3) := by decide +kernel
theorem dX12_sail_24 : decode cX12_sail 24 = .ok (.iload_n 3, 1) := by decide +kernel
theorem dX12_sail_25 : decode cX12_sail 25 = .ok (.invokestatic 95, 3) := by decide +kernel
theorem dX12_sail_28 : decode cX12_sail 28 = .ok (.ifCond .eq 15, 3) := by decide +kernel
theorem dX12_sail_31 : decode cX12_sail 31 = .ok (.iload 4, 2) := by decide +kernel
theorem dX12_sail_33 : decode cX12_sail 33 = .ok (.iload_n 3, 1) := by decide +kernel
theorem dX12_sail_34 : decode cX12_sail 34 = .ok (.sipush 999, 3) := by decide +kernel
theorem dX12_sail_37 : decode cX12_sail 37 = .ok (.invokestatic 84, 3) := by decide +kernel
theorem dX12_sail_40 : decode cX12_sail 40 = .ok (.ifCond .ne 5, 3) := by decide +kernel
theorem dX12_sail_43 : decode cX12_sail 43 = .ok (.iconst (-1), 1) := by decide +kernel
theorem dX12_sail_44 : decode cX12_sail 44 = .ok (.ireturn, 1) := by decide +kernel
theorem dX12_sail_45 : decode cX12_sail 45 = .ok (.aload_n 0, 1) := by decide +kernel
theorem dX12_sail_46 : decode cX12_sail 46 = .ok (.getfield 139, 3) := by decide +kernel
theorem dX12_sail_49 : decode cX12_sail 49 = .ok (.bipush 20, 2) := by decide +kernel
theorem dX12_sail_51 : decode cX12_sail 51 = .ok (.if_icmp .ne 6, 3) := by decide +kernel
theorem dX12_sail_54 : decode cX12_sail 54 = .ok (.bipush (-3), 2) := by decide +kernel
theorem dX12_sail_56 : decode cX12_sail 56 = .ok (.ireturn, 1) := by decide +kernel
theorem dX12_sail_57 : decode cX12_sail 57 = .ok (.aload_n 0, 1) := by decide +kernel
theorem dX12_sail_58 : decode cX12_sail 58 = .ok (.getfield 40, 3) := by decide +kernel
theorem dX12_sail_61 : decode cX12_sail 61 = .ok (.aload_n 0, 1) := by decide +kernel
theorem dX12_sail_62 : decode cX12_sail 62 = .ok (.getfield 139, 3) := by decide +kernel
theorem dX12_sail_65 : decode cX12_sail 65 = .ok (.iload_n 1, 1) := by decide +kernel
theorem dX12_sail_66 : decode cX12_sail 66 = .ok (.iastore, 1) := by decide +kernel
theorem dX12_sail_67 : decode cX12_sail 67 = .ok (.aload_n 0, 1) := by decide +kernel
theorem dX12_sail_68 : decode cX12_sail 68 = .ok (.getfield 43, 3) := by decide +kernel
theorem dX12_sail_71 : decode cX12_sail 71 = .ok (.aload_n 0, 1) := by decide +kernel
theorem dX12_sail_72 : decode cX12_sail 72 = .ok (.getfield 139, 3) := by decide +kernel
theorem dX12_sail_75 : decode cX12_sail 75 = .ok (.iload_n 2, 1) := by decide +kernel
theorem dX12_sail_76 : decode cX12_sail 76 = .ok (.iastore, 1) := by decide +kernel
theorem dX12_sail_77 : decode cX12_sail 77 = .ok (.aload_n 0, 1) := by decide +kernel
theorem dX12_sail_78 : decode cX12_sail 78 = .ok (.getfield 46, 3) := by decide +kernel
theorem dX12_sail_81 : decode cX12_sail 81 = .ok (.aload_n 0, 1) := by decide +kernel
theorem dX12_sail_82 : decode cX12_sail 82 = .ok (.getfield 139, 3) := by decide +kernel
theorem dX12_sail_85 : decode cX12_sail 85 = .ok (.iload_n 3, 1) := by decide +kernel
theorem dX12_sail_86 : decode cX12_sail 86 = .ok (.iastore, 1) := by decide +kernel
theorem dX12_sail_87 : decode cX12_sail 87 = .ok (.aload_n 0, 1) := by decide +kernel
theorem dX12_sail_88 : decode cX12_sail 88 = .ok (.getfield 49, 3) := by decide +kernel
theorem dX12_sail_91 : decode cX12_sail 91 = .ok (.aload_n 0, 1) := by decide +kernel
theorem dX12_sail_92 : decode cX12_sail 92 = .ok (.getfield 139, 3) := by decide +kernel
theorem dX12_sail_95 : decode cX12_sail 95 = .ok (.iload 4, 2) := by decide +kernel
theorem dX12_sail_97 : decode cX12_sail 97 = .ok (.iastore, 1) := by decide +kernel
theorem dX12_sail_98 : decode cX12_sail 98 = .ok (.aload_n 0, 1) := by decide +kernel
theorem dX12_sail_99 : decode cX12_sail 99 = .ok (.dup, 1) := by decide +kernel
theorem dX12_sail_100 : decode cX12_sail 100 = .ok (.getfield 139, 3) := by decide +kernel
theorem dX12_sail_103 : decode cX12_sail 103 = .ok (.iconst 1, 1) := by decide +kernel
theorem dX12_sail_104 : decode cX12_sail 104 = .ok (.iadd, 1) := by decide +kernel
theorem dX12_sail_105 : decode cX12_sail 105 = .ok (.putfield 139, 3) := by decide +kernel
theorem dX12_sail_108 : decode cX12_sail 108 = .ok (.aload_n 0, 1) := by decide +kernel
theorem dX12_sail_109 : decode cX12_sail 109 = .ok (.getfield 139, 3) := by decide +kernel
theorem dX12_sail_112 : decode cX12_sail 112 = .ok (.iconst 1, 1) := by decide +kernel
theorem dX12_sail_113 : decode cX12_sail 113 = .ok (.isub, 1) := by decide +kernel
theorem dX12_sail_114 : decode cX12_sail 114 = .ok (.ireturn, 1) := by decide +kernel
theorem dX12_late_0 : decode cX12_late 0 = .ok (.aload_n 0, 1) := by decide +kernel
theorem dX12_late_1 : decode cX12_late 1 = .ok (.iconst 0, 1) := by decide +kernel
theorem dX12_late_2 : decode cX12_late 2 = .ok (.putfield 80, 3) := by decide +kernel
theorem dX12_late_5 : decode cX12_late 5 = .ok (.iload_n 1, 1) := by decide +kernel
theorem dX12_late_6 : decode cX12_late 6 = .ok (.iconst 0, 1) := by decide +kernel
theorem dX12_late_7 : decode cX12_late 7 = .ok (.aload_n 0, 1) := by decide +kernel
theorem dX12_late_8 : decode cX12_late 8 = .ok (.getfield 139, 3) := by decide +kernel
theorem dX12_late_11 : decode cX12_late 11 = .ok (.iconst 1, 1) := by decide +kernel
theorem dX12_late_12 : decode cX12_late 12 = .ok (.isub, 1) := by decide +kernel
theorem dX12_late_13 : decode cX12_late 13 = .ok (.invokestatic 84, 3) := by decide +kernel
theorem dX12_late_16 : decode cX12_late 16 = .ok (.ifCond .eq 25, 3) := by decide +kernel
theorem dX12_late_19 : decode cX12_late 19 = .ok (.iload_n 2, 1) := by decide +kernel
theorem dX12_late_20 : decode cX12_late 20 = .ok (.bipush (-9), 2) := by decide +kernel
theorem dX12_late_22 : decode cX12_late 22 = .ok (.if_icmp .eq 21, 3) := by decide +kernel
theorem dX12_late_25 : decode cX12_late 25 = .ok (.iload_n 2, 1) := by decide +kernel
theorem dX12_late_26 : decode cX12_late 26 = .ok (.aload_n 0, 1) := by decide +kernel
theorem dX12_late_27 : decode cX12_late 27 = .ok (.getfield 46, 3) := by decide +kernel
theorem dX12_late_30 : decode cX12_late 30 = .ok (.iload_n 1, 1) := by decide +kernel
theorem dX12_late_31 : decode cX12_late 31 = .ok (.iaload, 1) := by decide +kernel
theorem dX12_late_32 : decode cX12_late 32 = .ok (.sipush 999, 3) := by decide +kernel
theorem dX12_late_35 : decode cX12_late 35 = .ok (.invokestatic 84, 3) := by decide +kernel
theorem dX12_late_38 : decode cX12_late 38 = .ok (.ifCond .ne 5, 3) := by decide +kernel
theorem dX12_late_41 : decode cX12_late 41 = .ok (.iconst (-1), 1) := by decide +kernel
theorem dX12_late_42 : decode cX12_late 42 = .ok (.ireturn, 1) := by decide +kernel
theorem dX12_late_43 : decode cX12_late 43 = .ok (.aload_n 0, 1) := by decide +kernel
theorem dX12_late_44 : decode cX12_late 44 = .ok (.getfield 49, 3) := by decide +kernel
theorem dX12_late_47 : decode cX12_late 47 = .ok (.iload_n 1, 1) := by decide +kernel
theorem dX12_late_48 : decode cX12_late 48 = .ok (.iaload, 1) := by decide +kernel
theorem dX12_late_49 : decode cX12_late 49 = .ok (.istore_n 3, 1) := by decide +kernel
theorem dX12_late_50 : decode cX12_late 50 = .ok (.aload_n 0, 1) := by decide +kernel
theorem dX12_late_51 : decode cX12_late 51 = .ok (.getfield 49, 3) := by decide +kernel
theorem dX12_late_54 : decode cX12_late 54 = .ok (.iload_n 1, 1) := by decide +kernel
theorem dX12_late_55 : decode cX12_late 55 = .ok (.iload_n 2, 1) := by decide +kernel
theorem dX12_late_56 : decode cX12_late 56 = .ok (.iastore, 1) := by decide +kernel
theorem dX12_late_57 : decode cX12_late 57 = .ok (.iload_n 3, 1) := by decide +kernel
theorem dX12_late_58 : decode cX12_late 58 = .ok (.ireturn, 1) := by decide +kernel
theorem dX12_road_0 : decode cX12_road 0 = .ok (.aload_n 0, 1) := by decide +kernel
theorem dX12_road_1 : decode cX12_road 1 = .ok (.iconst 0, 1) := by decide +kernel
theorem dX12_road_2 : decode cX12_road 2 = .ok (.putfield 80, 3) := by decide +kernel
theorem dX12_road_5 : decode cX12_road 5 = .ok (.iload_n 1, 1) := by decide +kernel
theorem dX12_road_6 : decode cX12_road 6 = .ok (.invokestatic 91, 3) := by decide +kernel
theorem dX12_road_9 : decode cX12_road 9 = .ok (.ifCond .eq 31, 3) := by decide +kernel
theorem dX12_road_12 : decode cX12_road 12 = .ok (.iload_n 2, 1) := by decide +kernel
theorem dX12_road_13 : decode cX12_road 13 = .ok (.invokestatic 91, 3) := by decide +kernel
theorem dX12_road_16 : decode cX12_road 16 = .ok (.ifCond .eq 24, 3) := by decide +kernel
theorem dX12_road_19 : decode cX12_road 19 = .ok (.iload_n 1, 1) := by decide +kernel
theorem dX12_road_20 : decode cX12_road 20 = .ok (.iload_n 2, 1) := by decide +kernel
theorem dX12_road_21 : decode cX12_road 21 = .ok (.if_icmp .eq 19, 3) := by decide +kernel
theorem dX12_road_24 : decode cX12_road 24 = .ok (.iload_n 3, 1) := by decide +kernel
theorem dX12_road_25 : decode cX12_road 25 = .ok (.bipush (-9), 2) := by decide +kernel
theorem dX12_road_27 : decode cX12_road 27 = .ok (.if_icmp .eq 15, 3) := by decide +kernel
theorem dX12_road_30 : decode cX12_road 30 = .ok (.iload_n 3, 1) := by decide +kernel
theorem dX12_road_31 : decode cX12_road 31 = .ok (.iconst 1, 1) := by decide +kernel
theorem dX12_road_32 : decode cX12_road 32 = .ok (.bipush 30, 2) := by decide +kernel
theorem dX12_road_34 : decode cX12_road 34 = .ok (.invokestatic 84, 3) := by decide +kernel
theorem dX12_road_37 : decode cX12_road 37 = .ok (.ifCond .ne 5, 3) := by decide +kernel
theorem dX12_road_40 : decode cX12_road 40 = .ok (.iconst (-1), 1) := by decide +kernel
theorem dX12_road_41 : decode cX12_road 41 = .ok (.ireturn, 1) := by decide +kernel
theorem dX12_road_42 : decode cX12_road 42 = .ok (.aload_n 0, 1) := by decide +kernel
theorem dX12_road_43 : decode cX12_road 43 = .ok (.getfield 52, 3) := by decide +kernel
theorem dX12_road_46 : decode cX12_road 46 = .ok (.bipush 6, 2) := by decide +kernel
theorem dX12_road_48 : decode cX12_road 48 = .ok (.iload_n 1, 1) := by decide +kernel
theorem dX12_road_49 : decode cX12_road 49 = .ok (.imul, 1) := by decide +kernel
theorem dX12_road_50 : decode cX12_road 50 = .ok (.iload_n 2, 1) := by decide +kernel
theorem dX12_road_51 : decode cX12_road 51 = .ok (.iadd, 1) := by decide +kernel
theorem dX12_road_52 : decode cX12_road 52 = .ok (.iaload, 1) := by decide +kernel
theorem dX12_road_53 : decode cX12_road 53 = .ok (.istore 4, 2) := by decide +kernel
theorem dX12_road_55 : decode cX12_road 55 = .ok (.aload_n 0, 1) := by decide +kernel
theorem dX12_road_56 : decode cX12_road 56 = .ok (.getfield 52, 3) := by decide +kernel
theorem dX12_road_59 : decode cX12_road 59 = .ok (.bipush 6, 2) := by decide +kernel
theorem dX12_road_61 : decode cX12_road 61 = .ok (.iload_n 1, 1) := by decide +kernel
theorem dX12_road_62 : decode cX12_road 62 = .ok (.imul, 1) := by decide +kernel
theorem dX12_road_63 : decode cX12_road 63 = .ok (.iload_n 2, 1) := by decide +kernel
theorem dX12_road_64 : decode cX12_road 64 = .ok (.iadd, 1) := by decide +kernel
theorem dX12_road_65 : decode cX12_road 65 = .ok (.iload_n 3, 1) := by decide +kernel
theorem dX12_road_66 : decode cX12_road 66 = .ok (.iastore, 1) := by decide +kernel
theorem dX12_road_67 : decode cX12_road 67 = .ok (.aload_n 0, 1) := by decide +kernel
theorem dX12_road_68 : decode cX12_road 68 = .ok (.getfield 52, 3) := by decide +kernel
theorem dX12_road_71 : decode cX12_road 71 = .ok (.bipush 6, 2) := by decide +kernel
theorem dX12_road_73 : decode cX12_road 73 = .ok (.iload_n 2, 1) := by decide +kernel
theorem dX12_road_74 : decode cX12_road 74 = .ok (.imul, 1) := by decide +kernel
theorem dX12_road_75 : decode cX12_road 75 = .ok (.iload_n 1, 1) := by decide +kernel
theorem dX12_road_76 : decode cX12_road 76 = .ok (.iadd, 1) := by decide +kernel
theorem dX12_road_77 : decode cX12_road 77 = .ok (.iload_n 3, 1) := by decide +kernel
theorem dX12_road_78 : decode cX12_road 78 = .ok (.iastore, 1) := by decide +kernel
theorem dX12_road_79 : decode cX12_road 79 = .ok (.iload 4, 2) := by decide +kernel
theorem dX12_road_81 : decode cX12_road 81 = .ok (.ireturn, 1) := by decide +kernel
theorem dX12_soonestOf_0 : decode cX12_soonestOf 0 = .ok (.iconst 0, 1) := by decide +kernel
theorem dX12_soonestOf_1 : decode cX12_soonestOf 1 = .ok (.istore 4, 2) := by decide +kernel
theorem dX12_soonestOf_3 : decode cX12_soonestOf 3 = .ok (.iload 4, 2) := by decide +kernel
theorem dX12_soonestOf_5 : decode cX12_soonestOf 5 = .ok (.bipush 6, 2) := by decide +kernel
theorem dX12_soonestOf_7 : decode cX12_soonestOf 7 = .ok (.if_icmp .ge 37, 3) := by decide +kernel
theorem dX12_soonestOf_10 : decode cX12_soonestOf 10 = .ok (.aload_n 0, 1) := by decide +kernel
theorem dX12_soonestOf_11 : decode cX12_soonestOf 11 = .ok (.getfield 55, 3) := by decide +kernel
theorem dX12_soonestOf_14 : decode cX12_soonestOf 14 = .ok (.iload 4, 2) := by decide +kernel
theorem dX12_soonestOf_16 : decode cX12_soonestOf 16 = .ok (.iload 4, 2) := by decide +kernel
theorem dX12_soonestOf_18 : decode cX12_soonestOf 18 = .ok (.iload_n 1, 1) := by decide +kernel
theorem dX12_soonestOf_19 : decode cX12_soonestOf 19 = .ok (.if_icmp .ne 7, 3) := by decide +kernel
theorem dX12_soonestOf_22 : decode cX12_soonestOf 22 = .ok (.iload_n 2, 1) := by decide +kernel
theorem dX12_soonestOf_23 : decode cX12_soonestOf 23 = .ok (.goto 6, 3) := by decide +kernel
theorem dX12_soonestOf_26 : decode cX12_soonestOf 26 = .ok (.sipush 1000, 3) := by decide +kernel
theorem dX12_soonestOf_29 : decode cX12_soonestOf 29 = .ok (.iastore, 1) := by decide +kernel
theorem dX12_soonestOf_30 : decode cX12_soonestOf 30 = .ok (.aload_n 0, 1) := by decide +kernel
theorem dX12_soonestOf_31 : decode cX12_soonestOf 31 = .ok (.getfield 58, 3) := by decide +kernel
theorem dX12_soonestOf_34 : decode cX12_soonestOf 34 = .ok (.iload 4, 2) := by decide +kernel
theorem dX12_soonestOf_36 : decode cX12_soonestOf 36 = .ok (.iconst 0, 1) := by decide +kernel
theorem dX12_soonestOf_37 : decode cX12_soonestOf 37 = .ok (.bastore, 1) := by decide +kernel
theorem dX12_soonestOf_38 : decode cX12_soonestOf 38 = .ok (.iinc 4 1, 3) := by decide +kernel
theorem dX12_soonestOf_41 : decode cX12_soonestOf 41 = .ok (.goto (-38), 3) := by decide +kernel
theorem dX12_soonestOf_44 : decode cX12_soonestOf 44 = .ok (.iconst 0, 1) := by decide +kernel
theorem dX12_soonestOf_45 : decode cX12_soonestOf 45 = .ok (.istore 4, 2) := by decide +kernel
theorem dX12_soonestOf_47 : decode cX12_soonestOf 47 = .ok (.iload 4, 2) := by decide +kernel
theorem dX12_soonestOf_49 : decode cX12_soonestOf 49 = .ok (.bipush 6, 2) := by decide +kernel
theorem dX12_soonestOf_51 : decode cX12_soonestOf 51 = .ok (.if_icmp .ge 292, 3) := by decide +kernel
theorem dX12_soonestOf_54 : decode cX12_soonestOf 54 = .ok (.bipush (-9), 2) := by decide +kernel
theorem dX12_soonestOf_56 : decode cX12_soonestOf 56 = .ok (.istore 5, 2) := by decide +kernel
theorem dX12_soonestOf_58 : decode cX12_soonestOf 58 = .ok (.iconst 0, 1) := by decide +kernel
theorem dX12_soonestOf_59 : decode cX12_soonestOf 59 = .ok (.istore 6, 2) := by decide +kernel
theorem dX12_soonestOf_61 : decode cX12_soonestOf 61 = .ok (.iload 6, 2) := by decide +kernel
theorem dX12_soonestOf_63 : decode cX12_soonestOf 63 = .ok (.bipush 6, 2) := by decide +kernel
theorem dX12_soonestOf_65 : decode cX12_soonestOf 65 = .ok (.if_icmp .ge 52, 3) := by decide +kernel
theorem dX12_soonestOf_68 : decode cX12_soonestOf 68 = .ok (.aload_n 0, 1) := by decide +kernel
theorem dX12_soonestOf_69 : decode cX12_soonestOf 69 = .ok (.getfield 58, 3) := by decide +kernel
theorem dX12_soonestOf_72 : decode cX12_soonestOf 72 = .ok (.iload 6, 2) := by decide +kernel
theorem dX12_soonestOf_74 : decode cX12_soonestOf 74 = .ok (.baload, 1) := by decide +kernel
theorem dX12_soonestOf_75 : decode cX12_soonestOf 75 = .ok (.ifCond .ne 32, 3) := by decide +kernel
theorem dX12_soonestOf_78 : decode cX12_soonestOf 78 = .ok (.iload 5, 2) := by decide +kernel
theorem dX12_soonestOf_80 : decode cX12_soonestOf 80 = .ok (.bipush (-9), 2) := by decide +kernel
theorem dX12_soonestOf_82 : decode cX12_soonestOf 82 = .ok (.if_icmp .eq 20, 3) := by decide +kernel
theorem dX12_soonestOf_85 : decode cX12_soonestOf 85 = .ok (.aload_n 0, 1) := by decide +kernel
theorem dX12_soonestOf_86 : decode cX12_soonestOf 86 = .ok (.getfield 55, 3) := by decide +kernel
theorem dX12_soonestOf_89 : decode cX12_soonestOf 89 = .ok (.iload 6, 2) := by decide +kernel
theorem dX12_soonestOf_91 : decode cX12_soonestOf 91 = .ok (.iaload, 1) := by decide +kernel
theorem dX12_soonestOf_92 : decode cX12_soonestOf 92 = .ok (.aload_n 0, 1) := by decide +kernel
theorem dX12_soonestOf_93 : decode cX12_soonestOf 93 = .ok (.getfield 55, 3) := by decide +kernel
theorem dX12_soonestOf_96 : decode cX12_soonestOf 96 = .ok (.iload 5, 2) := by decide +kernel
theorem dX12_soonestOf_98 : decode cX12_soonestOf 98 = .ok (.iaload, 1) := by decide +kernel
theorem dX12_soonestOf_99 : decode cX12_soonestOf 99 = .ok (.if_icmp .ge 8, 3) := by decide +kernel
theorem dX12_soonestOf_102 : decode cX12_soonestOf 102 = .ok (.iload 6, 2) := by decide +kernel
theorem dX12_soonestOf_104 : decode cX12_soonestOf 104 = .ok (.goto 5, 3) := by decide +kernel
theorem dX12_soonestOf_107 : decode cX12_soonestOf 107 = .ok (.iload 5, 2) := by decide +kernel
theorem dX12_soonestOf_109 : decode cX12_soonestOf 109 = .ok (.istore 5, 2) := by decide +kernel
theorem dX12_soonestOf_111 : decode cX12_soonestOf 111 = .ok (.iinc 6 1, 3) := by decide +kernel
theorem dX12_soonestOf_114 : decode cX12_soonestOf 114 = .ok (.goto (-53), 3) := by decide +kernel
theorem dX12_soonestOf_117 : decode cX12_soonestOf 117 = .ok (.aload_n 0, 1) := by decide +kernel
theorem dX12_soonestOf_118 : decode cX12_soonestOf 118 = .ok (.getfield 58, 3) := by decide +kernel
theorem dX12_soonestOf_121 : decode cX12_soonestOf 121 = .ok (.iload 5, 2) := by decide +kernel
theorem dX12_soonestOf_123 : decode cX12_soonestOf 123 = .ok (.iconst 1, 1) := by decide +kernel
theorem dX12_soonestOf_124 : decode cX12_soonestOf 124 = .ok (.bastore, 1) := by decide +kernel
theorem dX12_soonestOf_125 : decode cX12_soonestOf 125 = .ok (.iconst 0, 1) := by decide +kernel
theorem dX12_soonestOf_126 : decode cX12_soonestOf 126 = .ok (.istore 6, 2) := by decide +kernel
theorem dX12_soonestOf_128 : decode cX12_soonestOf 128 = .ok (.iload 6, 2) := by decide +kernel
theorem dX12_soonestOf_130 : decode cX12_soonestOf 130 = .ok (.bipush 6, 2) := by decide +kernel
theorem dX12_soonestOf_132 : decode cX12_soonestOf 132 = .ok (.if_icmp .ge 78, 3) := by decide +kernel
theorem dX12_soonestOf_135 : decode cX12_soonestOf 135 = .ok (.aload_n 0, 1) := by decide +kernel
theorem dX12_soonestOf_136 : decode cX12_soonestOf 136 = .ok (.getfield 52, 3) := by decide +kernel
theorem dX12_soonestOf_139 : decode cX12_soonestOf 139 = .ok (.bipush 6, 2) := by decide +kernel
theorem dX12_soonestOf_141 : decode cX12_soonestOf 141 = .ok (.iload 5, 2) := by decide +kernel
theorem dX12_soonestOf_143 : decode cX12_soonestOf 143 = .ok (.imul, 1) := by decide +kernel
theorem dX12_soonestOf_144 : decode cX12_soonestOf 144 = .ok (.iload 6, 2) := by decide +kernel
theorem dX12_soonestOf_146 : decode cX12_soonestOf 146 = .ok (.iadd, 1) := by decide +kernel
theorem dX12_soonestOf_147 : decode cX12_soonestOf 147 = .ok (.iaload, 1) := by decide +kernel
theorem dX12_soonestOf_148 : decode cX12_soonestOf 148 = .ok (.istore 7, 2) := by decide +kernel
theorem dX12_soonestOf_150 : decode cX12_soonestOf 150 = .ok (.aload_n 0, 1) := by decide +kernel
theorem dX12_soonestOf_151 : decode cX12_soonestOf 151 = .ok (.getfield 55, 3) := by decide +kernel
theorem dX12_soonestOf_154 : decode cX12_soonestOf 154 = .ok (.iload 6, 2) := by decide +kernel
theorem dX12_soonestOf_156 : decode cX12_soonestOf 156 = .ok (.iload 7, 2) := by decide +kernel
theorem dX12_soonestOf_158 : decode cX12_soonestOf 158 = .ok (.bipush (-9), 2) := by decide +kernel
theorem dX12_soonestOf_160 : decode cX12_soonestOf 160 = .ok (.if_icmp .eq 36, 3) := by decide +kernel
theorem dX12_soonestOf_163 : decode cX12_soonestOf 163 = .ok (.aload_n 0, 1) := by decide +kernel
theorem dX12_soonestOf_164 : decode cX12_soonestOf 164 = .ok (.getfield 55, 3) := by decide +kernel
theorem dX12_soonestOf_167 : decode cX12_soonestOf 167 = .ok (.iload 5, 2) := by decide +kernel
theorem dX12_soonestOf_169 : decode cX12_soonestOf 169 = .ok (.iaload, 1) := by decide +kernel
theorem dX12_soonestOf_170 : decode cX12_soonestOf 170 = .ok (.iload 7, 2) := by decide +kernel
theorem dX12_soonestOf_172 : decode cX12_soonestOf 172 = .ok (.iadd, 1) := by decide +kernel
theorem dX12_soonestOf_173 : decode cX12_soonestOf 173 = .ok (.aload_n 0, 1) := by decide +kernel
theorem dX12_soonestOf_174 : decode cX12_soonestOf 174 = .ok (.getfield 55, 3) := by decide +kernel
theorem dX12_soonestOf_177 : decode cX12_soonestOf 177 = .ok (.iload 6, 2) := by decide +kernel
theorem dX12_soonestOf_179 : decode cX12_soonestOf 179 = .ok (.iaload, 1) := by decide +kernel
theorem dX12_soonestOf_180 : decode cX12_soonestOf 180 = .ok (.if_icmp .ge 16, 3) := by decide +kernel
theorem dX12_soonestOf_183 : decode cX12_soonestOf 183 = .ok (.aload_n 0, 1) := by decide +kernel
theorem dX12_soonestOf_184 : decode cX12_soonestOf 184 = .ok (.getfield 55, 3) := by decide +kernel
theorem dX12_soonestOf_187 : decode cX12_soonestOf 187 = .ok (.iload 5, 2) := by decide +kernel
theorem dX12_soonestOf_189 : decode cX12_soonestOf 189 = .ok (.iaload, 1) := by decide +kernel
theorem dX12_soonestOf_190 : decode cX12_soonestOf 190 = .ok (.iload 7, 2) := by decide +kernel
theorem dX12_soonestOf_192 : decode cX12_soonestOf 192 = .ok (.iadd, 1) := by decide +kernel
theorem dX12_soonestOf_193 : decode cX12_soonestOf 193 = .ok (.goto 10, 3) := by decide +kernel
theorem dX12_soonestOf_196 : decode cX12_soonestOf 196 = .ok (.aload_n 0, 1) := by decide +kernel
theorem dX12_soonestOf_197 : decode cX12_soonestOf 197 = .ok (.getfield 55, 3) := by decide +kernel
theorem dX12_soonestOf_200 : decode cX12_soonestOf 200 = .ok (.iload 6, 2) := by decide +kernel
theorem dX12_soonestOf_202 : decode cX12_soonestOf 202 = .ok (.iaload, 1) := by decide +kernel
theorem dX12_soonestOf_203 : decode cX12_soonestOf 203 = .ok (.iastore, 1) := by decide +kernel
theorem dX12_soonestOf_204 : decode cX12_soonestOf 204 = .ok (.iinc 6 1, 3) := by decide +kernel
theorem dX12_soonestOf_207 : decode cX12_soonestOf 207 = .ok (.goto (-79), 3) := by decide +kernel
theorem dX12_soonestOf_210 : decode cX12_soonestOf 210 = .ok (.iconst 0, 1) := by decide +kernel
theorem dX12_soonestOf_211 : decode cX12_soonestOf 211 = .ok (.istore 6, 2) := by decide +kernel
theorem dX12_soonestOf_213 : decode cX12_soonestOf 213 = .ok (.iload 6, 2) := by decide +kernel
theorem dX12_soonestOf_215 : decode cX12_soonestOf 215 = .ok (.aload_n 0, 1) := by decide +kernel
theorem dX12_soonestOf_216 : decode cX12_soonestOf 216 = .ok (.getfield 139, 3) := by decide +kernel
theorem dX12_soonestOf_219 : decode cX12_soonestOf 219 = .ok (.if_icmp .ge 118, 3) := by decide +kernel
theorem dX12_soonestOf_222 : decode cX12_soonestOf 222 = .ok (.aload_n 0, 1) := by decide +kernel
theorem dX12_soonestOf_223 : decode cX12_soonestOf 223 = .ok (.getfield 40, 3) := by decide +kernel
theorem dX12_soonestOf_226 : decode cX12_soonestOf 226 = .ok (.iload 6, 2) := by decide +kernel
theorem dX12_soonestOf_228 : decode cX12_soonestOf 228 = .ok (.iaload, 1) := by decide +kernel
theorem dX12_soonestOf_229 : decode cX12_soonestOf 229 = .ok (.iload 5, 2) := by decide +kernel
theorem dX12_soonestOf_231 : decode cX12_soonestOf 231 = .ok (.if_icmp .ne 36, 3) := by decide +kernel
theorem dX12_soonestOf_234 : decode cX12_soonestOf 234 = .ok (.aload_n 0, 1) := by decide +kernel
theorem dX12_soonestOf_235 : decode cX12_soonestOf 235 = .ok (.getfield 49, 3) := by decide +kernel
theorem dX12_soonestOf_238 : decode cX12_soonestOf 238 = .ok (.iload 6, 2) := by decide +kernel
theorem dX12_soonestOf_240 : decode cX12_soonestOf 240 = .ok (.iaload, 1) := by decide +kernel
theorem dX12_soonestOf_241 : decode cX12_soonestOf 241 = .ok (.bipush (-9), 2) := by decide +kernel
theorem dX12_soonestOf_243 : decode cX12_soonestOf 243 = .ok (.if_icmp .eq 24, 3) := by decide +kernel
theorem dX12_soonestOf_246 : decode cX12_soonestOf 246 = .ok (.aload_n 0, 1) := by decide +kernel
theorem dX12_soonestOf_247 : decode cX12_soonestOf 247 = .ok (.getfield 46, 3) := by decide +kernel
theorem dX12_soonestOf_250 : decode cX12_soonestOf 250 = .ok (.iload 6, 2) := by decide +kernel
theorem dX12_soonestOf_252 : decode cX12_soonestOf 252 = .ok (.iaload, 1) := by decide +kernel
theorem dX12_soonestOf_253 : decode cX12_soonestOf 253 = .ok (.aload_n 0, 1) := by decide +kernel
theorem dX12_soonestOf_254 : decode cX12_soonestOf 254 = .ok (.getfield 55, 3) := by decide +kernel
theorem dX12_soonestOf_257 : decode cX12_soonestOf 257 = .ok (.iload 5, 2) := by decide +kernel
theorem dX12_soonestOf_259 : decode cX12_soonestOf 259 = .ok (.iaload, 1) := by decide +kernel
theorem dX12_soonestOf_260 : decode cX12_soonestOf 260 = .ok (.if_icmp .lt 7, 3) := by decide +kernel
theorem dX12_soonestOf_263 : decode cX12_soonestOf 263 = .ok (.iconst 1, 1) := by decide +kernel
theorem dX12_soonestOf_264 : decode cX12_soonestOf 264 = .ok (.goto 4, 3) := by decide +kernel
theorem dX12_soonestOf_267 : decode cX12_soonestOf 267 = .ok (.iconst 0, 1) := by decide +kernel
theorem dX12_soonestOf_268 : decode cX12_soonestOf 268 = .ok (.istore 7, 2) := by decide +kernel
theorem dX12_soonestOf_270 : decode cX12_soonestOf 270 = .ok (.aload_n 0, 1) := by decide +kernel
theorem dX12_soonestOf_271 : decode cX12_soonestOf 271 = .ok (.getfield 55, 3) := by decide +kernel
theorem dX12_soonestOf_274 : decode cX12_soonestOf 274 = .ok (.aload_n 0, 1) := by decide +kernel
theorem dX12_soonestOf_275 : decode cX12_soonestOf 275 = .ok (.getfield 43, 3) := by decide +kernel
theorem dX12_soonestOf_278 : decode cX12_soonestOf 278 = .ok (.iload 6, 2) := by decide +kernel
theorem dX12_soonestOf_280 : decode cX12_soonestOf 280 = .ok (.iaload, 1) := by decide +kernel
theorem dX12_soonestOf_281 : decode cX12_soonestOf 281 = .ok (.iload 7, 2) := by decide +kernel
theorem dX12_soonestOf_283 : decode cX12_soonestOf 283 = .ok (.ifCond .eq 35, 3) := by decide +kernel
theorem dX12_soonestOf_286 : decode cX12_soonestOf 286 = .ok (.aload_n 0, 1) := by decide +kernel
theorem dX12_soonestOf_287 : decode cX12_soonestOf 287 = .ok (.getfield 49, 3) := by decide +kernel
theorem dX12_soonestOf_290 : decode cX12_soonestOf 290 = .ok (.iload 6, 2) := by decide +kernel
theorem dX12_soonestOf_292 : decode cX12_soonestOf 292 = .ok (.iaload, 1) := by decide +kernel
theorem dX12_soonestOf_293 : decode cX12_soonestOf 293 = .ok (.aload_n 0, 1) := by decide +kernel
theorem dX12_soonestOf_294 : decode cX12_soonestOf 294 = .ok (.getfield 55, 3) := by decide +kernel
theorem dX12_soonestOf_297 : decode cX12_soonestOf 297 = .ok (.aload_n 0, 1) := by decide +kernel
theorem dX12_soonestOf_298 : decode cX12_soonestOf 298 = .ok (.getfield 43, 3) := by decide +kernel
theorem dX12_soonestOf_301 : decode cX12_soonestOf 301 = .ok (.iload 6, 2) := by decide +kernel
theorem dX12_soonestOf_303 : decode cX12_soonestOf 303 = .ok (.iaload, 1) := by decide +kernel
theorem dX12_soonestOf_304 : decode cX12_soonestOf 304 = .ok (.iaload, 1) := by decide +kernel
theorem dX12_soonestOf_305 : decode cX12_soonestOf 305 = .ok (.if_icmp .ge 13, 3) := by decide +kernel
theorem dX12_soonestOf_308 : decode cX12_soonestOf 308 = .ok (.aload_n 0, 1) := by decide +kernel
theorem dX12_soonestOf_309 : decode cX12_soonestOf 309 = .ok (.getfield 49, 3) := by decide +kernel
theorem dX12_soonestOf_312 : decode cX12_soonestOf 312 = .ok (.iload 6, 2) := by decide +kernel
theorem dX12_soonestOf_314 : decode cX12_soonestOf 314 = .ok (.iaload, 1) := by decide +kernel
theorem dX12_soonestOf_315 : decode cX12_soonestOf 315 = .ok (.goto 15, 3) := by decide +kernel
theorem dX12_soonestOf_318 : decode cX12_soonestOf 318 = .ok (.aload_n 0, 1) := by decide +kernel
theorem dX12_soonestOf_319 : decode cX12_soonestOf 319 = .ok (.getfield 55, 3) := by decide +kernel
theorem dX12_soonestOf_322 : decode cX12_soonestOf 322 = .ok (.aload_n 0, 1) := by decide +kernel
theorem dX12_soonestOf_323 : decode cX12_soonestOf 323 = .ok (.getfield 43, 3) := by decide +kernel
theorem dX12_soonestOf_326 : decode cX12_soonestOf 326 = .ok (.iload 6, 2) := by decide +kernel
theorem dX12_soonestOf_328 : decode cX12_soonestOf 328 = .ok (.iaload, 1) := by decide +kernel
theorem dX12_soonestOf_329 : decode cX12_soonestOf 329 = .ok (.iaload, 1) := by decide +kernel
theorem dX12_soonestOf_330 : decode cX12_soonestOf 330 = .ok (.iastore, 1) := by decide +kernel
theorem dX12_soonestOf_331 : decode cX12_soonestOf 331 = .ok (.iinc 6 1, 3) := by decide +kernel
theorem dX12_soonestOf_334 : decode cX12_soonestOf 334 = .ok (.goto (-121), 3) := by decide +kernel
theorem dX12_soonestOf_337 : decode cX12_soonestOf 337 = .ok (.iinc 4 1, 3) := by decide +kernel
theorem dX12_soonestOf_340 : decode cX12_soonestOf 340 = .ok (.goto (-293), 3) := by decide +kernel
theorem dX12_soonestOf_343 : decode cX12_soonestOf 343 = .ok (.aload_n 0, 1) := by decide +kernel
theorem dX12_soonestOf_344 : decode cX12_soonestOf 344 = .ok (.getfield 55, 3) := by decide +kernel
theorem dX12_soonestOf_347 : decode cX12_soonestOf 347 = .ok (.iload_n 3, 1) := by decide +kernel
theorem dX12_soonestOf_348 : decode cX12_soonestOf 348 = .ok (.iaload, 1) := by decide +kernel
theorem dX12_soonestOf_349 : decode cX12_soonestOf 349 = .ok (.ireturn, 1) := by decide +kernel
theorem dX12_soonest_0 : decode cX12_soonest 0 = .ok (.aload_n 0, 1) := by decide +kernel
theorem dX12_soonest_1 : decode cX12_soonest 1 = .ok (.iconst 0, 1) := by decide +kernel
theorem dX12_soonest_2 : decode cX12_soonest 2 = .ok (.putfield 80, 3) := by decide +kernel
theorem dX12_soonest_5 : decode cX12_soonest 5 = .ok (.iload_n 1, 1) := by decide +kernel
theorem dX12_soonest_6 : decode cX12_soonest 6 = .ok (.invokestatic 91, 3) := by decide +kernel
theorem dX12_soonest_9 : decode cX12_soonest 9 = .ok (.ifCond .eq 17, 3) := by decide +kernel
theorem dX12_soonest_12 : decode cX12_soonest 12 = .ok (.iload_n 2, 1) := by decide +kernel
theorem dX12_soonest_13 : decode cX12_soonest 13 = .ok (.invokestatic 95, 3) := by decide +kernel
theorem dX12_soonest_16 : decode cX12_soonest 16 = .ok (.ifCond .eq 10, 3) := by decide +kernel
theorem dX12_soonest_19 : decode cX12_soonest 19 = .ok (.iload_n 3, 1) := by decide +kernel
theorem dX12_soonest_20 : decode cX12_soonest 20 = .ok (.invokestatic 91, 3) := by decide +kernel
theorem dX12_soonest_23 : decode cX12_soonest 23 = .ok (.ifCond .ne 5, 3) := by decide +kernel
theorem dX12_soonest_26 : decode cX12_soonest 26 = .ok (.iconst (-1), 1) := by decide +kernel
theorem dX12_soonest_27 : decode cX12_soonest 27 = .ok (.ireturn, 1) := by decide +kernel
theorem dX12_soonest_28 : decode cX12_soonest 28 = .ok (.aload_n 0, 1) := by decide +kernel
theorem dX12_soonest_29 : decode cX12_soonest 29 = .ok (.iload_n 1, 1) := by decide +kernel
theorem dX12_soonest_30 : decode cX12_soonest 30 = .ok (.iload_n 2, 1) := by decide +kernel
theorem dX12_soonest_31 : decode cX12_soonest 31 = .ok (.iload_n 3, 1) := by decide +kernel
theorem dX12_soonest_32 : decode cX12_soonest 32 = .ok (.invokevirtual 142, 3) := by decide +kernel
theorem dX12_soonest_35 : decode cX12_soonest 35 = .ok (.istore 4, 2) := by decide +kernel
theorem dX12_soonest_37 : decode cX12_soonest 37 = .ok (.iload 4, 2) := by decide +kernel
theorem dX12_soonest_39 : decode cX12_soonest 39 = .ok (.sipush 999, 3) := by decide +kernel
theorem dX12_soonest_42 : decode cX12_soonest 42 = .ok (.if_icmp .le 8, 3) := by decide +kernel
theorem dX12_soonest_45 : decode cX12_soonest 45 = .ok (.bipush (-9), 2) := by decide +kernel
theorem dX12_soonest_47 : decode cX12_soonest 47 = .ok (.goto 5, 3) := by decide +kernel
theorem dX12_soonest_50 : decode cX12_soonest 50 = .ok (.iload 4, 2) := by decide +kernel
theorem dX12_soonest_52 : decode cX12_soonest 52 = .ok (.ireturn, 1) := by decide +kernel
theorem dX12_townOf_0 : decode cX12_townOf 0 = .ok (.aload_n 0, 1) := by decide +kernel
theorem dX12_townOf_1 : decode cX12_townOf 1 = .ok (.getfield 13, 3) := by decide +kernel
theorem dX12_townOf_4 : decode cX12_townOf 4 = .ok (.aload_n 0, 1) := by decide +kernel
theorem dX12_townOf_5 : decode cX12_townOf 5 = .ok (.getfield 22, 3) := by decide +kernel
theorem dX12_townOf_8 : decode cX12_townOf 8 = .ok (.aload_n 0, 1) := by decide +kernel
theorem dX12_townOf_9 : decode cX12_townOf 9 = .ok (.getfield 37, 3) := by decide +kernel
theorem dX12_townOf_12 : decode cX12_townOf 12 = .ok (.bipush 10, 2) := by decide +kernel
theorem dX12_townOf_14 : decode cX12_townOf 14 = .ok (.iload_n 1, 1) := by decide +kernel
theorem dX12_townOf_15 : decode cX12_townOf 15 = .ok (.imul, 1) := by decide +kernel
theorem dX12_townOf_16 : decode cX12_townOf 16 = .ok (.iconst 2, 1) := by decide +kernel
theorem dX12_townOf_17 : decode cX12_townOf 17 = .ok (.iadd, 1) := by decide +kernel
theorem dX12_townOf_18 : decode cX12_townOf 18 = .ok (.iaload, 1) := by decide +kernel
theorem dX12_townOf_19 : decode cX12_townOf 19 = .ok (.iaload, 1) := by decide +kernel
theorem dX12_townOf_20 : decode cX12_townOf 20 = .ok (.iaload, 1) := by decide +kernel
theorem dX12_townOf_21 : decode cX12_townOf 21 = .ok (.ireturn, 1) := by decide +kernel
theorem dX12_ways_0 : decode cX12_ways 0 = .ok (.aload_n 0, 1) := by decide +kernel
theorem dX12_ways_1 : decode cX12_ways 1 = .ok (.iconst 0, 1) := by decide +kernel
theorem dX12_ways_2 : decode cX12_ways 2 = .ok (.putfield 146, 3) := by decide +kernel
theorem dX12_ways_5 : decode cX12_ways 5 = .ok (.iconst 0, 1) := by decide +kernel
theorem dX12_ways_6 : decode cX12_ways 6 = .ok (.istore_n 3, 1) := by decide +kernel
theorem dX12_ways_7 : decode cX12_ways 7 = .ok (.iload_n 3, 1) := by decide +kernel
theorem dX12_ways_8 : decode cX12_ways 8 = .ok (.aload_n 0, 1) := by decide +kernel
theorem dX12_ways_9 : decode cX12_ways 9 = .ok (.getfield 88, 3) := by decide +kernel
theorem dX12_ways_12 : decode cX12_ways 12 = .ok (.if_icmp .ge 55, 3) := by decide +kernel
theorem dX12_ways_15 : decode cX12_ways 15 = .ok (.aload_n 0, 1) := by decide +kernel
theorem dX12_ways_16 : decode cX12_ways 16 = .ok (.iload_n 3, 1) := by decide +kernel
theorem dX12_ways_17 : decode cX12_ways 17 = .ok (.iload_n 1, 1) := by decide +kernel
theorem dX12_ways_18 : decode cX12_ways 18 = .ok (.iload_n 2, 1) := by decide +kernel
theorem dX12_ways_19 : decode cX12_ways 19 = .ok (.invokevirtual 136, 3) := by decide +kernel
theorem dX12_ways_22 : decode cX12_ways 22 = .ok (.ifCond .eq 39, 3) := by decide +kernel
theorem dX12_ways_25 : decode cX12_ways 25 = .ok (.aload_n 0, 1) := by decide +kernel
theorem dX12_ways_26 : decode cX12_ways 26 = .ok (.getfield 37, 3) := by decide +kernel
theorem dX12_ways_29 : decode cX12_ways 29 = .ok (.bipush 10, 2) := by decide +kernel
theorem dX12_ways_31 : decode cX12_ways 31 = .ok (.iload_n 3, 1) := by decide +kernel
theorem dX12_ways_32 : decode cX12_ways 32 = .ok (.imul, 1) := by decide +kernel
theorem dX12_ways_33 : decode cX12_ways 33 = .ok (.iconst 2, 1) := by decide +kernel
theorem dX12_ways_34 : decode cX12_ways 34 = .ok (.iadd, 1) := by decide +kernel
theorem dX12_ways_35 : decode cX12_ways 35 = .ok (.iaload, 1) := by decide +kernel
theorem dX12_ways_36 : decode cX12_ways 36 = .ok (.bipush (-9), 2) := by decide +kernel
theorem dX12_ways_38 : decode cX12_ways 38 = .ok (.if_icmp .eq 23, 3) := by decide +kernel
theorem dX12_ways_41 : decode cX12_ways 41 = .ok (.aload_n 0, 1) := by decide +kernel
theorem dX12_ways_42 : decode cX12_ways 42 = .ok (.getfield 62, 3) := by decide +kernel
theorem dX12_ways_45 : decode cX12_ways 45 = .ok (.aload_n 0, 1) := by decide +kernel
theorem dX12_ways_46 : decode cX12_ways 46 = .ok (.getfield 146, 3) := by decide +kernel
theorem dX12_ways_49 : decode cX12_ways 49 = .ok (.iload_n 3, 1) := by decide +kernel
theorem dX12_ways_50 : decode cX12_ways 50 = .ok (.iastore, 1) := by decide +kernel
theorem dX12_ways_51 : decode cX12_ways 51 = .ok (.aload_n 0, 1) := by decide +kernel
theorem dX12_ways_52 : decode cX12_ways 52 = .ok (.dup, 1) := by decide +kernel
theorem dX12_ways_53 : decode cX12_ways 53 = .ok (.getfield 146, 3) := by decide +kernel
theorem dX12_ways_56 : decode cX12_ways 56 = .ok (.iconst 1, 1) := by decide +kernel
theorem dX12_ways_57 : decode cX12_ways 57 = .ok (.iadd, 1) := by decide +kernel
theorem dX12_ways_58 : decode cX12_ways 58 = .ok (.putfield 146, 3) := by decide +kernel
theorem dX12_ways_61 : decode cX12_ways 61 = .ok (.iinc 3 1, 3) := by decide +kernel
theorem dX12_ways_64 : decode cX12_ways 64 = .ok (.goto (-57), 3) := by decide +kernel
theorem dX12_ways_67 : decode cX12_ways 67 = .ok (.aload_n 0, 1) := by decide +kernel
theorem dX12_ways_68 : decode cX12_ways 68 = .ok (.getfield 146, 3) := by decide +kernel
theorem dX12_ways_71 : decode cX12_ways 71 = .ok (.ireturn, 1) := by decide +kernel
theorem dX12_isGoing_0 : decode cX12_isGoing 0 = .ok (.bipush (-9), 2) := by decide +kernel
theorem dX12_isGoing_2 : decode cX12_isGoing 2 = .ok (.istore_n 2, 1) := by decide +kernel
theorem dX12_isGoing_3 : decode cX12_isGoing 3 = .ok (.iconst 0, 1) := by decide +kernel
theorem dX12_isGoing_4 : decode cX12_isGoing 4 = .ok (.istore_n 3, 1) := by decide +kernel
theorem dX12_isGoing_5 : decode cX12_isGoing 5 = .ok (.iconst 0, 1) := by decide +kernel
theorem dX12_isGoing_6 : decode cX12_isGoing 6 = .ok (.istore 4, 2) := by decide +kernel
theorem dX12_isGoing_8 : decode cX12_isGoing 8 = .ok (.iload 4, 2) := by decide +kernel
theorem dX12_isGoing_10 : decode cX12_isGoing 10 = .ok (.aload_n 0, 1) := by decide +kernel
theorem dX12_isGoing_11 : decode cX12_isGoing 11 = .ok (.getfield 146, 3) := by decide +kernel
theorem dX12_isGoing_14 : decode cX12_isGoing 14 = .ok (.if_icmp .ge 111, 3) := by decide +kernel
theorem dX12_isGoing_17 : decode cX12_isGoing 17 = .ok (.iload_n 1, 1) := by decide +kernel
theorem dX12_isGoing_18 : decode cX12_isGoing 18 = .ok (.iload 4, 2) := by decide +kernel
theorem dX12_isGoing_20 : decode cX12_isGoing 20 = .ok (.ishr, 1) := by decide +kernel
theorem dX12_isGoing_21 : decode cX12_isGoing 21 = .ok (.iconst 1, 1) := by decide +kernel
theorem dX12_isGoing_22 : decode cX12_isGoing 22 = .ok (.iand, 1) := by decide +kernel
theorem dX12_isGoing_23 : decode cX12_isGoing 23 = .ok (.ifCond .ne 96, 3) := by decide +kernel
theorem dX12_isGoing_26 : decode cX12_isGoing 26 = .ok (.aload_n 0, 1) := by decide +kernel
theorem dX12_isGoing_27 : decode cX12_isGoing 27 = .ok (.getfield 62, 3) := by decide +kernel
theorem dX12_isGoing_30 : decode cX12_isGoing 30 = .ok (.iload 4, 2) := by decide +kernel
theorem dX12_isGoing_32 : decode cX12_isGoing 32 = .ok (.iaload, 1) := by decide +kernel
theorem dX12_isGoing_33 : decode cX12_isGoing 33 = .ok (.istore 5, 2) := by decide +kernel
theorem dX12_isGoing_35 : decode cX12_isGoing 35 = .ok (.aload_n 0, 1) := by decide +kernel
theorem dX12_isGoing_36 : decode cX12_isGoing 36 = .ok (.iload 5, 2) := by decide +kernel
theorem dX12_isGoing_38 : decode cX12_isGoing 38 = .ok (.invokevirtual 149, 3) := by decide +kernel
theorem dX12_isGoing_41 : decode cX12_isGoing 41 = .ok (.istore 6, 2) := by decide +kernel
theorem dX12_isGoing_43 : decode cX12_isGoing 43 = .ok (.iload_n 2, 1) := by decide +kernel
theorem dX12_isGoing_44 : decode cX12_isGoing 44 = .ok (.bipush (-9), 2) := by decide +kernel
theorem dX12_isGoing_46 : decode cX12_isGoing 46 = .ok (.if_icmp .ne 7, 3) := by decide +kernel
theorem dX12_isGoing_49 : decode cX12_isGoing 49 = .ok (.iconst 0, 1) := by decide +kernel
theorem dX12_isGoing_50 : decode cX12_isGoing 50 = .ok (.goto 11, 3) := by decide +kernel
theorem dX12_isGoing_53 : decode cX12_isGoing 53 = .ok (.aload_n 0, 1) := by decide +kernel
theorem dX12_isGoing_54 : decode cX12_isGoing 54 = .ok (.iload_n 2, 1) := by decide +kernel
theorem dX12_isGoing_55 : decode cX12_isGoing 55 = .ok (.iload_n 3, 1) := by decide +kernel
theorem dX12_isGoing_56 : decode cX12_isGoing 56 = .ok (.iload 6, 2) := by decide +kernel
theorem dX12_isGoing_58 : decode cX12_isGoing 58 = .ok (.invokevirtual 142, 3) := by decide +kernel
theorem dX12_isGoing_61 : decode cX12_isGoing 61 = .ok (.istore 7, 2) := by decide +kernel
theorem dX12_isGoing_63 : decode cX12_isGoing 63 = .ok (.iload 7, 2) := by decide +kernel
theorem dX12_isGoing_65 : decode cX12_isGoing 65 = .ok (.sipush 999, 3) := by decide +kernel
theorem dX12_isGoing_68 : decode cX12_isGoing 68 = .ok (.if_icmp .gt 20, 3) := by decide +kernel
theorem dX12_isGoing_71 : decode cX12_isGoing 71 = .ok (.aload_n 0, 1) := by decide +kernel
theorem dX12_isGoing_72 : decode cX12_isGoing 72 = .ok (.iload 5, 2) := by decide +kernel
theorem dX12_isGoing_74 : decode cX12_isGoing 74 = .ok (.iload 7, 2) := by decide +kernel
theorem dX12_isGoing_76 : decode cX12_isGoing 76 = .ok (.invokevirtual 128, 3) := by decide +kernel
theorem dX12_isGoing_79 : decode cX12_isGoing 79 = .ok (.ifCond .ne 9, 3) := by decide +kernel
theorem dX12_isGoing_82 : decode cX12_isGoing 82 = .ok (.iinc 7 1, 3) := by decide +kernel
theorem dX12_isGoing_85 : decode cX12_isGoing 85 = .ok (.goto (-22), 3) := by decide +kernel
theorem dX12_isGoing_88 : decode cX12_isGoing 88 = .ok (.iload 7, 2) := by decide +kernel
theorem dX12_isGoing_90 : decode cX12_isGoing 90 = .ok (.sipush 999, 3) := by decide +kernel
theorem dX12_isGoing_93 : decode cX12_isGoing 93 = .ok (.if_icmp .le 11, 3) := by decide +kernel
theorem dX12_isGoing_96 : decode cX12_isGoing 96 = .ok (.aload_n 0, 1) := by decide +kernel
theorem dX12_isGoing_97 : decode cX12_isGoing 97 = .ok (.iload 4, 2) := by decide +kernel
theorem dX12_isGoing_99 : decode cX12_isGoing 99 = .ok (.putfield 152, 3) := by decide +kernel
theorem dX12_isGoing_102 : decode cX12_isGoing 102 = .ok (.iconst 0, 1) := by decide +kernel
theorem dX12_isGoing_103 : decode cX12_isGoing 103 = .ok (.ireturn, 1) := by decide +kernel
theorem dX12_isGoing_104 : decode cX12_isGoing 104 = .ok (.aload_n 0, 1) := by decide +kernel
theorem dX12_isGoing_105 : decode cX12_isGoing 105 = .ok (.getfield 65, 3) := by decide +kernel
theorem dX12_isGoing_108 : decode cX12_isGoing 108 = .ok (.iload 4, 2) := by decide +kernel
theorem dX12_isGoing_110 : decode cX12_isGoing 110 = .ok (.iload 7, 2) := by decide +kernel
theorem dX12_isGoing_112 : decode cX12_isGoing 112 = .ok (.iastore, 1) := by decide +kernel
theorem dX12_isGoing_113 : decode cX12_isGoing 113 = .ok (.iload 7, 2) := by decide +kernel
theorem dX12_isGoing_115 : decode cX12_isGoing 115 = .ok (.istore_n 3, 1) := by decide +kernel
theorem dX12_isGoing_116 : decode cX12_isGoing 116 = .ok (.iload 6, 2) := by decide +kernel
theorem dX12_isGoing_118 : decode cX12_isGoing 118 = .ok (.istore_n 2, 1) := by decide +kernel
theorem dX12_isGoing_119 : decode cX12_isGoing 119 = .ok (.iinc 4 1, 3) := by decide +kernel
theorem dX12_isGoing_122 : decode cX12_isGoing 122 = .ok (.goto (-114), 3) := by decide +kernel
theorem dX12_isGoing_125 : decode cX12_isGoing 125 = .ok (.aload_n 0, 1) := by decide +kernel
theorem dX12_isGoing_126 : decode cX12_isGoing 126 = .ok (.bipush (-9), 2) := by decide +kernel
theorem dX12_isGoing_128 : decode cX12_isGoing 128 = .ok (.putfield 152, 3) := by decide +kernel
theorem dX12_isGoing_131 : decode cX12_isGoing 131 = .ok (.iconst 1, 1) := by decide +kernel
theorem dX12_isGoing_132 : decode cX12_isGoing 132 = .ok (.ireturn, 1) := by decide +kernel
theorem dX12_refuses_0 : decode cX12_refuses 0 = .ok (.iload_n 1, 1) := by decide +kernel
theorem dX12_refuses_1 : decode cX12_refuses 1 = .ok (.invokestatic 104, 3) := by decide +kernel
theorem dX12_refuses_4 : decode cX12_refuses 4 = .ok (.ifCond .eq 10, 3) := by decide +kernel
theorem dX12_refuses_7 : decode cX12_refuses 7 = .ok (.iload_n 2, 1) := by decide +kernel
theorem dX12_refuses_8 : decode cX12_refuses 8 = .ok (.invokestatic 95, 3) := by decide +kernel
theorem dX12_refuses_11 : decode cX12_refuses 11 = .ok (.ifCond .ne 7, 3) := by decide +kernel
theorem dX12_refuses_14 : decode cX12_refuses 14 = .ok (.iconst (-1), 1) := by decide +kernel
theorem dX12_refuses_15 : decode cX12_refuses 15 = .ok (.goto 20, 3) := by decide +kernel
theorem dX12_refuses_18 : decode cX12_refuses 18 = .ok (.aload_n 0, 1) := by decide +kernel
theorem dX12_refuses_19 : decode cX12_refuses 19 = .ok (.iload_n 1, 1) := by decide +kernel
theorem dX12_refuses_20 : decode cX12_refuses 20 = .ok (.iload_n 2, 1) := by decide +kernel
theorem dX12_refuses_21 : decode cX12_refuses 21 = .ok (.invokevirtual 155, 3) := by decide +kernel
theorem dX12_refuses_24 : decode cX12_refuses 24 = .ok (.bipush 10, 2) := by decide +kernel
theorem dX12_refuses_26 : decode cX12_refuses 26 = .ok (.if_icmp .le 8, 3) := by decide +kernel
theorem dX12_refuses_29 : decode cX12_refuses 29 = .ok (.bipush (-2), 2) := by decide +kernel
theorem dX12_refuses_31 : decode cX12_refuses 31 = .ok (.goto 4, 3) := by decide +kernel
theorem dX12_refuses_34 : decode cX12_refuses 34 = .ok (.iconst 0, 1) := by decide +kernel
theorem dX12_refuses_35 : decode cX12_refuses 35 = .ok (.ireturn, 1) := by decide +kernel
theorem dX12_goes_0 : decode cX12_goes 0 = .ok (.aload_n 0, 1) := by decide +kernel
theorem dX12_goes_1 : decode cX12_goes 1 = .ok (.iconst 0, 1) := by decide +kernel
theorem dX12_goes_2 : decode cX12_goes 2 = .ok (.putfield 80, 3) := by decide +kernel
theorem dX12_goes_5 : decode cX12_goes 5 = .ok (.aload_n 0, 1) := by decide +kernel
theorem dX12_goes_6 : decode cX12_goes 6 = .ok (.iload_n 1, 1) := by decide +kernel
theorem dX12_goes_7 : decode cX12_goes 7 = .ok (.iload_n 2, 1) := by decide +kernel
theorem dX12_goes_8 : decode cX12_goes 8 = .ok (.invokevirtual 159, 3) := by decide +kernel
theorem dX12_goes_11 : decode cX12_goes 11 = .ok (.istore 4, 2) := by decide +kernel
theorem dX12_goes_13 : decode cX12_goes 13 = .ok (.iload 4, 2) := by decide +kernel
theorem dX12_goes_15 : decode cX12_goes 15 = .ok (.ifCond .ge 6, 3) := by decide +kernel
theorem dX12_goes_18 : decode cX12_goes 18 = .ok (.iload 4, 2) := by decide +kernel
theorem dX12_goes_20 : decode cX12_goes 20 = .ok (.ireturn, 1) := by decide +kernel
theorem dX12_goes_21 : decode cX12_goes 21 = .ok (.iload_n 3, 1) := by decide +kernel
theorem dX12_goes_22 : decode cX12_goes 22 = .ok (.iconst 0, 1) := by decide +kernel
theorem dX12_goes_23 : decode cX12_goes 23 = .ok (.iconst 1, 1) := by decide +kernel
theorem dX12_goes_24 : decode cX12_goes 24 = .ok (.aload_n 0, 1) := by decide +kernel
theorem dX12_goes_25 : decode cX12_goes 25 = .ok (.getfield 146, 3) := by decide +kernel
theorem dX12_goes_28 : decode cX12_goes 28 = .ok (.ishl, 1) := by decide +kernel
theorem dX12_goes_29 : decode cX12_goes 29 = .ok (.iconst 1, 1) := by decide +kernel
theorem dX12_goes_30 : decode cX12_goes 30 = .ok (.isub, 1) := by decide +kernel
theorem dX12_goes_31 : decode cX12_goes 31 = .ok (.invokestatic 84, 3) := by decide +kernel
theorem dX12_goes_34 : decode cX12_goes 34 = .ok (.ifCond .ne 7, 3) := by decide +kernel
theorem dX12_goes_37 : decode cX12_goes 37 = .ok (.iconst (-1), 1) := by decide +kernel
theorem dX12_goes_38 : decode cX12_goes 38 = .ok (.goto 16, 3) := by decide +kernel
theorem dX12_goes_41 : decode cX12_goes 41 = .ok (.aload_n 0, 1) := by decide +kernel
theorem dX12_goes_42 : decode cX12_goes 42 = .ok (.iload_n 3, 1) := by decide +kernel
theorem dX12_goes_43 : decode cX12_goes 43 = .ok (.invokevirtual 162, 3) := by decide +kernel
theorem dX12_goes_46 : decode cX12_goes 46 = .ok (.ifCond .eq 7, 3) := by decide +kernel
theorem dX12_goes_49 : decode cX12_goes 49 = .ok (.iconst 1, 1) := by decide +kernel
theorem dX12_goes_50 : decode cX12_goes 50 = .ok (.goto 4, 3) := by decide +kernel
theorem dX12_goes_53 : decode cX12_goes 53 = .ok (.iconst 0, 1) := by decide +kernel
theorem dX12_goes_54 : decode cX12_goes 54 = .ok (.ireturn, 1) := by decide +kernel
theorem dX12_when_0 : decode cX12_when 0 = .ok (.aload_n 0, 1) := by decide +kernel
theorem dX12_when_1 : decode cX12_when 1 = .ok (.iconst 0, 1) := by decide +kernel
theorem dX12_when_2 : decode cX12_when 2 = .ok (.putfield 80, 3) := by decide +kernel
theorem dX12_when_5 : decode cX12_when 5 = .ok (.iload 4, 2) := by decide +kernel
theorem dX12_when_7 : decode cX12_when 7 = .ok (.iconst 0, 1) := by decide +kernel
theorem dX12_when_8 : decode cX12_when 8 = .ok (.iconst 1, 1) := by decide +kernel
theorem dX12_when_9 : decode cX12_when 9 = .ok (.invokestatic 84, 3) := by decide +kernel
theorem dX12_when_12 : decode cX12_when 12 = .ok (.ifCond .ne 5, 3) := by decide +kernel
theorem dX12_when_15 : decode cX12_when 15 = .ok (.iconst (-1), 1) := by decide +kernel
theorem dX12_when_16 : decode cX12_when 16 = .ok (.ireturn, 1) := by decide +kernel
theorem dX12_when_17 : decode cX12_when 17 = .ok (.aload_n 0, 1) := by decide +kernel
theorem dX12_when_18 : decode cX12_when 18 = .ok (.iload_n 1, 1) := by decide +kernel
theorem dX12_when_19 : decode cX12_when 19 = .ok (.iload_n 2, 1) := by decide +kernel
theorem dX12_when_20 : decode cX12_when 20 = .ok (.invokevirtual 159, 3) := by decide +kernel
theorem dX12_when_23 : decode cX12_when 23 = .ok (.istore 5, 2) := by decide +kernel
theorem dX12_when_25 : decode cX12_when 25 = .ok (.iload 5, 2) := by decide +kernel
theorem dX12_when_27 : decode cX12_when 27 = .ok (.ifCond .ge 6, 3) := by decide +kernel
theorem dX12_when_30 : decode cX12_when 30 = .ok (.iload 5, 2) := by decide +kernel
theorem dX12_when_32 : decode cX12_when 32 = .ok (.ireturn, 1) := by decide +kernel
theorem dX12_when_33 : decode cX12_when 33 = .ok (.iload_n 3, 1) := by decide +kernel
theorem dX12_when_34 : decode cX12_when 34 = .ok (.iconst 0, 1) := by decide +kernel
theorem dX12_when_35 : decode cX12_when 35 = .ok (.aload_n 0, 1) := by decide +kernel
theorem dX12_when_36 : decode cX12_when 36 = .ok (.getfield 146, 3) := by decide +kernel
theorem dX12_when_39 : decode cX12_when 39 = .ok (.iconst 1, 1) := by decide +kernel
theorem dX12_when_40 : decode cX12_when 40 = .ok (.isub, 1) := by decide +kernel
theorem dX12_when_41 : decode cX12_when 41 = .ok (.invokestatic 84, 3) := by decide +kernel
theorem dX12_when_44 : decode cX12_when 44 = .ok (.ifCond .ne 5, 3) := by decide +kernel
theorem dX12_when_47 : decode cX12_when 47 = .ok (.iconst (-1), 1) := by decide +kernel
theorem dX12_when_48 : decode cX12_when 48 = .ok (.ireturn, 1) := by decide +kernel
theorem dX12_when_49 : decode cX12_when 49 = .ok (.aload_n 0, 1) := by decide +kernel
theorem dX12_when_50 : decode cX12_when 50 = .ok (.iconst 0, 1) := by decide +kernel
theorem dX12_when_51 : decode cX12_when 51 = .ok (.invokevirtual 162, 3) := by decide +kernel
theorem dX12_when_54 : decode cX12_when 54 = .ok (.ifCond .ne 6, 3) := by decide +kernel
theorem dX12_when_57 : decode cX12_when 57 = .ok (.bipush (-9), 2) := by decide +kernel
theorem dX12_when_59 : decode cX12_when 59 = .ok (.ireturn, 1) := by decide +kernel
theorem dX12_when_60 : decode cX12_when 60 = .ok (.aload_n 0, 1) := by decide +kernel
theorem dX12_when_61 : decode cX12_when 61 = .ok (.getfield 146, 3) := by decide +kernel
theorem dX12_when_64 : decode cX12_when 64 = .ok (.iconst 1, 1) := by decide +kernel
theorem dX12_when_65 : decode cX12_when 65 = .ok (.isub, 1) := by decide +kernel
theorem dX12_when_66 : decode cX12_when 66 = .ok (.istore 6, 2) := by decide +kernel
theorem dX12_when_68 : decode cX12_when 68 = .ok (.iload 6, 2) := by decide +kernel
theorem dX12_when_70 : decode cX12_when 70 = .ok (.iload_n 3, 1) := by decide +kernel
theorem dX12_when_71 : decode cX12_when 71 = .ok (.if_icmp .lt 125, 3) := by decide +kernel
theorem dX12_when_74 : decode cX12_when 74 = .ok (.sipush 999, 3) := by decide +kernel
theorem dX12_when_77 : decode cX12_when 77 = .ok (.istore 7, 2) := by decide +kernel
theorem dX12_when_79 : decode cX12_when 79 = .ok (.iconst 1, 1) := by decide +kernel
theorem dX12_when_80 : decode cX12_when 80 = .ok (.istore 8, 2) := by decide +kernel
theorem dX12_when_82 : decode cX12_when 82 = .ok (.iload 8, 2) := by decide +kernel
theorem dX12_when_84 : decode cX12_when 84 = .ok (.ifCond .eq 97, 3) := by decide +kernel
theorem dX12_when_87 : decode cX12_when 87 = .ok (.aload_n 0, 1) := by decide +kernel
theorem dX12_when_88 : decode cX12_when 88 = .ok (.aload_n 0, 1) := by decide +kernel
theorem dX12_when_89 : decode cX12_when 89 = .ok (.getfield 62, 3) := by decide +kernel
theorem dX12_when_92 : decode cX12_when 92 = .ok (.iload 6, 2) := by decide +kernel
theorem dX12_when_94 : decode cX12_when 94 = .ok (.iaload, 1) := by decide +kernel
theorem dX12_when_95 : decode cX12_when 95 = .ok (.iload 7, 2) := by decide +kernel
theorem dX12_when_97 : decode cX12_when 97 = .ok (.invokevirtual 128, 3) := by decide +kernel
theorem dX12_when_100 : decode cX12_when 100 = .ok (.ifCond .eq 56, 3) := by decide +kernel
theorem dX12_when_103 : decode cX12_when 103 = .ok (.iload 6, 2) := by decide +kernel
theorem dX12_when_105 : decode cX12_when 105 = .ok (.aload_n 0, 1) := by decide +kernel
theorem dX12_when_106 : decode cX12_when 106 = .ok (.getfield 146, 3) := by decide +kernel
theorem dX12_when_109 : decode cX12_when 109 = .ok (.iconst 1, 1) := by decide +kernel
theorem dX12_when_110 : decode cX12_when 110 = .ok (.isub, 1) := by decide +kernel
theorem dX12_when_111 : decode cX12_when 111 = .ok (.if_icmp .ge 49, 3) := by decide +kernel
theorem dX12_when_114 : decode cX12_when 114 = .ok (.aload_n 0, 1) := by decide +kernel
theorem dX12_when_115 : decode cX12_when 115 = .ok (.aload_n 0, 1) := by decide +kernel
theorem dX12_when_116 : decode cX12_when 116 = .ok (.aload_n 0, 1) := by decide +kernel
theorem dX12_when_117 : decode cX12_when 117 = .ok (.getfield 62, 3) := by decide +kernel
theorem dX12_when_120 : decode cX12_when 120 = .ok (.iload 6, 2) := by decide +kernel
theorem dX12_when_122 : decode cX12_when 122 = .ok (.iaload, 1) := by decide +kernel
theorem dX12_when_123 : decode cX12_when 123 = .ok (.invokevirtual 149, 3) := by decide +kernel
theorem dX12_when_126 : decode cX12_when 126 = .ok (.iload 7, 2) := by decide +kernel
theorem dX12_when_128 : decode cX12_when 128 = .ok (.aload_n 0, 1) := by decide +kernel
theorem dX12_when_129 : decode cX12_when 129 = .ok (.aload_n 0, 1) := by decide +kernel
theorem dX12_when_130 : decode cX12_when 130 = .ok (.getfield 62, 3) := by decide +kernel
theorem dX12_when_133 : decode cX12_when 133 = .ok (.iload 6, 2) := by decide +kernel
theorem dX12_when_135 : decode cX12_when 135 = .ok (.iconst 1, 1) := by decide +kernel
theorem dX12_when_136 : decode cX12_when 136 = .ok (.iadd, 1) := by decide +kernel
theorem dX12_when_137 : decode cX12_when 137 = .ok (.iaload, 1) := by decide +kernel
theorem dX12_when_138 : decode cX12_when 138 = .ok (.invokevirtual 149, 3) := by decide +kernel
theorem dX12_when_141 : decode cX12_when 141 = .ok (.invokevirtual 142, 3) := by decide +kernel
theorem dX12_when_144 : decode cX12_when 144 = .ok (.aload_n 0, 1) := by decide +kernel
theorem dX12_when_145 : decode cX12_when 145 = .ok (.getfield 68, 3) := by decide +kernel
theorem dX12_when_148 : decode cX12_when 148 = .ok (.iload 6, 2) := by decide +kernel
theorem dX12_when_150 : decode cX12_when 150 = .ok (.iconst 1, 1) := by decide +kernel
theorem dX12_when_151 : decode cX12_when 151 = .ok (.iadd, 1) := by decide +kernel
theorem dX12_when_152 : decode cX12_when 152 = .ok (.iaload, 1) := by decide +kernel
theorem dX12_when_153 : decode cX12_when 153 = .ok (.if_icmp .le 7, 3) := by decide +kernel
theorem dX12_when_156 : decode cX12_when 156 = .ok (.iconst 1, 1) := by decide +kernel
theorem dX12_when_157 : decode cX12_when 157 = .ok (.goto 4, 3) := by decide +kernel
theorem dX12_when_160 : decode cX12_when 160 = .ok (.iconst 0, 1) := by decide +kernel
theorem dX12_when_161 : decode cX12_when 161 = .ok (.istore 8, 2) := by decide +kernel
theorem dX12_when_163 : decode cX12_when 163 = .ok (.iload 7, 2) := by decide +kernel
theorem dX12_when_165 : decode cX12_when 165 = .ok (.iload 8, 2) := by decide +kernel
theorem dX12_when_167 : decode cX12_when 167 = .ok (.ifCond .eq 7, 3) := by decide +kernel
theorem dX12_when_170 : decode cX12_when 170 = .ok (.iconst 1, 1) := by decide +kernel
theorem dX12_when_171 : decode cX12_when 171 = .ok (.goto 4, 3) := by decide +kernel
theorem dX12_when_174 : decode cX12_when 174 = .ok (.iconst 0, 1) := by decide +kernel
theorem dX12_when_175 : decode cX12_when 175 = .ok (.isub, 1) := by decide +kernel
theorem dX12_when_176 : decode cX12_when 176 = .ok (.istore 7, 2) := by decide +kernel
theorem dX12_when_178 : decode cX12_when 178 = .ok (.goto (-96), 3) := by decide +kernel
theorem dX12_when_181 : decode cX12_when 181 = .ok (.aload_n 0, 1) := by decide +kernel
theorem dX12_when_182 : decode cX12_when 182 = .ok (.getfield 68, 3) := by decide +kernel
theorem dX12_when_185 : decode cX12_when 185 = .ok (.iload 6, 2) := by decide +kernel
theorem dX12_when_187 : decode cX12_when 187 = .ok (.iload 7, 2) := by decide +kernel
theorem dX12_when_189 : decode cX12_when 189 = .ok (.iastore, 1) := by decide +kernel
theorem dX12_when_190 : decode cX12_when 190 = .ok (.iinc 6 (-1), 3) := by decide +kernel
theorem dX12_when_193 : decode cX12_when 193 = .ok (.goto (-125), 3) := by decide +kernel
theorem dX12_when_196 : decode cX12_when 196 = .ok (.iload 4, 2) := by decide +kernel
theorem dX12_when_198 : decode cX12_when 198 = .ok (.iconst 1, 1) := by decide +kernel
theorem dX12_when_199 : decode cX12_when 199 = .ok (.if_icmp .ne 12, 3) := by decide +kernel
theorem dX12_when_202 : decode cX12_when 202 = .ok (.aload_n 0, 1) := by decide +kernel
theorem dX12_when_203 : decode cX12_when 203 = .ok (.getfield 68, 3) := by decide +kernel
theorem dX12_when_206 : decode cX12_when 206 = .ok (.iload_n 3, 1) := by decide +kernel
theorem dX12_when_207 : decode cX12_when 207 = .ok (.iaload, 1) := by decide +kernel
theorem dX12_when_208 : decode cX12_when 208 = .ok (.goto 9, 3) := by decide +kernel
theorem dX12_when_211 : decode cX12_when 211 = .ok (.aload_n 0, 1) := by decide +kernel
theorem dX12_when_212 : decode cX12_when 212 = .ok (.getfield 65, 3) := by decide +kernel
theorem dX12_when_215 : decode cX12_when 215 = .ok (.iload_n 3, 1) := by decide +kernel
theorem dX12_when_216 : decode cX12_when 216 = .ok (.iaload, 1) := by decide +kernel
theorem dX12_when_217 : decode cX12_when 217 = .ok (.ireturn, 1) := by decide +kernel
theorem dX12_bars_0 : decode cX12_bars 0 = .ok (.aload_n 0, 1) := by decide +kernel
theorem dX12_bars_1 : decode cX12_bars 1 = .ok (.iconst 0, 1) := by decide +kernel
theorem dX12_bars_2 : decode cX12_bars 2 = .ok (.putfield 80, 3) := by decide +kernel
theorem dX12_bars_5 : decode cX12_bars 5 = .ok (.aload_n 0, 1) := by decide +kernel
theorem dX12_bars_6 : decode cX12_bars 6 = .ok (.iload_n 1, 1) := by decide +kernel
theorem dX12_bars_7 : decode cX12_bars 7 = .ok (.iload_n 2, 1) := by decide +kernel
theorem dX12_bars_8 : decode cX12_bars 8 = .ok (.invokevirtual 159, 3) := by decide +kernel
theorem dX12_bars_11 : decode cX12_bars 11 = .ok (.istore_n 3, 1) := by decide +kernel
theorem dX12_bars_12 : decode cX12_bars 12 = .ok (.iload_n 3, 1) := by decide +kernel
theorem dX12_bars_13 : decode cX12_bars 13 = .ok (.ifCond .ge 5, 3) := by decide +kernel
theorem dX12_bars_16 : decode cX12_bars 16 = .ok (.iload_n 3, 1) := by decide +kernel
theorem dX12_bars_17 : decode cX12_bars 17 = .ok (.ireturn, 1) := by decide +kernel
theorem dX12_bars_18 : decode cX12_bars 18 = .ok (.aload_n 0, 1) := by decide +kernel
theorem dX12_bars_19 : decode cX12_bars 19 = .ok (.iconst 0, 1) := by decide +kernel
theorem dX12_bars_20 : decode cX12_bars 20 = .ok (.invokevirtual 162, 3) := by decide +kernel
theorem dX12_bars_23 : decode cX12_bars 23 = .ok (.pop, 1) := by decide +kernel
theorem dX12_bars_24 : decode cX12_bars 24 = .ok (.aload_n 0, 1) := by decide +kernel
theorem dX12_bars_25 : decode cX12_bars 25 = .ok (.getfield 152, 3) := by decide +kernel
theorem dX12_bars_28 : decode cX12_bars 28 = .ok (.ireturn, 1) := by decide +kernel
theorem dX12_ones_0 : decode cX12_ones 0 = .ok (.iconst 0, 1) := by decide +kernel
theorem dX12_ones_1 : decode cX12_ones 1 = .ok (.istore_n 1, 1) := by decide +kernel
theorem dX12_ones_2 : decode cX12_ones 2 = .ok (.iconst 0, 1) := by decide +kernel
theorem dX12_ones_3 : decode cX12_ones 3 = .ok (.istore_n 2, 1) := by decide +kernel
theorem dX12_ones_4 : decode cX12_ones 4 = .ok (.iload_n 2, 1) := by decide +kernel
theorem dX12_ones_5 : decode cX12_ones 5 = .ok (.bipush 10, 2) := by decide +kernel
theorem dX12_ones_7 : decode cX12_ones 7 = .ok (.if_icmp .ge 17, 3) := by decide +kernel
theorem dX12_ones_10 : decode cX12_ones 10 = .ok (.iload_n 1, 1) := by decide +kernel
theorem dX12_ones_11 : decode cX12_ones 11 = .ok (.iload_n 0, 1) := by decide +kernel
theorem dX12_ones_12 : decode cX12_ones 12 = .ok (.iload_n 2, 1) := by decide +kernel
theorem dX12_ones_13 : decode cX12_ones 13 = .ok (.ishr, 1) := by decide +kernel
theorem dX12_ones_14 : decode cX12_ones 14 = .ok (.iconst 1, 1) := by decide +kernel
theorem dX12_ones_15 : decode cX12_ones 15 = .ok (.iand, 1) := by decide +kernel
theorem dX12_ones_16 : decode cX12_ones 16 = .ok (.iadd, 1) := by decide +kernel
theorem dX12_ones_17 : decode cX12_ones 17 = .ok (.istore_n 1, 1) := by decide +kernel
theorem dX12_ones_18 : decode cX12_ones 18 = .ok (.iinc 2 1, 3) := by decide +kernel
theorem dX12_ones_21 : decode cX12_ones 21 = .ok (.goto (-17), 3) := by decide +kernel
theorem dX12_ones_24 : decode cX12_ones 24 = .ok (.iload_n 1, 1) := by decide +kernel
theorem dX12_ones_25 : decode cX12_ones 25 = .ok (.ireturn, 1) := by decide +kernel
theorem dX12_fewest_0 : decode cX12_fewest 0 = .ok (.aload_n 0, 1) := by decide +kernel
theorem dX12_fewest_1 : decode cX12_fewest 1 = .ok (.iconst 0, 1) := by decide +kernel
theorem dX12_fewest_2 : decode cX12_fewest 2 = .ok (.putfield 80, 3) := by decide +kernel
theorem dX12_fewest_5 : decode cX12_fewest 5 = .ok (.iload_n 3, 1) := by decide +kernel
theorem dX12_fewest_6 : decode cX12_fewest 6 = .ok (.iconst 0, 1) := by decide +kernel
theorem dX12_fewest_7 : decode cX12_fewest 7 = .ok (.iconst 2, 1) := by decide +kernel
theorem dX12_fewest_8 : decode cX12_fewest 8 = .ok (.invokestatic 84, 3) := by decide +kernel
theorem dX12_fewest_11 : decode cX12_fewest 11 = .ok (.ifCond .ne 5, 3) := by decide +kernel
theorem dX12_fewest_14 : decode cX12_fewest 14 = .ok (.iconst (-1), 1) := by decide +kernel
theorem dX12_fewest_15 : decode cX12_fewest 15 = .ok (.ireturn, 1) := by decide +kernel
theorem dX12_fewest_16 : decode cX12_fewest 16 = .ok (.aload_n 0, 1) := by decide +kernel
theorem dX12_fewest_17 : decode cX12_fewest 17 = .ok (.iload_n 1, 1) := by decide +kernel
theorem dX12_fewest_18 : decode cX12_fewest 18 = .ok (.iload_n 2, 1) := by decide +kernel
theorem dX12_fewest_19 : decode cX12_fewest 19 = .ok (.invokevirtual 159, 3) := by decide +kernel
theorem dX12_fewest_22 : decode cX12_fewest 22 = .ok (.istore 4, 2) := by decide +kernel
theorem dX12_fewest_24 : decode cX12_fewest 24 = .ok (.iload 4, 2) := by decide +kernel
theorem dX12_fewest_26 : decode cX12_fewest 26 = .ok (.ifCond .ge 6, 3) := by decide +kernel
theorem dX12_fewest_29 : decode cX12_fewest 29 = .ok (.iload 4, 2) := by decide +kernel
theorem dX12_fewest_31 : decode cX12_fewest 31 = .ok (.ireturn, 1) := by decide +kernel
theorem dX12_fewest_32 : decode cX12_fewest 32 = .ok (.iconst 1, 1) := by decide +kernel
theorem dX12_fewest_33 : decode cX12_fewest 33 = .ok (.aload_n 0, 1) := by decide +kernel
theorem dX12_fewest_34 : decode cX12_fewest 34 = .ok (.getfield 146, 3) := by decide +kernel
theorem dX12_fewest_37 : decode cX12_fewest 37 = .ok (.ishl, 1) := by decide +kernel
theorem dX12_fewest_38 : decode cX12_fewest 38 = .ok (.iconst 1, 1) := by decide +kernel
theorem dX12_fewest_39 : decode cX12_fewest 39 = .ok (.isub, 1) := by decide +kernel
theorem dX12_fewest_40 : decode cX12_fewest 40 = .ok (.istore 5, 2) := by decide +kernel
theorem dX12_fewest_42 : decode cX12_fewest 42 = .ok (.iconst 1, 1) := by decide +kernel
theorem dX12_fewest_43 : decode cX12_fewest 43 = .ok (.istore 6, 2) := by decide +kernel
theorem dX12_fewest_45 : decode cX12_fewest 45 = .ok (.iload 5, 2) := by decide +kernel
theorem dX12_fewest_47 : decode cX12_fewest 47 = .ok (.iconst 1, 1) := by decide +kernel
theorem dX12_fewest_48 : decode cX12_fewest 48 = .ok (.isub, 1) := by decide +kernel
theorem dX12_fewest_49 : decode cX12_fewest 49 = .ok (.istore 7, 2) := by decide +kernel
theorem dX12_fewest_51 : decode cX12_fewest 51 = .ok (.iload 7, 2) := by decide +kernel
theorem dX12_fewest_53 : decode cX12_fewest 53 = .ok (.ifCond .lt 58, 3) := by decide +kernel
theorem dX12_fewest_56 : decode cX12_fewest 56 = .ok (.iload 7, 2) := by decide +kernel
theorem dX12_fewest_58 : decode cX12_fewest 58 = .ok (.invokestatic 165, 3) := by decide +kernel
theorem dX12_fewest_61 : decode cX12_fewest 61 = .ok (.iload 5, 2) := by decide +kernel
theorem dX12_fewest_63 : decode cX12_fewest 63 = .ok (.invokestatic 165, 3) := by decide +kernel
theorem dX12_fewest_66 : decode cX12_fewest 66 = .ok (.if_icmp .gt 39, 3) := by decide +kernel
theorem dX12_fewest_69 : decode cX12_fewest 69 = .ok (.aload_n 0, 1) := by decide +kernel
theorem dX12_fewest_70 : decode cX12_fewest 70 = .ok (.iload 7, 2) := by decide +kernel
theorem dX12_fewest_72 : decode cX12_fewest 72 = .ok (.invokevirtual 162, 3) := by decide +kernel
theorem dX12_fewest_75 : decode cX12_fewest 75 = .ok (.ifCond .eq 30, 3) := by decide +kernel
theorem dX12_fewest_78 : decode cX12_fewest 78 = .ok (.iload 7, 2) := by decide +kernel
theorem dX12_fewest_80 : decode cX12_fewest 80 = .ok (.invokestatic 165, 3) := by decide +kernel
theorem dX12_fewest_83 : decode cX12_fewest 83 = .ok (.iload 5, 2) := by decide +kernel
theorem dX12_fewest_85 : decode cX12_fewest 85 = .ok (.invokestatic 165, 3) := by decide +kernel
theorem dX12_fewest_88 : decode cX12_fewest 88 = .ok (.if_icmp .ge 7, 3) := by decide +kernel
theorem dX12_fewest_91 : decode cX12_fewest 91 = .ok (.iconst 1, 1) := by decide +kernel
theorem dX12_fewest_92 : decode cX12_fewest 92 = .ok (.goto 7, 3) := by decide +kernel
theorem dX12_fewest_95 : decode cX12_fewest 95 = .ok (.iload 6, 2) := by decide +kernel
theorem dX12_fewest_97 : decode cX12_fewest 97 = .ok (.iconst 1, 1) := by decide +kernel
theorem dX12_fewest_98 : decode cX12_fewest 98 = .ok (.iadd, 1) := by decide +kernel
theorem dX12_fewest_99 : decode cX12_fewest 99 = .ok (.istore 6, 2) := by decide +kernel
theorem dX12_fewest_101 : decode cX12_fewest 101 = .ok (.iload 7, 2) := by decide +kernel
theorem dX12_fewest_103 : decode cX12_fewest 103 = .ok (.istore 5, 2) := by decide +kernel
theorem dX12_fewest_105 : decode cX12_fewest 105 = .ok (.iinc 7 (-1), 3) := by decide +kernel
theorem dX12_fewest_108 : decode cX12_fewest 108 = .ok (.goto (-57), 3) := by decide +kernel
theorem dX12_fewest_111 : decode cX12_fewest 111 = .ok (.iload_n 3, 1) := by decide +kernel
theorem dX12_fewest_112 : decode cX12_fewest 112 = .ok (.ifCond .ne 11, 3) := by decide +kernel
theorem dX12_fewest_115 : decode cX12_fewest 115 = .ok (.iload 5, 2) := by decide +kernel
theorem dX12_fewest_117 : decode cX12_fewest 117 = .ok (.invokestatic 165, 3) := by decide +kernel
theorem dX12_fewest_120 : decode cX12_fewest 120 = .ok (.goto 15, 3) := by decide +kernel
theorem dX12_fewest_123 : decode cX12_fewest 123 = .ok (.iload_n 3, 1) := by decide +kernel
theorem dX12_fewest_124 : decode cX12_fewest 124 = .ok (.iconst 1, 1) := by decide +kernel
theorem dX12_fewest_125 : decode cX12_fewest 125 = .ok (.if_icmp .ne 8, 3) := by decide +kernel
theorem dX12_fewest_128 : decode cX12_fewest 128 = .ok (.iload 5, 2) := by decide +kernel
theorem dX12_fewest_130 : decode cX12_fewest 130 = .ok (.goto 5, 3) := by decide +kernel
theorem dX12_fewest_133 : decode cX12_fewest 133 = .ok (.iload 6, 2) := by decide +kernel
theorem dX12_fewest_135 : decode cX12_fewest 135 = .ok (.ireturn, 1) := by decide +kernel
theorem dX12_type_0 : decode cX12_type 0 = .ok (.aload_n 0, 1) := by decide +kernel
theorem dX12_type_1 : decode cX12_type 1 = .ok (.iconst 0, 1) := by decide +kernel
theorem dX12_type_2 : decode cX12_type 2 = .ok (.putfield 80, 3) := by decide +kernel
theorem dX12_type_5 : decode cX12_type 5 = .ok (.iload_n 3, 1) := by decide +kernel
theorem dX12_type_6 : decode cX12_type 6 = .ok (.iconst 1, 1) := by decide +kernel
theorem dX12_type_7 : decode cX12_type 7 = .ok (.bipush 8, 2) := by decide +kernel
theorem dX12_type_9 : decode cX12_type 9 = .ok (.invokestatic 84, 3) := by decide +kernel
theorem dX12_type_12 : decode cX12_type 12 = .ok (.ifCond .ne 5, 3) := by decide +kernel
theorem dX12_type_15 : decode cX12_type 15 = .ok (.iconst (-1), 1) := by decide +kernel
theorem dX12_type_16 : decode cX12_type 16 = .ok (.ireturn, 1) := by decide +kernel
theorem dX12_type_17 : decode cX12_type 17 = .ok (.aload_n 0, 1) := by decide +kernel
theorem dX12_type_18 : decode cX12_type 18 = .ok (.getfield 168, 3) := by decide +kernel
theorem dX12_type_21 : decode cX12_type 21 = .ok (.iload_n 3, 1) := by decide +kernel
theorem dX12_type_22 : decode cX12_type 22 = .ok (.iadd, 1) := by decide +kernel
theorem dX12_type_23 : decode cX12_type 23 = .ok (.sipush 600, 3) := by decide +kernel
theorem dX12_type_26 : decode cX12_type 26 = .ok (.if_icmp .le 6, 3) := by decide +kernel
theorem dX12_type_29 : decode cX12_type 29 = .ok (.bipush (-3), 2) := by decide +kernel
theorem dX12_type_31 : decode cX12_type 31 = .ok (.ireturn, 1) := by decide +kernel
theorem dX12_type_32 : decode cX12_type 32 = .ok (.iload_n 3, 1) := by decide +kernel
theorem dX12_type_33 : decode cX12_type 33 = .ok (.iconst 1, 1) := by decide +kernel
theorem dX12_type_34 : decode cX12_type 34 = .ok (.isub, 1) := by decide +kernel
theorem dX12_type_35 : decode cX12_type 35 = .ok (.istore 4, 2) := by decide +kernel
theorem dX12_type_37 : decode cX12_type 37 = .ok (.iload 4, 2) := by decide +kernel
theorem dX12_type_39 : decode cX12_type 39 = .ok (.ifCond .lt 40, 3) := by decide +kernel
theorem dX12_type_42 : decode cX12_type 42 = .ok (.aload_n 0, 1) := by decide +kernel
theorem dX12_type_43 : decode cX12_type 43 = .ok (.getfield 71, 3) := by decide +kernel
theorem dX12_type_46 : decode cX12_type 46 = .ok (.aload_n 0, 1) := by decide +kernel
theorem dX12_type_47 : decode cX12_type 47 = .ok (.getfield 168, 3) := by decide +kernel
theorem dX12_type_50 : decode cX12_type 50 = .ok (.lload_n 1, 1) := by decide +kernel
theorem dX12_type_51 : decode cX12_type 51 = .ok (.bipush 8, 2) := by decide +kernel
theorem dX12_type_53 : decode cX12_type 53 = .ok (.iload 4, 2) := by decide +kernel
theorem dX12_type_55 : decode cX12_type 55 = .ok (.imul, 1) := by decide +kernel
theorem dX12_type_56 : decode cX12_type 56 = .ok (.lshr, 1) := by decide +kernel
theorem dX12_type_57 : decode cX12_type 57 = .ok (.ldc2_w 171, 3) := by decide +kernel
theorem dX12_type_60 : decode cX12_type 60 = .ok (.land, 1) := by decide +kernel
theorem dX12_type_61 : decode cX12_type 61 = .ok (.l2i, 1) := by decide +kernel
theorem dX12_type_62 : decode cX12_type 62 = .ok (.iastore, 1) := by decide +kernel
theorem dX12_type_63 : decode cX12_type 63 = .ok (.aload_n 0, 1) := by decide +kernel
theorem dX12_type_64 : decode cX12_type 64 = .ok (.dup, 1) := by decide +kernel
theorem dX12_type_65 : decode cX12_type 65 = .ok (.getfield 168, 3) := by decide +kernel
theorem dX12_type_68 : decode cX12_type 68 = .ok (.iconst 1, 1) := by decide +kernel
theorem dX12_type_69 : decode cX12_type 69 = .ok (.iadd, 1) := by decide +kernel
theorem dX12_type_70 : decode cX12_type 70 = .ok (.putfield 168, 3) := by decide +kernel
theorem dX12_type_73 : decode cX12_type 73 = .ok (.iinc 4 (-1), 3) := by decide +kernel
theorem dX12_type_76 : decode cX12_type 76 = .ok (.goto (-39), 3) := by decide +kernel
theorem dX12_type_79 : decode cX12_type 79 = .ok (.aload_n 0, 1) := by decide +kernel
theorem dX12_type_80 : decode cX12_type 80 = .ok (.getfield 168, 3) := by decide +kernel
theorem dX12_type_83 : decode cX12_type 83 = .ok (.ireturn, 1) := by decide +kernel
theorem dX12_clear_0 : decode cX12_clear 0 = .ok (.aload_n 0, 1) := by decide +kernel
theorem dX12_clear_1 : decode cX12_clear 1 = .ok (.iconst 0, 1) := by decide +kernel
theorem dX12_clear_2 : decode cX12_clear 2 = .ok (.putfield 80, 3) := by decide +kernel
theorem dX12_clear_5 : decode cX12_clear 5 = .ok (.aload_n 0, 1) := by decide +kernel
theorem dX12_clear_6 : decode cX12_clear 6 = .ok (.getfield 168, 3) := by decide +kernel
theorem dX12_clear_9 : decode cX12_clear 9 = .ok (.istore_n 1, 1) := by decide +kernel
theorem dX12_clear_10 : decode cX12_clear 10 = .ok (.aload_n 0, 1) := by decide +kernel
theorem dX12_clear_11 : decode cX12_clear 11 = .ok (.iconst 0, 1) := by decide +kernel
theorem dX12_clear_12 : decode cX12_clear 12 = .ok (.putfield 168, 3) := by decide +kernel
theorem dX12_clear_15 : decode cX12_clear 15 = .ok (.iload_n 1, 1) := by decide +kernel
theorem dX12_clear_16 : decode cX12_clear 16 = .ok (.ireturn, 1) := by decide +kernel
theorem dX12_byteAt_0 : decode cX12_byteAt 0 = .ok (.iload_n 1, 1) := by decide +kernel
theorem dX12_byteAt_1 : decode cX12_byteAt 1 = .ok (.aload_n 0, 1) := by decide +kernel
theorem dX12_byteAt_2 : decode cX12_byteAt 2 = .ok (.getfield 168, 3) := by decide +kernel
theorem dX12_byteAt_5 : decode cX12_byteAt 5 = .ok (.if_icmp .ge 12, 3) := by decide +kernel
theorem dX12_byteAt_8 : decode cX12_byteAt 8 = .ok (.aload_n 0, 1) := by decide +kernel
theorem dX12_byteAt_9 : decode cX12_byteAt 9 = .ok (.getfield 71, 3) := by decide +kernel
theorem dX12_byteAt_12 : decode cX12_byteAt 12 = .ok (.iload_n 1, 1) := by decide +kernel
theorem dX12_byteAt_13 : decode cX12_byteAt 13 = .ok (.iaload, 1) := by decide +kernel
theorem dX12_byteAt_14 : decode cX12_byteAt 14 = .ok (.goto 4, 3) := by decide +kernel
theorem dX12_byteAt_17 : decode cX12_byteAt 17 = .ok (.iconst (-1), 1) := by decide +kernel
theorem dX12_byteAt_18 : decode cX12_byteAt 18 = .ok (.ireturn, 1) := by decide +kernel
theorem dX12_name_0 : decode cX12_name 0 = .ok (.sipush 256, 3) := by decide +kernel
theorem dX12_name_3 : decode cX12_name 3 = .ok (.sipush 256, 3) := by decide +kernel
theorem dX12_name_6 : decode cX12_name 6 = .ok (.iload_n 0, 1) := by decide +kernel
theorem dX12_name_7 : decode cX12_name 7 = .ok (.imul, 1) := by decide +kernel
theorem dX12_name_8 : decode cX12_name 8 = .ok (.iload_n 1, 1) := by decide +kernel
theorem dX12_name_9 : decode cX12_name 9 = .ok (.iadd, 1) := by decide +kernel
theorem dX12_name_10 : decode cX12_name 10 = .ok (.imul, 1) := by decide +kernel
theorem dX12_name_11 : decode cX12_name 11 = .ok (.iload_n 2, 1) := by decide +kernel
theorem dX12_name_12 : decode cX12_name 12 = .ok (.iadd, 1) := by decide +kernel
theorem dX12_name_13 : decode cX12_name 13 = .ok (.istore 4, 2) := by decide +kernel
theorem dX12_name_15 : decode cX12_name 15 = .ok (.iload_n 3, 1) := by decide +kernel
theorem dX12_name_16 : decode cX12_name 16 = .ok (.ifCond .ne 8, 3) := by decide +kernel
theorem dX12_name_19 : decode cX12_name 19 = .ok (.iload 4, 2) := by decide +kernel
theorem dX12_name_21 : decode cX12_name 21 = .ok (.goto 11, 3) := by decide +kernel
theorem dX12_name_24 : decode cX12_name 24 = .ok (.sipush 256, 3) := by decide +kernel
theorem dX12_name_27 : decode cX12_name 27 = .ok (.iload 4, 2) := by decide +kernel
theorem dX12_name_29 : decode cX12_name 29 = .ok (.imul, 1) := by decide +kernel
theorem dX12_name_30 : decode cX12_name 30 = .ok (.iload_n 3, 1) := by decide +kernel
theorem dX12_name_31 : decode cX12_name 31 = .ok (.iadd, 1) := by decide +kernel
theorem dX12_name_32 : decode cX12_name 32 = .ok (.ireturn, 1) := by decide +kernel
theorem dX12_wordOf_0 : decode cX12_wordOf 0 = .ok (.iload_n 0, 1) := by decide +kernel
theorem dX12_wordOf_1 : decode cX12_wordOf 1 = .ok (.bipush 114, 2) := by decide +kernel
theorem dX12_wordOf_3 : decode cX12_wordOf 3 = .ok (.bipush 97, 2) := by decide +kernel
theorem dX12_wordOf_5 : decode cX12_wordOf 5 = .ok (.bipush 116, 2) := by decide +kernel
theorem dX12_wordOf_7 : decode cX12_wordOf 7 = .ok (.bipush 101, 2) := by decide +kernel
theorem dX12_wordOf_9 : decode cX12_wordOf 9 = .ok (.invokestatic 173, 3) := by decide +kernel
theorem dX12_wordOf_12 : decode cX12_wordOf 12 = .ok (.if_icmp .ne 7, 3) := by decide +kernel
theorem dX12_wordOf_15 : decode cX12_wordOf 15 = .ok (.iconst 0, 1) := by decide +kernel
theorem dX12_wordOf_16 : decode cX12_wordOf 16 = .ok (.goto 60, 3) := by decide +kernel
theorem dX12_wordOf_19 : decode cX12_wordOf 19 = .ok (.iload_n 0, 1) := by decide +kernel
theorem dX12_wordOf_20 : decode cX12_wordOf 20 = .ok (.bipush 112, 2) := by decide +kernel
theorem dX12_wordOf_22 : decode cX12_wordOf 22 = .ok (.bipush 101, 2) := by decide +kernel
theorem dX12_wordOf_24 : decode cX12_wordOf 24 = .ok (.bipush 114, 2) := by decide +kernel
theorem dX12_wordOf_26 : decode cX12_wordOf 26 = .ok (.iconst 0, 1) := by decide +kernel
theorem dX12_wordOf_27 : decode cX12_wordOf 27 = .ok (.invokestatic 173, 3) := by decide +kernel
theorem dX12_wordOf_30 : decode cX12_wordOf 30 = .ok (.if_icmp .ne 7, 3) := by decide +kernel
theorem dX12_wordOf_33 : decode cX12_wordOf 33 = .ok (.iconst 1, 1) := by decide +kernel
theorem dX12_wordOf_34 : decode cX12_wordOf 34 = .ok (.goto 42, 3) := by decide +kernel
theorem dX12_wordOf_37 : decode cX12_wordOf 37 = .ok (.iload_n 0, 1) := by decide +kernel
theorem dX12_wordOf_38 : decode cX12_wordOf 38 = .ok (.bipush 112, 2) := by decide +kernel
theorem dX12_wordOf_40 : decode cX12_wordOf 40 = .ok (.bipush 97, 2) := by decide +kernel
theorem dX12_wordOf_42 : decode cX12_wordOf 42 = .ok (.bipush 114, 2) := by decide +kernel
theorem dX12_wordOf_44 : decode cX12_wordOf 44 = .ok (.bipush 116, 2) := by decide +kernel
theorem dX12_wordOf_46 : decode cX12_wordOf 46 = .ok (.invokestatic 173, 3) := by decide +kernel
theorem dX12_wordOf_49 : decode cX12_wordOf 49 = .ok (.if_icmp .ne 7, 3) := by decide +kernel
theorem dX12_wordOf_52 : decode cX12_wordOf 52 = .ok (.iconst 2, 1) := by decide +kernel
theorem dX12_wordOf_53 : decode cX12_wordOf 53 = .ok (.goto 23, 3) := by decide +kernel
theorem dX12_wordOf_56 : decode cX12_wordOf 56 = .ok (.iload_n 0, 1) := by decide +kernel
theorem dX12_wordOf_57 : decode cX12_wordOf 57 = .ok (.bipush 100, 2) := by decide +kernel
theorem dX12_wordOf_59 : decode cX12_wordOf 59 = .ok (.bipush 117, 2) := by decide +kernel
theorem dX12_wordOf_61 : decode cX12_wordOf 61 = .ok (.bipush 101, 2) := by decide +kernel
theorem dX12_wordOf_63 : decode cX12_wordOf 63 = .ok (.iconst 0, 1) := by decide +kernel
theorem dX12_wordOf_64 : decode cX12_wordOf 64 = .ok (.invokestatic 173, 3) := by decide +kernel
theorem dX12_wordOf_67 : decode cX12_wordOf 67 = .ok (.if_icmp .ne 7, 3) := by decide +kernel
theorem dX12_wordOf_70 : decode cX12_wordOf 70 = .ok (.iconst 3, 1) := by decide +kernel
theorem dX12_wordOf_71 : decode cX12_wordOf 71 = .ok (.goto 5, 3) := by decide +kernel
theorem dX12_wordOf_74 : decode cX12_wordOf 74 = .ok (.bipush (-9), 2) := by decide +kernel
theorem dX12_wordOf_76 : decode cX12_wordOf 76 = .ok (.ireturn, 1) := by decide +kernel
theorem dX12_advances_0 : decode cX12_advances 0 = .ok (.aload_n 0, 1) := by decide +kernel
theorem dX12_advances_1 : decode cX12_advances 1 = .ok (.aload_n 0, 1) := by decide +kernel
theorem dX12_advances_2 : decode cX12_advances 2 = .ok (.getfield 177, 3) := by decide +kernel
theorem dX12_advances_5 : decode cX12_advances 5 = .ok (.invokevirtual 180, 3) := by decide +kernel
theorem dX12_advances_8 : decode cX12_advances 8 = .ok (.bipush 32, 2) := by decide +kernel
theorem dX12_advances_10 : decode cX12_advances 10 = .ok (.if_icmp .ne 16, 3) := by decide +kernel
theorem dX12_advances_13 : decode cX12_advances 13 = .ok (.aload_n 0, 1) := by decide +kernel
theorem dX12_advances_14 : decode cX12_advances 14 = .ok (.dup, 1) := by decide +kernel
theorem dX12_advances_15 : decode cX12_advances 15 = .ok (.getfield 177, 3) := by decide +kernel
theorem dX12_advances_18 : decode cX12_advances 18 = .ok (.iconst 1, 1) := by decide +kernel
theorem dX12_advances_19 : decode cX12_advances 19 = .ok (.iadd, 1) := by decide +kernel
theorem dX12_advances_20 : decode cX12_advances 20 = .ok (.putfield 177, 3) := by decide +kernel
theorem dX12_advances_23 : decode cX12_advances 23 = .ok (.goto (-23), 3) := by decide +kernel
theorem dX12_advances_26 : decode cX12_advances 26 = .ok (.aload_n 0, 1) := by decide +kernel
theorem dX12_advances_27 : decode cX12_advances 27 = .ok (.aload_n 0, 1) := by decide +kernel
theorem dX12_advances_28 : decode cX12_advances 28 = .ok (.getfield 177, 3) := by decide +kernel
theorem dX12_advances_31 : decode cX12_advances 31 = .ok (.putfield 183, 3) := by decide +kernel
theorem dX12_advances_34 : decode cX12_advances 34 = .ok (.aload_n 0, 1) := by decide +kernel
theorem dX12_advances_35 : decode cX12_advances 35 = .ok (.aload_n 0, 1) := by decide +kernel
theorem dX12_advances_36 : decode cX12_advances 36 = .ok (.getfield 177, 3) := by decide +kernel
theorem dX12_advances_39 : decode cX12_advances 39 = .ok (.invokevirtual 180, 3) := by decide +kernel
theorem dX12_advances_42 : decode cX12_advances 42 = .ok (.istore_n 1, 1) := by decide +kernel
theorem dX12_advances_43 : decode cX12_advances 43 = .ok (.iload_n 1, 1) := by decide +kernel
theorem dX12_advances_44 : decode cX12_advances 44 = .ok (.ifCond .ge 11, 3) := by decide +kernel
theorem dX12_advances_47 : decode cX12_advances 47 = .ok (.aload_n 0, 1) := by decide +kernel
theorem dX12_advances_48 : decode cX12_advances 48 = .ok (.iconst 0, 1) := by decide +kernel
theorem dX12_advances_49 : decode cX12_advances 49 = .ok (.putfield 186, 3) := by decide +kernel
theorem dX12_advances_52 : decode cX12_advances 52 = .ok (.goto 310, 3) := by decide +kernel
theorem dX12_advances_55 : decode cX12_advances 55 = .ok (.iload_n 1, 1) := by decide +kernel
theorem dX12_advances_56 : decode cX12_advances 56 = .ok (.bipush 97, 2) := by decide +kernel
theorem dX12_advances_58 : decode cX12_advances 58 = .ok (.bipush 122, 2) := by decide +kernel
theorem dX12_advances_60 : decode cX12_advances 60 = .ok (.invokestatic 84, 3) := by decide +kernel
theorem dX12_advances_63 : decode cX12_advances 63 = .ok (.ifCond .eq 104, 3) := by decide +kernel
theorem dX12_advances_66 : decode cX12_advances 66 = .ok (.iconst 0, 1) := by decide +kernel
theorem dX12_advances_67 : decode cX12_advances 67 = .ok (.istore_n 2, 1) := by decide +kernel
theorem dX12_advances_68 : decode cX12_advances 68 = .ok (.iconst 0, 1) := by decide +kernel
theorem dX12_advances_69 : decode cX12_advances 69 = .ok (.istore_n 3, 1) := by decide +kernel
theorem dX12_advances_70 : decode cX12_advances 70 = .ok (.aload_n 0, 1) := by decide +kernel
theorem dX12_advances_71 : decode cX12_advances 71 = .ok (.aload_n 0, 1) := by decide +kernel
theorem dX12_advances_72 : decode cX12_advances 72 = .ok (.getfield 177, 3) := by decide +kernel
theorem dX12_advances_75 : decode cX12_advances 75 = .ok (.invokevirtual 180, 3) := by decide +kernel
theorem dX12_advances_78 : decode cX12_advances 78 = .ok (.bipush 97, 2) := by decide +kernel
theorem dX12_advances_80 : decode cX12_advances 80 = .ok (.bipush 122, 2) := by decide +kernel
theorem dX12_advances_82 : decode cX12_advances 82 = .ok (.invokestatic 84, 3) := by decide +kernel
theorem dX12_advances_85 : decode cX12_advances 85 = .ok (.ifCond .eq 43, 3) := by decide +kernel
theorem dX12_advances_88 : decode cX12_advances 88 = .ok (.iload_n 3, 1) := by decide +kernel
theorem dX12_advances_89 : decode cX12_advances 89 = .ok (.iconst 4, 1) := by decide +kernel
theorem dX12_advances_90 : decode cX12_advances 90 = .ok (.if_icmp .ge 20, 3) := by decide +kernel
theorem dX12_advances_93 : decode cX12_advances 93 = .ok (.sipush 256, 3) := by decide +kernel
theorem dX12_advances_96 : decode cX12_advances 96 = .ok (.iload_n 2, 1) := by decide +kernel
theorem dX12_advances_97 : decode cX12_advances 97 = .ok (.imul, 1) := by decide +kernel
theorem dX12_advances_98 : decode cX12_advances 98 = .ok (.aload_n 0, 1) := by decide +kernel
theorem dX12_advances_99 : decode cX12_advances 99 = .ok (.aload_n 0, 1) := by decide +kernel
theorem dX12_advances_100 : decode cX12_advances 100 = .ok (.getfield 177, 3) := by decide +kernel
theorem dX12_advances_103 : decode cX12_advances 103 = .ok (.invokevirtual 180, 3) := by decide +kernel
theorem dX12_advances_106 : decode cX12_advances 106 = .ok (.iadd, 1) := by decide +kernel
theorem dX12_advances_107 : decode cX12_advances 107 = .ok (.goto 4, 3) := by decide +kernel
theorem dX12_advances_110 : decode cX12_advances 110 = .ok (.iload_n 2, 1) := by decide +kernel
theorem dX12_advances_111 : decode cX12_advances 111 = .ok (.istore_n 2, 1) := by decide +kernel
theorem dX12_advances_112 : decode cX12_advances 112 = .ok (.iinc 3 1, 3) := by decide +kernel
theorem dX12_advances_115 : decode cX12_advances 115 = .ok (.aload_n 0, 1) := by decide +kernel
theorem dX12_advances_116 : decode cX12_advances 116 = .ok (.dup, 1) := by decide +kernel
theorem dX12_advances_117 : decode cX12_advances 117 = .ok (.getfield 177, 3) := by decide +kernel
theorem dX12_advances_120 : decode cX12_advances 120 = .ok (.iconst 1, 1) := by decide +kernel
theorem dX12_advances_121 : decode cX12_advances 121 = .ok (.iadd, 1) := by decide +kernel
theorem dX12_advances_122 : decode cX12_advances 122 = .ok (.putfield 177, 3) := by decide +kernel
theorem dX12_advances_125 : decode cX12_advances 125 = .ok (.goto (-55), 3) := by decide +kernel
theorem dX12_advances_128 : decode cX12_advances 128 = .ok (.aload_n 0, 1) := by decide +kernel
theorem dX12_advances_129 : decode cX12_advances 129 = .ok (.iload_n 3, 1) := by decide +kernel
theorem dX12_advances_130 : decode cX12_advances 130 = .ok (.iconst 5, 1) := by decide +kernel
theorem dX12_advances_131 : decode cX12_advances 131 = .ok (.if_icmp .ge 10, 3) := by decide +kernel
theorem dX12_advances_134 : decode cX12_advances 134 = .ok (.iload_n 2, 1) := by decide +kernel
theorem dX12_advances_135 : decode cX12_advances 135 = .ok (.invokestatic 189, 3) := by decide +kernel
theorem dX12_advances_138 : decode cX12_advances 138 = .ok (.goto 5, 3) := by decide +kernel
theorem dX12_advances_141 : decode cX12_advances 141 = .ok (.bipush (-9), 2) := by decide +kernel
theorem dX12_advances_143 : decode cX12_advances 143 = .ok (.putfield 192, 3) := by decide +kernel
theorem dX12_advances_146 : decode cX12_advances 146 = .ok (.aload_n 0, 1) := by decide +kernel
theorem dX12_advances_147 : decode cX12_advances 147 = .ok (.aload_n 0, 1) := by decide +kernel
theorem dX12_advances_148 : decode cX12_advances 148 = .ok (.getfield 192, 3) := by decide +kernel
theorem dX12_advances_151 : decode cX12_advances 151 = .ok (.bipush (-9), 2) := by decide +kernel
theorem dX12_advances_153 : decode cX12_advances 153 = .ok (.if_icmp .ne 7, 3) := by decide +kernel
theorem dX12_advances_156 : decode cX12_advances 156 = .ok (.iconst 4, 1) := by decide +kernel
theorem dX12_advances_157 : decode cX12_advances 157 = .ok (.goto 4, 3) := by decide +kernel
theorem dX12_advances_160 : decode cX12_advances 160 = .ok (.iconst 1, 1) := by decide +kernel
theorem dX12_advances_161 : decode cX12_advances 161 = .ok (.putfield 186, 3) := by decide +kernel
theorem dX12_advances_164 : decode cX12_advances 164 = .ok (.goto 198, 3) := by decide +kernel
theorem dX12_advances_167 : decode cX12_advances 167 = .ok (.iload_n 1, 1) := by decide +kernel
theorem dX12_advances_168 : decode cX12_advances 168 = .ok (.bipush 48, 2) := by decide +kernel
theorem dX12_advances_170 : decode cX12_advances 170 = .ok (.bipush 57, 2) := by decide +kernel
theorem dX12_advances_172 : decode cX12_advances 172 = .ok (.invokestatic 84, 3) := by decide +kernel
theorem dX12_advances_175 : decode cX12_advances 175 = .ok (.ifCond .eq 111, 3) := by decide +kernel
theorem dX12_advances_178 : decode cX12_advances 178 = .ok (.aload_n 0, 1) := by decide +kernel
theorem dX12_advances_179 : decode cX12_advances 179 = .ok (.iconst 0, 1) := by decide +kernel
theorem dX12_advances_180 : decode cX12_advances 180 = .ok (.putfield 192, 3) := by decide +kernel
theorem dX12_advances_183 : decode cX12_advances 183 = .ok (.iconst 0, 1) := by decide +kernel
theorem dX12_advances_184 : decode cX12_advances 184 = .ok (.istore_n 2, 1) := by decide +kernel
theorem dX12_advances_185 : decode cX12_advances 185 = .ok (.aload_n 0, 1) := by decide +kernel
theorem dX12_advances_186 : decode cX12_advances 186 = .ok (.aload_n 0, 1) := by decide +kernel
theorem dX12_advances_187 : decode cX12_advances 187 = .ok (.getfield 177, 3) := by decide +kernel
theorem dX12_advances_190 : decode cX12_advances 190 = .ok (.invokevirtual 180, 3) := by decide +kernel
theorem dX12_advances_193 : decode cX12_advances 193 = .ok (.bipush 48, 2) := by decide +kernel
theorem dX12_advances_195 : decode cX12_advances 195 = .ok (.bipush 57, 2) := by decide +kernel
theorem dX12_advances_197 : decode cX12_advances 197 = .ok (.invokestatic 84, 3) := by decide +kernel
theorem dX12_advances_200 : decode cX12_advances 200 = .ok (.ifCond .eq 53, 3) := by decide +kernel
theorem dX12_advances_203 : decode cX12_advances 203 = .ok (.aload_n 0, 1) := by decide +kernel
theorem dX12_advances_204 : decode cX12_advances 204 = .ok (.iload_n 2, 1) := by decide +kernel
theorem dX12_advances_205 : decode cX12_advances 205 = .ok (.iconst 4, 1) := by decide +kernel
theorem dX12_advances_206 : decode cX12_advances 206 = .ok (.if_icmp .ge 25, 3) := by decide +kernel
theorem dX12_advances_209 : decode cX12_advances 209 = .ok (.bipush 10, 2) := by decide +kernel
theorem dX12_advances_211 : decode cX12_advances 211 = .ok (.aload_n 0, 1) := by decide +kernel
theorem dX12_advances_212 : decode cX12_advances 212 = .ok (.getfield 192, 3) := by decide +kernel
theorem dX12_advances_215 : decode cX12_advances 215 = .ok (.imul, 1) := by decide +kernel
theorem dX12_advances_216 : decode cX12_advances 216 = .ok (.aload_n 0, 1) := by decide +kernel
theorem dX12_advances_217 : decode cX12_advances 217 = .ok (.aload_n 0, 1) := by decide +kernel
theorem dX12_advances_218 : decode cX12_advances 218 = .ok (.getfield 177, 3) := by decide +kernel
theorem dX12_advances_221 : decode cX12_advances 221 = .ok (.invokevirtual 180, 3) := by decide +kernel
theorem dX12_advances_224 : decode cX12_advances 224 = .ok (.iadd, 1) := by decide +kernel
theorem dX12_advances_225 : decode cX12_advances 225 = .ok (.bipush 48, 2) := by decide +kernel
theorem dX12_advances_227 : decode cX12_advances 227 = .ok (.isub, 1) := by decide +kernel
theorem dX12_advances_228 : decode cX12_advances 228 = .ok (.goto 6, 3) := by decide +kernel
theorem dX12_advances_231 : decode cX12_advances 231 = .ok (.sipush 10000, 3) := by decide +kernel
theorem dX12_advances_234 : decode cX12_advances 234 = .ok (.putfield 192, 3) := by decide +kernel
theorem dX12_advances_237 : decode cX12_advances 237 = .ok (.iinc 2 1, 3) := by decide +kernel
theorem dX12_advances_240 : decode cX12_advances 240 = .ok (.aload_n 0, 1) := by decide +kernel
theorem dX12_advances_241 : decode cX12_advances 241 = .ok (.dup, 1) := by decide +kernel
theorem dX12_advances_242 : decode cX12_advances 242 = .ok (.getfield 177, 3) := by decide +kernel
theorem dX12_advances_245 : decode cX12_advances 245 = .ok (.iconst 1, 1) := by decide +kernel
theorem dX12_advances_246 : decode cX12_advances 246 = .ok (.iadd, 1) := by decide +kernel
theorem dX12_advances_247 : decode cX12_advances 247 = .ok (.putfield 177, 3) := by decide +kernel
theorem dX12_advances_250 : decode cX12_advances 250 = .ok (.goto (-65), 3) := by decide +kernel
theorem dX12_advances_253 : decode cX12_advances 253 = .ok (.aload_n 0, 1) := by decide +kernel
theorem dX12_advances_254 : decode cX12_advances 254 = .ok (.aload_n 0, 1) := by decide +kernel
theorem dX12_advances_255 : decode cX12_advances 255 = .ok (.getfield 192, 3) := by decide +kernel
theorem dX12_advances_258 : decode cX12_advances 258 = .ok (.sipush 9999, 3) := by decide +kernel
theorem dX12_advances_261 : decode cX12_advances 261 = .ok (.if_icmp .gt 14, 3) := by decide +kernel
theorem dX12_advances_264 : decode cX12_advances 264 = .ok (.iload_n 1, 1) := by decide +kernel
theorem dX12_advances_265 : decode cX12_advances 265 = .ok (.bipush 48, 2) := by decide +kernel
theorem dX12_advances_267 : decode cX12_advances 267 = .ok (.if_icmp .ne 12, 3) := by decide +kernel
theorem dX12_advances_270 : decode cX12_advances 270 = .ok (.iload_n 2, 1) := by decide +kernel
theorem dX12_advances_271 : decode cX12_advances 271 = .ok (.iconst 1, 1) := by decide +kernel
theorem dX12_advances_272 : decode cX12_advances 272 = .ok (.if_icmp .le 7, 3) := by decide +kernel
theorem dX12_advances_275 : decode cX12_advances 275 = .ok (.iconst 4, 1) := by decide +kernel
theorem dX12_advances_276 : decode cX12_advances 276 = .ok (.goto 4, 3) := by decide +kernel
theorem dX12_advances_279 : decode cX12_advances 279 = .ok (.iconst 2, 1) := by decide +kernel
theorem dX12_advances_280 : decode cX12_advances 280 = .ok (.putfield 186, 3) := by decide +kernel
theorem dX12_advances_283 : decode cX12_advances 283 = .ok (.goto 79, 3) := by decide +kernel
theorem dX12_advances_286 : decode cX12_advances 286 = .ok (.aload_n 0, 1) := by decide +kernel
theorem dX12_advances_287 : decode cX12_advances 287 = .ok (.iload_n 1, 1) := by decide +kernel
theorem dX12_advances_288 : decode cX12_advances 288 = .ok (.putfield 192, 3) := by decide +kernel
theorem dX12_advances_291 : decode cX12_advances 291 = .ok (.aload_n 0, 1) := by decide +kernel
theorem dX12_advances_292 : decode cX12_advances 292 = .ok (.dup, 1) := by decide +kernel
theorem dX12_advances_293 : decode cX12_advances 293 = .ok (.getfield 177, 3) := by decide +kernel
theorem dX12_advances_296 : decode cX12_advances 296 = .ok (.iconst 1, 1) := by decide +kernel
theorem dX12_advances_297 : decode cX12_advances 297 = .ok (.iadd, 1) := by decide +kernel
theorem dX12_advances_298 : decode cX12_advances 298 = .ok (.putfield 177, 3) := by decide +kernel
theorem dX12_advances_301 : decode cX12_advances 301 = .ok (.iload_n 1, 1) := by decide +kernel
theorem dX12_advances_302 : decode cX12_advances 302 = .ok (.bipush 62, 2) := by decide +kernel
theorem dX12_advances_304 : decode cX12_advances 304 = .ok (.if_icmp .eq 39, 3) := by decide +kernel
theorem dX12_advances_307 : decode cX12_advances 307 = .ok (.iload_n 1, 1) := by decide +kernel
theorem dX12_advances_308 : decode cX12_advances 308 = .ok (.bipush 44, 2) := by decide +kernel
theorem dX12_advances_310 : decode cX12_advances 310 = .ok (.if_icmp .eq 33, 3) := by decide +kernel
theorem dX12_advances_313 : decode cX12_advances 313 = .ok (.iload_n 1, 1) := by decide +kernel
theorem dX12_advances_314 : decode cX12_advances 314 = .ok (.bipush 45, 2) := by decide +kernel
theorem dX12_advances_316 : decode cX12_advances 316 = .ok (.if_icmp .eq 27, 3) := by decide +kernel
theorem dX12_advances_319 : decode cX12_advances 319 = .ok (.iload_n 1, 1) := by decide +kernel
theorem dX12_advances_320 : decode cX12_advances 320 = .ok (.bipush 58, 2) := by decide +kernel
theorem dX12_advances_322 : decode cX12_advances 322 = .ok (.if_icmp .eq 21, 3) := by decide +kernel
theorem dX12_advances_325 : decode cX12_advances 325 = .ok (.iload_n 1, 1) := by decide +kernel
theorem dX12_advances_326 : decode cX12_advances 326 = .ok (.bipush 43, 2) := by decide +kernel
theorem dX12_advances_328 : decode cX12_advances 328 = .ok (.if_icmp .eq 15, 3) := by decide +kernel
theorem dX12_advances_331 : decode cX12_advances 331 = .ok (.iload_n 1, 1) := by decide +kernel
theorem dX12_advances_332 : decode cX12_advances 332 = .ok (.bipush 47, 2) := by decide +kernel
theorem dX12_advances_334 : decode cX12_advances 334 = .ok (.if_icmp .eq 9, 3) := by decide +kernel
theorem dX12_advances_337 : decode cX12_advances 337 = .ok (.iload_n 1, 1) := by decide +kernel
theorem dX12_advances_338 : decode cX12_advances 338 = .ok (.bipush 59, 2) := by decide +kernel
theorem dX12_advances_340 : decode cX12_advances 340 = .ok (.if_icmp .ne 7, 3) := by decide +kernel
theorem dX12_advances_343 : decode cX12_advances 343 = .ok (.iconst 1, 1) := by decide +kernel
theorem dX12_advances_344 : decode cX12_advances 344 = .ok (.goto 4, 3) := by decide +kernel
theorem dX12_advances_347 : decode cX12_advances 347 = .ok (.iconst 0, 1) := by decide +kernel
theorem dX12_advances_348 : decode cX12_advances 348 = .ok (.istore_n 2, 1) := by decide +kernel
theorem dX12_advances_349 : decode cX12_advances 349 = .ok (.aload_n 0, 1) := by decide +kernel
theorem dX12_advances_350 : decode cX12_advances 350 = .ok (.iload_n 2, 1) := by decide +kernel
theorem dX12_advances_351 : decode cX12_advances 351 = .ok (.ifCond .eq 7, 3) := by decide +kernel
theorem dX12_advances_354 : decode cX12_advances 354 = .ok (.iconst 3, 1) := by decide +kernel
theorem dX12_advances_355 : decode cX12_advances 355 = .ok (.goto 4, 3) := by decide +kernel
theorem dX12_advances_358 : decode cX12_advances 358 = .ok (.iconst 4, 1) := by decide +kernel
theorem dX12_advances_359 : decode cX12_advances 359 = .ok (.putfield 186, 3) := by decide +kernel
theorem dX12_advances_362 : decode cX12_advances 362 = .ok (.return_, 1) := by decide +kernel
theorem dX12_isWell_0 : decode cX12_isWell 0 = .ok (.aload_n 0, 1) := by decide +kernel
theorem dX12_isWell_1 : decode cX12_isWell 1 = .ok (.getfield 195, 3) := by decide +kernel
theorem dX12_isWell_4 : decode cX12_isWell 4 = .ok (.ifCond .ge 7, 3) := by decide +kernel
theorem dX12_isWell_7 : decode cX12_isWell 7 = .ok (.iconst 1, 1) := by decide +kernel
theorem dX12_isWell_8 : decode cX12_isWell 8 = .ok (.goto 4, 3) := by decide +kernel
theorem dX12_isWell_11 : decode cX12_isWell 11 = .ok (.iconst 0, 1) := by decide +kernel
theorem dX12_isWell_12 : decode cX12_isWell 12 = .ok (.ireturn, 1) := by decide +kernel
theorem dX12_fails_0 : decode cX12_fails 0 = .ok (.aload_n 0, 1) := by decide +kernel
theorem dX12_fails_1 : decode cX12_fails 1 = .ok (.aload_n 0, 1) := by decide +kernel
theorem dX12_fails_2 : decode cX12_fails 2 = .ok (.getfield 195, 3) := by decide +kernel
theorem dX12_fails_5 : decode cX12_fails 5 = .ok (.ifCond .ge 10, 3) := by decide +kernel
theorem dX12_fails_8 : decode cX12_fails 8 = .ok (.aload_n 0, 1) := by decide +kernel
theorem dX12_fails_9 : decode cX12_fails 9 = .ok (.getfield 183, 3) := by decide +kernel
theorem dX12_fails_12 : decode cX12_fails 12 = .ok (.goto 7, 3) := by decide +kernel
theorem dX12_fails_15 : decode cX12_fails 15 = .ok (.aload_n 0, 1) := by decide +kernel
theorem dX12_fails_16 : decode cX12_fails 16 = .ok (.getfield 195, 3) := by decide +kernel
theorem dX12_fails_19 : decode cX12_fails 19 = .ok (.putfield 195, 3) := by decide +kernel
theorem dX12_fails_22 : decode cX12_fails 22 = .ok (.return_, 1) := by decide +kernel
theorem dX12_isSign_0 : decode cX12_isSign 0 = .ok (.aload_n 0, 1) := by decide +kernel
theorem dX12_isSign_1 : decode cX12_isSign 1 = .ok (.invokevirtual 198, 3) := by decide +kernel
theorem dX12_isSign_4 : decode cX12_isSign 4 = .ok (.ifCond .eq 23, 3) := by decide +kernel
theorem dX12_isSign_7 : decode cX12_isSign 7 = .ok (.aload_n 0, 1) := by decide +kernel
theorem dX12_isSign_8 : decode cX12_isSign 8 = .ok (.getfield 186, 3) := by decide +kernel
theorem dX12_isSign_11 : decode cX12_isSign 11 = .ok (.iconst 3, 1) := by decide +kernel
theorem dX12_isSign_12 : decode cX12_isSign 12 = .ok (.if_icmp .ne 15, 3) := by decide +kernel
theorem dX12_isSign_15 : decode cX12_isSign 15 = .ok (.aload_n 0, 1) := by decide +kernel
theorem dX12_isSign_16 : decode cX12_isSign 16 = .ok (.getfield 192, 3) := by decide +kernel
theorem dX12_isSign_19 : decode cX12_isSign 19 = .ok (.iload_n 1, 1) := by decide +kernel
theorem dX12_isSign_20 : decode cX12_isSign 20 = .ok (.if_icmp .ne 7, 3) := by decide +kernel
theorem dX12_isSign_23 : decode cX12_isSign 23 = .ok (.iconst 1, 1) := by decide +kernel
theorem dX12_isSign_24 : decode cX12_isSign 24 = .ok (.goto 4, 3) := by decide +kernel
theorem dX12_isSign_27 : decode cX12_isSign 27 = .ok (.iconst 0, 1) := by decide +kernel
theorem dX12_isSign_28 : decode cX12_isSign 28 = .ok (.ireturn, 1) := by decide +kernel
theorem dX12_isWord_0 : decode cX12_isWord 0 = .ok (.aload_n 0, 1) := by decide +kernel
theorem dX12_isWord_1 : decode cX12_isWord 1 = .ok (.invokevirtual 198, 3) := by decide +kernel
theorem dX12_isWord_4 : decode cX12_isWord 4 = .ok (.ifCond .eq 23, 3) := by decide +kernel
theorem dX12_isWord_7 : decode cX12_isWord 7 = .ok (.aload_n 0, 1) := by decide +kernel
theorem dX12_isWord_8 : decode cX12_isWord 8 = .ok (.getfield 186, 3) := by decide +kernel
theorem dX12_isWord_11 : decode cX12_isWord 11 = .ok (.iconst 1, 1) := by decide +kernel
theorem dX12_isWord_12 : decode cX12_isWord 12 = .ok (.if_icmp .ne 15, 3) := by decide +kernel
theorem dX12_isWord_15 : decode cX12_isWord 15 = .ok (.aload_n 0, 1) := by decide +kernel
theorem dX12_isWord_16 : decode cX12_isWord 16 = .ok (.getfield 192, 3) := by decide +kernel
theorem dX12_isWord_19 : decode cX12_isWord 19 = .ok (.iload_n 1, 1) := by decide +kernel
theorem dX12_isWord_20 : decode cX12_isWord 20 = .ok (.if_icmp .ne 7, 3) := by decide +kernel
theorem dX12_isWord_23 : decode cX12_isWord 23 = .ok (.iconst 1, 1) := by decide +kernel
theorem dX12_isWord_24 : decode cX12_isWord 24 = .ok (.goto 4, 3) := by decide +kernel
theorem dX12_isWord_27 : decode cX12_isWord 27 = .ok (.iconst 0, 1) := by decide +kernel
theorem dX12_isWord_28 : decode cX12_isWord 28 = .ok (.ireturn, 1) := by decide +kernel
theorem dX12_takesSign_0 : decode cX12_takesSign 0 = .ok (.aload_n 0, 1) := by decide +kernel
theorem dX12_takesSign_1 : decode cX12_takesSign 1 = .ok (.iload_n 1, 1) := by decide +kernel
theorem dX12_takesSign_2 : decode cX12_takesSign 2 = .ok (.invokevirtual 202, 3) := by decide +kernel
theorem dX12_takesSign_5 : decode cX12_takesSign 5 = .ok (.ifCond .eq 10, 3) := by decide +kernel
theorem dX12_takesSign_8 : decode cX12_takesSign 8 = .ok (.aload_n 0, 1) := by decide +kernel
theorem dX12_takesSign_9 : decode cX12_takesSign 9 = .ok (.invokevirtual 205, 3) := by decide +kernel
theorem dX12_takesSign_12 : decode cX12_takesSign 12 = .ok (.goto 7, 3) := by decide +kernel
theorem dX12_takesSign_15 : decode cX12_takesSign 15 = .ok (.aload_n 0, 1) := by decide +kernel
theorem dX12_takesSign_16 : decode cX12_takesSign 16 = .ok (.invokevirtual 208, 3) := by decide +kernel
theorem dX12_takesSign_19 : decode cX12_takesSign 19 = .ok (.return_, 1) := by decide +kernel
theorem dX12_takesWord_0 : decode cX12_takesWord 0 = .ok (.aload_n 0, 1) := by decide +kernel
theorem dX12_takesWord_1 : decode cX12_takesWord 1 = .ok (.iload_n 1, 1) := by decide +kernel
theorem dX12_takesWord_2 : decode cX12_takesWord 2 = .ok (.invokevirtual 211, 3) := by decide +kernel
theorem dX12_takesWord_5 : decode cX12_takesWord 5 = .ok (.ifCond .eq 10, 3) := by decide +kernel
theorem dX12_takesWord_8 : decode cX12_takesWord 8 = .ok (.aload_n 0, 1) := by decide +kernel
theorem dX12_takesWord_9 : decode cX12_takesWord 9 = .ok (.invokevirtual 205, 3) := by decide +kernel
theorem dX12_takesWord_12 : decode cX12_takesWord 12 = .ok (.goto 7, 3) := by decide +kernel
theorem dX12_takesWord_15 : decode cX12_takesWord 15 = .ok (.aload_n 0, 1) := by decide +kernel
theorem dX12_takesWord_16 : decode cX12_takesWord 16 = .ok (.invokevirtual 208, 3) := by decide +kernel
theorem dX12_takesWord_19 : decode cX12_takesWord 19 = .ok (.return_, 1) := by decide +kernel
theorem dX12_takesNumber_0 : decode cX12_takesNumber 0 = .ok (.aload_n 0, 1) := by decide +kernel
theorem dX12_takesNumber_1 : decode cX12_takesNumber 1 = .ok (.invokevirtual 198, 3) := by decide +kernel
theorem dX12_takesNumber_4 : decode cX12_takesNumber 4 = .ok (.ifCond .eq 23, 3) := by decide +kernel
theorem dX12_takesNumber_7 : decode cX12_takesNumber 7 = .ok (.aload_n 0, 1) := by decide +kernel
theorem dX12_takesNumber_8 : decode cX12_takesNumber 8 = .ok (.getfield 186, 3) := by decide +kernel
theorem dX12_takesNumber_11 : decode cX12_takesNumber 11 = .ok (.iconst 2, 1) := by decide +kernel
theorem dX12_takesNumber_12 : decode cX12_takesNumber 12 = .ok (.if_icmp .ne 15, 3) := by decide +kernel
theorem dX12_takesNumber_15 : decode cX12_takesNumber 15 = .ok (.aload_n 0, 1) := by decide +kernel
theorem dX12_takesNumber_16 : decode cX12_takesNumber 16 = .ok (.getfield 192, 3) := by decide +kernel
theorem dX12_takesNumber_19 : decode cX12_takesNumber 19 = .ok (.iload_n 1, 1) := by decide +kernel
theorem dX12_takesNumber_20 : decode cX12_takesNumber 20 = .ok (.iload_n 2, 1) := by decide +kernel
theorem dX12_takesNumber_21 : decode cX12_takesNumber 21 = .ok (.invokestatic 84, 3) := by decide +kernel
theorem dX12_takesNumber_24 : decode cX12_takesNumber 24 = .ok (.ifCond .ne 9, 3) := by decide +kernel
theorem dX12_takesNumber_27 : decode cX12_takesNumber 27 = .ok (.aload_n 0, 1) := by decide +kernel
theorem dX12_takesNumber_28 : decode cX12_takesNumber 28 = .ok (.invokevirtual 208, 3) := by decide +kernel
theorem dX12_takesNumber_31 : decode cX12_takesNumber 31 = .ok (.iconst 0, 1) := by decide +kernel
theorem dX12_takesNumber_32 : decode cX12_takesNumber 32 = .ok (.ireturn, 1) := by decide +kernel
theorem dX12_takesNumber_33 : decode cX12_takesNumber 33 = .ok (.aload_n 0, 1) := by decide +kernel
theorem dX12_takesNumber_34 : decode cX12_takesNumber 34 = .ok (.getfield 192, 3) := by decide +kernel
theorem dX12_takesNumber_37 : decode cX12_takesNumber 37 = .ok (.istore_n 3, 1) := by decide +kernel
theorem dX12_takesNumber_38 : decode cX12_takesNumber 38 = .ok (.aload_n 0, 1) := by decide +kernel
theorem dX12_takesNumber_39 : decode cX12_takesNumber 39 = .ok (.invokevirtual 205, 3) := by decide +kernel
theorem dX12_takesNumber_42 : decode cX12_takesNumber 42 = .ok (.iload_n 3, 1) := by decide +kernel
theorem dX12_takesNumber_43 : decode cX12_takesNumber 43 = .ok (.ireturn, 1) := by decide +kernel
theorem dX12_readsRule_0 : decode cX12_readsRule 0 = .ok (.aload_n 0, 1) := by decide +kernel
theorem dX12_readsRule_1 : decode cX12_readsRule 1 = .ok (.iconst 0, 1) := by decide +kernel
theorem dX12_readsRule_2 : decode cX12_readsRule 2 = .ok (.invokevirtual 214, 3) := by decide +kernel
theorem dX12_readsRule_5 : decode cX12_readsRule 5 = .ok (.aload_n 0, 1) := by decide +kernel
theorem dX12_readsRule_6 : decode cX12_readsRule 6 = .ok (.getfield 74, 3) := by decide +kernel
theorem dX12_readsRule_9 : decode cX12_readsRule 9 = .ok (.iload_n 1, 1) := by decide +kernel
theorem dX12_readsRule_10 : decode cX12_readsRule 10 = .ok (.aload_n 0, 1) := by decide +kernel
theorem dX12_readsRule_11 : decode cX12_readsRule 11 = .ok (.iconst 0, 1) := by decide +kernel
theorem dX12_readsRule_12 : decode cX12_readsRule 12 = .ok (.iconst 2, 1) := by decide +kernel
theorem dX12_readsRule_13 : decode cX12_readsRule 13 = .ok (.invokevirtual 218, 3) := by decide +kernel
theorem dX12_readsRule_16 : decode cX12_readsRule 16 = .ok (.iastore, 1) := by decide +kernel
theorem dX12_readsRule_17 : decode cX12_readsRule 17 = .ok (.aload_n 0, 1) := by decide +kernel
theorem dX12_readsRule_18 : decode cX12_readsRule 18 = .ok (.bipush 62, 2) := by decide +kernel
theorem dX12_readsRule_20 : decode cX12_readsRule 20 = .ok (.invokevirtual 221, 3) := by decide +kernel
theorem dX12_readsRule_23 : decode cX12_readsRule 23 = .ok (.aload_n 0, 1) := by decide +kernel
theorem dX12_readsRule_24 : decode cX12_readsRule 24 = .ok (.getfield 74, 3) := by decide +kernel
theorem dX12_readsRule_27 : decode cX12_readsRule 27 = .ok (.iload_n 1, 1) := by decide +kernel
theorem dX12_readsRule_28 : decode cX12_readsRule 28 = .ok (.iconst 1, 1) := by decide +kernel
theorem dX12_readsRule_29 : decode cX12_readsRule 29 = .ok (.iadd, 1) := by decide +kernel
theorem dX12_readsRule_30 : decode cX12_readsRule 30 = .ok (.aload_n 0, 1) := by decide +kernel
theorem dX12_readsRule_31 : decode cX12_readsRule 31 = .ok (.iconst 0, 1) := by decide +kernel
theorem dX12_readsRule_32 : decode cX12_readsRule 32 = .ok (.iconst 2, 1) := by decide +kernel
theorem dX12_readsRule_33 : decode cX12_readsRule 33 = .ok (.invokevirtual 218, 3) := by decide +kernel
theorem dX12_readsRule_36 : decode cX12_readsRule 36 = .ok (.iastore, 1) := by decide +kernel
theorem dX12_readsRule_37 : decode cX12_readsRule 37 = .ok (.aload_n 0, 1) := by decide +kernel
theorem dX12_readsRule_38 : decode cX12_readsRule 38 = .ok (.bipush 44, 2) := by decide +kernel
theorem dX12_readsRule_40 : decode cX12_readsRule 40 = .ok (.invokevirtual 221, 3) := by decide +kernel
theorem dX12_readsRule_43 : decode cX12_readsRule 43 = .ok (.aload_n 0, 1) := by decide +kernel
theorem dX12_readsRule_44 : decode cX12_readsRule 44 = .ok (.getfield 74, 3) := by decide +kernel
theorem dX12_readsRule_47 : decode cX12_readsRule 47 = .ok (.iload_n 1, 1) := by decide +kernel
theorem dX12_readsRule_48 : decode cX12_readsRule 48 = .ok (.iconst 2, 1) := by decide +kernel
theorem dX12_readsRule_49 : decode cX12_readsRule 49 = .ok (.iadd, 1) := by decide +kernel
theorem dX12_readsRule_50 : decode cX12_readsRule 50 = .ok (.aload_n 0, 1) := by decide +kernel
theorem dX12_readsRule_51 : decode cX12_readsRule 51 = .ok (.iconst 0, 1) := by decide +kernel
theorem dX12_readsRule_52 : decode cX12_readsRule 52 = .ok (.sipush 999, 3) := by decide +kernel
theorem dX12_readsRule_55 : decode cX12_readsRule 55 = .ok (.invokevirtual 218, 3) := by decide +kernel
theorem dX12_readsRule_58 : decode cX12_readsRule 58 = .ok (.iastore, 1) := by decide +kernel
theorem dX12_readsRule_59 : decode cX12_readsRule 59 = .ok (.aload_n 0, 1) := by decide +kernel
theorem dX12_readsRule_60 : decode cX12_readsRule 60 = .ok (.bipush 45, 2) := by decide +kernel
theorem dX12_readsRule_62 : decode cX12_readsRule 62 = .ok (.invokevirtual 221, 3) := by decide +kernel
theorem dX12_readsRule_65 : decode cX12_readsRule 65 = .ok (.aload_n 0, 1) := by decide +kernel
theorem dX12_readsRule_66 : decode cX12_readsRule 66 = .ok (.getfield 74, 3) := by decide +kernel
theorem dX12_readsRule_69 : decode cX12_readsRule 69 = .ok (.iload_n 1, 1) := by decide +kernel
theorem dX12_readsRule_70 : decode cX12_readsRule 70 = .ok (.iconst 3, 1) := by decide +kernel
theorem dX12_readsRule_71 : decode cX12_readsRule 71 = .ok (.iadd, 1) := by decide +kernel
theorem dX12_readsRule_72 : decode cX12_readsRule 72 = .ok (.aload_n 0, 1) := by decide +kernel
theorem dX12_readsRule_73 : decode cX12_readsRule 73 = .ok (.aload_n 0, 1) := by decide +kernel
theorem dX12_readsRule_74 : decode cX12_readsRule 74 = .ok (.getfield 74, 3) := by decide +kernel
theorem dX12_readsRule_77 : decode cX12_readsRule 77 = .ok (.iload_n 1, 1) := by decide +kernel
theorem dX12_readsRule_78 : decode cX12_readsRule 78 = .ok (.iconst 2, 1) := by decide +kernel
theorem dX12_readsRule_79 : decode cX12_readsRule 79 = .ok (.iadd, 1) := by decide +kernel
theorem dX12_readsRule_80 : decode cX12_readsRule 80 = .ok (.iaload, 1) := by decide +kernel
theorem dX12_readsRule_81 : decode cX12_readsRule 81 = .ok (.sipush 999, 3) := by decide +kernel
theorem dX12_readsRule_84 : decode cX12_readsRule 84 = .ok (.invokevirtual 218, 3) := by decide +kernel
theorem dX12_readsRule_87 : decode cX12_readsRule 87 = .ok (.iastore, 1) := by decide +kernel
theorem dX12_readsRule_88 : decode cX12_readsRule 88 = .ok (.aload_n 0, 1) := by decide +kernel
theorem dX12_readsRule_89 : decode cX12_readsRule 89 = .ok (.bipush 58, 2) := by decide +kernel
theorem dX12_readsRule_91 : decode cX12_readsRule 91 = .ok (.invokevirtual 221, 3) := by decide +kernel
theorem dX12_readsRule_94 : decode cX12_readsRule 94 = .ok (.aload_n 0, 1) := by decide +kernel
theorem dX12_readsRule_95 : decode cX12_readsRule 95 = .ok (.getfield 74, 3) := by decide +kernel
theorem dX12_readsRule_98 : decode cX12_readsRule 98 = .ok (.iload_n 1, 1) := by decide +kernel
theorem dX12_readsRule_99 : decode cX12_readsRule 99 = .ok (.iconst 4, 1) := by decide +kernel
theorem dX12_readsRule_100 : decode cX12_readsRule 100 = .ok (.iadd, 1) := by decide +kernel
theorem dX12_readsRule_101 : decode cX12_readsRule 101 = .ok (.aload_n 0, 1) := by decide +kernel
theorem dX12_readsRule_102 : decode cX12_readsRule 102 = .ok (.iconst 0, 1) := by decide +kernel
theorem dX12_readsRule_103 : decode cX12_readsRule 103 = .ok (.sipush 999, 3) := by decide +kernel
theorem dX12_readsRule_106 : decode cX12_readsRule 106 = .ok (.invokevirtual 218, 3) := by decide +kernel
theorem dX12_readsRule_109 : decode cX12_readsRule 109 = .ok (.iastore, 1) := by decide +kernel
theorem dX12_readsRule_110 : decode cX12_readsRule 110 = .ok (.aload_n 0, 1) := by decide +kernel
theorem dX12_readsRule_111 : decode cX12_readsRule 111 = .ok (.iconst 1, 1) := by decide +kernel
theorem dX12_readsRule_112 : decode cX12_readsRule 112 = .ok (.invokevirtual 214, 3) := by decide +kernel
theorem dX12_readsRule_115 : decode cX12_readsRule 115 = .ok (.aload_n 0, 1) := by decide +kernel
theorem dX12_readsRule_116 : decode cX12_readsRule 116 = .ok (.getfield 74, 3) := by decide +kernel
theorem dX12_readsRule_119 : decode cX12_readsRule 119 = .ok (.iload_n 1, 1) := by decide +kernel
theorem dX12_readsRule_120 : decode cX12_readsRule 120 = .ok (.iconst 5, 1) := by decide +kernel
theorem dX12_readsRule_121 : decode cX12_readsRule 121 = .ok (.iadd, 1) := by decide +kernel
theorem dX12_readsRule_122 : decode cX12_readsRule 122 = .ok (.aload_n 0, 1) := by decide +kernel
theorem dX12_readsRule_123 : decode cX12_readsRule 123 = .ok (.iconst 1, 1) := by decide +kernel
theorem dX12_readsRule_124 : decode cX12_readsRule 124 = .ok (.sipush 500, 3) := by decide +kernel
theorem dX12_readsRule_127 : decode cX12_readsRule 127 = .ok (.invokevirtual 218, 3) := by decide +kernel
theorem dX12_readsRule_130 : decode cX12_readsRule 130 = .ok (.iastore, 1) := by decide +kernel
theorem dX12_readsRule_131 : decode cX12_readsRule 131 = .ok (.aload_n 0, 1) := by decide +kernel
theorem dX12_readsRule_132 : decode cX12_readsRule 132 = .ok (.getfield 74, 3) := by decide +kernel
theorem dX12_readsRule_135 : decode cX12_readsRule 135 = .ok (.iload_n 1, 1) := by decide +kernel
theorem dX12_readsRule_136 : decode cX12_readsRule 136 = .ok (.bipush 6, 2) := by decide +kernel
theorem dX12_readsRule_138 : decode cX12_readsRule 138 = .ok (.iadd, 1) := by decide +kernel
theorem dX12_readsRule_139 : decode cX12_readsRule 139 = .ok (.iconst 0, 1) := by decide +kernel
theorem dX12_readsRule_140 : decode cX12_readsRule 140 = .ok (.iastore, 1) := by decide +kernel
theorem dX12_readsRule_141 : decode cX12_readsRule 141 = .ok (.aload_n 0, 1) := by decide +kernel
theorem dX12_readsRule_142 : decode cX12_readsRule 142 = .ok (.bipush 43, 2) := by decide +kernel
theorem dX12_readsRule_144 : decode cX12_readsRule 144 = .ok (.invokevirtual 202, 3) := by decide +kernel
theorem dX12_readsRule_147 : decode cX12_readsRule 147 = .ok (.ifCond .eq 24, 3) := by decide +kernel
theorem dX12_readsRule_150 : decode cX12_readsRule 150 = .ok (.aload_n 0, 1) := by decide +kernel
theorem dX12_readsRule_151 : decode cX12_readsRule 151 = .ok (.invokevirtual 205, 3) := by decide +kernel
theorem dX12_readsRule_154 : decode cX12_readsRule 154 = .ok (.aload_n 0, 1) := by decide +kernel
theorem dX12_readsRule_155 : decode cX12_readsRule 155 = .ok (.getfield 74, 3) := by decide +kernel
theorem dX12_readsRule_158 : decode cX12_readsRule 158 = .ok (.iload_n 1, 1) := by decide +kernel
theorem dX12_readsRule_159 : decode cX12_readsRule 159 = .ok (.bipush 6, 2) := by decide +kernel
theorem dX12_readsRule_161 : decode cX12_readsRule 161 = .ok (.iadd, 1) := by decide +kernel
theorem dX12_readsRule_162 : decode cX12_readsRule 162 = .ok (.aload_n 0, 1) := by decide +kernel
theorem dX12_readsRule_163 : decode cX12_readsRule 163 = .ok (.iconst 0, 1) := by decide +kernel
theorem dX12_readsRule_164 : decode cX12_readsRule 164 = .ok (.sipush 999, 3) := by decide +kernel
theorem dX12_readsRule_167 : decode cX12_readsRule 167 = .ok (.invokevirtual 218, 3) := by decide +kernel
theorem dX12_readsRule_170 : decode cX12_readsRule 170 = .ok (.iastore, 1) := by decide +kernel
theorem dX12_readsRule_171 : decode cX12_readsRule 171 = .ok (.aload_n 0, 1) := by decide +kernel
theorem dX12_readsRule_172 : decode cX12_readsRule 172 = .ok (.getfield 74, 3) := by decide +kernel
theorem dX12_readsRule_175 : decode cX12_readsRule 175 = .ok (.iload_n 1, 1) := by decide +kernel
theorem dX12_readsRule_176 : decode cX12_readsRule 176 = .ok (.bipush 7, 2) := by decide +kernel
theorem dX12_readsRule_178 : decode cX12_readsRule 178 = .ok (.iadd, 1) := by decide +kernel
theorem dX12_readsRule_179 : decode cX12_readsRule 179 = .ok (.iconst 1, 1) := by decide +kernel
theorem dX12_readsRule_180 : decode cX12_readsRule 180 = .ok (.iastore, 1) := by decide +kernel
theorem dX12_readsRule_181 : decode cX12_readsRule 181 = .ok (.aload_n 0, 1) := by decide +kernel
theorem dX12_readsRule_182 : decode cX12_readsRule 182 = .ok (.getfield 74, 3) := by decide +kernel
theorem dX12_readsRule_185 : decode cX12_readsRule 185 = .ok (.iload_n 1, 1) := by decide +kernel
theorem dX12_readsRule_186 : decode cX12_readsRule 186 = .ok (.bipush 8, 2) := by decide +kernel
theorem dX12_readsRule_188 : decode cX12_readsRule 188 = .ok (.iadd, 1) := by decide +kernel
theorem dX12_readsRule_189 : decode cX12_readsRule 189 = .ok (.iconst 1, 1) := by decide +kernel
theorem dX12_readsRule_190 : decode cX12_readsRule 190 = .ok (.iastore, 1) := by decide +kernel
theorem dX12_readsRule_191 : decode cX12_readsRule 191 = .ok (.aload_n 0, 1) := by decide +kernel
theorem dX12_readsRule_192 : decode cX12_readsRule 192 = .ok (.iconst 2, 1) := by decide +kernel
theorem dX12_readsRule_193 : decode cX12_readsRule 193 = .ok (.invokevirtual 211, 3) := by decide +kernel
theorem dX12_readsRule_196 : decode cX12_readsRule 196 = .ok (.ifCond .eq 70, 3) := by decide +kernel
theorem dX12_readsRule_199 : decode cX12_readsRule 199 = .ok (.aload_n 0, 1) := by decide +kernel
theorem dX12_readsRule_200 : decode cX12_readsRule 200 = .ok (.invokevirtual 205, 3) := by decide +kernel
theorem dX12_readsRule_203 : decode cX12_readsRule 203 = .ok (.aload_n 0, 1) := by decide +kernel
theorem dX12_readsRule_204 : decode cX12_readsRule 204 = .ok (.getfield 74, 3) := by decide +kernel
theorem dX12_readsRule_207 : decode cX12_readsRule 207 = .ok (.iload_n 1, 1) := by decide +kernel
theorem dX12_readsRule_208 : decode cX12_readsRule 208 = .ok (.bipush 7, 2) := by decide +kernel
theorem dX12_readsRule_210 : decode cX12_readsRule 210 = .ok (.iadd, 1) := by decide +kernel
theorem dX12_readsRule_211 : decode cX12_readsRule 211 = .ok (.aload_n 0, 1) := by decide +kernel
theorem dX12_readsRule_212 : decode cX12_readsRule 212 = .ok (.iconst 0, 1) := by decide +kernel
theorem dX12_readsRule_213 : decode cX12_readsRule 213 = .ok (.bipush 99, 2) := by decide +kernel
theorem dX12_readsRule_215 : decode cX12_readsRule 215 = .ok (.invokevirtual 218, 3) := by decide +kernel
theorem dX12_readsRule_218 : decode cX12_readsRule 218 = .ok (.iastore, 1) := by decide +kernel
theorem dX12_readsRule_219 : decode cX12_readsRule 219 = .ok (.aload_n 0, 1) := by decide +kernel
theorem dX12_readsRule_220 : decode cX12_readsRule 220 = .ok (.bipush 47, 2) := by decide +kernel
theorem dX12_readsRule_222 : decode cX12_readsRule 222 = .ok (.invokevirtual 221, 3) := by decide +kernel
theorem dX12_readsRule_225 : decode cX12_readsRule 225 = .ok (.aload_n 0, 1) := by decide +kernel
theorem dX12_readsRule_226 : decode cX12_readsRule 226 = .ok (.getfield 74, 3) := by decide +kernel
theorem dX12_readsRule_229 : decode cX12_readsRule 229 = .ok (.iload_n 1, 1) := by decide +kernel
theorem dX12_readsRule_230 : decode cX12_readsRule 230 = .ok (.bipush 8, 2) := by decide +kernel
theorem dX12_readsRule_232 : decode cX12_readsRule 232 = .ok (.iadd, 1) := by decide +kernel
theorem dX12_readsRule_233 : decode cX12_readsRule 233 = .ok (.aload_n 0, 1) := by decide +kernel
theorem dX12_readsRule_234 : decode cX12_readsRule 234 = .ok (.aload_n 0, 1) := by decide +kernel
theorem dX12_readsRule_235 : decode cX12_readsRule 235 = .ok (.getfield 74, 3) := by decide +kernel
theorem dX12_readsRule_238 : decode cX12_readsRule 238 = .ok (.iload_n 1, 1) := by decide +kernel
theorem dX12_readsRule_239 : decode cX12_readsRule 239 = .ok (.bipush 7, 2) := by decide +kernel
theorem dX12_readsRule_241 : decode cX12_readsRule 241 = .ok (.iadd, 1) := by decide +kernel
theorem dX12_readsRule_242 : decode cX12_readsRule 242 = .ok (.iaload, 1) := by decide +kernel
theorem dX12_readsRule_243 : decode cX12_readsRule 243 = .ok (.iconst 1, 1) := by decide +kernel
theorem dX12_readsRule_244 : decode cX12_readsRule 244 = .ok (.if_icmp .ge 7, 3) := by decide +kernel
theorem dX12_readsRule_247 : decode cX12_readsRule 247 = .ok (.iconst 1, 1) := by decide +kernel
theorem dX12_readsRule_248 : decode cX12_readsRule 248 = .ok (.goto 12, 3) := by decide +kernel
theorem dX12_readsRule_251 : decode cX12_readsRule 251 = .ok (.aload_n 0, 1) := by decide +kernel
theorem dX12_readsRule_252 : decode cX12_readsRule 252 = .ok (.getfield 74, 3) := by decide +kernel
theorem dX12_readsRule_255 : decode cX12_readsRule 255 = .ok (.iload_n 1, 1) := by decide +kernel
theorem dX12_readsRule_256 : decode cX12_readsRule 256 = .ok (.bipush 7, 2) := by decide +kernel
theorem dX12_readsRule_258 : decode cX12_readsRule 258 = .ok (.iadd, 1) := by decide +kernel
theorem dX12_readsRule_259 : decode cX12_readsRule 259 = .ok (.iaload, 1) := by decide +kernel
theorem dX12_readsRule_260 : decode cX12_readsRule 260 = .ok (.bipush 99, 2) := by decide +kernel
theorem dX12_readsRule_262 : decode cX12_readsRule 262 = .ok (.invokevirtual 218, 3) := by decide +kernel
theorem dX12_readsRule_265 : decode cX12_readsRule 265 = .ok (.iastore, 1) := by decide +kernel
theorem dX12_readsRule_266 : decode cX12_readsRule 266 = .ok (.aload_n 0, 1) := by decide +kernel
theorem dX12_readsRule_267 : decode cX12_readsRule 267 = .ok (.getfield 74, 3) := by decide +kernel
theorem dX12_readsRule_270 : decode cX12_readsRule 270 = .ok (.iload_n 1, 1) := by decide +kernel
theorem dX12_readsRule_271 : decode cX12_readsRule 271 = .ok (.bipush 9, 2) := by decide +kernel
theorem dX12_readsRule_273 : decode cX12_readsRule 273 = .ok (.iadd, 1) := by decide +kernel
theorem dX12_readsRule_274 : decode cX12_readsRule 274 = .ok (.iconst 0, 1) := by decide +kernel
theorem dX12_readsRule_275 : decode cX12_readsRule 275 = .ok (.iastore, 1) := by decide +kernel
theorem dX12_readsRule_276 : decode cX12_readsRule 276 = .ok (.aload_n 0, 1) := by decide +kernel
theorem dX12_readsRule_277 : decode cX12_readsRule 277 = .ok (.iconst 3, 1) := by decide +kernel
theorem dX12_readsRule_278 : decode cX12_readsRule 278 = .ok (.invokevirtual 211, 3) := by decide +kernel
theorem dX12_readsRule_281 : decode cX12_readsRule 281 = .ok (.ifCond .eq 17, 3) := by decide +kernel
theorem dX12_readsRule_284 : decode cX12_readsRule 284 = .ok (.aload_n 0, 1) := by decide +kernel
theorem dX12_readsRule_285 : decode cX12_readsRule 285 = .ok (.invokevirtual 205, 3) := by decide +kernel
theorem dX12_readsRule_288 : decode cX12_readsRule 288 = .ok (.aload_n 0, 1) := by decide +kernel
theorem dX12_readsRule_289 : decode cX12_readsRule 289 = .ok (.getfield 74, 3) := by decide +kernel
theorem dX12_readsRule_292 : decode cX12_readsRule 292 = .ok (.iload_n 1, 1) := by decide +kernel
theorem dX12_readsRule_293 : decode cX12_readsRule 293 = .ok (.bipush 9, 2) := by decide +kernel
theorem dX12_readsRule_295 : decode cX12_readsRule 295 = .ok (.iadd, 1) := by decide +kernel
theorem dX12_readsRule_296 : decode cX12_readsRule 296 = .ok (.iconst 1, 1) := by decide +kernel
theorem dX12_readsRule_297 : decode cX12_readsRule 297 = .ok (.iastore, 1) := by decide +kernel
theorem dX12_readsRule_298 : decode cX12_readsRule 298 = .ok (.aload_n 0, 1) := by decide +kernel
theorem dX12_readsRule_299 : decode cX12_readsRule 299 = .ok (.bipush 59, 2) := by decide +kernel
theorem dX12_readsRule_301 : decode cX12_readsRule 301 = .ok (.invokevirtual 221, 3) := by decide +kernel
theorem dX12_readsRule_304 : decode cX12_readsRule 304 = .ok (.return_, 1) := by decide +kernel
theorem dX12_rates_0 : decode cX12_rates 0 = .ok (.aload_n 0, 1) := by decide +kernel
theorem dX12_rates_1 : decode cX12_rates 1 = .ok (.iconst 0, 1) := by decide +kernel
theorem dX12_rates_2 : decode cX12_rates 2 = .ok (.putfield 80, 3) := by decide +kernel
theorem dX12_rates_5 : decode cX12_rates 5 = .ok (.aload_n 0, 1) := by decide +kernel
theorem dX12_rates_6 : decode cX12_rates 6 = .ok (.iconst (-1), 1) := by decide +kernel
theorem dX12_rates_7 : decode cX12_rates 7 = .ok (.putfield 195, 3) := by decide +kernel
theorem dX12_rates_10 : decode cX12_rates 10 = .ok (.aload_n 0, 1) := by decide +kernel
theorem dX12_rates_11 : decode cX12_rates 11 = .ok (.iconst 0, 1) := by decide +kernel
theorem dX12_rates_12 : decode cX12_rates 12 = .ok (.putfield 177, 3) := by decide +kernel
theorem dX12_rates_15 : decode cX12_rates 15 = .ok (.aload_n 0, 1) := by decide +kernel
theorem dX12_rates_16 : decode cX12_rates 16 = .ok (.iconst 0, 1) := by decide +kernel
theorem dX12_rates_17 : decode cX12_rates 17 = .ok (.putfield 224, 3) := by decide +kernel
theorem dX12_rates_20 : decode cX12_rates 20 = .ok (.aload_n 0, 1) := by decide +kernel
theorem dX12_rates_21 : decode cX12_rates 21 = .ok (.invokevirtual 205, 3) := by decide +kernel
theorem dX12_rates_24 : decode cX12_rates 24 = .ok (.aload_n 0, 1) := by decide +kernel
theorem dX12_rates_25 : decode cX12_rates 25 = .ok (.invokevirtual 198, 3) := by decide +kernel
theorem dX12_rates_28 : decode cX12_rates 28 = .ok (.ifCond .eq 53, 3) := by decide +kernel
theorem dX12_rates_31 : decode cX12_rates 31 = .ok (.aload_n 0, 1) := by decide +kernel
theorem dX12_rates_32 : decode cX12_rates 32 = .ok (.getfield 186, 3) := by decide +kernel
theorem dX12_rates_35 : decode cX12_rates 35 = .ok (.ifCond .eq 46, 3) := by decide +kernel
theorem dX12_rates_38 : decode cX12_rates 38 = .ok (.aload_n 0, 1) := by decide +kernel
theorem dX12_rates_39 : decode cX12_rates 39 = .ok (.getfield 224, 3) := by decide +kernel
theorem dX12_rates_42 : decode cX12_rates 42 = .ok (.bipush 12, 2) := by decide +kernel
theorem dX12_rates_44 : decode cX12_rates 44 = .ok (.if_icmp .ne 10, 3) := by decide +kernel
theorem dX12_rates_47 : decode cX12_rates 47 = .ok (.aload_n 0, 1) := by decide +kernel
theorem dX12_rates_48 : decode cX12_rates 48 = .ok (.invokevirtual 208, 3) := by decide +kernel
theorem dX12_rates_51 : decode cX12_rates 51 = .ok (.goto (-27), 3) := by decide +kernel
theorem dX12_rates_54 : decode cX12_rates 54 = .ok (.aload_n 0, 1) := by decide +kernel
theorem dX12_rates_55 : decode cX12_rates 55 = .ok (.bipush 120, 2) := by decide +kernel
theorem dX12_rates_57 : decode cX12_rates 57 = .ok (.bipush 10, 2) := by decide +kernel
theorem dX12_rates_59 : decode cX12_rates 59 = .ok (.aload_n 0, 1) := by decide +kernel
theorem dX12_rates_60 : decode cX12_rates 60 = .ok (.getfield 224, 3) := by decide +kernel
theorem dX12_rates_63 : decode cX12_rates 63 = .ok (.imul, 1) := by decide +kernel
theorem dX12_rates_64 : decode cX12_rates 64 = .ok (.iadd, 1) := by decide +kernel
theorem dX12_rates_65 : decode cX12_rates 65 = .ok (.invokevirtual 227, 3) := by decide +kernel
theorem dX12_rates_68 : decode cX12_rates 68 = .ok (.aload_n 0, 1) := by decide +kernel
theorem dX12_rates_69 : decode cX12_rates 69 = .ok (.dup, 1) := by decide +kernel
theorem dX12_rates_70 : decode cX12_rates 70 = .ok (.getfield 224, 3) := by decide +kernel
theorem dX12_rates_73 : decode cX12_rates 73 = .ok (.iconst 1, 1) := by decide +kernel
theorem dX12_rates_74 : decode cX12_rates 74 = .ok (.iadd, 1) := by decide +kernel
theorem dX12_rates_75 : decode cX12_rates 75 = .ok (.putfield 224, 3) := by decide +kernel
theorem dX12_rates_78 : decode cX12_rates 78 = .ok (.goto (-54), 3) := by decide +kernel
theorem dX12_rates_81 : decode cX12_rates 81 = .ok (.aload_n 0, 1) := by decide +kernel
theorem dX12_rates_82 : decode cX12_rates 82 = .ok (.invokevirtual 198, 3) := by decide +kernel
theorem dX12_rates_85 : decode cX12_rates 85 = .ok (.ifCond .ne 11, 3) := by decide +kernel
theorem dX12_rates_88 : decode cX12_rates 88 = .ok (.bipush (-10), 2) := by decide +kernel
theorem dX12_rates_90 : decode cX12_rates 90 = .ok (.aload_n 0, 1) := by decide +kernel
theorem dX12_rates_91 : decode cX12_rates 91 = .ok (.getfield 195, 3) := by decide +kernel
theorem dX12_rates_94 : decode cX12_rates 94 = .ok (.isub, 1) := by decide +kernel
theorem dX12_rates_95 : decode cX12_rates 95 = .ok (.ireturn, 1) := by decide +kernel
theorem dX12_rates_96 : decode cX12_rates 96 = .ok (.iconst 0, 1) := by decide +kernel
theorem dX12_rates_97 : decode cX12_rates 97 = .ok (.istore_n 1, 1) := by decide +kernel
theorem dX12_rates_98 : decode cX12_rates 98 = .ok (.iload_n 1, 1) := by decide +kernel
theorem dX12_rates_99 : decode cX12_rates 99 = .ok (.bipush 120, 2) := by decide +kernel
theorem dX12_rates_101 : decode cX12_rates 101 = .ok (.if_icmp .ge 24, 3) := by decide +kernel
theorem dX12_rates_104 : decode cX12_rates 104 = .ok (.aload_n 0, 1) := by decide +kernel
theorem dX12_rates_105 : decode cX12_rates 105 = .ok (.getfield 74, 3) := by decide +kernel
theorem dX12_rates_108 : decode cX12_rates 108 = .ok (.iload_n 1, 1) := by decide +kernel
theorem dX12_rates_109 : decode cX12_rates 109 = .ok (.aload_n 0, 1) := by decide +kernel
theorem dX12_rates_110 : decode cX12_rates 110 = .ok (.getfield 74, 3) := by decide +kernel
theorem dX12_rates_113 : decode cX12_rates 113 = .ok (.bipush 120, 2) := by decide +kernel
theorem dX12_rates_115 : decode cX12_rates 115 = .ok (.iload_n 1, 1) := by decide +kernel
theorem dX12_rates_116 : decode cX12_rates 116 = .ok (.iadd, 1) := by decide +kernel
theorem dX12_rates_117 : decode cX12_rates 117 = .ok (.iaload, 1) := by decide +kernel
theorem dX12_rates_118 : decode cX12_rates 118 = .ok (.iastore, 1) := by decide +kernel
theorem dX12_rates_119 : decode cX12_rates 119 = .ok (.iinc 1 1, 3) := by decide +kernel
theorem dX12_rates_122 : decode cX12_rates 122 = .ok (.goto (-24), 3) := by decide +kernel
theorem dX12_rates_125 : decode cX12_rates 125 = .ok (.aload_n 0, 1) := by decide +kernel
theorem dX12_rates_126 : decode cX12_rates 126 = .ok (.aload_n 0, 1) := by decide +kernel
theorem dX12_rates_127 : decode cX12_rates 127 = .ok (.getfield 224, 3) := by decide +kernel
theorem dX12_rates_130 : decode cX12_rates 130 = .ok (.putfield 230, 3) := by decide +kernel
theorem dX12_rates_133 : decode cX12_rates 133 = .ok (.aload_n 0, 1) := by decide +kernel
theorem dX12_rates_134 : decode cX12_rates 134 = .ok (.iconst 0, 1) := by decide +kernel
theorem dX12_rates_135 : decode cX12_rates 135 = .ok (.putfield 168, 3) := by decide +kernel
theorem dX12_rates_138 : decode cX12_rates 138 = .ok (.aload_n 0, 1) := by decide +kernel
theorem dX12_rates_139 : decode cX12_rates 139 = .ok (.getfield 230, 3) := by decide +kernel
theorem dX12_rates_142 : decode cX12_rates 142 = .ok (.ireturn, 1) := by decide +kernel
theorem dX12_ruleOf_0 : decode cX12_ruleOf 0 = .ok (.bipush (-9), 2) := by decide +kernel
theorem dX12_ruleOf_2 : decode cX12_ruleOf 2 = .ok (.istore 4, 2) := by decide +kernel
theorem dX12_ruleOf_4 : decode cX12_ruleOf 4 = .ok (.iconst 0, 1) := by decide +kernel
theorem dX12_ruleOf_5 : decode cX12_ruleOf 5 = .ok (.istore 5, 2) := by decide +kernel
theorem dX12_ruleOf_7 : decode cX12_ruleOf 7 = .ok (.iload 5, 2) := by decide +kernel
theorem dX12_ruleOf_9 : decode cX12_ruleOf 9 = .ok (.aload_n 0, 1) := by decide +kernel
theorem dX12_ruleOf_10 : decode cX12_ruleOf 10 = .ok (.getfield 230, 3) := by decide +kernel
theorem dX12_ruleOf_13 : decode cX12_ruleOf 13 = .ok (.if_icmp .ge 74, 3) := by decide +kernel
theorem dX12_ruleOf_16 : decode cX12_ruleOf 16 = .ok (.bipush 10, 2) := by decide +kernel
theorem dX12_ruleOf_18 : decode cX12_ruleOf 18 = .ok (.iload 5, 2) := by decide +kernel
theorem dX12_ruleOf_20 : decode cX12_ruleOf 20 = .ok (.imul, 1) := by decide +kernel
theorem dX12_ruleOf_21 : decode cX12_ruleOf 21 = .ok (.istore 6, 2) := by decide +kernel
theorem dX12_ruleOf_23 : decode cX12_ruleOf 23 = .ok (.aload_n 0, 1) := by decide +kernel
theorem dX12_ruleOf_24 : decode cX12_ruleOf 24 = .ok (.getfield 74, 3) := by decide +kernel
theorem dX12_ruleOf_27 : decode cX12_ruleOf 27 = .ok (.iload 6, 2) := by decide +kernel
theorem dX12_ruleOf_29 : decode cX12_ruleOf 29 = .ok (.iaload, 1) := by decide +kernel
theorem dX12_ruleOf_30 : decode cX12_ruleOf 30 = .ok (.iload_n 1, 1) := by decide +kernel
theorem dX12_ruleOf_31 : decode cX12_ruleOf 31 = .ok (.if_icmp .ne 46, 3) := by decide +kernel
theorem dX12_ruleOf_34 : decode cX12_ruleOf 34 = .ok (.aload_n 0, 1) := by decide +kernel
theorem dX12_ruleOf_35 : decode cX12_ruleOf 35 = .ok (.getfield 74, 3) := by decide +kernel
theorem dX12_ruleOf_38 : decode cX12_ruleOf 38 = .ok (.iload 6, 2) := by decide +kernel
theorem dX12_ruleOf_40 : decode cX12_ruleOf 40 = .ok (.iconst 1, 1) := by decide +kernel
theorem dX12_ruleOf_41 : decode cX12_ruleOf 41 = .ok (.iadd, 1) := by decide +kernel
theorem dX12_ruleOf_42 : decode cX12_ruleOf 42 = .ok (.iaload, 1) := by decide +kernel
theorem dX12_ruleOf_43 : decode cX12_ruleOf 43 = .ok (.iload_n 2, 1) := by decide +kernel
theorem dX12_ruleOf_44 : decode cX12_ruleOf 44 = .ok (.if_icmp .ne 33, 3) := by decide +kernel
theorem dX12_ruleOf_47 : decode cX12_ruleOf 47 = .ok (.iload_n 3, 1) := by decide +kernel
theorem dX12_ruleOf_48 : decode cX12_ruleOf 48 = .ok (.aload_n 0, 1) := by decide +kernel
theorem dX12_ruleOf_49 : decode cX12_ruleOf 49 = .ok (.getfield 74, 3) := by decide +kernel
theorem dX12_ruleOf_52 : decode cX12_ruleOf 52 = .ok (.iload 6, 2) := by decide +kernel
theorem dX12_ruleOf_54 : decode cX12_ruleOf 54 = .ok (.iconst 2, 1) := by decide +kernel
theorem dX12_ruleOf_55 : decode cX12_ruleOf 55 = .ok (.iadd, 1) := by decide +kernel
theorem dX12_ruleOf_56 : decode cX12_ruleOf 56 = .ok (.iaload, 1) := by decide +kernel
theorem dX12_ruleOf_57 : decode cX12_ruleOf 57 = .ok (.aload_n 0, 1) := by decide +kernel
theorem dX12_ruleOf_58 : decode cX12_ruleOf 58 = .ok (.getfield 74, 3) := by decide +kernel
theorem dX12_ruleOf_61 : decode cX12_ruleOf 61 = .ok (.iload 6, 2) := by decide +kernel
theorem dX12_ruleOf_63 : decode cX12_ruleOf 63 = .ok (.iconst 3, 1) := by decide +kernel
theorem dX12_ruleOf_64 : decode cX12_ruleOf 64 = .ok (.iadd, 1) := by decide +kernel
theorem dX12_ruleOf_65 : decode cX12_ruleOf 65 = .ok (.iaload, 1) := by decide +kernel
theorem dX12_ruleOf_66 : decode cX12_ruleOf 66 = .ok (.invokestatic 84, 3) := by decide +kernel
theorem dX12_ruleOf_69 : decode cX12_ruleOf 69 = .ok (.ifCond .eq 8, 3) := by decide +kernel
theorem dX12_ruleOf_72 : decode cX12_ruleOf 72 = .ok (.iload 5, 2) := by decide +kernel
theorem dX12_ruleOf_74 : decode cX12_ruleOf 74 = .ok (.goto 5, 3) := by decide +kernel
theorem dX12_ruleOf_77 : decode cX12_ruleOf 77 = .ok (.iload 4, 2) := by decide +kernel
theorem dX12_ruleOf_79 : decode cX12_ruleOf 79 = .ok (.istore 4, 2) := by decide +kernel
theorem dX12_ruleOf_81 : decode cX12_ruleOf 81 = .ok (.iinc 5 1, 3) := by decide +kernel
theorem dX12_ruleOf_84 : decode cX12_ruleOf 84 = .ok (.goto (-77), 3) := by decide +kernel
theorem dX12_ruleOf_87 : decode cX12_ruleOf 87 = .ok (.iload 4, 2) := by decide +kernel
theorem dX12_ruleOf_89 : decode cX12_ruleOf 89 = .ok (.ireturn, 1) := by decide +kernel
theorem dX12_owedBy_0 : decode cX12_owedBy 0 = .ok (.bipush 10, 2) := by decide +kernel
theorem dX12_owedBy_2 : decode cX12_owedBy 2 = .ok (.iload_n 1, 1) := by decide +kernel
theorem dX12_owedBy_3 : decode cX12_owedBy 3 = .ok (.imul, 1) := by decide +kernel
theorem dX12_owedBy_4 : decode cX12_owedBy 4 = .ok (.istore_n 3, 1) := by decide +kernel
theorem dX12_owedBy_5 : decode cX12_owedBy 5 = .ok (.iload_n 2, 1) := by decide +kernel
theorem dX12_owedBy_6 : decode cX12_owedBy 6 = .ok (.aload_n 0, 1) := by decide +kernel
theorem dX12_owedBy_7 : decode cX12_owedBy 7 = .ok (.getfield 74, 3) := by decide +kernel
theorem dX12_owedBy_10 : decode cX12_owedBy 10 = .ok (.iload_n 3, 1) := by decide +kernel
theorem dX12_owedBy_11 : decode cX12_owedBy 11 = .ok (.iconst 5, 1) := by decide +kernel
theorem dX12_owedBy_12 : decode cX12_owedBy 12 = .ok (.iadd, 1) := by decide +kernel
theorem dX12_owedBy_13 : decode cX12_owedBy 13 = .ok (.iaload, 1) := by decide +kernel
theorem dX12_owedBy_14 : decode cX12_owedBy 14 = .ok (.iadd, 1) := by decide +kernel
theorem dX12_owedBy_15 : decode cX12_owedBy 15 = .ok (.iconst 1, 1) := by decide +kernel
theorem dX12_owedBy_16 : decode cX12_owedBy 16 = .ok (.isub, 1) := by decide +kernel
theorem dX12_owedBy_17 : decode cX12_owedBy 17 = .ok (.aload_n 0, 1) := by decide +kernel
theorem dX12_owedBy_18 : decode cX12_owedBy 18 = .ok (.getfield 74, 3) := by decide +kernel
theorem dX12_owedBy_21 : decode cX12_owedBy 21 = .ok (.iload_n 3, 1) := by decide +kernel
theorem dX12_owedBy_22 : decode cX12_owedBy 22 = .ok (.iconst 5, 1) := by decide +kernel
theorem dX12_owedBy_23 : decode cX12_owedBy 23 = .ok (.iadd, 1) := by decide +kernel
theorem dX12_owedBy_24 : decode cX12_owedBy 24 = .ok (.iaload, 1) := by decide +kernel
theorem dX12_owedBy_25 : decode cX12_owedBy 25 = .ok (.idiv, 1) := by decide +kernel
theorem dX12_owedBy_26 : decode cX12_owedBy 26 = .ok (.istore 4, 2) := by decide +kernel
theorem dX12_owedBy_28 : decode cX12_owedBy 28 = .ok (.aload_n 0, 1) := by decide +kernel
theorem dX12_owedBy_29 : decode cX12_owedBy 29 = .ok (.getfield 74, 3) := by decide +kernel
theorem dX12_owedBy_32 : decode cX12_owedBy 32 = .ok (.iload_n 3, 1) := by decide +kernel
theorem dX12_owedBy_33 : decode cX12_owedBy 33 = .ok (.iconst 4, 1) := by decide +kernel
theorem dX12_owedBy_34 : decode cX12_owedBy 34 = .ok (.iadd, 1) := by decide +kernel
theorem dX12_owedBy_35 : decode cX12_owedBy 35 = .ok (.iaload, 1) := by decide +kernel
theorem dX12_owedBy_36 : decode cX12_owedBy 36 = .ok (.iload 4, 2) := by decide +kernel
theorem dX12_owedBy_38 : decode cX12_owedBy 38 = .ok (.iconst 1, 1) := by decide +kernel
theorem dX12_owedBy_39 : decode cX12_owedBy 39 = .ok (.isub, 1) := by decide +kernel
theorem dX12_owedBy_40 : decode cX12_owedBy 40 = .ok (.aload_n 0, 1) := by decide +kernel
theorem dX12_owedBy_41 : decode cX12_owedBy 41 = .ok (.getfield 74, 3) := by decide +kernel
theorem dX12_owedBy_44 : decode cX12_owedBy 44 = .ok (.iload_n 3, 1) := by decide +kernel
theorem dX12_owedBy_45 : decode cX12_owedBy 45 = .ok (.bipush 6, 2) := by decide +kernel
theorem dX12_owedBy_47 : decode cX12_owedBy 47 = .ok (.iadd, 1) := by decide +kernel
theorem dX12_owedBy_48 : decode cX12_owedBy 48 = .ok (.iaload, 1) := by decide +kernel
theorem dX12_owedBy_49 : decode cX12_owedBy 49 = .ok (.imul, 1) := by decide +kernel
theorem dX12_owedBy_50 : decode cX12_owedBy 50 = .ok (.iadd, 1) := by decide +kernel
theorem dX12_owedBy_51 : decode cX12_owedBy 51 = .ok (.ireturn, 1) := by decide +kernel
theorem dX12_isLand_0 : decode cX12_isLand 0 = .ok (.iload_n 0, 1) := by decide +kernel
theorem dX12_isLand_1 : decode cX12_isLand 1 = .ok (.iconst 0, 1) := by decide +kernel
theorem dX12_isLand_2 : decode cX12_isLand 2 = .ok (.iconst 2, 1) := by decide +kernel
theorem dX12_isLand_3 : decode cX12_isLand 3 = .ok (.invokestatic 84, 3) := by decide +kernel
theorem dX12_isLand_6 : decode cX12_isLand 6 = .ok (.ireturn, 1) := by decide +kernel
theorem dX12_owed_0 : decode cX12_owed 0 = .ok (.aload_n 0, 1) := by decide +kernel
theorem dX12_owed_1 : decode cX12_owed 1 = .ok (.iconst 0, 1) := by decide +kernel
theorem dX12_owed_2 : decode cX12_owed 2 = .ok (.putfield 80, 3) := by decide +kernel
theorem dX12_owed_5 : decode cX12_owed 5 = .ok (.iload_n 1, 1) := by decide +kernel
theorem dX12_owed_6 : decode cX12_owed 6 = .ok (.invokestatic 233, 3) := by decide +kernel
theorem dX12_owed_9 : decode cX12_owed 9 = .ok (.ifCond .eq 39, 3) := by decide +kernel
theorem dX12_owed_12 : decode cX12_owed 12 = .ok (.iload_n 2, 1) := by decide +kernel
theorem dX12_owed_13 : decode cX12_owed 13 = .ok (.invokestatic 233, 3) := by decide +kernel
theorem dX12_owed_16 : decode cX12_owed 16 = .ok (.ifCond .eq 32, 3) := by decide +kernel
theorem dX12_owed_19 : decode cX12_owed 19 = .ok (.iload_n 3, 1) := by decide +kernel
theorem dX12_owed_20 : decode cX12_owed 20 = .ok (.invokestatic 95, 3) := by decide +kernel
theorem dX12_owed_23 : decode cX12_owed 23 = .ok (.ifCond .eq 25, 3) := by decide +kernel
theorem dX12_owed_26 : decode cX12_owed 26 = .ok (.iload 4, 2) := by decide +kernel
theorem dX12_owed_28 : decode cX12_owed 28 = .ok (.iconst 1, 1) := by decide +kernel
theorem dX12_owed_29 : decode cX12_owed 29 = .ok (.sipush 2000, 3) := by decide +kernel
theorem dX12_owed_32 : decode cX12_owed 32 = .ok (.invokestatic 84, 3) := by decide +kernel
theorem dX12_owed_35 : decode cX12_owed 35 = .ok (.ifCond .eq 13, 3) := by decide +kernel
theorem dX12_owed_38 : decode cX12_owed 38 = .ok (.iload 5, 2) := by decide +kernel
theorem dX12_owed_40 : decode cX12_owed 40 = .ok (.iconst 0, 1) := by decide +kernel
theorem dX12_owed_41 : decode cX12_owed 41 = .ok (.iconst 3, 1) := by decide +kernel
theorem dX12_owed_42 : decode cX12_owed 42 = .ok (.invokestatic 84, 3) := by decide +kernel
theorem dX12_owed_45 : decode cX12_owed 45 = .ok (.ifCond .ne 5, 3) := by decide +kernel
theorem dX12_owed_48 : decode cX12_owed 48 = .ok (.iconst (-1), 1) := by decide +kernel
theorem dX12_owed_49 : decode cX12_owed 49 = .ok (.ireturn, 1) := by decide +kernel
theorem dX12_owed_50 : decode cX12_owed 50 = .ok (.aload_n 0, 1) := by decide +kernel
theorem dX12_owed_51 : decode cX12_owed 51 = .ok (.iload_n 1, 1) := by decide +kernel
theorem dX12_owed_52 : decode cX12_owed 52 = .ok (.iload_n 2, 1) := by decide +kernel
theorem dX12_owed_53 : decode cX12_owed 53 = .ok (.iload_n 3, 1) := by decide +kernel
theorem dX12_owed_54 : decode cX12_owed 54 = .ok (.invokevirtual 236, 3) := by decide +kernel
theorem dX12_owed_57 : decode cX12_owed 57 = .ok (.istore 6, 2) := by decide +kernel
theorem dX12_owed_59 : decode cX12_owed 59 = .ok (.iload 6, 2) := by decide +kernel
theorem dX12_owed_61 : decode cX12_owed 61 = .ok (.bipush (-9), 2) := by decide +kernel
theorem dX12_owed_63 : decode cX12_owed 63 = .ok (.if_icmp .ne 6, 3) := by decide +kernel
theorem dX12_owed_66 : decode cX12_owed 66 = .ok (.bipush (-9), 2) := by decide +kernel
theorem dX12_owed_68 : decode cX12_owed 68 = .ok (.ireturn, 1) := by decide +kernel
theorem dX12_owed_69 : decode cX12_owed 69 = .ok (.aload_n 0, 1) := by decide +kernel
theorem dX12_owed_70 : decode cX12_owed 70 = .ok (.iload 6, 2) := by decide +kernel
theorem dX12_owed_72 : decode cX12_owed 72 = .ok (.iload 4, 2) := by decide +kernel
theorem dX12_owed_74 : decode cX12_owed 74 = .ok (.invokevirtual 239, 3) := by decide +kernel
theorem dX12_owed_77 : decode cX12_owed 77 = .ok (.istore 7, 2) := by decide +kernel
theorem dX12_owed_79 : decode cX12_owed 79 = .ok (.iload 5, 2) := by decide +kernel
theorem dX12_owed_81 : decode cX12_owed 81 = .ok (.ifCond .ne 8, 3) := by decide +kernel
theorem dX12_owed_84 : decode cX12_owed 84 = .ok (.iload 7, 2) := by decide +kernel
theorem dX12_owed_86 : decode cX12_owed 86 = .ok (.goto 66, 3) := by decide +kernel
theorem dX12_owed_89 : decode cX12_owed 89 = .ok (.iload 5, 2) := by decide +kernel
theorem dX12_owed_91 : decode cX12_owed 91 = .ok (.iconst 1, 1) := by decide +kernel
theorem dX12_owed_92 : decode cX12_owed 92 = .ok (.if_icmp .ne 36, 3) := by decide +kernel
theorem dX12_owed_95 : decode cX12_owed 95 = .ok (.iload 7, 2) := by decide +kernel
theorem dX12_owed_97 : decode cX12_owed 97 = .ok (.aload_n 0, 1) := by decide +kernel
theorem dX12_owed_98 : decode cX12_owed 98 = .ok (.getfield 74, 3) := by decide +kernel
theorem dX12_owed_101 : decode cX12_owed 101 = .ok (.bipush 10, 2) := by decide +kernel
theorem dX12_owed_103 : decode cX12_owed 103 = .ok (.iload 6, 2) := by decide +kernel
theorem dX12_owed_105 : decode cX12_owed 105 = .ok (.imul, 1) := by decide +kernel
theorem dX12_owed_106 : decode cX12_owed 106 = .ok (.bipush 7, 2) := by decide +kernel
theorem dX12_owed_108 : decode cX12_owed 108 = .ok (.iadd, 1) := by decide +kernel
theorem dX12_owed_109 : decode cX12_owed 109 = .ok (.iaload, 1) := by decide +kernel
theorem dX12_owed_110 : decode cX12_owed 110 = .ok (.imul, 1) := by decide +kernel
theorem dX12_owed_111 : decode cX12_owed 111 = .ok (.aload_n 0, 1) := by decide +kernel
theorem dX12_owed_112 : decode cX12_owed 112 = .ok (.getfield 74, 3) := by decide +kernel
theorem dX12_owed_115 : decode cX12_owed 115 = .ok (.bipush 10, 2) := by decide +kernel
theorem dX12_owed_117 : decode cX12_owed 117 = .ok (.iload 6, 2) := by decide +kernel
theorem dX12_owed_119 : decode cX12_owed 119 = .ok (.imul, 1) := by decide +kernel
theorem dX12_owed_120 : decode cX12_owed 120 = .ok (.bipush 8, 2) := by decide +kernel
theorem dX12_owed_122 : decode cX12_owed 122 = .ok (.iadd, 1) := by decide +kernel
theorem dX12_owed_123 : decode cX12_owed 123 = .ok (.iaload, 1) := by decide +kernel
theorem dX12_owed_124 : decode cX12_owed 124 = .ok (.idiv, 1) := by decide +kernel
theorem dX12_owed_125 : decode cX12_owed 125 = .ok (.goto 27, 3) := by decide +kernel
theorem dX12_owed_128 : decode cX12_owed 128 = .ok (.iload 5, 2) := by decide +kernel
theorem dX12_owed_130 : decode cX12_owed 130 = .ok (.iconst 2, 1) := by decide +kernel
theorem dX12_owed_131 : decode cX12_owed 131 = .ok (.if_icmp .ne 19, 3) := by decide +kernel
theorem dX12_owed_134 : decode cX12_owed 134 = .ok (.aload_n 0, 1) := by decide +kernel
theorem dX12_owed_135 : decode cX12_owed 135 = .ok (.getfield 74, 3) := by decide +kernel
theorem dX12_owed_138 : decode cX12_owed 138 = .ok (.bipush 10, 2) := by decide +kernel
theorem dX12_owed_140 : decode cX12_owed 140 = .ok (.iload 6, 2) := by decide +kernel
theorem dX12_owed_142 : decode cX12_owed 142 = .ok (.imul, 1) := by decide +kernel
theorem dX12_owed_143 : decode cX12_owed 143 = .ok (.bipush 9, 2) := by decide +kernel
theorem dX12_owed_145 : decode cX12_owed 145 = .ok (.iadd, 1) := by decide +kernel
theorem dX12_owed_146 : decode cX12_owed 146 = .ok (.iaload, 1) := by decide +kernel
theorem dX12_owed_147 : decode cX12_owed 147 = .ok (.goto 5, 3) := by decide +kernel
theorem dX12_owed_150 : decode cX12_owed 150 = .ok (.iload 6, 2) := by decide +kernel
theorem dX12_owed_152 : decode cX12_owed 152 = .ok (.ireturn, 1) := by decide +kernel
theorem dX12_weights_0 : decode cX12_weights 0 = .ok (.aload_n 0, 1) := by decide +kernel
theorem dX12_weights_1 : decode cX12_weights 1 = .ok (.iconst 0, 1) := by decide +kernel
theorem dX12_weights_2 : decode cX12_weights 2 = .ok (.putfield 80, 3) := by decide +kernel
theorem dX12_weights_5 : decode cX12_weights 5 = .ok (.iload_n 1, 1) := by decide +kernel
theorem dX12_weights_6 : decode cX12_weights 6 = .ok (.invokestatic 233, 3) := by decide +kernel
theorem dX12_weights_9 : decode cX12_weights 9 = .ok (.ifCond .eq 38, 3) := by decide +kernel
theorem dX12_weights_12 : decode cX12_weights 12 = .ok (.iload_n 2, 1) := by decide +kernel
theorem dX12_weights_13 : decode cX12_weights 13 = .ok (.invokestatic 233, 3) := by decide +kernel
theorem dX12_weights_16 : decode cX12_weights 16 = .ok (.ifCond .eq 31, 3) := by decide +kernel
theorem dX12_weights_19 : decode cX12_weights 19 = .ok (.iload_n 3, 1) := by decide +kernel
theorem dX12_weights_20 : decode cX12_weights 20 = .ok (.invokestatic 95, 3) := by decide +kernel
theorem dX12_weights_23 : decode cX12_weights 23 = .ok (.ifCond .eq 24, 3) := by decide +kernel
theorem dX12_weights_26 : decode cX12_weights 26 = .ok (.iload 4, 2) := by decide +kernel
theorem dX12_weights_28 : decode cX12_weights 28 = .ok (.iconst 0, 1) := by decide +kernel
theorem dX12_weights_29 : decode cX12_weights 29 = .ok (.ldc 242, 2) := by decide +kernel
theorem dX12_weights_31 : decode cX12_weights 31 = .ok (.invokestatic 84, 3) := by decide +kernel
theorem dX12_weights_34 : decode cX12_weights 34 = .ok (.ifCond .eq 13, 3) := by decide +kernel
theorem dX12_weights_37 : decode cX12_weights 37 = .ok (.iload 5, 2) := by decide +kernel
theorem dX12_weights_39 : decode cX12_weights 39 = .ok (.iconst 0, 1) := by decide +kernel
theorem dX12_weights_40 : decode cX12_weights 40 = .ok (.iconst 2, 1) := by decide +kernel
theorem dX12_weights_41 : decode cX12_weights 41 = .ok (.invokestatic 84, 3) := by decide +kernel
theorem dX12_weights_44 : decode cX12_weights 44 = .ok (.ifCond .ne 5, 3) := by decide +kernel
theorem dX12_weights_47 : decode cX12_weights 47 = .ok (.iconst (-1), 1) := by decide +kernel
theorem dX12_weights_48 : decode cX12_weights 48 = .ok (.ireturn, 1) := by decide +kernel
theorem dX12_weights_49 : decode cX12_weights 49 = .ok (.aload_n 0, 1) := by decide +kernel
theorem dX12_weights_50 : decode cX12_weights 50 = .ok (.iload_n 1, 1) := by decide +kernel
theorem dX12_weights_51 : decode cX12_weights 51 = .ok (.iload_n 2, 1) := by decide +kernel
theorem dX12_weights_52 : decode cX12_weights 52 = .ok (.iload_n 3, 1) := by decide +kernel
theorem dX12_weights_53 : decode cX12_weights 53 = .ok (.invokevirtual 236, 3) := by decide +kernel
theorem dX12_weights_56 : decode cX12_weights 56 = .ok (.istore 6, 2) := by decide +kernel
theorem dX12_weights_58 : decode cX12_weights 58 = .ok (.iconst 0, 1) := by decide +kernel
theorem dX12_weights_59 : decode cX12_weights 59 = .ok (.istore 7, 2) := by decide +kernel
theorem dX12_weights_61 : decode cX12_weights 61 = .ok (.bipush (-9), 2) := by decide +kernel
theorem dX12_weights_63 : decode cX12_weights 63 = .ok (.istore 8, 2) := by decide +kernel
theorem dX12_weights_65 : decode cX12_weights 65 = .ok (.bipush (-9), 2) := by decide +kernel
theorem dX12_weights_67 : decode cX12_weights 67 = .ok (.istore 9, 2) := by decide +kernel
theorem dX12_weights_69 : decode cX12_weights 69 = .ok (.iconst 1, 1) := by decide +kernel
theorem dX12_weights_70 : decode cX12_weights 70 = .ok (.istore 10, 2) := by decide +kernel
theorem dX12_weights_72 : decode cX12_weights 72 = .ok (.iload 10, 2) := by decide +kernel
theorem dX12_weights_74 : decode cX12_weights 74 = .ok (.sipush 2000, 3) := by decide +kernel
theorem dX12_weights_77 : decode cX12_weights 77 = .ok (.if_icmp .gt 52, 3) := by decide +kernel
theorem dX12_weights_80 : decode cX12_weights 80 = .ok (.iload 6, 2) := by decide +kernel
theorem dX12_weights_82 : decode cX12_weights 82 = .ok (.bipush (-9), 2) := by decide +kernel
theorem dX12_weights_84 : decode cX12_weights 84 = .ok (.if_icmp .eq 45, 3) := by decide +kernel
theorem dX12_weights_87 : decode cX12_weights 87 = .ok (.aload_n 0, 1) := by decide +kernel
theorem dX12_weights_88 : decode cX12_weights 88 = .ok (.iload 6, 2) := by decide +kernel
theorem dX12_weights_90 : decode cX12_weights 90 = .ok (.iload 10, 2) := by decide +kernel
theorem dX12_weights_92 : decode cX12_weights 92 = .ok (.invokevirtual 239, 3) := by decide +kernel
theorem dX12_weights_95 : decode cX12_weights 95 = .ok (.iload 4, 2) := by decide +kernel
theorem dX12_weights_97 : decode cX12_weights 97 = .ok (.if_icmp .ne 26, 3) := by decide +kernel
theorem dX12_weights_100 : decode cX12_weights 100 = .ok (.iinc 7 1, 3) := by decide +kernel
theorem dX12_weights_103 : decode cX12_weights 103 = .ok (.iload 8, 2) := by decide +kernel
theorem dX12_weights_105 : decode cX12_weights 105 = .ok (.bipush (-9), 2) := by decide +kernel
theorem dX12_weights_107 : decode cX12_weights 107 = .ok (.if_icmp .ne 8, 3) := by decide +kernel
theorem dX12_weights_110 : decode cX12_weights 110 = .ok (.iload 10, 2) := by decide +kernel
theorem dX12_weights_112 : decode cX12_weights 112 = .ok (.goto 5, 3) := by decide +kernel
theorem dX12_weights_115 : decode cX12_weights 115 = .ok (.iload 8, 2) := by decide +kernel
theorem dX12_weights_117 : decode cX12_weights 117 = .ok (.istore 8, 2) := by decide +kernel
theorem dX12_weights_119 : decode cX12_weights 119 = .ok (.iload 10, 2) := by decide +kernel
theorem dX12_weights_121 : decode cX12_weights 121 = .ok (.istore 9, 2) := by decide +kernel
theorem dX12_weights_123 : decode cX12_weights 123 = .ok (.iinc 10 1, 3) := by decide +kernel
theorem dX12_weights_126 : decode cX12_weights 126 = .ok (.goto (-54), 3) := by decide +kernel
theorem dX12_weights_129 : decode cX12_weights 129 = .ok (.iload 5, 2) := by decide +kernel
theorem dX12_weights_131 : decode cX12_weights 131 = .ok (.ifCond .ne 8, 3) := by decide +kernel
theorem dX12_weights_134 : decode cX12_weights 134 = .ok (.iload 7, 2) := by decide +kernel
theorem dX12_weights_136 : decode cX12_weights 136 = .ok (.goto 16, 3) := by decide +kernel
theorem dX12_weights_139 : decode cX12_weights 139 = .ok (.iload 5, 2) := by decide +kernel
theorem dX12_weights_141 : decode cX12_weights 141 = .ok (.iconst 1, 1) := by decide +kernel
theorem dX12_weights_142 : decode cX12_weights 142 = .ok (.if_icmp .ne 8, 3) := by decide +kernel
theorem dX12_weights_145 : decode cX12_weights 145 = .ok (.iload 8, 2) := by decide +kernel
theorem dX12_weights_147 : decode cX12_weights 147 = .ok (.goto 5, 3) := by decide +kernel
theorem dX12_weights_150 : decode cX12_weights 150 = .ok (.iload 9, 2) := by decide +kernel
theorem dX12_weights_152 : decode cX12_weights 152 = .ok (.ireturn, 1) := by decide +kernel
theorem dX12_isMail_0 : decode cX12_isMail 0 = .ok (.iconst 0, 1) := by decide +kernel
theorem dX12_isMail_1 : decode cX12_isMail 1 = .ok (.istore 4, 2) := by decide +kernel
theorem dX12_isMail_3 : decode cX12_isMail 3 = .ok (.iload 4, 2) := by decide +kernel
theorem dX12_isMail_5 : decode cX12_isMail 5 = .ok (.aload_n 0, 1) := by decide +kernel
theorem dX12_isMail_6 : decode cX12_isMail 6 = .ok (.getfield 88, 3) := by decide +kernel
theorem dX12_isMail_9 : decode cX12_isMail 9 = .ok (.if_icmp .ge 128, 3) := by decide +kernel
theorem dX12_isMail_12 : decode cX12_isMail 12 = .ok (.iconst 0, 1) := by decide +kernel
theorem dX12_isMail_13 : decode cX12_isMail 13 = .ok (.istore 5, 2) := by decide +kernel
theorem dX12_isMail_15 : decode cX12_isMail 15 = .ok (.iload 5, 2) := by decide +kernel
theorem dX12_isMail_17 : decode cX12_isMail 17 = .ok (.aload_n 0, 1) := by decide +kernel
theorem dX12_isMail_18 : decode cX12_isMail 18 = .ok (.getfield 88, 3) := by decide +kernel
theorem dX12_isMail_21 : decode cX12_isMail 21 = .ok (.if_icmp .ge 110, 3) := by decide +kernel
theorem dX12_isMail_24 : decode cX12_isMail 24 = .ok (.aload_n 0, 1) := by decide +kernel
theorem dX12_isMail_25 : decode cX12_isMail 25 = .ok (.iload 4, 2) := by decide +kernel
theorem dX12_isMail_27 : decode cX12_isMail 27 = .ok (.iload_n 1, 1) := by decide +kernel
theorem dX12_isMail_28 : decode cX12_isMail 28 = .ok (.iload_n 3, 1) := by decide +kernel
theorem dX12_isMail_29 : decode cX12_isMail 29 = .ok (.invokevirtual 136, 3) := by decide +kernel
theorem dX12_isMail_32 : decode cX12_isMail 32 = .ok (.ifCond .eq 99, 3) := by decide +kernel
theorem dX12_isMail_35 : decode cX12_isMail 35 = .ok (.aload_n 0, 1) := by decide +kernel
theorem dX12_isMail_36 : decode cX12_isMail 36 = .ok (.getfield 37, 3) := by decide +kernel
theorem dX12_isMail_39 : decode cX12_isMail 39 = .ok (.bipush 10, 2) := by decide +kernel
theorem dX12_isMail_41 : decode cX12_isMail 41 = .ok (.iload 4, 2) := by decide +kernel
theorem dX12_isMail_43 : decode cX12_isMail 43 = .ok (.imul, 1) := by decide +kernel
theorem dX12_isMail_44 : decode cX12_isMail 44 = .ok (.iconst 2, 1) := by decide +kernel
theorem dX12_isMail_45 : decode cX12_isMail 45 = .ok (.iadd, 1) := by decide +kernel
theorem dX12_isMail_46 : decode cX12_isMail 46 = .ok (.iaload, 1) := by decide +kernel
theorem dX12_isMail_47 : decode cX12_isMail 47 = .ok (.istore 6, 2) := by decide +kernel
theorem dX12_isMail_49 : decode cX12_isMail 49 = .ok (.aload_n 0, 1) := by decide +kernel
theorem dX12_isMail_50 : decode cX12_isMail 50 = .ok (.iload 5, 2) := by decide +kernel
theorem dX12_isMail_52 : decode cX12_isMail 52 = .ok (.iload_n 2, 1) := by decide +kernel
theorem dX12_isMail_53 : decode cX12_isMail 53 = .ok (.iload_n 3, 1) := by decide +kernel
theorem dX12_isMail_54 : decode cX12_isMail 54 = .ok (.invokevirtual 136, 3) := by decide +kernel
theorem dX12_isMail_57 : decode cX12_isMail 57 = .ok (.ifCond .eq 68, 3) := by decide +kernel
theorem dX12_isMail_60 : decode cX12_isMail 60 = .ok (.iload 6, 2) := by decide +kernel
theorem dX12_isMail_62 : decode cX12_isMail 62 = .ok (.bipush (-9), 2) := by decide +kernel
theorem dX12_isMail_64 : decode cX12_isMail 64 = .ok (.if_icmp .eq 61, 3) := by decide +kernel
theorem dX12_isMail_67 : decode cX12_isMail 67 = .ok (.aload_n 0, 1) := by decide +kernel
theorem dX12_isMail_68 : decode cX12_isMail 68 = .ok (.getfield 37, 3) := by decide +kernel
theorem dX12_isMail_71 : decode cX12_isMail 71 = .ok (.bipush 10, 2) := by decide +kernel
theorem dX12_isMail_73 : decode cX12_isMail 73 = .ok (.iload 5, 2) := by decide +kernel
theorem dX12_isMail_75 : decode cX12_isMail 75 = .ok (.imul, 1) := by decide +kernel
theorem dX12_isMail_76 : decode cX12_isMail 76 = .ok (.iconst 2, 1) := by decide +kernel
theorem dX12_isMail_77 : decode cX12_isMail 77 = .ok (.iadd, 1) := by decide +kernel
theorem dX12_isMail_78 : decode cX12_isMail 78 = .ok (.iaload, 1) := by decide +kernel
theorem dX12_isMail_79 : decode cX12_isMail 79 = .ok (.iload 6, 2) := by decide +kernel
theorem dX12_isMail_81 : decode cX12_isMail 81 = .ok (.if_icmp .ne 44, 3) := by decide +kernel
theorem dX12_isMail_84 : decode cX12_isMail 84 = .ok (.iconst 0, 1) := by decide +kernel
theorem dX12_isMail_85 : decode cX12_isMail 85 = .ok (.istore 7, 2) := by decide +kernel
theorem dX12_isMail_87 : decode cX12_isMail 87 = .ok (.iload 7, 2) := by decide +kernel
theorem dX12_isMail_89 : decode cX12_isMail 89 = .ok (.sipush 999, 3) := by decide +kernel
theorem dX12_isMail_92 : decode cX12_isMail 92 = .ok (.if_icmp .gt 33, 3) := by decide +kernel
theorem dX12_isMail_95 : decode cX12_isMail 95 = .ok (.aload_n 0, 1) := by decide +kernel
theorem dX12_isMail_96 : decode cX12_isMail 96 = .ok (.iload 4, 2) := by decide +kernel
theorem dX12_isMail_98 : decode cX12_isMail 98 = .ok (.iload 7, 2) := by decide +kernel
theorem dX12_isMail_100 : decode cX12_isMail 100 = .ok (.invokevirtual 128, 3) := by decide +kernel
theorem dX12_isMail_103 : decode cX12_isMail 103 = .ok (.ifCond .eq 16, 3) := by decide +kernel
theorem dX12_isMail_106 : decode cX12_isMail 106 = .ok (.aload_n 0, 1) := by decide +kernel
theorem dX12_isMail_107 : decode cX12_isMail 107 = .ok (.iload 5, 2) := by decide +kernel
theorem dX12_isMail_109 : decode cX12_isMail 109 = .ok (.iload 7, 2) := by decide +kernel
theorem dX12_isMail_111 : decode cX12_isMail 111 = .ok (.invokevirtual 128, 3) := by decide +kernel
theorem dX12_isMail_114 : decode cX12_isMail 114 = .ok (.ifCond .eq 5, 3) := by decide +kernel
theorem dX12_isMail_117 : decode cX12_isMail 117 = .ok (.iconst 1, 1) := by decide +kernel
theorem dX12_isMail_118 : decode cX12_isMail 118 = .ok (.ireturn, 1) := by decide +kernel
theorem dX12_isMail_119 : decode cX12_isMail 119 = .ok (.iinc 7 1, 3) := by decide +kernel
theorem dX12_isMail_122 : decode cX12_isMail 122 = .ok (.goto (-35), 3) := by decide +kernel
theorem dX12_isMail_125 : decode cX12_isMail 125 = .ok (.iinc 5 1, 3) := by decide +kernel
theorem dX12_isMail_128 : decode cX12_isMail 128 = .ok (.goto (-113), 3) := by decide +kernel
theorem dX12_isMail_131 : decode cX12_isMail 131 = .ok (.iinc 4 1, 3) := by decide +kernel
theorem dX12_isMail_134 : decode cX12_isMail 134 = .ok (.goto (-131), 3) := by decide +kernel
theorem dX12_isMail_137 : decode cX12_isMail 137 = .ok (.iconst 0, 1) := by decide +kernel
theorem dX12_isMail_138 : decode cX12_isMail 138 = .ok (.ireturn, 1) := by decide +kernel
theorem dX12_mail_0 : decode cX12_mail 0 = .ok (.aload_n 0, 1) := by decide +kernel
theorem dX12_mail_1 : decode cX12_mail 1 = .ok (.iconst 0, 1) := by decide +kernel
theorem dX12_mail_2 : decode cX12_mail 2 = .ok (.putfield 80, 3) := by decide +kernel
theorem dX12_mail_5 : decode cX12_mail 5 = .ok (.iload_n 1, 1) := by decide +kernel
theorem dX12_mail_6 : decode cX12_mail 6 = .ok (.invokestatic 104, 3) := by decide +kernel
theorem dX12_mail_9 : decode cX12_mail 9 = .ok (.ifCond .eq 22, 3) := by decide +kernel
theorem dX12_mail_12 : decode cX12_mail 12 = .ok (.iload_n 2, 1) := by decide +kernel
theorem dX12_mail_13 : decode cX12_mail 13 = .ok (.invokestatic 104, 3) := by decide +kernel
theorem dX12_mail_16 : decode cX12_mail 16 = .ok (.ifCond .eq 15, 3) := by decide +kernel
theorem dX12_mail_19 : decode cX12_mail 19 = .ok (.iload_n 1, 1) := by decide +kernel
theorem dX12_mail_20 : decode cX12_mail 20 = .ok (.iload_n 2, 1) := by decide +kernel
theorem dX12_mail_21 : decode cX12_mail 21 = .ok (.if_icmp .eq 10, 3) := by decide +kernel
theorem dX12_mail_24 : decode cX12_mail 24 = .ok (.iload_n 3, 1) := by decide +kernel
theorem dX12_mail_25 : decode cX12_mail 25 = .ok (.invokestatic 95, 3) := by decide +kernel
theorem dX12_mail_28 : decode cX12_mail 28 = .ok (.ifCond .ne 5, 3) := by decide +kernel
theorem dX12_mail_31 : decode cX12_mail 31 = .ok (.iconst (-1), 1) := by decide +kernel
theorem dX12_mail_32 : decode cX12_mail 32 = .ok (.ireturn, 1) := by decide +kernel
theorem dX12_mail_33 : decode cX12_mail 33 = .ok (.aload_n 0, 1) := by decide +kernel
theorem dX12_mail_34 : decode cX12_mail 34 = .ok (.iload_n 1, 1) := by decide +kernel
theorem dX12_mail_35 : decode cX12_mail 35 = .ok (.iload_n 2, 1) := by decide +kernel
theorem dX12_mail_36 : decode cX12_mail 36 = .ok (.iload_n 3, 1) := by decide +kernel
theorem dX12_mail_37 : decode cX12_mail 37 = .ok (.invokevirtual 243, 3) := by decide +kernel
theorem dX12_mail_40 : decode cX12_mail 40 = .ok (.ifCond .eq 7, 3) := by decide +kernel
theorem dX12_mail_43 : decode cX12_mail 43 = .ok (.iconst 1, 1) := by decide +kernel
theorem dX12_mail_44 : decode cX12_mail 44 = .ok (.goto 4, 3) := by decide +kernel
theorem dX12_mail_47 : decode cX12_mail 47 = .ok (.iconst 0, 1) := by decide +kernel
theorem dX12_mail_48 : decode cX12_mail 48 = .ok (.ireturn, 1) := by decide +kernel
theorem dX12_heap_0 : decode cX12_heap 0 = .ok (.aload_n 0, 1) := by decide +kernel
theorem dX12_heap_1 : decode cX12_heap 1 = .ok (.iconst 0, 1) := by decide +kernel
theorem dX12_heap_2 : decode cX12_heap 2 = .ok (.putfield 80, 3) := by decide +kernel
theorem dX12_heap_5 : decode cX12_heap 5 = .ok (.iload_n 1, 1) := by decide +kernel
theorem dX12_heap_6 : decode cX12_heap 6 = .ok (.invokestatic 104, 3) := by decide +kernel
theorem dX12_heap_9 : decode cX12_heap 9 = .ok (.ifCond .eq 10, 3) := by decide +kernel
theorem dX12_heap_12 : decode cX12_heap 12 = .ok (.iload_n 2, 1) := by decide +kernel
theorem dX12_heap_13 : decode cX12_heap 13 = .ok (.invokestatic 95, 3) := by decide +kernel
theorem dX12_heap_16 : decode cX12_heap 16 = .ok (.ifCond .ne 5, 3) := by decide +kernel
theorem dX12_heap_19 : decode cX12_heap 19 = .ok (.iconst (-1), 1) := by decide +kernel
theorem dX12_heap_20 : decode cX12_heap 20 = .ok (.ireturn, 1) := by decide +kernel
theorem dX12_heap_21 : decode cX12_heap 21 = .ok (.iconst 1, 1) := by decide +kernel
theorem dX12_heap_22 : decode cX12_heap 22 = .ok (.iload_n 1, 1) := by decide +kernel
theorem dX12_heap_23 : decode cX12_heap 23 = .ok (.ishl, 1) := by decide +kernel
theorem dX12_heap_24 : decode cX12_heap 24 = .ok (.istore_n 3, 1) := by decide +kernel
theorem dX12_heap_25 : decode cX12_heap 25 = .ok (.iconst 0, 1) := by decide +kernel
theorem dX12_heap_26 : decode cX12_heap 26 = .ok (.istore 4, 2) := by decide +kernel
theorem dX12_heap_28 : decode cX12_heap 28 = .ok (.iload_n 3, 1) := by decide +kernel
theorem dX12_heap_29 : decode cX12_heap 29 = .ok (.iload 4, 2) := by decide +kernel
theorem dX12_heap_31 : decode cX12_heap 31 = .ok (.if_icmp .eq 96, 3) := by decide +kernel
theorem dX12_heap_34 : decode cX12_heap 34 = .ok (.iload_n 3, 1) := by decide +kernel
theorem dX12_heap_35 : decode cX12_heap 35 = .ok (.istore 4, 2) := by decide +kernel
theorem dX12_heap_37 : decode cX12_heap 37 = .ok (.iconst 0, 1) := by decide +kernel
theorem dX12_heap_38 : decode cX12_heap 38 = .ok (.istore 5, 2) := by decide +kernel
theorem dX12_heap_40 : decode cX12_heap 40 = .ok (.iload 5, 2) := by decide +kernel
theorem dX12_heap_42 : decode cX12_heap 42 = .ok (.bipush 8, 2) := by decide +kernel
theorem dX12_heap_44 : decode cX12_heap 44 = .ok (.if_icmp .ge 80, 3) := by decide +kernel
theorem dX12_heap_47 : decode cX12_heap 47 = .ok (.iconst 0, 1) := by decide +kernel
theorem dX12_heap_48 : decode cX12_heap 48 = .ok (.istore 6, 2) := by decide +kernel
theorem dX12_heap_50 : decode cX12_heap 50 = .ok (.iload 6, 2) := by decide +kernel
theorem dX12_heap_52 : decode cX12_heap 52 = .ok (.bipush 8, 2) := by decide +kernel
theorem dX12_heap_54 : decode cX12_heap 54 = .ok (.if_icmp .ge 64, 3) := by decide +kernel
theorem dX12_heap_57 : decode cX12_heap 57 = .ok (.iload 4, 2) := by decide +kernel
theorem dX12_heap_59 : decode cX12_heap 59 = .ok (.iload 5, 2) := by decide +kernel
theorem dX12_heap_61 : decode cX12_heap 61 = .ok (.ishr, 1) := by decide +kernel
theorem dX12_heap_62 : decode cX12_heap 62 = .ok (.iconst 1, 1) := by decide +kernel
theorem dX12_heap_63 : decode cX12_heap 63 = .ok (.iand, 1) := by decide +kernel
theorem dX12_heap_64 : decode cX12_heap 64 = .ok (.iconst 1, 1) := by decide +kernel
theorem dX12_heap_65 : decode cX12_heap 65 = .ok (.if_icmp .ne 28, 3) := by decide +kernel
theorem dX12_heap_68 : decode cX12_heap 68 = .ok (.iload_n 3, 1) := by decide +kernel
theorem dX12_heap_69 : decode cX12_heap 69 = .ok (.iload 6, 2) := by decide +kernel
theorem dX12_heap_71 : decode cX12_heap 71 = .ok (.ishr, 1) := by decide +kernel
theorem dX12_heap_72 : decode cX12_heap 72 = .ok (.iconst 1, 1) := by decide +kernel
theorem dX12_heap_73 : decode cX12_heap 73 = .ok (.iand, 1) := by decide +kernel
theorem dX12_heap_74 : decode cX12_heap 74 = .ok (.ifCond .ne 19, 3) := by decide +kernel
theorem dX12_heap_77 : decode cX12_heap 77 = .ok (.aload_n 0, 1) := by decide +kernel
theorem dX12_heap_78 : decode cX12_heap 78 = .ok (.iload 5, 2) := by decide +kernel
theorem dX12_heap_80 : decode cX12_heap 80 = .ok (.iload 6, 2) := by decide +kernel
theorem dX12_heap_82 : decode cX12_heap 82 = .ok (.iload_n 2, 1) := by decide +kernel
theorem dX12_heap_83 : decode cX12_heap 83 = .ok (.invokevirtual 243, 3) := by decide +kernel
theorem dX12_heap_86 : decode cX12_heap 86 = .ok (.ifCond .eq 7, 3) := by decide +kernel
theorem dX12_heap_89 : decode cX12_heap 89 = .ok (.iconst 1, 1) := by decide +kernel
theorem dX12_heap_90 : decode cX12_heap 90 = .ok (.goto 4, 3) := by decide +kernel
theorem dX12_heap_93 : decode cX12_heap 93 = .ok (.iconst 0, 1) := by decide +kernel
theorem dX12_heap_94 : decode cX12_heap 94 = .ok (.istore 7, 2) := by decide +kernel
theorem dX12_heap_96 : decode cX12_heap 96 = .ok (.iload_n 3, 1) := by decide +kernel
theorem dX12_heap_97 : decode cX12_heap 97 = .ok (.iload 7, 2) := by decide +kernel
theorem dX12_heap_99 : decode cX12_heap 99 = .ok (.ifCond .eq 10, 3) := by decide +kernel
theorem dX12_heap_102 : decode cX12_heap 102 = .ok (.iconst 1, 1) := by decide +kernel
theorem dX12_heap_103 : decode cX12_heap 103 = .ok (.iload 6, 2) := by decide +kernel
theorem dX12_heap_105 : decode cX12_heap 105 = .ok (.ishl, 1) := by decide +kernel
theorem dX12_heap_106 : decode cX12_heap 106 = .ok (.goto 4, 3) := by decide +kernel
theorem dX12_heap_109 : decode cX12_heap 109 = .ok (.iconst 0, 1) := by decide +kernel
theorem dX12_heap_110 : decode cX12_heap 110 = .ok (.ior, 1) := by decide +kernel
theorem dX12_heap_111 : decode cX12_heap 111 = .ok (.istore_n 3, 1) := by decide +kernel
theorem dX12_heap_112 : decode cX12_heap 112 = .ok (.iinc 6 1, 3) := by decide +kernel
theorem dX12_heap_115 : decode cX12_heap 115 = .ok (.goto (-65), 3) := by decide +kernel
theorem dX12_heap_118 : decode cX12_heap 118 = .ok (.iinc 5 1, 3) := by decide +kernel
theorem dX12_heap_121 : decode cX12_heap 121 = .ok (.goto (-81), 3) := by decide +kernel
theorem dX12_heap_124 : decode cX12_heap 124 = .ok (.goto (-96), 3) := by decide +kernel
theorem dX12_heap_127 : decode cX12_heap 127 = .ok (.iload_n 3, 1) := by decide +kernel
theorem dX12_heap_128 : decode cX12_heap 128 = .ok (.ireturn, 1) := by decide +kernel
theorem dX12_many_0 : decode cX12_many 0 = .ok (.aload_n 0, 1) := by decide +kernel
theorem dX12_many_1 : decode cX12_many 1 = .ok (.iconst 0, 1) := by decide +kernel
theorem dX12_many_2 : decode cX12_many 2 = .ok (.putfield 80, 3) := by decide +kernel
theorem dX12_many_5 : decode cX12_many 5 = .ok (.iload_n 1, 1) := by decide +kernel
theorem dX12_many_6 : decode cX12_many 6 = .ok (.iconst 0, 1) := by decide +kernel
theorem dX12_many_7 : decode cX12_many 7 = .ok (.aload_n 0, 1) := by decide +kernel
theorem dX12_many_8 : decode cX12_many 8 = .ok (.getfield 101, 3) := by decide +kernel
theorem dX12_many_11 : decode cX12_many 11 = .ok (.iconst 1, 1) := by decide +kernel
theorem dX12_many_12 : decode cX12_many 12 = .ok (.isub, 1) := by decide +kernel
theorem dX12_many_13 : decode cX12_many 13 = .ok (.invokestatic 84, 3) := by decide +kernel
theorem dX12_many_16 : decode cX12_many 16 = .ok (.ifCond .eq 10, 3) := by decide +kernel
theorem dX12_many_19 : decode cX12_many 19 = .ok (.iload_n 2, 1) := by decide +kernel
theorem dX12_many_20 : decode cX12_many 20 = .ok (.invokestatic 95, 3) := by decide +kernel
theorem dX12_many_23 : decode cX12_many 23 = .ok (.ifCond .ne 5, 3) := by decide +kernel
theorem dX12_many_26 : decode cX12_many 26 = .ok (.iconst (-1), 1) := by decide +kernel
theorem dX12_many_27 : decode cX12_many 27 = .ok (.ireturn, 1) := by decide +kernel
theorem dX12_many_28 : decode cX12_many 28 = .ok (.iconst 0, 1) := by decide +kernel
theorem dX12_many_29 : decode cX12_many 29 = .ok (.istore_n 3, 1) := by decide +kernel
theorem dX12_many_30 : decode cX12_many 30 = .ok (.iconst 0, 1) := by decide +kernel
theorem dX12_many_31 : decode cX12_many 31 = .ok (.istore 4, 2) := by decide +kernel
theorem dX12_many_33 : decode cX12_many 33 = .ok (.iload 4, 2) := by decide +kernel
theorem dX12_many_35 : decode cX12_many 35 = .ok (.sipush 999, 3) := by decide +kernel
theorem dX12_many_38 : decode cX12_many 38 = .ok (.if_icmp .gt 17, 3) := by decide +kernel
theorem dX12_many_41 : decode cX12_many 41 = .ok (.aload_n 0, 1) := by decide +kernel
theorem dX12_many_42 : decode cX12_many 42 = .ok (.getfield 77, 3) := by decide +kernel
theorem dX12_many_45 : decode cX12_many 45 = .ok (.iload 4, 2) := by decide +kernel
theorem dX12_many_47 : decode cX12_many 47 = .ok (.iconst 0, 1) := by decide +kernel
theorem dX12_many_48 : decode cX12_many 48 = .ok (.iastore, 1) := by decide +kernel
theorem dX12_many_49 : decode cX12_many 49 = .ok (.iinc 4 1, 3) := by decide +kernel
theorem dX12_many_52 : decode cX12_many 52 = .ok (.goto (-19), 3) := by decide +kernel
theorem dX12_many_55 : decode cX12_many 55 = .ok (.iconst 0, 1) := by decide +kernel
theorem dX12_many_56 : decode cX12_many 56 = .ok (.istore 4, 2) := by decide +kernel
theorem dX12_many_58 : decode cX12_many 58 = .ok (.iload 4, 2) := by decide +kernel
theorem dX12_many_60 : decode cX12_many 60 = .ok (.aload_n 0, 1) := by decide +kernel
theorem dX12_many_61 : decode cX12_many 61 = .ok (.getfield 88, 3) := by decide +kernel
theorem dX12_many_64 : decode cX12_many 64 = .ok (.if_icmp .ge 102, 3) := by decide +kernel
theorem dX12_many_67 : decode cX12_many 67 = .ok (.aload_n 0, 1) := by decide +kernel
theorem dX12_many_68 : decode cX12_many 68 = .ok (.getfield 37, 3) := by decide +kernel
theorem dX12_many_71 : decode cX12_many 71 = .ok (.bipush 10, 2) := by decide +kernel
theorem dX12_many_73 : decode cX12_many 73 = .ok (.iload 4, 2) := by decide +kernel
theorem dX12_many_75 : decode cX12_many 75 = .ok (.imul, 1) := by decide +kernel
theorem dX12_many_76 : decode cX12_many 76 = .ok (.iaload, 1) := by decide +kernel
theorem dX12_many_77 : decode cX12_many 77 = .ok (.istore 5, 2) := by decide +kernel
theorem dX12_many_79 : decode cX12_many 79 = .ok (.aload_n 0, 1) := by decide +kernel
theorem dX12_many_80 : decode cX12_many 80 = .ok (.iload 4, 2) := by decide +kernel
theorem dX12_many_82 : decode cX12_many 82 = .ok (.iload 5, 2) := by decide +kernel
theorem dX12_many_84 : decode cX12_many 84 = .ok (.iload_n 2, 1) := by decide +kernel
theorem dX12_many_85 : decode cX12_many 85 = .ok (.invokevirtual 136, 3) := by decide +kernel
theorem dX12_many_88 : decode cX12_many 88 = .ok (.ifCond .eq 72, 3) := by decide +kernel
theorem dX12_many_91 : decode cX12_many 91 = .ok (.aload_n 0, 1) := by decide +kernel
theorem dX12_many_92 : decode cX12_many 92 = .ok (.getfield 37, 3) := by decide +kernel
theorem dX12_many_95 : decode cX12_many 95 = .ok (.bipush 10, 2) := by decide +kernel
theorem dX12_many_97 : decode cX12_many 97 = .ok (.iload 4, 2) := by decide +kernel
theorem dX12_many_99 : decode cX12_many 99 = .ok (.imul, 1) := by decide +kernel
theorem dX12_many_100 : decode cX12_many 100 = .ok (.iconst 2, 1) := by decide +kernel
theorem dX12_many_101 : decode cX12_many 101 = .ok (.iadd, 1) := by decide +kernel
theorem dX12_many_102 : decode cX12_many 102 = .ok (.iaload, 1) := by decide +kernel
theorem dX12_many_103 : decode cX12_many 103 = .ok (.iload_n 1, 1) := by decide +kernel
theorem dX12_many_104 : decode cX12_many 104 = .ok (.if_icmp .ne 56, 3) := by decide +kernel
theorem dX12_many_107 : decode cX12_many 107 = .ok (.iload_n 3, 1) := by decide +kernel
theorem dX12_many_108 : decode cX12_many 108 = .ok (.iconst 1, 1) := by decide +kernel
theorem dX12_many_109 : decode cX12_many 109 = .ok (.iload 5, 2) := by decide +kernel
theorem dX12_many_111 : decode cX12_many 111 = .ok (.ishl, 1) := by decide +kernel
theorem dX12_many_112 : decode cX12_many 112 = .ok (.ior, 1) := by decide +kernel
theorem dX12_many_113 : decode cX12_many 113 = .ok (.istore_n 3, 1) := by decide +kernel
theorem dX12_many_114 : decode cX12_many 114 = .ok (.iconst 0, 1) := by decide +kernel
theorem dX12_many_115 : decode cX12_many 115 = .ok (.istore 6, 2) := by decide +kernel
theorem dX12_many_117 : decode cX12_many 117 = .ok (.iload 6, 2) := by decide +kernel
theorem dX12_many_119 : decode cX12_many 119 = .ok (.sipush 999, 3) := by decide +kernel
theorem dX12_many_122 : decode cX12_many 122 = .ok (.if_icmp .gt 38, 3) := by decide +kernel
theorem dX12_many_125 : decode cX12_many 125 = .ok (.aload_n 0, 1) := by decide +kernel
theorem dX12_many_126 : decode cX12_many 126 = .ok (.getfield 77, 3) := by decide +kernel
theorem dX12_many_129 : decode cX12_many 129 = .ok (.iload 6, 2) := by decide +kernel
theorem dX12_many_131 : decode cX12_many 131 = .ok (.dup2, 1) := by decide +kernel
theorem dX12_many_132 : decode cX12_many 132 = .ok (.iaload, 1) := by decide +kernel
theorem dX12_many_133 : decode cX12_many 133 = .ok (.aload_n 0, 1) := by decide +kernel
theorem dX12_many_134 : decode cX12_many 134 = .ok (.iload 4, 2) := by decide +kernel
theorem dX12_many_136 : decode cX12_many 136 = .ok (.iload 6, 2) := by decide +kernel
theorem dX12_many_138 : decode cX12_many 138 = .ok (.invokevirtual 128, 3) := by decide +kernel
theorem dX12_many_141 : decode cX12_many 141 = .ok (.ifCond .eq 10, 3) := by decide +kernel
theorem dX12_many_144 : decode cX12_many 144 = .ok (.iconst 1, 1) := by decide +kernel
theorem dX12_many_145 : decode cX12_many 145 = .ok (.iload 5, 2) := by decide +kernel
theorem dX12_many_147 : decode cX12_many 147 = .ok (.ishl, 1) := by decide +kernel
theorem dX12_many_148 : decode cX12_many 148 = .ok (.goto 4, 3) := by decide +kernel
theorem dX12_many_151 : decode cX12_many 151 = .ok (.iconst 0, 1) := by decide +kernel
theorem dX12_many_152 : decode cX12_many 152 = .ok (.ior, 1) := by decide +kernel
theorem dX12_many_153 : decode cX12_many 153 = .ok (.iastore, 1) := by decide +kernel
theorem dX12_many_154 : decode cX12_many 154 = .ok (.iinc 6 1, 3) := by decide +kernel
theorem dX12_many_157 : decode cX12_many 157 = .ok (.goto (-40), 3) := by decide +kernel
theorem dX12_many_160 : decode cX12_many 160 = .ok (.iinc 4 1, 3) := by decide +kernel
theorem dX12_many_163 : decode cX12_many 163 = .ok (.goto (-105), 3) := by decide +kernel
theorem dX12_many_166 : decode cX12_many 166 = .ok (.iconst 0, 1) := by decide +kernel
theorem dX12_many_167 : decode cX12_many 167 = .ok (.istore 4, 2) := by decide +kernel
theorem dX12_many_169 : decode cX12_many 169 = .ok (.iconst 0, 1) := by decide +kernel
theorem dX12_many_170 : decode cX12_many 170 = .ok (.istore 5, 2) := by decide +kernel
theorem dX12_many_172 : decode cX12_many 172 = .ok (.iconst 0, 1) := by decide +kernel
theorem dX12_many_173 : decode cX12_many 173 = .ok (.istore 6, 2) := by decide +kernel
theorem dX12_many_175 : decode cX12_many 175 = .ok (.iload 6, 2) := by decide +kernel
theorem dX12_many_177 : decode cX12_many 177 = .ok (.sipush 999, 3) := by decide +kernel
theorem dX12_many_180 : decode cX12_many 180 = .ok (.if_icmp .gt 57, 3) := by decide +kernel
theorem dX12_many_183 : decode cX12_many 183 = .ok (.iload 4, 2) := by decide +kernel
theorem dX12_many_185 : decode cX12_many 185 = .ok (.aload_n 0, 1) := by decide +kernel
theorem dX12_many_186 : decode cX12_many 186 = .ok (.getfield 77, 3) := by decide +kernel
theorem dX12_many_189 : decode cX12_many 189 = .ok (.iload 6, 2) := by decide +kernel
theorem dX12_many_191 : decode cX12_many 191 = .ok (.iaload, 1) := by decide +kernel
theorem dX12_many_192 : decode cX12_many 192 = .ok (.invokestatic 165, 3) := by decide +kernel
theorem dX12_many_195 : decode cX12_many 195 = .ok (.iconst 1, 1) := by decide +kernel
theorem dX12_many_196 : decode cX12_many 196 = .ok (.if_icmp .ne 7, 3) := by decide +kernel
theorem dX12_many_199 : decode cX12_many 199 = .ok (.iconst 1, 1) := by decide +kernel
theorem dX12_many_200 : decode cX12_many 200 = .ok (.goto 4, 3) := by decide +kernel
theorem dX12_many_203 : decode cX12_many 203 = .ok (.iconst 0, 1) := by decide +kernel
theorem dX12_many_204 : decode cX12_many 204 = .ok (.iadd, 1) := by decide +kernel
theorem dX12_many_205 : decode cX12_many 205 = .ok (.istore 4, 2) := by decide +kernel
theorem dX12_many_207 : decode cX12_many 207 = .ok (.iload 5, 2) := by decide +kernel
theorem dX12_many_209 : decode cX12_many 209 = .ok (.aload_n 0, 1) := by decide +kernel
theorem dX12_many_210 : decode cX12_many 210 = .ok (.getfield 77, 3) := by decide +kernel
theorem dX12_many_213 : decode cX12_many 213 = .ok (.iload 6, 2) := by decide +kernel
theorem dX12_many_215 : decode cX12_many 215 = .ok (.iaload, 1) := by decide +kernel
theorem dX12_many_216 : decode cX12_many 216 = .ok (.invokestatic 165, 3) := by decide +kernel
theorem dX12_many_219 : decode cX12_many 219 = .ok (.iconst 2, 1) := by decide +kernel
theorem dX12_many_220 : decode cX12_many 220 = .ok (.if_icmp .ne 7, 3) := by decide +kernel
theorem dX12_many_223 : decode cX12_many 223 = .ok (.iconst 1, 1) := by decide +kernel
theorem dX12_many_224 : decode cX12_many 224 = .ok (.goto 4, 3) := by decide +kernel
theorem dX12_many_227 : decode cX12_many 227 = .ok (.iconst 0, 1) := by decide +kernel
theorem dX12_many_228 : decode cX12_many 228 = .ok (.iadd, 1) := by decide +kernel
theorem dX12_many_229 : decode cX12_many 229 = .ok (.istore 5, 2) := by decide +kernel
theorem dX12_many_231 : decode cX12_many 231 = .ok (.iinc 6 1, 3) := by decide +kernel
theorem dX12_many_234 : decode cX12_many 234 = .ok (.goto (-59), 3) := by decide +kernel
theorem dX12_many_237 : decode cX12_many 237 = .ok (.iload_n 3, 1) := by decide +kernel
theorem dX12_many_238 : decode cX12_many 238 = .ok (.invokestatic 165, 3) := by decide +kernel
theorem dX12_many_241 : decode cX12_many 241 = .ok (.iload 5, 2) := by decide +kernel
theorem dX12_many_243 : decode cX12_many 243 = .ok (.ifCond .le 16, 3) := by decide +kernel
theorem dX12_many_246 : decode cX12_many 246 = .ok (.iload 4, 2) := by decide +kernel
theorem dX12_many_248 : decode cX12_many 248 = .ok (.iload 4, 2) := by decide +kernel
theorem dX12_many_250 : decode cX12_many 250 = .ok (.imul, 1) := by decide +kernel
theorem dX12_many_251 : decode cX12_many 251 = .ok (.iconst 2, 1) := by decide +kernel
theorem dX12_many_252 : decode cX12_many 252 = .ok (.iload 5, 2) := by decide +kernel
theorem dX12_many_254 : decode cX12_many 254 = .ok (.imul, 1) := by decide +kernel
theorem dX12_many_255 : decode cX12_many 255 = .ok (.idiv, 1) := by decide +kernel
theorem dX12_many_256 : decode cX12_many 256 = .ok (.goto 12, 3) := by decide +kernel
theorem dX12_many_259 : decode cX12_many 259 = .ok (.iload 4, 2) := by decide +kernel
theorem dX12_many_261 : decode cX12_many 261 = .ok (.iload 4, 2) := by decide +kernel
theorem dX12_many_263 : decode cX12_many 263 = .ok (.iconst 1, 1) := by decide +kernel
theorem dX12_many_264 : decode cX12_many 264 = .ok (.isub, 1) := by decide +kernel
theorem dX12_many_265 : decode cX12_many 265 = .ok (.imul, 1) := by decide +kernel
theorem dX12_many_266 : decode cX12_many 266 = .ok (.iconst 2, 1) := by decide +kernel
theorem dX12_many_267 : decode cX12_many 267 = .ok (.idiv, 1) := by decide +kernel
theorem dX12_many_268 : decode cX12_many 268 = .ok (.iadd, 1) := by decide +kernel
theorem dX12_many_269 : decode cX12_many 269 = .ok (.ireturn, 1) := by decide +kernel
theorem dX12_look_0 : decode cX12_look 0 = .ok (.aload_n 0, 1) := by decide +kernel
theorem dX12_look_1 : decode cX12_look 1 = .ok (.iconst 0, 1) := by decide +kernel
theorem dX12_look_2 : decode cX12_look 2 = .ok (.putfield 80, 3) := by decide +kernel
theorem dX12_look_5 : decode cX12_look 5 = .ok (.iload_n 1, 1) := by decide +kernel
theorem dX12_look_6 : decode cX12_look 6 = .ok (.invokestatic 104, 3) := by decide +kernel
theorem dX12_look_9 : decode cX12_look 9 = .ok (.ifCond .eq 10, 3) := by decide +kernel
theorem dX12_look_12 : decode cX12_look 12 = .ok (.iload_n 2, 1) := by decide +kernel
theorem dX12_look_13 : decode cX12_look 13 = .ok (.invokestatic 95, 3) := by decide +kernel
theorem dX12_look_16 : decode cX12_look 16 = .ok (.ifCond .ne 5, 3) := by decide +kernel
theorem dX12_look_19 : decode cX12_look 19 = .ok (.iconst (-1), 1) := by decide +kernel
theorem dX12_look_20 : decode cX12_look 20 = .ok (.ireturn, 1) := by decide +kernel
theorem dX12_look_21 : decode cX12_look 21 = .ok (.bipush (-9), 2) := by decide +kernel
theorem dX12_look_23 : decode cX12_look 23 = .ok (.istore_n 3, 1) := by decide +kernel
theorem dX12_look_24 : decode cX12_look 24 = .ok (.iconst 0, 1) := by decide +kernel
theorem dX12_look_25 : decode cX12_look 25 = .ok (.istore 4, 2) := by decide +kernel
theorem dX12_look_27 : decode cX12_look 27 = .ok (.iconst 0, 1) := by decide +kernel
theorem dX12_look_28 : decode cX12_look 28 = .ok (.istore 5, 2) := by decide +kernel
theorem dX12_look_30 : decode cX12_look 30 = .ok (.iload 5, 2) := by decide +kernel
theorem dX12_look_32 : decode cX12_look 32 = .ok (.aload_n 0, 1) := by decide +kernel
theorem dX12_look_33 : decode cX12_look 33 = .ok (.getfield 88, 3) := by decide +kernel
theorem dX12_look_36 : decode cX12_look 36 = .ok (.if_icmp .ge 157, 3) := by decide +kernel
theorem dX12_look_39 : decode cX12_look 39 = .ok (.iconst 0, 1) := by decide +kernel
theorem dX12_look_40 : decode cX12_look 40 = .ok (.istore 6, 2) := by decide +kernel
theorem dX12_look_42 : decode cX12_look 42 = .ok (.iload 6, 2) := by decide +kernel
theorem dX12_look_44 : decode cX12_look 44 = .ok (.iconst 3, 1) := by decide +kernel
theorem dX12_look_45 : decode cX12_look 45 = .ok (.if_icmp .ge 142, 3) := by decide +kernel
theorem dX12_look_48 : decode cX12_look 48 = .ok (.bipush 10, 2) := by decide +kernel
theorem dX12_look_50 : decode cX12_look 50 = .ok (.iload 5, 2) := by decide +kernel
theorem dX12_look_52 : decode cX12_look 52 = .ok (.imul, 1) := by decide +kernel
theorem dX12_look_53 : decode cX12_look 53 = .ok (.iconst 5, 1) := by decide +kernel
theorem dX12_look_54 : decode cX12_look 54 = .ok (.iadd, 1) := by decide +kernel
theorem dX12_look_55 : decode cX12_look 55 = .ok (.iload 6, 2) := by decide +kernel
theorem dX12_look_57 : decode cX12_look 57 = .ok (.iadd, 1) := by decide +kernel
theorem dX12_look_58 : decode cX12_look 58 = .ok (.istore 7, 2) := by decide +kernel
theorem dX12_look_60 : decode cX12_look 60 = .ok (.aload_n 0, 1) := by decide +kernel
theorem dX12_look_61 : decode cX12_look 61 = .ok (.iload 5, 2) := by decide +kernel
theorem dX12_look_63 : decode cX12_look 63 = .ok (.iload_n 1, 1) := by decide +kernel
theorem dX12_look_64 : decode cX12_look 64 = .ok (.iload_n 2, 1) := by decide +kernel
theorem dX12_look_65 : decode cX12_look 65 = .ok (.invokevirtual 136, 3) := by decide +kernel
theorem dX12_look_68 : decode cX12_look 68 = .ok (.ifCond .eq 113, 3) := by decide +kernel
theorem dX12_look_71 : decode cX12_look 71 = .ok (.aload_n 0, 1) := by decide +kernel
theorem dX12_look_72 : decode cX12_look 72 = .ok (.getfield 37, 3) := by decide +kernel
theorem dX12_look_75 : decode cX12_look 75 = .ok (.iload 7, 2) := by decide +kernel
theorem dX12_look_77 : decode cX12_look 77 = .ok (.iaload, 1) := by decide +kernel
theorem dX12_look_78 : decode cX12_look 78 = .ok (.ifCond .ge 103, 3) := by decide +kernel
theorem dX12_look_81 : decode cX12_look 81 = .ok (.aload_n 0, 1) := by decide +kernel
theorem dX12_look_82 : decode cX12_look 82 = .ok (.iload 5, 2) := by decide +kernel
theorem dX12_look_84 : decode cX12_look 84 = .ok (.invokevirtual 132, 3) := by decide +kernel
theorem dX12_look_87 : decode cX12_look 87 = .ok (.istore 8, 2) := by decide +kernel
theorem dX12_look_89 : decode cX12_look 89 = .ok (.iconst 0, 1) := by decide +kernel
theorem dX12_look_90 : decode cX12_look 90 = .ok (.istore 9, 2) := by decide +kernel
theorem dX12_look_92 : decode cX12_look 92 = .ok (.iconst 0, 1) := by decide +kernel
theorem dX12_look_93 : decode cX12_look 93 = .ok (.istore 10, 2) := by decide +kernel
theorem dX12_look_95 : decode cX12_look 95 = .ok (.iload 10, 2) := by decide +kernel
theorem dX12_look_97 : decode cX12_look 97 = .ok (.bipush 10, 2) := by decide +kernel
theorem dX12_look_99 : decode cX12_look 99 = .ok (.if_icmp .ge 42, 3) := by decide +kernel
theorem dX12_look_102 : decode cX12_look 102 = .ok (.aload_n 0, 1) := by decide +kernel
theorem dX12_look_103 : decode cX12_look 103 = .ok (.getfield 37, 3) := by decide +kernel
theorem dX12_look_106 : decode cX12_look 106 = .ok (.iload 7, 2) := by decide +kernel
theorem dX12_look_108 : decode cX12_look 108 = .ok (.iload 10, 2) := by decide +kernel
theorem dX12_look_110 : decode cX12_look 110 = .ok (.iastore, 1) := by decide +kernel
theorem dX12_look_111 : decode cX12_look 111 = .ok (.aload_n 0, 1) := by decide +kernel
theorem dX12_look_112 : decode cX12_look 112 = .ok (.iload 5, 2) := by decide +kernel
theorem dX12_look_114 : decode cX12_look 114 = .ok (.invokevirtual 132, 3) := by decide +kernel
theorem dX12_look_117 : decode cX12_look 117 = .ok (.istore 11, 2) := by decide +kernel
theorem dX12_look_119 : decode cX12_look 119 = .ok (.iload 11, 2) := by decide +kernel
theorem dX12_look_121 : decode cX12_look 121 = .ok (.iload 9, 2) := by decide +kernel
theorem dX12_look_123 : decode cX12_look 123 = .ok (.if_icmp .le 8, 3) := by decide +kernel
theorem dX12_look_126 : decode cX12_look 126 = .ok (.iload 11, 2) := by decide +kernel
theorem dX12_look_128 : decode cX12_look 128 = .ok (.goto 5, 3) := by decide +kernel
theorem dX12_look_131 : decode cX12_look 131 = .ok (.iload 9, 2) := by decide +kernel
theorem dX12_look_133 : decode cX12_look 133 = .ok (.istore 9, 2) := by decide +kernel
theorem dX12_look_135 : decode cX12_look 135 = .ok (.iinc 10 1, 3) := by decide +kernel
theorem dX12_look_138 : decode cX12_look 138 = .ok (.goto (-43), 3) := by decide +kernel
theorem dX12_look_141 : decode cX12_look 141 = .ok (.aload_n 0, 1) := by decide +kernel
theorem dX12_look_142 : decode cX12_look 142 = .ok (.getfield 37, 3) := by decide +kernel
theorem dX12_look_145 : decode cX12_look 145 = .ok (.iload 7, 2) := by decide +kernel
theorem dX12_look_147 : decode cX12_look 147 = .ok (.iconst (-1), 1) := by decide +kernel
theorem dX12_look_148 : decode cX12_look 148 = .ok (.iastore, 1) := by decide +kernel
theorem dX12_look_149 : decode cX12_look 149 = .ok (.iload 9, 2) := by decide +kernel
theorem dX12_look_151 : decode cX12_look 151 = .ok (.iload 8, 2) := by decide +kernel
theorem dX12_look_153 : decode cX12_look 153 = .ok (.if_icmp .ge 28, 3) := by decide +kernel
theorem dX12_look_156 : decode cX12_look 156 = .ok (.iload_n 3, 1) := by decide +kernel
theorem dX12_look_157 : decode cX12_look 157 = .ok (.bipush (-9), 2) := by decide +kernel
theorem dX12_look_159 : decode cX12_look 159 = .ok (.if_icmp .eq 10, 3) := by decide +kernel
theorem dX12_look_162 : decode cX12_look 162 = .ok (.iload 9, 2) := by decide +kernel
theorem dX12_look_164 : decode cX12_look 164 = .ok (.iload 4, 2) := by decide +kernel
theorem dX12_look_166 : decode cX12_look 166 = .ok (.if_icmp .ge 15, 3) := by decide +kernel
theorem dX12_look_169 : decode cX12_look 169 = .ok (.iconst 3, 1) := by decide +kernel
theorem dX12_look_170 : decode cX12_look 170 = .ok (.iload 5, 2) := by decide +kernel
theorem dX12_look_172 : decode cX12_look 172 = .ok (.imul, 1) := by decide +kernel
theorem dX12_look_173 : decode cX12_look 173 = .ok (.iload 6, 2) := by decide +kernel
theorem dX12_look_175 : decode cX12_look 175 = .ok (.iadd, 1) := by decide +kernel
theorem dX12_look_176 : decode cX12_look 176 = .ok (.istore_n 3, 1) := by decide +kernel
theorem dX12_look_177 : decode cX12_look 177 = .ok (.iload 9, 2) := by decide +kernel
theorem dX12_look_179 : decode cX12_look 179 = .ok (.istore 4, 2) := by decide +kernel
theorem dX12_look_181 : decode cX12_look 181 = .ok (.iinc 6 1, 3) := by decide +kernel
theorem dX12_look_184 : decode cX12_look 184 = .ok (.goto (-142), 3) := by decide +kernel
theorem dX12_look_187 : decode cX12_look 187 = .ok (.iinc 5 1, 3) := by decide +kernel
theorem dX12_look_190 : decode cX12_look 190 = .ok (.goto (-160), 3) := by decide +kernel
theorem dX12_look_193 : decode cX12_look 193 = .ok (.iload_n 3, 1) := by decide +kernel
theorem dX12_look_194 : decode cX12_look 194 = .ok (.ireturn, 1) := by decide +kernel
theorem dX12_count_0 : decode cX12_count 0 = .ok (.aload_n 0, 1) := by decide +kernel
theorem dX12_count_1 : decode cX12_count 1 = .ok (.iconst 0, 1) := by decide +kernel
theorem dX12_count_2 : decode cX12_count 2 = .ok (.putfield 80, 3) := by decide +kernel
theorem dX12_count_5 : decode cX12_count 5 = .ok (.iconst 0, 1) := by decide +kernel
theorem dX12_count_6 : decode cX12_count 6 = .ok (.istore_n 2, 1) := by decide +kernel
theorem dX12_count_7 : decode cX12_count 7 = .ok (.iconst 0, 1) := by decide +kernel
theorem dX12_count_8 : decode cX12_count 8 = .ok (.istore_n 3, 1) := by decide +kernel
theorem dX12_count_9 : decode cX12_count 9 = .ok (.iload_n 3, 1) := by decide +kernel
theorem dX12_count_10 : decode cX12_count 10 = .ok (.aload_n 0, 1) := by decide +kernel
theorem dX12_count_11 : decode cX12_count 11 = .ok (.getfield 139, 3) := by decide +kernel
theorem dX12_count_14 : decode cX12_count 14 = .ok (.if_icmp .ge 28, 3) := by decide +kernel
theorem dX12_count_17 : decode cX12_count 17 = .ok (.iload_n 2, 1) := by decide +kernel
theorem dX12_count_18 : decode cX12_count 18 = .ok (.aload_n 0, 1) := by decide +kernel
theorem dX12_count_19 : decode cX12_count 19 = .ok (.getfield 49, 3) := by decide +kernel
theorem dX12_count_22 : decode cX12_count 22 = .ok (.iload_n 3, 1) := by decide +kernel
theorem dX12_count_23 : decode cX12_count 23 = .ok (.iaload, 1) := by decide +kernel
theorem dX12_count_24 : decode cX12_count 24 = .ok (.bipush (-9), 2) := by decide +kernel
theorem dX12_count_26 : decode cX12_count 26 = .ok (.if_icmp .ne 7, 3) := by decide +kernel
theorem dX12_count_29 : decode cX12_count 29 = .ok (.iconst 1, 1) := by decide +kernel
theorem dX12_count_30 : decode cX12_count 30 = .ok (.goto 4, 3) := by decide +kernel
theorem dX12_count_33 : decode cX12_count 33 = .ok (.iconst 0, 1) := by decide +kernel
theorem dX12_count_34 : decode cX12_count 34 = .ok (.iadd, 1) := by decide +kernel
theorem dX12_count_35 : decode cX12_count 35 = .ok (.istore_n 2, 1) := by decide +kernel
theorem dX12_count_36 : decode cX12_count 36 = .ok (.iinc 3 1, 3) := by decide +kernel
theorem dX12_count_39 : decode cX12_count 39 = .ok (.goto (-30), 3) := by decide +kernel
theorem dX12_count_42 : decode cX12_count 42 = .ok (.iload_n 1, 1) := by decide +kernel
theorem dX12_count_43 : decode cX12_count 43 = .ok (.ifCond .ne 10, 3) := by decide +kernel
theorem dX12_count_46 : decode cX12_count 46 = .ok (.aload_n 0, 1) := by decide +kernel
theorem dX12_count_47 : decode cX12_count 47 = .ok (.getfield 98, 3) := by decide +kernel
theorem dX12_count_50 : decode cX12_count 50 = .ok (.goto 74, 3) := by decide +kernel
theorem dX12_count_53 : decode cX12_count 53 = .ok (.iload_n 1, 1) := by decide +kernel
theorem dX12_count_54 : decode cX12_count 54 = .ok (.iconst 1, 1) := by decide +kernel
theorem dX12_count_55 : decode cX12_count 55 = .ok (.if_icmp .ne 10, 3) := by decide +kernel
theorem dX12_count_58 : decode cX12_count 58 = .ok (.aload_n 0, 1) := by decide +kernel
theorem dX12_count_59 : decode cX12_count 59 = .ok (.getfield 101, 3) := by decide +kernel
theorem dX12_count_62 : decode cX12_count 62 = .ok (.goto 62, 3) := by decide +kernel
theorem dX12_count_65 : decode cX12_count 65 = .ok (.iload_n 1, 1) := by decide +kernel
theorem dX12_count_66 : decode cX12_count 66 = .ok (.iconst 2, 1) := by decide +kernel
theorem dX12_count_67 : decode cX12_count 67 = .ok (.if_icmp .ne 10, 3) := by decide +kernel
theorem dX12_count_70 : decode cX12_count 70 = .ok (.aload_n 0, 1) := by decide +kernel
theorem dX12_count_71 : decode cX12_count 71 = .ok (.getfield 88, 3) := by decide +kernel
theorem dX12_count_74 : decode cX12_count 74 = .ok (.goto 50, 3) := by decide +kernel
theorem dX12_count_77 : decode cX12_count 77 = .ok (.iload_n 1, 1) := by decide +kernel
theorem dX12_count_78 : decode cX12_count 78 = .ok (.iconst 3, 1) := by decide +kernel
theorem dX12_count_79 : decode cX12_count 79 = .ok (.if_icmp .ne 10, 3) := by decide +kernel
theorem dX12_count_82 : decode cX12_count 82 = .ok (.aload_n 0, 1) := by decide +kernel
theorem dX12_count_83 : decode cX12_count 83 = .ok (.getfield 139, 3) := by decide +kernel
theorem dX12_count_86 : decode cX12_count 86 = .ok (.goto 38, 3) := by decide +kernel
theorem dX12_count_89 : decode cX12_count 89 = .ok (.iload_n 1, 1) := by decide +kernel
theorem dX12_count_90 : decode cX12_count 90 = .ok (.iconst 4, 1) := by decide +kernel
theorem dX12_count_91 : decode cX12_count 91 = .ok (.if_icmp .ne 10, 3) := by decide +kernel
theorem dX12_count_94 : decode cX12_count 94 = .ok (.aload_n 0, 1) := by decide +kernel
theorem dX12_count_95 : decode cX12_count 95 = .ok (.getfield 230, 3) := by decide +kernel
theorem dX12_count_98 : decode cX12_count 98 = .ok (.goto 26, 3) := by decide +kernel
theorem dX12_count_101 : decode cX12_count 101 = .ok (.iload_n 1, 1) := by decide +kernel
theorem dX12_count_102 : decode cX12_count 102 = .ok (.iconst 5, 1) := by decide +kernel
theorem dX12_count_103 : decode cX12_count 103 = .ok (.if_icmp .ne 10, 3) := by decide +kernel
theorem dX12_count_106 : decode cX12_count 106 = .ok (.aload_n 0, 1) := by decide +kernel
theorem dX12_count_107 : decode cX12_count 107 = .ok (.getfield 168, 3) := by decide +kernel
theorem dX12_count_110 : decode cX12_count 110 = .ok (.goto 14, 3) := by decide +kernel
theorem dX12_count_113 : decode cX12_count 113 = .ok (.iload_n 1, 1) := by decide +kernel
theorem dX12_count_114 : decode cX12_count 114 = .ok (.bipush 6, 2) := by decide +kernel
theorem dX12_count_116 : decode cX12_count 116 = .ok (.if_icmp .ne 7, 3) := by decide +kernel
theorem dX12_count_119 : decode cX12_count 119 = .ok (.iload_n 2, 1) := by decide +kernel
theorem dX12_count_120 : decode cX12_count 120 = .ok (.goto 4, 3) := by decide +kernel
theorem dX12_count_123 : decode cX12_count 123 = .ok (.iconst (-1), 1) := by decide +kernel
theorem dX12_count_124 : decode cX12_count 124 = .ok (.ireturn, 1) := by decide +kernel
theorem dX12_trace_0 : decode cX12_trace 0 = .ok (.aload_n 0, 1) := by decide +kernel
theorem dX12_trace_1 : decode cX12_trace 1 = .ok (.iconst 0, 1) := by decide +kernel
theorem dX12_trace_2 : decode cX12_trace 2 = .ok (.putfield 80, 3) := by decide +kernel
theorem dX12_trace_5 : decode cX12_trace 5 = .ok (.aload_n 0, 1) := by decide +kernel
theorem dX12_trace_6 : decode cX12_trace 6 = .ok (.getfield 114, 3) := by decide +kernel
theorem dX12_trace_9 : decode cX12_trace 9 = .ok (.lreturn, 1) := by decide +kernel
end
section
theorem dX11_init_0 : decode cX11_init 0 = .ok (.aload_n 0, 1) := by decide +kernel
theorem dX11_init_1 : decode cX11_init 1 = .ok (.invokespecial 1, 3) := by decide +kernel
theorem dX11_init_4 : decode cX11_init 4 = .ok (.aload_n 0, 1) := by decide +kernel
theorem dX11_init_5 : decode cX11_init 5 = .ok (.bipush 6, 2) := by decide +kernel
theorem dX11_init_7 : decode cX11_init 7 = .ok (.newarray .int, 2) := by decide +kernel
theorem dX11_init_9 : decode cX11_init 9 = .ok (.putfield 9, 3) := by decide +kernel
theorem dX11_init_12 : decode cX11_init 12 = .ok (.aload_n 0, 1) := by decide +kernel
theorem dX11_init_13 : decode cX11_init 13 = .ok (.bipush 8, 2) := by decide +kernel
theorem dX11_init_15 : decode cX11_init 15 = .ok (.anewarray 13, 3) := by decide +kernel
theorem dX11_init_18 : decode cX11_init 18 = .ok (.putfield 15, 3) := by decide +kernel
theorem dX11_init_21 : decode cX11_init 21 = .ok (.aload_n 0, 1) := by decide +kernel
theorem dX11_init_22 : decode cX11_init 22 = .ok (.bipush 12, 2) := by decide +kernel
theorem dX11_init_24 : decode cX11_init 24 = .ok (.anewarray 19, 3) := by decide +kernel
theorem dX11_init_27 : decode cX11_init 27 = .ok (.putfield 21, 3) := by decide +kernel
theorem dX11_init_30 : decode cX11_init 30 = .ok (.aload_n 0, 1) := by decide +kernel
theorem dX11_init_31 : decode cX11_init 31 = .ok (.new 25, 3) := by decide +kernel
theorem dX11_init_34 : decode cX11_init 34 = .ok (.dup, 1) := by decide +kernel
theorem dX11_init_35 : decode cX11_init 35 = .ok (.invokespecial 27, 3) := by decide +kernel
theorem dX11_init_38 : decode cX11_init 38 = .ok (.putfield 28, 3) := by decide +kernel
theorem dX11_init_41 : decode cX11_init 41 = .ok (.aload_n 0, 1) := by decide +kernel
theorem dX11_init_42 : decode cX11_init 42 = .ok (.new 32, 3) := by decide +kernel
theorem dX11_init_45 : decode cX11_init 45 = .ok (.dup, 1) := by decide +kernel
theorem dX11_init_46 : decode cX11_init 46 = .ok (.invokespecial 34, 3) := by decide +kernel
theorem dX11_init_49 : decode cX11_init 49 = .ok (.putfield 35, 3) := by decide +kernel
theorem dX11_init_52 : decode cX11_init 52 = .ok (.aload_n 0, 1) := by decide +kernel
theorem dX11_init_53 : decode cX11_init 53 = .ok (.new 39, 3) := by decide +kernel
theorem dX11_init_56 : decode cX11_init 56 = .ok (.dup, 1) := by decide +kernel
theorem dX11_init_57 : decode cX11_init 57 = .ok (.invokespecial 41, 3) := by decide +kernel
theorem dX11_init_60 : decode cX11_init 60 = .ok (.putfield 42, 3) := by decide +kernel
theorem dX11_init_63 : decode cX11_init 63 = .ok (.aload_n 0, 1) := by decide +kernel
theorem dX11_init_64 : decode cX11_init 64 = .ok (.new 46, 3) := by decide +kernel
theorem dX11_init_67 : decode cX11_init 67 = .ok (.dup, 1) := by decide +kernel
theorem dX11_init_68 : decode cX11_init 68 = .ok (.aload_n 0, 1) := by decide +kernel
theorem dX11_init_69 : decode cX11_init 69 = .ok (.getfield 42, 3) := by decide +kernel
theorem dX11_init_72 : decode cX11_init 72 = .ok (.invokespecial 48, 3) := by decide +kernel
theorem dX11_init_75 : decode cX11_init 75 = .ok (.putfield 51, 3) := by decide +kernel
theorem dX11_init_78 : decode cX11_init 78 = .ok (.aload_n 0, 1) := by decide +kernel
theorem dX11_init_79 : decode cX11_init 79 = .ok (.new 55, 3) := by decide +kernel
theorem dX11_init_82 : decode cX11_init 82 = .ok (.dup, 1) := by decide +kernel
theorem dX11_init_83 : decode cX11_init 83 = .ok (.invokespecial 57, 3) := by decide +kernel
theorem dX11_init_86 : decode cX11_init 86 = .ok (.putfield 58, 3) := by decide +kernel
theorem dX11_init_89 : decode cX11_init 89 = .ok (.aload_n 0, 1) := by decide +kernel
theorem dX11_init_90 : decode cX11_init 90 = .ok (.new 62, 3) := by decide +kernel
theorem dX11_init_93 : decode cX11_init 93 = .ok (.dup, 1) := by decide +kernel
theorem dX11_init_94 : decode cX11_init 94 = .ok (.invokespecial 64, 3) := by decide +kernel
theorem dX11_init_97 : decode cX11_init 97 = .ok (.putfield 65, 3) := by decide +kernel
theorem dX11_init_100 : decode cX11_init 100 = .ok (.aload_n 0, 1) := by decide +kernel
theorem dX11_init_101 : decode cX11_init 101 = .ok (.new 62, 3) := by decide +kernel
theorem dX11_init_104 : decode cX11_init 104 = .ok (.dup, 1) := by decide +kernel
theorem dX11_init_105 : decode cX11_init 105 = .ok (.invokespecial 64, 3) := by decide +kernel
theorem dX11_init_108 : decode cX11_init 108 = .ok (.putfield 69, 3) := by decide +kernel
theorem dX11_init_111 : decode cX11_init 111 = .ok (.aload_n 0, 1) := by decide +kernel
theorem dX11_init_112 : decode cX11_init 112 = .ok (.iconst 0, 1) := by decide +kernel
theorem dX11_init_113 : decode cX11_init 113 = .ok (.putfield 72, 3) := by decide +kernel
theorem dX11_init_116 : decode cX11_init 116 = .ok (.aload_n 0, 1) := by decide +kernel
theorem dX11_init_117 : decode cX11_init 117 = .ok (.iconst 0, 1) := by decide +kernel
theorem dX11_init_118 : decode cX11_init 118 = .ok (.putfield 76, 3) := by decide +kernel
theorem dX11_init_121 : decode cX11_init 121 = .ok (.return_, 1) := by decide +kernel
theorem dX11_town_0 : decode cX11_town 0 = .ok (.iload_n 1, 1) := by decide +kernel
theorem dX11_town_1 : decode cX11_town 1 = .ok (.iconst 0, 1) := by decide +kernel
theorem dX11_town_2 : decode cX11_town 2 = .ok (.iconst 5, 1) := by decide +kernel
theorem dX11_town_3 : decode cX11_town 3 = .ok (.invokestatic 79, 3) := by decide +kernel
theorem dX11_town_6 : decode cX11_town 6 = .ok (.ifCond .eq 12, 3) := by decide +kernel
theorem dX11_town_9 : decode cX11_town 9 = .ok (.iload_n 2, 1) := by decide +kernel
theorem dX11_town_10 : decode cX11_town 10 = .ok (.iconst 0, 1) := by decide +kernel
theorem dX11_town_11 : decode cX11_town 11 = .ok (.iconst 2, 1) := by decide +kernel
theorem dX11_town_12 : decode cX11_town 12 = .ok (.invokestatic 79, 3) := by decide +kernel
theorem dX11_town_15 : decode cX11_town 15 = .ok (.ifCond .ne 5, 3) := by decide +kernel
theorem dX11_town_18 : decode cX11_town 18 = .ok (.iconst (-1), 1) := by decide +kernel
theorem dX11_town_19 : decode cX11_town 19 = .ok (.ireturn, 1) := by decide +kernel
theorem dX11_town_20 : decode cX11_town 20 = .ok (.aload_n 0, 1) := by decide +kernel
theorem dX11_town_21 : decode cX11_town 21 = .ok (.getfield 9, 3) := by decide +kernel
theorem dX11_town_24 : decode cX11_town 24 = .ok (.iload_n 1, 1) := by decide +kernel
theorem dX11_town_25 : decode cX11_town 25 = .ok (.iaload, 1) := by decide +kernel
theorem dX11_town_26 : decode cX11_town 26 = .ok (.istore_n 3, 1) := by decide +kernel
theorem dX11_town_27 : decode cX11_town 27 = .ok (.aload_n 0, 1) := by decide +kernel
theorem dX11_town_28 : decode cX11_town 28 = .ok (.getfield 9, 3) := by decide +kernel
theorem dX11_town_31 : decode cX11_town 31 = .ok (.iload_n 1, 1) := by decide +kernel
theorem dX11_town_32 : decode cX11_town 32 = .ok (.iload_n 2, 1) := by decide +kernel
theorem dX11_town_33 : decode cX11_town 33 = .ok (.iastore, 1) := by decide +kernel
theorem dX11_town_34 : decode cX11_town 34 = .ok (.iload_n 3, 1) := by decide +kernel
theorem dX11_town_35 : decode cX11_town 35 = .ok (.ireturn, 1) := by decide +kernel
theorem dX11_office_0 : decode cX11_office 0 = .ok (.iload_n 1, 1) := by decide +kernel
theorem dX11_office_1 : decode cX11_office 1 = .ok (.iconst 0, 1) := by decide +kernel
theorem dX11_office_2 : decode cX11_office 2 = .ok (.iconst 5, 1) := by decide +kernel
theorem dX11_office_3 : decode cX11_office 3 = .ok (.invokestatic 79, 3) := by decide +kernel
theorem dX11_office_6 : decode cX11_office 6 = .ok (.ifCond .eq 11, 3) := by decide +kernel
theorem dX11_office_9 : decode cX11_office 9 = .ok (.iload_n 2, 1) := by decide +kernel
theorem dX11_office_10 : decode cX11_office 10 = .ok (.iload_n 3, 1) := by decide +kernel
theorem dX11_office_11 : decode cX11_office 11 = .ok (.invokestatic 83, 3) := by decide +kernel
theorem dX11_office_14 : decode cX11_office 14 = .ok (.ifCond .ne 5, 3) := by decide +kernel
theorem dX11_office_17 : decode cX11_office 17 = .ok (.iconst (-1), 1) := by decide +kernel
theorem dX11_office_18 : decode cX11_office 18 = .ok (.ireturn, 1) := by decide +kernel
theorem dX11_office_19 : decode cX11_office 19 = .ok (.aload_n 0, 1) := by decide +kernel
theorem dX11_office_20 : decode cX11_office 20 = .ok (.getfield 72, 3) := by decide +kernel
theorem dX11_office_23 : decode cX11_office 23 = .ok (.bipush 8, 2) := by decide +kernel
theorem dX11_office_25 : decode cX11_office 25 = .ok (.if_icmp .lt 6, 3) := by decide +kernel
theorem dX11_office_28 : decode cX11_office 28 = .ok (.bipush (-3), 2) := by decide +kernel
theorem dX11_office_30 : decode cX11_office 30 = .ok (.ireturn, 1) := by decide +kernel
theorem dX11_office_31 : decode cX11_office 31 = .ok (.aload_n 0, 1) := by decide +kernel
theorem dX11_office_32 : decode cX11_office 32 = .ok (.getfield 15, 3) := by decide +kernel
theorem dX11_office_35 : decode cX11_office 35 = .ok (.aload_n 0, 1) := by decide +kernel
theorem dX11_office_36 : decode cX11_office 36 = .ok (.getfield 72, 3) := by decide +kernel
theorem dX11_office_39 : decode cX11_office 39 = .ok (.new 13, 3) := by decide +kernel
theorem dX11_office_42 : decode cX11_office 42 = .ok (.dup, 1) := by decide +kernel
theorem dX11_office_43 : decode cX11_office 43 = .ok (.iload_n 1, 1) := by decide +kernel
theorem dX11_office_44 : decode cX11_office 44 = .ok (.iload_n 2, 1) := by decide +kernel
theorem dX11_office_45 : decode cX11_office 45 = .ok (.iload_n 3, 1) := by decide +kernel
theorem dX11_office_46 : decode cX11_office 46 = .ok (.invokespecial 87, 3) := by decide +kernel
theorem dX11_office_49 : decode cX11_office 49 = .ok (.aastore, 1) := by decide +kernel
theorem dX11_office_50 : decode cX11_office 50 = .ok (.aload_n 0, 1) := by decide +kernel
theorem dX11_office_51 : decode cX11_office 51 = .ok (.dup, 1) := by decide +kernel
theorem dX11_office_52 : decode cX11_office 52 = .ok (.getfield 72, 3) := by decide +kernel
theorem dX11_office_55 : decode cX11_office 55 = .ok (.dup_x1, 1) := by decide +kernel
theorem dX11_office_56 : decode cX11_office 56 = .ok (.iconst 1, 1) := by decide +kernel
theorem dX11_office_57 : decode cX11_office 57 = .ok (.iadd, 1) := by decide +kernel
theorem dX11_office_58 : decode cX11_office 58 = .ok (.putfield 72, 3) := by decide +kernel
theorem dX11_office_61 : decode cX11_office 61 = .ok (.ireturn, 1) := by decide +kernel
theorem dX11_die_0 : decode cX11_die 0 = .ok (.iload_n 1, 1) := by decide +kernel
theorem dX11_die_1 : decode cX11_die 1 = .ok (.iconst 0, 1) := by decide +kernel
theorem dX11_die_2 : decode cX11_die 2 = .ok (.aload_n 0, 1) := by decide +kernel
theorem dX11_die_3 : decode cX11_die 3 = .ok (.getfield 72, 3) := by decide +kernel
theorem dX11_die_6 : decode cX11_die 6 = .ok (.iconst 1, 1) := by decide +kernel
theorem dX11_die_7 : decode cX11_die 7 = .ok (.isub, 1) := by decide +kernel
theorem dX11_die_8 : decode cX11_die 8 = .ok (.invokestatic 79, 3) := by decide +kernel
theorem dX11_die_11 : decode cX11_die 11 = .ok (.ifCond .eq 13, 3) := by decide +kernel
theorem dX11_die_14 : decode cX11_die 14 = .ok (.iload_n 2, 1) := by decide +kernel
theorem dX11_die_15 : decode cX11_die 15 = .ok (.iconst 0, 1) := by decide +kernel
theorem dX11_die_16 : decode cX11_die 16 = .ok (.bipush 15, 2) := by decide +kernel
theorem dX11_die_18 : decode cX11_die 18 = .ok (.invokestatic 79, 3) := by decide +kernel
theorem dX11_die_21 : decode cX11_die 21 = .ok (.ifCond .ne 5, 3) := by decide +kernel
theorem dX11_die_24 : decode cX11_die 24 = .ok (.iconst (-1), 1) := by decide +kernel
theorem dX11_die_25 : decode cX11_die 25 = .ok (.ireturn, 1) := by decide +kernel
theorem dX11_die_26 : decode cX11_die 26 = .ok (.iload_n 3, 1) := by decide +kernel
theorem dX11_die_27 : decode cX11_die 27 = .ok (.iload 4, 2) := by decide +kernel
theorem dX11_die_29 : decode cX11_die 29 = .ok (.invokestatic 83, 3) := by decide +kernel
theorem dX11_die_32 : decode cX11_die 32 = .ok (.ifCond .eq 11, 3) := by decide +kernel
theorem dX11_die_35 : decode cX11_die 35 = .ok (.iload 5, 2) := by decide +kernel
theorem dX11_die_37 : decode cX11_die 37 = .ok (.invokestatic 90, 3) := by decide +kernel
theorem dX11_die_40 : decode cX11_die 40 = .ok (.ifCond .ne 5, 3) := by decide +kernel
theorem dX11_die_43 : decode cX11_die 43 = .ok (.iconst (-1), 1) := by decide +kernel
theorem dX11_die_44 : decode cX11_die 44 = .ok (.ireturn, 1) := by decide +kernel
theorem dX11_die_45 : decode cX11_die 45 = .ok (.aload_n 0, 1) := by decide +kernel
theorem dX11_die_46 : decode cX11_die 46 = .ok (.getfield 76, 3) := by decide +kernel
theorem dX11_die_49 : decode cX11_die 49 = .ok (.bipush 12, 2) := by decide +kernel
theorem dX11_die_51 : decode cX11_die 51 = .ok (.if_icmp .lt 6, 3) := by decide +kernel
theorem dX11_die_54 : decode cX11_die 54 = .ok (.bipush (-3), 2) := by decide +kernel
theorem dX11_die_56 : decode cX11_die 56 = .ok (.ireturn, 1) := by decide +kernel
theorem dX11_die_57 : decode cX11_die 57 = .ok (.aload_n 0, 1) := by decide +kernel
theorem dX11_die_58 : decode cX11_die 58 = .ok (.getfield 21, 3) := by decide +kernel
theorem dX11_die_61 : decode cX11_die 61 = .ok (.aload_n 0, 1) := by decide +kernel
theorem dX11_die_62 : decode cX11_die 62 = .ok (.getfield 76, 3) := by decide +kernel
theorem dX11_die_65 : decode cX11_die 65 = .ok (.new 19, 3) := by decide +kernel
theorem dX11_die_68 : decode cX11_die 68 = .ok (.dup, 1) := by decide +kernel
theorem dX11_die_69 : decode cX11_die 69 = .ok (.aload_n 0, 1) := by decide +kernel
theorem dX11_die_70 : decode cX11_die 70 = .ok (.getfield 15, 3) := by decide +kernel
theorem dX11_die_73 : decode cX11_die 73 = .ok (.iload_n 1, 1) := by decide +kernel
theorem dX11_die_74 : decode cX11_die 74 = .ok (.aaload, 1) := by decide +kernel
theorem dX11_die_75 : decode cX11_die 75 = .ok (.iload_n 2, 1) := by decide +kernel
theorem dX11_die_76 : decode cX11_die 76 = .ok (.iload_n 3, 1) := by decide +kernel
theorem dX11_die_77 : decode cX11_die 77 = .ok (.iload 4, 2) := by decide +kernel
theorem dX11_die_79 : decode cX11_die 79 = .ok (.iload 5, 2) := by decide +kernel
theorem dX11_die_81 : decode cX11_die 81 = .ok (.invokespecial 94, 3) := by decide +kernel
theorem dX11_die_84 : decode cX11_die 84 = .ok (.aastore, 1) := by decide +kernel
theorem dX11_die_85 : decode cX11_die 85 = .ok (.aload_n 0, 1) := by decide +kernel
theorem dX11_die_86 : decode cX11_die 86 = .ok (.dup, 1) := by decide +kernel
theorem dX11_die_87 : decode cX11_die 87 = .ok (.getfield 76, 3) := by decide +kernel
theorem dX11_die_90 : decode cX11_die 90 = .ok (.dup_x1, 1) := by decide +kernel
theorem dX11_die_91 : decode cX11_die 91 = .ok (.iconst 1, 1) := by decide +kernel
theorem dX11_die_92 : decode cX11_die 92 = .ok (.iadd, 1) := by decide +kernel
theorem dX11_die_93 : decode cX11_die 93 = .ok (.putfield 76, 3) := by decide +kernel
theorem dX11_die_96 : decode cX11_die 96 = .ok (.ireturn, 1) := by decide +kernel
theorem dX11_mark_0 : decode cX11_mark 0 = .ok (.iload_n 1, 1) := by decide +kernel
theorem dX11_mark_1 : decode cX11_mark 1 = .ok (.invokestatic 97, 3) := by decide +kernel
theorem dX11_mark_4 : decode cX11_mark 4 = .ok (.ifCond .eq 20, 3) := by decide +kernel
theorem dX11_mark_7 : decode cX11_mark 7 = .ok (.iload_n 2, 1) := by decide +kernel
theorem dX11_mark_8 : decode cX11_mark 8 = .ok (.iconst 0, 1) := by decide +kernel
theorem dX11_mark_9 : decode cX11_mark 9 = .ok (.iconst 5, 1) := by decide +kernel
theorem dX11_mark_10 : decode cX11_mark 10 = .ok (.invokestatic 79, 3) := by decide +kernel
theorem dX11_mark_13 : decode cX11_mark 13 = .ok (.ifCond .eq 11, 3) := by decide +kernel
theorem dX11_mark_16 : decode cX11_mark 16 = .ok (.iload 8, 2) := by decide +kernel
theorem dX11_mark_18 : decode cX11_mark 18 = .ok (.invokestatic 100, 3) := by decide +kernel
theorem dX11_mark_21 : decode cX11_mark 21 = .ok (.ifCond .ne 5, 3) := by decide +kernel
theorem dX11_mark_24 : decode cX11_mark 24 = .ok (.iconst (-1), 1) := by decide +kernel
theorem dX11_mark_25 : decode cX11_mark 25 = .ok (.ireturn, 1) := by decide +kernel
theorem dX11_mark_26 : decode cX11_mark 26 = .ok (.iload_n 3, 1) := by decide +kernel
theorem dX11_mark_27 : decode cX11_mark 27 = .ok (.bipush (-9), 2) := by decide +kernel
theorem dX11_mark_29 : decode cX11_mark 29 = .ok (.if_icmp .eq 19, 3) := by decide +kernel
theorem dX11_mark_32 : decode cX11_mark 32 = .ok (.iload_n 3, 1) := by decide +kernel
theorem dX11_mark_33 : decode cX11_mark 33 = .ok (.iconst 0, 1) := by decide +kernel
theorem dX11_mark_34 : decode cX11_mark 34 = .ok (.aload_n 0, 1) := by decide +kernel
theorem dX11_mark_35 : decode cX11_mark 35 = .ok (.getfield 76, 3) := by decide +kernel
theorem dX11_mark_38 : decode cX11_mark 38 = .ok (.iconst 1, 1) := by decide +kernel
theorem dX11_mark_39 : decode cX11_mark 39 = .ok (.isub, 1) := by decide +kernel
theorem dX11_mark_40 : decode cX11_mark 40 = .ok (.invokestatic 79, 3) := by decide +kernel
theorem dX11_mark_43 : decode cX11_mark 43 = .ok (.ifCond .ne 5, 3) := by decide +kernel
theorem dX11_mark_46 : decode cX11_mark 46 = .ok (.iconst (-1), 1) := by decide +kernel
theorem dX11_mark_47 : decode cX11_mark 47 = .ok (.ireturn, 1) := by decide +kernel
theorem dX11_mark_48 : decode cX11_mark 48 = .ok (.iload 4, 2) := by decide +kernel
theorem dX11_mark_50 : decode cX11_mark 50 = .ok (.iconst 0, 1) := by decide +kernel
theorem dX11_mark_51 : decode cX11_mark 51 = .ok (.iconst 3, 1) := by decide +kernel
theorem dX11_mark_52 : decode cX11_mark 52 = .ok (.invokestatic 79, 3) := by decide +kernel
theorem dX11_mark_55 : decode cX11_mark 55 = .ok (.ifCond .eq 20, 3) := by decide +kernel
theorem dX11_mark_58 : decode cX11_mark 58 = .ok (.iload 5, 2) := by decide +kernel
theorem dX11_mark_60 : decode cX11_mark 60 = .ok (.bipush (-9), 2) := by decide +kernel
theorem dX11_mark_62 : decode cX11_mark 62 = .ok (.if_icmp .eq 15, 3) := by decide +kernel
theorem dX11_mark_65 : decode cX11_mark 65 = .ok (.iload 5, 2) := by decide +kernel
theorem dX11_mark_67 : decode cX11_mark 67 = .ok (.iconst 0, 1) := by decide +kernel
theorem dX11_mark_68 : decode cX11_mark 68 = .ok (.iconst 1, 1) := by decide +kernel
theorem dX11_mark_69 : decode cX11_mark 69 = .ok (.invokestatic 79, 3) := by decide +kernel
theorem dX11_mark_72 : decode cX11_mark 72 = .ok (.ifCond .ne 5, 3) := by decide +kernel
theorem dX11_mark_75 : decode cX11_mark 75 = .ok (.iconst (-1), 1) := by decide +kernel
theorem dX11_mark_76 : decode cX11_mark 76 = .ok (.ireturn, 1) := by decide +kernel
theorem dX11_mark_77 : decode cX11_mark 77 = .ok (.iload 6, 2) := by decide +kernel
theorem dX11_mark_79 : decode cX11_mark 79 = .ok (.invokestatic 103, 3) := by decide +kernel
theorem dX11_mark_82 : decode cX11_mark 82 = .ok (.ifCond .eq 22, 3) := by decide +kernel
theorem dX11_mark_85 : decode cX11_mark 85 = .ok (.iload 7, 2) := by decide +kernel
theorem dX11_mark_87 : decode cX11_mark 87 = .ok (.bipush (-9), 2) := by decide +kernel
theorem dX11_mark_89 : decode cX11_mark 89 = .ok (.if_icmp .eq 17, 3) := by decide +kernel
theorem dX11_mark_92 : decode cX11_mark 92 = .ok (.iload 7, 2) := by decide +kernel
theorem dX11_mark_94 : decode cX11_mark 94 = .ok (.iconst 0, 1) := by decide +kernel
theorem dX11_mark_95 : decode cX11_mark 95 = .ok (.sipush 999, 3) := by decide +kernel
theorem dX11_mark_98 : decode cX11_mark 98 = .ok (.invokestatic 79, 3) := by decide +kernel
theorem dX11_mark_101 : decode cX11_mark 101 = .ok (.ifCond .ne 5, 3) := by decide +kernel
theorem dX11_mark_104 : decode cX11_mark 104 = .ok (.iconst (-1), 1) := by decide +kernel
theorem dX11_mark_105 : decode cX11_mark 105 = .ok (.ireturn, 1) := by decide +kernel
theorem dX11_mark_106 : decode cX11_mark 106 = .ok (.aload_n 0, 1) := by decide +kernel
theorem dX11_mark_107 : decode cX11_mark 107 = .ok (.getfield 28, 3) := by decide +kernel
theorem dX11_mark_110 : decode cX11_mark 110 = .ok (.getfield 106, 3) := by decide +kernel
theorem dX11_mark_113 : decode cX11_mark 113 = .ok (.bipush 40, 2) := by decide +kernel
theorem dX11_mark_115 : decode cX11_mark 115 = .ok (.if_icmp .lt 6, 3) := by decide +kernel
theorem dX11_mark_118 : decode cX11_mark 118 = .ok (.bipush (-3), 2) := by decide +kernel
theorem dX11_mark_120 : decode cX11_mark 120 = .ok (.ireturn, 1) := by decide +kernel
theorem dX11_mark_121 : decode cX11_mark 121 = .ok (.new 109, 3) := by decide +kernel
theorem dX11_mark_124 : decode cX11_mark 124 = .ok (.dup, 1) := by decide +kernel
theorem dX11_mark_125 : decode cX11_mark 125 = .ok (.iload_n 1, 1) := by decide +kernel
theorem dX11_mark_126 : decode cX11_mark 126 = .ok (.iload_n 2, 1) := by decide +kernel
theorem dX11_mark_127 : decode cX11_mark 127 = .ok (.iload 8, 2) := by decide +kernel
theorem dX11_mark_129 : decode cX11_mark 129 = .ok (.invokespecial 111, 3) := by decide +kernel
theorem dX11_mark_132 : decode cX11_mark 132 = .ok (.astore 9, 2) := by decide +kernel
theorem dX11_mark_134 : decode cX11_mark 134 = .ok (.aload 9, 2) := by decide +kernel
theorem dX11_mark_136 : decode cX11_mark 136 = .ok (.iload 6, 2) := by decide +kernel
theorem dX11_mark_138 : decode cX11_mark 138 = .ok (.iload 7, 2) := by decide +kernel
theorem dX11_mark_140 : decode cX11_mark 140 = .ok (.invokevirtual 112, 3) := by decide +kernel
theorem dX11_mark_143 : decode cX11_mark 143 = .ok (.aload 9, 2) := by decide +kernel
theorem dX11_mark_145 : decode cX11_mark 145 = .ok (.iload_n 3, 1) := by decide +kernel
theorem dX11_mark_146 : decode cX11_mark 146 = .ok (.iload_n 3, 1) := by decide +kernel
theorem dX11_mark_147 : decode cX11_mark 147 = .ok (.bipush (-9), 2) := by decide +kernel
theorem dX11_mark_149 : decode cX11_mark 149 = .ok (.if_icmp .ne 7, 3) := by decide +kernel
theorem dX11_mark_152 : decode cX11_mark 152 = .ok (.aconst_null, 1) := by decide +kernel
theorem dX11_mark_153 : decode cX11_mark 153 = .ok (.goto 9, 3) := by decide +kernel
theorem dX11_mark_156 : decode cX11_mark 156 = .ok (.aload_n 0, 1) := by decide +kernel
theorem dX11_mark_157 : decode cX11_mark 157 = .ok (.getfield 21, 3) := by decide +kernel
theorem dX11_mark_160 : decode cX11_mark 160 = .ok (.iload_n 3, 1) := by decide +kernel
theorem dX11_mark_161 : decode cX11_mark 161 = .ok (.aaload, 1) := by decide +kernel
theorem dX11_mark_162 : decode cX11_mark 162 = .ok (.iload 4, 2) := by decide +kernel
theorem dX11_mark_164 : decode cX11_mark 164 = .ok (.iload 5, 2) := by decide +kernel
theorem dX11_mark_166 : decode cX11_mark 166 = .ok (.invokevirtual 116, 3) := by decide +kernel
theorem dX11_mark_169 : decode cX11_mark 169 = .ok (.aload 9, 2) := by decide +kernel
theorem dX11_mark_171 : decode cX11_mark 171 = .ok (.invokevirtual 120, 3) := by decide +kernel
theorem dX11_mark_174 : decode cX11_mark 174 = .ok (.aload_n 0, 1) := by decide +kernel
theorem dX11_mark_175 : decode cX11_mark 175 = .ok (.getfield 28, 3) := by decide +kernel
theorem dX11_mark_178 : decode cX11_mark 178 = .ok (.aload 9, 2) := by decide +kernel
theorem dX11_mark_180 : decode cX11_mark 180 = .ok (.invokevirtual 123, 3) := by decide +kernel
theorem dX11_mark_183 : decode cX11_mark 183 = .ok (.ireturn, 1) := by decide +kernel
theorem dX11_lean_0 : decode cX11_lean 0 = .ok (.iload_n 1, 1) := by decide +kernel
theorem dX11_lean_1 : decode cX11_lean 1 = .ok (.iconst 0, 1) := by decide +kernel
theorem dX11_lean_2 : decode cX11_lean 2 = .ok (.iconst 5, 1) := by decide +kernel
theorem dX11_lean_3 : decode cX11_lean 3 = .ok (.invokestatic 79, 3) := by decide +kernel
theorem dX11_lean_6 : decode cX11_lean 6 = .ok (.ifCond .eq 11, 3) := by decide +kernel
theorem dX11_lean_9 : decode cX11_lean 9 = .ok (.aload_n 0, 1) := by decide +kernel
theorem dX11_lean_10 : decode cX11_lean 10 = .ok (.iload_n 2, 1) := by decide +kernel
theorem dX11_lean_11 : decode cX11_lean 11 = .ok (.invokevirtual 127, 3) := by decide +kernel
theorem dX11_lean_14 : decode cX11_lean 14 = .ok (.ifCond .ne 5, 3) := by decide +kernel
theorem dX11_lean_17 : decode cX11_lean 17 = .ok (.iconst (-1), 1) := by decide +kernel
theorem dX11_lean_18 : decode cX11_lean 18 = .ok (.ireturn, 1) := by decide +kernel
theorem dX11_lean_19 : decode cX11_lean 19 = .ok (.aload_n 0, 1) := by decide +kernel
theorem dX11_lean_20 : decode cX11_lean 20 = .ok (.getfield 35, 3) := by decide +kernel
theorem dX11_lean_23 : decode cX11_lean 23 = .ok (.iload_n 1, 1) := by decide +kernel
theorem dX11_lean_24 : decode cX11_lean 24 = .ok (.aload_n 0, 1) := by decide +kernel
theorem dX11_lean_25 : decode cX11_lean 25 = .ok (.getfield 28, 3) := by decide +kernel
theorem dX11_lean_28 : decode cX11_lean 28 = .ok (.getfield 130, 3) := by decide +kernel
theorem dX11_lean_31 : decode cX11_lean 31 = .ok (.iload_n 2, 1) := by decide +kernel
theorem dX11_lean_32 : decode cX11_lean 32 = .ok (.aaload, 1) := by decide +kernel
theorem dX11_lean_33 : decode cX11_lean 33 = .ok (.invokevirtual 134, 3) := by decide +kernel
theorem dX11_lean_36 : decode cX11_lean 36 = .ok (.ireturn, 1) := by decide +kernel
theorem dX11_about_0 : decode cX11_about 0 = .ok (.aload_n 0, 1) := by decide +kernel
theorem dX11_about_1 : decode cX11_about 1 = .ok (.iload_n 1, 1) := by decide +kernel
theorem dX11_about_2 : decode cX11_about 2 = .ok (.invokevirtual 127, 3) := by decide +kernel
theorem dX11_about_5 : decode cX11_about 5 = .ok (.ifCond .eq 12, 3) := by decide +kernel
theorem dX11_about_8 : decode cX11_about 8 = .ok (.iload_n 2, 1) := by decide +kernel
theorem dX11_about_9 : decode cX11_about 9 = .ok (.iconst 0, 1) := by decide +kernel
theorem dX11_about_10 : decode cX11_about 10 = .ok (.iconst 4, 1) := by decide +kernel
theorem dX11_about_11 : decode cX11_about 11 = .ok (.invokestatic 79, 3) := by decide +kernel
theorem dX11_about_14 : decode cX11_about 14 = .ok (.ifCond .ne 5, 3) := by decide +kernel
theorem dX11_about_17 : decode cX11_about 17 = .ok (.iconst (-1), 1) := by decide +kernel
theorem dX11_about_18 : decode cX11_about 18 = .ok (.ireturn, 1) := by decide +kernel
theorem dX11_about_19 : decode cX11_about 19 = .ok (.aload_n 0, 1) := by decide +kernel
theorem dX11_about_20 : decode cX11_about 20 = .ok (.getfield 28, 3) := by decide +kernel
theorem dX11_about_23 : decode cX11_about 23 = .ok (.getfield 130, 3) := by decide +kernel
theorem dX11_about_26 : decode cX11_about 26 = .ok (.iload_n 1, 1) := by decide +kernel
theorem dX11_about_27 : decode cX11_about 27 = .ok (.aaload, 1) := by decide +kernel
theorem dX11_about_28 : decode cX11_about 28 = .ok (.astore_n 3, 1) := by decide +kernel
theorem dX11_about_29 : decode cX11_about 29 = .ok (.iload_n 2, 1) := by decide +kernel
theorem dX11_about_30 : decode cX11_about 30 = .ok (.tableswitch 50 0 3 #[30, 35, 40, 45], 30) := by decide +kernel
theorem dX11_about_60 : decode cX11_about 60 = .ok (.aload_n 3, 1) := by decide +kernel
theorem dX11_about_61 : decode cX11_about 61 = .ok (.getfield 138, 3) := by decide +kernel
theorem dX11_about_64 : decode cX11_about 64 = .ok (.ireturn, 1) := by decide +kernel
theorem dX11_about_65 : decode cX11_about 65 = .ok (.aload_n 3, 1) := by decide +kernel
theorem dX11_about_66 : decode cX11_about 66 = .ok (.getfield 141, 3) := by decide +kernel
theorem dX11_about_69 : decode cX11_about 69 = .ok (.ireturn, 1) := by decide +kernel
theorem dX11_about_70 : decode cX11_about 70 = .ok (.aload_n 3, 1) := by decide +kernel
theorem dX11_about_71 : decode cX11_about 71 = .ok (.getfield 144, 3) := by decide +kernel
theorem dX11_about_74 : decode cX11_about 74 = .ok (.ireturn, 1) := by decide +kernel
theorem dX11_about_75 : decode cX11_about 75 = .ok (.aload_n 3, 1) := by decide +kernel
theorem dX11_about_76 : decode cX11_about 76 = .ok (.getfield 147, 3) := by decide +kernel
theorem dX11_about_79 : decode cX11_about 79 = .ok (.ireturn, 1) := by decide +kernel
theorem dX11_about_80 : decode cX11_about 80 = .ok (.aload_n 3, 1) := by decide +kernel
theorem dX11_about_81 : decode cX11_about 81 = .ok (.getfield 150, 3) := by decide +kernel
theorem dX11_about_84 : decode cX11_about 84 = .ok (.ireturn, 1) := by decide +kernel
theorem dX11_span_0 : decode cX11_span 0 = .ok (.aload_n 0, 1) := by decide +kernel
theorem dX11_span_1 : decode cX11_span 1 = .ok (.iload_n 1, 1) := by decide +kernel
theorem dX11_span_2 : decode cX11_span 2 = .ok (.invokevirtual 127, 3) := by decide +kernel
theorem dX11_span_5 : decode cX11_span 5 = .ok (.ifCond .eq 12, 3) := by decide +kernel
theorem dX11_span_8 : decode cX11_span 8 = .ok (.iload_n 2, 1) := by decide +kernel
theorem dX11_span_9 : decode cX11_span 9 = .ok (.iconst 0, 1) := by decide +kernel
theorem dX11_span_10 : decode cX11_span 10 = .ok (.iconst 2, 1) := by decide +kernel
theorem dX11_span_11 : decode cX11_span 11 = .ok (.invokestatic 79, 3) := by decide +kernel
theorem dX11_span_14 : decode cX11_span 14 = .ok (.ifCond .ne 5, 3) := by decide +kernel
theorem dX11_span_17 : decode cX11_span 17 = .ok (.iconst (-1), 1) := by decide +kernel
theorem dX11_span_18 : decode cX11_span 18 = .ok (.ireturn, 1) := by decide +kernel
theorem dX11_span_19 : decode cX11_span 19 = .ok (.aload_n 0, 1) := by decide +kernel
theorem dX11_span_20 : decode cX11_span 20 = .ok (.getfield 28, 3) := by decide +kernel
theorem dX11_span_23 : decode cX11_span 23 = .ok (.getfield 130, 3) := by decide +kernel
theorem dX11_span_26 : decode cX11_span 26 = .ok (.iload_n 1, 1) := by decide +kernel
theorem dX11_span_27 : decode cX11_span 27 = .ok (.aaload, 1) := by decide +kernel
theorem dX11_span_28 : decode cX11_span 28 = .ok (.getfield 153, 3) := by decide +kernel
theorem dX11_span_31 : decode cX11_span 31 = .ok (.astore_n 3, 1) := by decide +kernel
theorem dX11_span_32 : decode cX11_span 32 = .ok (.iload_n 2, 1) := by decide +kernel
theorem dX11_span_33 : decode cX11_span 33 = .ok (.lookupswitch 38 #[(0, 27), (1, 32)], 27) := by decide +kernel
theorem dX11_span_60 : decode cX11_span 60 = .ok (.aload_n 3, 1) := by decide +kernel
theorem dX11_span_61 : decode cX11_span 61 = .ok (.invokevirtual 157, 3) := by decide +kernel
theorem dX11_span_64 : decode cX11_span 64 = .ok (.ireturn, 1) := by decide +kernel
theorem dX11_span_65 : decode cX11_span 65 = .ok (.aload_n 3, 1) := by decide +kernel
theorem dX11_span_66 : decode cX11_span 66 = .ok (.iconst 0, 1) := by decide +kernel
theorem dX11_span_67 : decode cX11_span 67 = .ok (.invokevirtual 163, 3) := by decide +kernel
theorem dX11_span_70 : decode cX11_span 70 = .ok (.ireturn, 1) := by decide +kernel
theorem dX11_span_71 : decode cX11_span 71 = .ok (.aload_n 3, 1) := by decide +kernel
theorem dX11_span_72 : decode cX11_span 72 = .ok (.sipush 999, 3) := by decide +kernel
theorem dX11_span_75 : decode cX11_span 75 = .ok (.invokevirtual 167, 3) := by decide +kernel
theorem dX11_span_78 : decode cX11_span 78 = .ok (.ireturn, 1) := by decide +kernel
theorem dX11_can_0 : decode cX11_can 0 = .ok (.aload_n 0, 1) := by decide +kernel
theorem dX11_can_1 : decode cX11_can 1 = .ok (.iload_n 1, 1) := by decide +kernel
theorem dX11_can_2 : decode cX11_can 2 = .ok (.invokevirtual 127, 3) := by decide +kernel
theorem dX11_can_5 : decode cX11_can 5 = .ok (.ifCond .eq 10, 3) := by decide +kernel
theorem dX11_can_8 : decode cX11_can 8 = .ok (.iload_n 2, 1) := by decide +kernel
theorem dX11_can_9 : decode cX11_can 9 = .ok (.invokestatic 100, 3) := by decide +kernel
theorem dX11_can_12 : decode cX11_can 12 = .ok (.ifCond .ne 5, 3) := by decide +kernel
theorem dX11_can_15 : decode cX11_can 15 = .ok (.iconst (-1), 1) := by decide +kernel
theorem dX11_can_16 : decode cX11_can 16 = .ok (.ireturn, 1) := by decide +kernel
theorem dX11_can_17 : decode cX11_can 17 = .ok (.aload_n 0, 1) := by decide +kernel
theorem dX11_can_18 : decode cX11_can 18 = .ok (.getfield 28, 3) := by decide +kernel
theorem dX11_can_21 : decode cX11_can 21 = .ok (.getfield 130, 3) := by decide +kernel
theorem dX11_can_24 : decode cX11_can 24 = .ok (.iload_n 1, 1) := by decide +kernel
theorem dX11_can_25 : decode cX11_can 25 = .ok (.aaload, 1) := by decide +kernel
theorem dX11_can_26 : decode cX11_can 26 = .ok (.getfield 153, 3) := by decide +kernel
theorem dX11_can_29 : decode cX11_can 29 = .ok (.iload_n 2, 1) := by decide +kernel
theorem dX11_can_30 : decode cX11_can 30 = .ok (.invokevirtual 170, 3) := by decide +kernel
theorem dX11_can_33 : decode cX11_can 33 = .ok (.ifCond .eq 7, 3) := by decide +kernel
theorem dX11_can_36 : decode cX11_can 36 = .ok (.iconst 1, 1) := by decide +kernel
theorem dX11_can_37 : decode cX11_can 37 = .ok (.goto 4, 3) := by decide +kernel
theorem dX11_can_40 : decode cX11_can 40 = .ok (.iconst 0, 1) := by decide +kernel
theorem dX11_can_41 : decode cX11_can 41 = .ok (.ireturn, 1) := by decide +kernel
theorem dX11_marks_0 : decode cX11_marks 0 = .ok (.iload_n 1, 1) := by decide +kernel
theorem dX11_marks_1 : decode cX11_marks 1 = .ok (.invokestatic 97, 3) := by decide +kernel
theorem dX11_marks_4 : decode cX11_marks 4 = .ok (.ifCond .eq 10, 3) := by decide +kernel
theorem dX11_marks_7 : decode cX11_marks 7 = .ok (.iload_n 2, 1) := by decide +kernel
theorem dX11_marks_8 : decode cX11_marks 8 = .ok (.invokestatic 100, 3) := by decide +kernel
theorem dX11_marks_11 : decode cX11_marks 11 = .ok (.ifCond .ne 5, 3) := by decide +kernel
theorem dX11_marks_14 : decode cX11_marks 14 = .ok (.iconst (-1), 1) := by decide +kernel
theorem dX11_marks_15 : decode cX11_marks 15 = .ok (.ireturn, 1) := by decide +kernel
theorem dX11_marks_16 : decode cX11_marks 16 = .ok (.aload_n 0, 1) := by decide +kernel
theorem dX11_marks_17 : decode cX11_marks 17 = .ok (.getfield 28, 3) := by decide +kernel
theorem dX11_marks_20 : decode cX11_marks 20 = .ok (.iload_n 1, 1) := by decide +kernel
theorem dX11_marks_21 : decode cX11_marks 21 = .ok (.iload_n 2, 1) := by decide +kernel
theorem dX11_marks_22 : decode cX11_marks 22 = .ok (.invokevirtual 173, 3) := by decide +kernel
theorem dX11_marks_25 : decode cX11_marks 25 = .ok (.ireturn, 1) := by decide +kernel
theorem dX11_sail_0 : decode cX11_sail 0 = .ok (.iload_n 1, 1) := by decide +kernel
theorem dX11_sail_1 : decode cX11_sail 1 = .ok (.iload_n 2, 1) := by decide +kernel
theorem dX11_sail_2 : decode cX11_sail 2 = .ok (.invokestatic 177, 3) := by decide +kernel
theorem dX11_sail_5 : decode cX11_sail 5 = .ok (.ifCond .eq 12, 3) := by decide +kernel
theorem dX11_sail_8 : decode cX11_sail 8 = .ok (.iload_n 3, 1) := by decide +kernel
theorem dX11_sail_9 : decode cX11_sail 9 = .ok (.iload 4, 2) := by decide +kernel
theorem dX11_sail_11 : decode cX11_sail 11 = .ok (.invokestatic 83, 3) := by decide +kernel
theorem dX11_sail_14 : decode cX11_sail 14 = .ok (.ifCond .ne 5, 3) := by decide +kernel
theorem dX11_sail_17 : decode cX11_sail 17 = .ok (.iconst (-1), 1) := by decide +kernel
theorem dX11_sail_18 : decode cX11_sail 18 = .ok (.ireturn, 1) := by decide +kernel
theorem dX11_sail_19 : decode cX11_sail 19 = .ok (.aload_n 0, 1) := by decide +kernel
theorem dX11_sail_20 : decode cX11_sail 20 = .ok (.getfield 42, 3) := by decide +kernel
theorem dX11_sail_23 : decode cX11_sail 23 = .ok (.getfield 180, 3) := by decide +kernel
theorem dX11_sail_26 : decode cX11_sail 26 = .ok (.bipush 20, 2) := by decide +kernel
theorem dX11_sail_28 : decode cX11_sail 28 = .ok (.if_icmp .lt 6, 3) := by decide +kernel
theorem dX11_sail_31 : decode cX11_sail 31 = .ok (.bipush (-3), 2) := by decide +kernel
theorem dX11_sail_33 : decode cX11_sail 33 = .ok (.ireturn, 1) := by decide +kernel
theorem dX11_sail_34 : decode cX11_sail 34 = .ok (.aload_n 0, 1) := by decide +kernel
theorem dX11_sail_35 : decode cX11_sail 35 = .ok (.getfield 42, 3) := by decide +kernel
theorem dX11_sail_38 : decode cX11_sail 38 = .ok (.iload_n 1, 1) := by decide +kernel
theorem dX11_sail_39 : decode cX11_sail 39 = .ok (.iload_n 2, 1) := by decide +kernel
theorem dX11_sail_40 : decode cX11_sail 40 = .ok (.iload_n 3, 1) := by decide +kernel
theorem dX11_sail_41 : decode cX11_sail 41 = .ok (.iload 4, 2) := by decide +kernel
theorem dX11_sail_43 : decode cX11_sail 43 = .ok (.invokevirtual 183, 3) := by decide +kernel
theorem dX11_sail_46 : decode cX11_sail 46 = .ok (.ireturn, 1) := by decide +kernel
theorem dX11_late_0 : decode cX11_late 0 = .ok (.iload_n 1, 1) := by decide +kernel
theorem dX11_late_1 : decode cX11_late 1 = .ok (.iconst 0, 1) := by decide +kernel
theorem dX11_late_2 : decode cX11_late 2 = .ok (.aload_n 0, 1) := by decide +kernel
theorem dX11_late_3 : decode cX11_late 3 = .ok (.getfield 42, 3) := by decide +kernel
theorem dX11_late_6 : decode cX11_late 6 = .ok (.getfield 180, 3) := by decide +kernel
theorem dX11_late_9 : decode cX11_late 9 = .ok (.iconst 1, 1) := by decide +kernel
theorem dX11_late_10 : decode cX11_late 10 = .ok (.isub, 1) := by decide +kernel
theorem dX11_late_11 : decode cX11_late 11 = .ok (.invokestatic 79, 3) := by decide +kernel
theorem dX11_late_14 : decode cX11_late 14 = .ok (.ifCond .ne 5, 3) := by decide +kernel
theorem dX11_late_17 : decode cX11_late 17 = .ok (.iconst (-1), 1) := by decide +kernel
theorem dX11_late_18 : decode cX11_late 18 = .ok (.ireturn, 1) := by decide +kernel
theorem dX11_late_19 : decode cX11_late 19 = .ok (.iload_n 2, 1) := by decide +kernel
theorem dX11_late_20 : decode cX11_late 20 = .ok (.bipush (-9), 2) := by decide +kernel
theorem dX11_late_22 : decode cX11_late 22 = .ok (.if_icmp .eq 21, 3) := by decide +kernel
theorem dX11_late_25 : decode cX11_late 25 = .ok (.aload_n 0, 1) := by decide +kernel
theorem dX11_late_26 : decode cX11_late 26 = .ok (.getfield 42, 3) := by decide +kernel
theorem dX11_late_29 : decode cX11_late 29 = .ok (.getfield 187, 3) := by decide +kernel
theorem dX11_late_32 : decode cX11_late 32 = .ok (.iload_n 1, 1) := by decide +kernel
theorem dX11_late_33 : decode cX11_late 33 = .ok (.iaload, 1) := by decide +kernel
theorem dX11_late_34 : decode cX11_late 34 = .ok (.iload_n 2, 1) := by decide +kernel
theorem dX11_late_35 : decode cX11_late 35 = .ok (.invokestatic 83, 3) := by decide +kernel
theorem dX11_late_38 : decode cX11_late 38 = .ok (.ifCond .ne 5, 3) := by decide +kernel
theorem dX11_late_41 : decode cX11_late 41 = .ok (.iconst (-1), 1) := by decide +kernel
theorem dX11_late_42 : decode cX11_late 42 = .ok (.ireturn, 1) := by decide +kernel
theorem dX11_late_43 : decode cX11_late 43 = .ok (.aload_n 0, 1) := by decide +kernel
theorem dX11_late_44 : decode cX11_late 44 = .ok (.getfield 42, 3) := by decide +kernel
theorem dX11_late_47 : decode cX11_late 47 = .ok (.getfield 190, 3) := by decide +kernel
theorem dX11_late_50 : decode cX11_late 50 = .ok (.iload_n 1, 1) := by decide +kernel
theorem dX11_late_51 : decode cX11_late 51 = .ok (.iaload, 1) := by decide +kernel
theorem dX11_late_52 : decode cX11_late 52 = .ok (.istore_n 3, 1) := by decide +kernel
theorem dX11_late_53 : decode cX11_late 53 = .ok (.aload_n 0, 1) := by decide +kernel
theorem dX11_late_54 : decode cX11_late 54 = .ok (.getfield 42, 3) := by decide +kernel
theorem dX11_late_57 : decode cX11_late 57 = .ok (.getfield 190, 3) := by decide +kernel
theorem dX11_late_60 : decode cX11_late 60 = .ok (.iload_n 1, 1) := by decide +kernel
theorem dX11_late_61 : decode cX11_late 61 = .ok (.iload_n 2, 1) := by decide +kernel
theorem dX11_late_62 : decode cX11_late 62 = .ok (.iastore, 1) := by decide +kernel
theorem dX11_late_63 : decode cX11_late 63 = .ok (.iload_n 3, 1) := by decide +kernel
theorem dX11_late_64 : decode cX11_late 64 = .ok (.ireturn, 1) := by decide +kernel
theorem dX11_road_0 : decode cX11_road 0 = .ok (.iload_n 1, 1) := by decide +kernel
theorem dX11_road_1 : decode cX11_road 1 = .ok (.iload_n 2, 1) := by decide +kernel
theorem dX11_road_2 : decode cX11_road 2 = .ok (.invokestatic 177, 3) := by decide +kernel
theorem dX11_road_5 : decode cX11_road 5 = .ok (.ifCond .eq 19, 3) := by decide +kernel
theorem dX11_road_8 : decode cX11_road 8 = .ok (.iload_n 3, 1) := by decide +kernel
theorem dX11_road_9 : decode cX11_road 9 = .ok (.bipush (-9), 2) := by decide +kernel
theorem dX11_road_11 : decode cX11_road 11 = .ok (.if_icmp .eq 15, 3) := by decide +kernel
theorem dX11_road_14 : decode cX11_road 14 = .ok (.iload_n 3, 1) := by decide +kernel
theorem dX11_road_15 : decode cX11_road 15 = .ok (.iconst 1, 1) := by decide +kernel
theorem dX11_road_16 : decode cX11_road 16 = .ok (.bipush 30, 2) := by decide +kernel
theorem dX11_road_18 : decode cX11_road 18 = .ok (.invokestatic 79, 3) := by decide +kernel
theorem dX11_road_21 : decode cX11_road 21 = .ok (.ifCond .ne 5, 3) := by decide +kernel
theorem dX11_road_24 : decode cX11_road 24 = .ok (.iconst (-1), 1) := by decide +kernel
theorem dX11_road_25 : decode cX11_road 25 = .ok (.ireturn, 1) := by decide +kernel
theorem dX11_road_26 : decode cX11_road 26 = .ok (.aload_n 0, 1) := by decide +kernel
theorem dX11_road_27 : decode cX11_road 27 = .ok (.getfield 42, 3) := by decide +kernel
theorem dX11_road_30 : decode cX11_road 30 = .ok (.getfield 193, 3) := by decide +kernel
theorem dX11_road_33 : decode cX11_road 33 = .ok (.iload_n 1, 1) := by decide +kernel
theorem dX11_road_34 : decode cX11_road 34 = .ok (.aaload, 1) := by decide +kernel
theorem dX11_road_35 : decode cX11_road 35 = .ok (.iload_n 2, 1) := by decide +kernel
theorem dX11_road_36 : decode cX11_road 36 = .ok (.iaload, 1) := by decide +kernel
theorem dX11_road_37 : decode cX11_road 37 = .ok (.istore 4, 2) := by decide +kernel
theorem dX11_road_39 : decode cX11_road 39 = .ok (.aload_n 0, 1) := by decide +kernel
theorem dX11_road_40 : decode cX11_road 40 = .ok (.getfield 42, 3) := by decide +kernel
theorem dX11_road_43 : decode cX11_road 43 = .ok (.getfield 193, 3) := by decide +kernel
theorem dX11_road_46 : decode cX11_road 46 = .ok (.iload_n 1, 1) := by decide +kernel
theorem dX11_road_47 : decode cX11_road 47 = .ok (.aaload, 1) := by decide +kernel
theorem dX11_road_48 : decode cX11_road 48 = .ok (.iload_n 2, 1) := by decide +kernel
theorem dX11_road_49 : decode cX11_road 49 = .ok (.iload_n 3, 1) := by decide +kernel
theorem dX11_road_50 : decode cX11_road 50 = .ok (.iastore, 1) := by decide +kernel
theorem dX11_road_51 : decode cX11_road 51 = .ok (.aload_n 0, 1) := by decide +kernel
theorem dX11_road_52 : decode cX11_road 52 = .ok (.getfield 42, 3) := by decide +kernel
theorem dX11_road_55 : decode cX11_road 55 = .ok (.getfield 193, 3) := by decide +kernel
theorem dX11_road_58 : decode cX11_road 58 = .ok (.iload_n 2, 1) := by decide +kernel
theorem dX11_road_59 : decode cX11_road 59 = .ok (.aaload, 1) := by decide +kernel
theorem dX11_road_60 : decode cX11_road 60 = .ok (.iload_n 1, 1) := by decide +kernel
theorem dX11_road_61 : decode cX11_road 61 = .ok (.iload_n 3, 1) := by decide +kernel
theorem dX11_road_62 : decode cX11_road 62 = .ok (.iastore, 1) := by decide +kernel
theorem dX11_road_63 : decode cX11_road 63 = .ok (.iload 4, 2) := by decide +kernel
theorem dX11_road_65 : decode cX11_road 65 = .ok (.ireturn, 1) := by decide +kernel
theorem dX11_soonest_0 : decode cX11_soonest 0 = .ok (.iload_n 1, 1) := by decide +kernel
theorem dX11_soonest_1 : decode cX11_soonest 1 = .ok (.iconst 0, 1) := by decide +kernel
theorem dX11_soonest_2 : decode cX11_soonest 2 = .ok (.iconst 5, 1) := by decide +kernel
theorem dX11_soonest_3 : decode cX11_soonest 3 = .ok (.invokestatic 79, 3) := by decide +kernel
theorem dX11_soonest_6 : decode cX11_soonest 6 = .ok (.ifCond .eq 19, 3) := by decide +kernel
theorem dX11_soonest_9 : decode cX11_soonest 9 = .ok (.iload_n 2, 1) := by decide +kernel
theorem dX11_soonest_10 : decode cX11_soonest 10 = .ok (.invokestatic 100, 3) := by decide +kernel
theorem dX11_soonest_13 : decode cX11_soonest 13 = .ok (.ifCond .eq 12, 3) := by decide +kernel
theorem dX11_soonest_16 : decode cX11_soonest 16 = .ok (.iload_n 3, 1) := by decide +kernel
theorem dX11_soonest_17 : decode cX11_soonest 17 = .ok (.iconst 0, 1) := by decide +kernel
theorem dX11_soonest_18 : decode cX11_soonest 18 = .ok (.iconst 5, 1) := by decide +kernel
theorem dX11_soonest_19 : decode cX11_soonest 19 = .ok (.invokestatic 79, 3) := by decide +kernel
theorem dX11_soonest_22 : decode cX11_soonest 22 = .ok (.ifCond .ne 5, 3) := by decide +kernel
theorem dX11_soonest_25 : decode cX11_soonest 25 = .ok (.iconst (-1), 1) := by decide +kernel
theorem dX11_soonest_26 : decode cX11_soonest 26 = .ok (.ireturn, 1) := by decide +kernel
theorem dX11_soonest_27 : decode cX11_soonest 27 = .ok (.aload_n 0, 1) := by decide +kernel
theorem dX11_soonest_28 : decode cX11_soonest 28 = .ok (.getfield 42, 3) := by decide +kernel
theorem dX11_soonest_31 : decode cX11_soonest 31 = .ok (.iload_n 1, 1) := by decide +kernel
theorem dX11_soonest_32 : decode cX11_soonest 32 = .ok (.iload_n 2, 1) := by decide +kernel
theorem dX11_soonest_33 : decode cX11_soonest 33 = .ok (.invokevirtual 197, 3) := by decide +kernel
theorem dX11_soonest_36 : decode cX11_soonest 36 = .ok (.aload_n 0, 1) := by decide +kernel
theorem dX11_soonest_37 : decode cX11_soonest 37 = .ok (.getfield 42, 3) := by decide +kernel
theorem dX11_soonest_40 : decode cX11_soonest 40 = .ok (.getfield 200, 3) := by decide +kernel
theorem dX11_soonest_43 : decode cX11_soonest 43 = .ok (.iload_n 3, 1) := by decide +kernel
theorem dX11_soonest_44 : decode cX11_soonest 44 = .ok (.iaload, 1) := by decide +kernel
theorem dX11_soonest_45 : decode cX11_soonest 45 = .ok (.sipush 1000, 3) := by decide +kernel
theorem dX11_soonest_48 : decode cX11_soonest 48 = .ok (.if_icmp .ge 15, 3) := by decide +kernel
theorem dX11_soonest_51 : decode cX11_soonest 51 = .ok (.aload_n 0, 1) := by decide +kernel
theorem dX11_soonest_52 : decode cX11_soonest 52 = .ok (.getfield 42, 3) := by decide +kernel
theorem dX11_soonest_55 : decode cX11_soonest 55 = .ok (.getfield 200, 3) := by decide +kernel
theorem dX11_soonest_58 : decode cX11_soonest 58 = .ok (.iload_n 3, 1) := by decide +kernel
theorem dX11_soonest_59 : decode cX11_soonest 59 = .ok (.iaload, 1) := by decide +kernel
theorem dX11_soonest_60 : decode cX11_soonest 60 = .ok (.goto 5, 3) := by decide +kernel
theorem dX11_soonest_63 : decode cX11_soonest 63 = .ok (.bipush (-9), 2) := by decide +kernel
theorem dX11_soonest_65 : decode cX11_soonest 65 = .ok (.ireturn, 1) := by decide +kernel
theorem dX11_goes_0 : decode cX11_goes 0 = .ok (.iload_n 1, 1) := by decide +kernel
theorem dX11_goes_1 : decode cX11_goes 1 = .ok (.invokestatic 97, 3) := by decide +kernel
theorem dX11_goes_4 : decode cX11_goes 4 = .ok (.ifCond .eq 10, 3) := by decide +kernel
theorem dX11_goes_7 : decode cX11_goes 7 = .ok (.iload_n 2, 1) := by decide +kernel
theorem dX11_goes_8 : decode cX11_goes 8 = .ok (.invokestatic 100, 3) := by decide +kernel
theorem dX11_goes_11 : decode cX11_goes 11 = .ok (.ifCond .ne 5, 3) := by decide +kernel
theorem dX11_goes_14 : decode cX11_goes 14 = .ok (.iconst (-1), 1) := by decide +kernel
theorem dX11_goes_15 : decode cX11_goes 15 = .ok (.ireturn, 1) := by decide +kernel
theorem dX11_goes_16 : decode cX11_goes 16 = .ok (.aload_n 0, 1) := by decide +kernel
theorem dX11_goes_17 : decode cX11_goes 17 = .ok (.getfield 51, 3) := by decide +kernel
theorem dX11_goes_20 : decode cX11_goes 20 = .ok (.aload_n 0, 1) := by decide +kernel
theorem dX11_goes_21 : decode cX11_goes 21 = .ok (.getfield 28, 3) := by decide +kernel
theorem dX11_goes_24 : decode cX11_goes 24 = .ok (.iload_n 1, 1) := by decide +kernel
theorem dX11_goes_25 : decode cX11_goes 25 = .ok (.iload_n 2, 1) := by decide +kernel
theorem dX11_goes_26 : decode cX11_goes 26 = .ok (.invokevirtual 203, 3) := by decide +kernel
theorem dX11_goes_29 : decode cX11_goes 29 = .ok (.ifCond .ne 6, 3) := by decide +kernel
theorem dX11_goes_32 : decode cX11_goes 32 = .ok (.bipush (-2), 2) := by decide +kernel
theorem dX11_goes_34 : decode cX11_goes 34 = .ok (.ireturn, 1) := by decide +kernel
theorem dX11_goes_35 : decode cX11_goes 35 = .ok (.iload_n 3, 1) := by decide +kernel
theorem dX11_goes_36 : decode cX11_goes 36 = .ok (.iconst 0, 1) := by decide +kernel
theorem dX11_goes_37 : decode cX11_goes 37 = .ok (.iconst 1, 1) := by decide +kernel
theorem dX11_goes_38 : decode cX11_goes 38 = .ok (.aload_n 0, 1) := by decide +kernel
theorem dX11_goes_39 : decode cX11_goes 39 = .ok (.getfield 51, 3) := by decide +kernel
theorem dX11_goes_42 : decode cX11_goes 42 = .ok (.getfield 207, 3) := by decide +kernel
theorem dX11_goes_45 : decode cX11_goes 45 = .ok (.ishl, 1) := by decide +kernel
theorem dX11_goes_46 : decode cX11_goes 46 = .ok (.iconst 1, 1) := by decide +kernel
theorem dX11_goes_47 : decode cX11_goes 47 = .ok (.isub, 1) := by decide +kernel
theorem dX11_goes_48 : decode cX11_goes 48 = .ok (.invokestatic 79, 3) := by decide +kernel
theorem dX11_goes_51 : decode cX11_goes 51 = .ok (.ifCond .ne 5, 3) := by decide +kernel
theorem dX11_goes_54 : decode cX11_goes 54 = .ok (.iconst (-1), 1) := by decide +kernel
theorem dX11_goes_55 : decode cX11_goes 55 = .ok (.ireturn, 1) := by decide +kernel
theorem dX11_goes_56 : decode cX11_goes 56 = .ok (.aload_n 0, 1) := by decide +kernel
theorem dX11_goes_57 : decode cX11_goes 57 = .ok (.getfield 51, 3) := by decide +kernel
theorem dX11_goes_60 : decode cX11_goes 60 = .ok (.iload_n 3, 1) := by decide +kernel
theorem dX11_goes_61 : decode cX11_goes 61 = .ok (.invokevirtual 210, 3) := by decide +kernel
theorem dX11_goes_64 : decode cX11_goes 64 = .ok (.bipush (-9), 2) := by decide +kernel
theorem dX11_goes_66 : decode cX11_goes 66 = .ok (.if_icmp .ne 7, 3) := by decide +kernel
theorem dX11_goes_69 : decode cX11_goes 69 = .ok (.iconst 1, 1) := by decide +kernel
theorem dX11_goes_70 : decode cX11_goes 70 = .ok (.goto 4, 3) := by decide +kernel
theorem dX11_goes_73 : decode cX11_goes 73 = .ok (.iconst 0, 1) := by decide +kernel
theorem dX11_goes_74 : decode cX11_goes 74 = .ok (.ireturn, 1) := by decide +kernel
theorem dX11_when_0 : decode cX11_when 0 = .ok (.iload_n 1, 1) := by decide +kernel
theorem dX11_when_1 : decode cX11_when 1 = .ok (.invokestatic 97, 3) := by decide +kernel
theorem dX11_when_4 : decode cX11_when 4 = .ok (.ifCond .eq 20, 3) := by decide +kernel
theorem dX11_when_7 : decode cX11_when 7 = .ok (.iload_n 2, 1) := by decide +kernel
theorem dX11_when_8 : decode cX11_when 8 = .ok (.invokestatic 100, 3) := by decide +kernel
theorem dX11_when_11 : decode cX11_when 11 = .ok (.ifCond .eq 13, 3) := by decide +kernel
theorem dX11_when_14 : decode cX11_when 14 = .ok (.iload 4, 2) := by decide +kernel
theorem dX11_when_16 : decode cX11_when 16 = .ok (.iconst 0, 1) := by decide +kernel
theorem dX11_when_17 : decode cX11_when 17 = .ok (.iconst 1, 1) := by decide +kernel
theorem dX11_when_18 : decode cX11_when 18 = .ok (.invokestatic 79, 3) := by decide +kernel
theorem dX11_when_21 : decode cX11_when 21 = .ok (.ifCond .ne 5, 3) := by decide +kernel
theorem dX11_when_24 : decode cX11_when 24 = .ok (.iconst (-1), 1) := by decide +kernel
theorem dX11_when_25 : decode cX11_when 25 = .ok (.ireturn, 1) := by decide +kernel
theorem dX11_when_26 : decode cX11_when 26 = .ok (.aload_n 0, 1) := by decide +kernel
theorem dX11_when_27 : decode cX11_when 27 = .ok (.getfield 51, 3) := by decide +kernel
theorem dX11_when_30 : decode cX11_when 30 = .ok (.aload_n 0, 1) := by decide +kernel
theorem dX11_when_31 : decode cX11_when 31 = .ok (.getfield 28, 3) := by decide +kernel
theorem dX11_when_34 : decode cX11_when 34 = .ok (.iload_n 1, 1) := by decide +kernel
theorem dX11_when_35 : decode cX11_when 35 = .ok (.iload_n 2, 1) := by decide +kernel
theorem dX11_when_36 : decode cX11_when 36 = .ok (.invokevirtual 203, 3) := by decide +kernel
theorem dX11_when_39 : decode cX11_when 39 = .ok (.ifCond .ne 6, 3) := by decide +kernel
theorem dX11_when_42 : decode cX11_when 42 = .ok (.bipush (-2), 2) := by decide +kernel
theorem dX11_when_44 : decode cX11_when 44 = .ok (.ireturn, 1) := by decide +kernel
theorem dX11_when_45 : decode cX11_when 45 = .ok (.iload_n 3, 1) := by decide +kernel
theorem dX11_when_46 : decode cX11_when 46 = .ok (.iconst 0, 1) := by decide +kernel
theorem dX11_when_47 : decode cX11_when 47 = .ok (.aload_n 0, 1) := by decide +kernel
theorem dX11_when_48 : decode cX11_when 48 = .ok (.getfield 51, 3) := by decide +kernel
theorem dX11_when_51 : decode cX11_when 51 = .ok (.getfield 207, 3) := by decide +kernel
theorem dX11_when_54 : decode cX11_when 54 = .ok (.iconst 1, 1) := by decide +kernel
theorem dX11_when_55 : decode cX11_when 55 = .ok (.isub, 1) := by decide +kernel
theorem dX11_when_56 : decode cX11_when 56 = .ok (.invokestatic 79, 3) := by decide +kernel
theorem dX11_when_59 : decode cX11_when 59 = .ok (.ifCond .ne 5, 3) := by decide +kernel
theorem dX11_when_62 : decode cX11_when 62 = .ok (.iconst (-1), 1) := by decide +kernel
theorem dX11_when_63 : decode cX11_when 63 = .ok (.ireturn, 1) := by decide +kernel
theorem dX11_when_64 : decode cX11_when 64 = .ok (.aload_n 0, 1) := by decide +kernel
theorem dX11_when_65 : decode cX11_when 65 = .ok (.getfield 51, 3) := by decide +kernel
theorem dX11_when_68 : decode cX11_when 68 = .ok (.iconst 0, 1) := by decide +kernel
theorem dX11_when_69 : decode cX11_when 69 = .ok (.invokevirtual 210, 3) := by decide +kernel
theorem dX11_when_72 : decode cX11_when 72 = .ok (.bipush (-9), 2) := by decide +kernel
theorem dX11_when_74 : decode cX11_when 74 = .ok (.if_icmp .eq 6, 3) := by decide +kernel
theorem dX11_when_77 : decode cX11_when 77 = .ok (.bipush (-9), 2) := by decide +kernel
theorem dX11_when_79 : decode cX11_when 79 = .ok (.ireturn, 1) := by decide +kernel
theorem dX11_when_80 : decode cX11_when 80 = .ok (.iload 4, 2) := by decide +kernel
theorem dX11_when_82 : decode cX11_when 82 = .ok (.ifCond .ne 15, 3) := by decide +kernel
theorem dX11_when_85 : decode cX11_when 85 = .ok (.aload_n 0, 1) := by decide +kernel
theorem dX11_when_86 : decode cX11_when 86 = .ok (.getfield 51, 3) := by decide +kernel
theorem dX11_when_89 : decode cX11_when 89 = .ok (.getfield 213, 3) := by decide +kernel
theorem dX11_when_92 : decode cX11_when 92 = .ok (.iload_n 3, 1) := by decide +kernel
theorem dX11_when_93 : decode cX11_when 93 = .ok (.iaload, 1) := by decide +kernel
theorem dX11_when_94 : decode cX11_when 94 = .ok (.goto 11, 3) := by decide +kernel
theorem dX11_when_97 : decode cX11_when 97 = .ok (.aload_n 0, 1) := by decide +kernel
theorem dX11_when_98 : decode cX11_when 98 = .ok (.getfield 51, 3) := by decide +kernel
theorem dX11_when_101 : decode cX11_when 101 = .ok (.iload_n 3, 1) := by decide +kernel
theorem dX11_when_102 : decode cX11_when 102 = .ok (.invokevirtual 216, 3) := by decide +kernel
theorem dX11_when_105 : decode cX11_when 105 = .ok (.ireturn, 1) := by decide +kernel
theorem dX11_bars_0 : decode cX11_bars 0 = .ok (.iload_n 1, 1) := by decide +kernel
theorem dX11_bars_1 : decode cX11_bars 1 = .ok (.invokestatic 97, 3) := by decide +kernel
theorem dX11_bars_4 : decode cX11_bars 4 = .ok (.ifCond .eq 10, 3) := by decide +kernel
theorem dX11_bars_7 : decode cX11_bars 7 = .ok (.iload_n 2, 1) := by decide +kernel
theorem dX11_bars_8 : decode cX11_bars 8 = .ok (.invokestatic 100, 3) := by decide +kernel
theorem dX11_bars_11 : decode cX11_bars 11 = .ok (.ifCond .ne 5, 3) := by decide +kernel
theorem dX11_bars_14 : decode cX11_bars 14 = .ok (.iconst (-1), 1) := by decide +kernel
theorem dX11_bars_15 : decode cX11_bars 15 = .ok (.ireturn, 1) := by decide +kernel
theorem dX11_bars_16 : decode cX11_bars 16 = .ok (.aload_n 0, 1) := by decide +kernel
theorem dX11_bars_17 : decode cX11_bars 17 = .ok (.getfield 51, 3) := by decide +kernel
theorem dX11_bars_20 : decode cX11_bars 20 = .ok (.aload_n 0, 1) := by decide +kernel
theorem dX11_bars_21 : decode cX11_bars 21 = .ok (.getfield 28, 3) := by decide +kernel
theorem dX11_bars_24 : decode cX11_bars 24 = .ok (.iload_n 1, 1) := by decide +kernel
theorem dX11_bars_25 : decode cX11_bars 25 = .ok (.iload_n 2, 1) := by decide +kernel
theorem dX11_bars_26 : decode cX11_bars 26 = .ok (.invokevirtual 203, 3) := by decide +kernel
theorem dX11_bars_29 : decode cX11_bars 29 = .ok (.ifCond .ne 6, 3) := by decide +kernel
theorem dX11_bars_32 : decode cX11_bars 32 = .ok (.bipush (-2), 2) := by decide +kernel
theorem dX11_bars_34 : decode cX11_bars 34 = .ok (.ireturn, 1) := by decide +kernel
theorem dX11_bars_35 : decode cX11_bars 35 = .ok (.aload_n 0, 1) := by decide +kernel
theorem dX11_bars_36 : decode cX11_bars 36 = .ok (.getfield 51, 3) := by decide +kernel
theorem dX11_bars_39 : decode cX11_bars 39 = .ok (.iconst 0, 1) := by decide +kernel
theorem dX11_bars_40 : decode cX11_bars 40 = .ok (.invokevirtual 210, 3) := by decide +kernel
theorem dX11_bars_43 : decode cX11_bars 43 = .ok (.ireturn, 1) := by decide +kernel
theorem dX11_fewest_0 : decode cX11_fewest 0 = .ok (.iload_n 1, 1) := by decide +kernel
theorem dX11_fewest_1 : decode cX11_fewest 1 = .ok (.invokestatic 97, 3) := by decide +kernel
theorem dX11_fewest_4 : decode cX11_fewest 4 = .ok (.ifCond .eq 19, 3) := by decide +kernel
theorem dX11_fewest_7 : decode cX11_fewest 7 = .ok (.iload_n 2, 1) := by decide +kernel
theorem dX11_fewest_8 : decode cX11_fewest 8 = .ok (.invokestatic 100, 3) := by decide +kernel
theorem dX11_fewest_11 : decode cX11_fewest 11 = .ok (.ifCond .eq 12, 3) := by decide +kernel
theorem dX11_fewest_14 : decode cX11_fewest 14 = .ok (.iload_n 3, 1) := by decide +kernel
theorem dX11_fewest_15 : decode cX11_fewest 15 = .ok (.iconst 0, 1) := by decide +kernel
theorem dX11_fewest_16 : decode cX11_fewest 16 = .ok (.iconst 2, 1) := by decide +kernel
theorem dX11_fewest_17 : decode cX11_fewest 17 = .ok (.invokestatic 79, 3) := by decide +kernel
theorem dX11_fewest_20 : decode cX11_fewest 20 = .ok (.ifCond .ne 5, 3) := by decide +kernel
theorem dX11_fewest_23 : decode cX11_fewest 23 = .ok (.iconst (-1), 1) := by decide +kernel
theorem dX11_fewest_24 : decode cX11_fewest 24 = .ok (.ireturn, 1) := by decide +kernel
theorem dX11_fewest_25 : decode cX11_fewest 25 = .ok (.aload_n 0, 1) := by decide +kernel
theorem dX11_fewest_26 : decode cX11_fewest 26 = .ok (.getfield 51, 3) := by decide +kernel
theorem dX11_fewest_29 : decode cX11_fewest 29 = .ok (.aload_n 0, 1) := by decide +kernel
theorem dX11_fewest_30 : decode cX11_fewest 30 = .ok (.getfield 28, 3) := by decide +kernel
theorem dX11_fewest_33 : decode cX11_fewest 33 = .ok (.iload_n 1, 1) := by decide +kernel
theorem dX11_fewest_34 : decode cX11_fewest 34 = .ok (.iload_n 2, 1) := by decide +kernel
theorem dX11_fewest_35 : decode cX11_fewest 35 = .ok (.invokevirtual 203, 3) := by decide +kernel
theorem dX11_fewest_38 : decode cX11_fewest 38 = .ok (.ifCond .ne 6, 3) := by decide +kernel
theorem dX11_fewest_41 : decode cX11_fewest 41 = .ok (.bipush (-2), 2) := by decide +kernel
theorem dX11_fewest_43 : decode cX11_fewest 43 = .ok (.ireturn, 1) := by decide +kernel
theorem dX11_fewest_44 : decode cX11_fewest 44 = .ok (.aload_n 0, 1) := by decide +kernel
theorem dX11_fewest_45 : decode cX11_fewest 45 = .ok (.getfield 51, 3) := by decide +kernel
theorem dX11_fewest_48 : decode cX11_fewest 48 = .ok (.invokevirtual 219, 3) := by decide +kernel
theorem dX11_fewest_51 : decode cX11_fewest 51 = .ok (.iload_n 3, 1) := by decide +kernel
theorem dX11_fewest_52 : decode cX11_fewest 52 = .ok (.lookupswitch 44 #[(0, 28), (1, 36)], 28) := by decide +kernel
theorem dX11_fewest_80 : decode cX11_fewest 80 = .ok (.aload_n 0, 1) := by decide +kernel
theorem dX11_fewest_81 : decode cX11_fewest 81 = .ok (.getfield 51, 3) := by decide +kernel
theorem dX11_fewest_84 : decode cX11_fewest 84 = .ok (.getfield 222, 3) := by decide +kernel
theorem dX11_fewest_87 : decode cX11_fewest 87 = .ok (.ireturn, 1) := by decide +kernel
theorem dX11_fewest_88 : decode cX11_fewest 88 = .ok (.aload_n 0, 1) := by decide +kernel
theorem dX11_fewest_89 : decode cX11_fewest 89 = .ok (.getfield 51, 3) := by decide +kernel
theorem dX11_fewest_92 : decode cX11_fewest 92 = .ok (.getfield 225, 3) := by decide +kernel
theorem dX11_fewest_95 : decode cX11_fewest 95 = .ok (.ireturn, 1) := by decide +kernel
theorem dX11_fewest_96 : decode cX11_fewest 96 = .ok (.aload_n 0, 1) := by decide +kernel
theorem dX11_fewest_97 : decode cX11_fewest 97 = .ok (.getfield 51, 3) := by decide +kernel
theorem dX11_fewest_100 : decode cX11_fewest 100 = .ok (.getfield 228, 3) := by decide +kernel
theorem dX11_fewest_103 : decode cX11_fewest 103 = .ok (.ireturn, 1) := by decide +kernel
theorem dX11_type_0 : decode cX11_type 0 = .ok (.iload_n 3, 1) := by decide +kernel
theorem dX11_type_1 : decode cX11_type 1 = .ok (.iconst 1, 1) := by decide +kernel
theorem dX11_type_2 : decode cX11_type 2 = .ok (.bipush 8, 2) := by decide +kernel
theorem dX11_type_4 : decode cX11_type 4 = .ok (.invokestatic 79, 3) := by decide +kernel
theorem dX11_type_7 : decode cX11_type 7 = .ok (.ifCond .ne 5, 3) := by decide +kernel
theorem dX11_type_10 : decode cX11_type 10 = .ok (.iconst (-1), 1) := by decide +kernel
theorem dX11_type_11 : decode cX11_type 11 = .ok (.ireturn, 1) := by decide +kernel
theorem dX11_type_12 : decode cX11_type 12 = .ok (.aload_n 0, 1) := by decide +kernel
theorem dX11_type_13 : decode cX11_type 13 = .ok (.getfield 58, 3) := by decide +kernel
theorem dX11_type_16 : decode cX11_type 16 = .ok (.getfield 231, 3) := by decide +kernel
theorem dX11_type_19 : decode cX11_type 19 = .ok (.iload_n 3, 1) := by decide +kernel
theorem dX11_type_20 : decode cX11_type 20 = .ok (.iadd, 1) := by decide +kernel
theorem dX11_type_21 : decode cX11_type 21 = .ok (.sipush 600, 3) := by decide +kernel
theorem dX11_type_24 : decode cX11_type 24 = .ok (.if_icmp .le 6, 3) := by decide +kernel
theorem dX11_type_27 : decode cX11_type 27 = .ok (.bipush (-3), 2) := by decide +kernel
theorem dX11_type_29 : decode cX11_type 29 = .ok (.ireturn, 1) := by decide +kernel
theorem dX11_type_30 : decode cX11_type 30 = .ok (.aload_n 0, 1) := by decide +kernel
theorem dX11_type_31 : decode cX11_type 31 = .ok (.getfield 58, 3) := by decide +kernel
theorem dX11_type_34 : decode cX11_type 34 = .ok (.lload_n 1, 1) := by decide +kernel
theorem dX11_type_35 : decode cX11_type 35 = .ok (.iload_n 3, 1) := by decide +kernel
theorem dX11_type_36 : decode cX11_type 36 = .ok (.invokevirtual 232, 3) := by decide +kernel
theorem dX11_type_39 : decode cX11_type 39 = .ok (.aload_n 0, 1) := by decide +kernel
theorem dX11_type_40 : decode cX11_type 40 = .ok (.getfield 58, 3) := by decide +kernel
theorem dX11_type_43 : decode cX11_type 43 = .ok (.getfield 231, 3) := by decide +kernel
theorem dX11_type_46 : decode cX11_type 46 = .ok (.ireturn, 1) := by decide +kernel
theorem dX11_clear_0 : decode cX11_clear 0 = .ok (.aload_n 0, 1) := by decide +kernel
theorem dX11_clear_1 : decode cX11_clear 1 = .ok (.getfield 58, 3) := by decide +kernel
theorem dX11_clear_4 : decode cX11_clear 4 = .ok (.getfield 231, 3) := by decide +kernel
theorem dX11_clear_7 : decode cX11_clear 7 = .ok (.istore_n 1, 1) := by decide +kernel
theorem dX11_clear_8 : decode cX11_clear 8 = .ok (.aload_n 0, 1) := by decide +kernel
theorem dX11_clear_9 : decode cX11_clear 9 = .ok (.getfield 58, 3) := by decide +kernel
theorem dX11_clear_12 : decode cX11_clear 12 = .ok (.iconst 0, 1) := by decide +kernel
theorem dX11_clear_13 : decode cX11_clear 13 = .ok (.putfield 231, 3) := by decide +kernel
theorem dX11_clear_16 : decode cX11_clear 16 = .ok (.iload_n 1, 1) := by decide +kernel
theorem dX11_clear_17 : decode cX11_clear 17 = .ok (.ireturn, 1) := by decide +kernel
theorem dX11_rates_0 : decode cX11_rates 0 = .ok (.aload_n 0, 1) := by decide +kernel
theorem dX11_rates_1 : decode cX11_rates 1 = .ok (.getfield 58, 3) := by decide +kernel
theorem dX11_rates_4 : decode cX11_rates 4 = .ok (.aload_n 0, 1) := by decide +kernel
theorem dX11_rates_5 : decode cX11_rates 5 = .ok (.getfield 69, 3) := by decide +kernel
theorem dX11_rates_8 : decode cX11_rates 8 = .ok (.invokevirtual 236, 3) := by decide +kernel
theorem dX11_rates_11 : decode cX11_rates 11 = .ok (.istore_n 1, 1) := by decide +kernel
theorem dX11_rates_12 : decode cX11_rates 12 = .ok (.iload_n 1, 1) := by decide +kernel
theorem dX11_rates_13 : decode cX11_rates 13 = .ok (.bipush (-9), 2) := by decide +kernel
theorem dX11_rates_15 : decode cX11_rates 15 = .ok (.if_icmp .eq 8, 3) := by decide +kernel
theorem dX11_rates_18 : decode cX11_rates 18 = .ok (.bipush (-10), 2) := by decide +kernel
theorem dX11_rates_20 : decode cX11_rates 20 = .ok (.iload_n 1, 1) := by decide +kernel
theorem dX11_rates_21 : decode cX11_rates 21 = .ok (.isub, 1) := by decide +kernel
theorem dX11_rates_22 : decode cX11_rates 22 = .ok (.ireturn, 1) := by decide +kernel
theorem dX11_rates_23 : decode cX11_rates 23 = .ok (.aload_n 0, 1) := by decide +kernel
theorem dX11_rates_24 : decode cX11_rates 24 = .ok (.getfield 69, 3) := by decide +kernel
theorem dX11_rates_27 : decode cX11_rates 27 = .ok (.astore_n 2, 1) := by decide +kernel
theorem dX11_rates_28 : decode cX11_rates 28 = .ok (.aload_n 0, 1) := by decide +kernel
theorem dX11_rates_29 : decode cX11_rates 29 = .ok (.aload_n 0, 1) := by decide +kernel
theorem dX11_rates_30 : decode cX11_rates 30 = .ok (.getfield 65, 3) := by decide +kernel
theorem dX11_rates_33 : decode cX11_rates 33 = .ok (.putfield 69, 3) := by decide +kernel
theorem dX11_rates_36 : decode cX11_rates 36 = .ok (.aload_n 0, 1) := by decide +kernel
theorem dX11_rates_37 : decode cX11_rates 37 = .ok (.aload_n 2, 1) := by decide +kernel
theorem dX11_rates_38 : decode cX11_rates 38 = .ok (.putfield 65, 3) := by decide +kernel
theorem dX11_rates_41 : decode cX11_rates 41 = .ok (.aload_n 0, 1) := by decide +kernel
theorem dX11_rates_42 : decode cX11_rates 42 = .ok (.getfield 58, 3) := by decide +kernel
theorem dX11_rates_45 : decode cX11_rates 45 = .ok (.iconst 0, 1) := by decide +kernel
theorem dX11_rates_46 : decode cX11_rates 46 = .ok (.putfield 231, 3) := by decide +kernel
theorem dX11_rates_49 : decode cX11_rates 49 = .ok (.aload_n 0, 1) := by decide +kernel
theorem dX11_rates_50 : decode cX11_rates 50 = .ok (.getfield 65, 3) := by decide +kernel
theorem dX11_rates_53 : decode cX11_rates 53 = .ok (.getfield 240, 3) := by decide +kernel
theorem dX11_rates_56 : decode cX11_rates 56 = .ok (.ireturn, 1) := by decide +kernel
theorem dX11_owed_0 : decode cX11_owed 0 = .ok (.iload_n 1, 1) := by decide +kernel
theorem dX11_owed_1 : decode cX11_owed 1 = .ok (.iload_n 2, 1) := by decide +kernel
theorem dX11_owed_2 : decode cX11_owed 2 = .ok (.iload_n 3, 1) := by decide +kernel
theorem dX11_owed_3 : decode cX11_owed 3 = .ok (.invokestatic 241, 3) := by decide +kernel
theorem dX11_owed_6 : decode cX11_owed 6 = .ok (.ifCond .eq 25, 3) := by decide +kernel
theorem dX11_owed_9 : decode cX11_owed 9 = .ok (.iload 4, 2) := by decide +kernel
theorem dX11_owed_11 : decode cX11_owed 11 = .ok (.iconst 1, 1) := by decide +kernel
theorem dX11_owed_12 : decode cX11_owed 12 = .ok (.sipush 2000, 3) := by decide +kernel
theorem dX11_owed_15 : decode cX11_owed 15 = .ok (.invokestatic 79, 3) := by decide +kernel
theorem dX11_owed_18 : decode cX11_owed 18 = .ok (.ifCond .eq 13, 3) := by decide +kernel
theorem dX11_owed_21 : decode cX11_owed 21 = .ok (.iload 5, 2) := by decide +kernel
theorem dX11_owed_23 : decode cX11_owed 23 = .ok (.iconst 0, 1) := by decide +kernel
theorem dX11_owed_24 : decode cX11_owed 24 = .ok (.iconst 3, 1) := by decide +kernel
theorem dX11_owed_25 : decode cX11_owed 25 = .ok (.invokestatic 79, 3) := by decide +kernel
theorem dX11_owed_28 : decode cX11_owed 28 = .ok (.ifCond .ne 5, 3) := by decide +kernel
theorem dX11_owed_31 : decode cX11_owed 31 = .ok (.iconst (-1), 1) := by decide +kernel
theorem dX11_owed_32 : decode cX11_owed 32 = .ok (.ireturn, 1) := by decide +kernel
theorem dX11_owed_33 : decode cX11_owed 33 = .ok (.aload_n 0, 1) := by decide +kernel
theorem dX11_owed_34 : decode cX11_owed 34 = .ok (.getfield 65, 3) := by decide +kernel
theorem dX11_owed_37 : decode cX11_owed 37 = .ok (.iload_n 1, 1) := by decide +kernel
theorem dX11_owed_38 : decode cX11_owed 38 = .ok (.iload_n 2, 1) := by decide +kernel
theorem dX11_owed_39 : decode cX11_owed 39 = .ok (.iload_n 3, 1) := by decide +kernel
theorem dX11_owed_40 : decode cX11_owed 40 = .ok (.invokevirtual 244, 3) := by decide +kernel
theorem dX11_owed_43 : decode cX11_owed 43 = .ok (.istore 6, 2) := by decide +kernel
theorem dX11_owed_45 : decode cX11_owed 45 = .ok (.iload 6, 2) := by decide +kernel
theorem dX11_owed_47 : decode cX11_owed 47 = .ok (.bipush (-9), 2) := by decide +kernel
theorem dX11_owed_49 : decode cX11_owed 49 = .ok (.if_icmp .ne 6, 3) := by decide +kernel
theorem dX11_owed_52 : decode cX11_owed 52 = .ok (.bipush (-9), 2) := by decide +kernel
theorem dX11_owed_54 : decode cX11_owed 54 = .ok (.ireturn, 1) := by decide +kernel
theorem dX11_owed_55 : decode cX11_owed 55 = .ok (.aload_n 0, 1) := by decide +kernel
theorem dX11_owed_56 : decode cX11_owed 56 = .ok (.getfield 65, 3) := by decide +kernel
theorem dX11_owed_59 : decode cX11_owed 59 = .ok (.getfield 248, 3) := by decide +kernel
theorem dX11_owed_62 : decode cX11_owed 62 = .ok (.iload 6, 2) := by decide +kernel
theorem dX11_owed_64 : decode cX11_owed 64 = .ok (.aaload, 1) := by decide +kernel
theorem dX11_owed_65 : decode cX11_owed 65 = .ok (.astore 7, 2) := by decide +kernel
theorem dX11_owed_67 : decode cX11_owed 67 = .ok (.iload 5, 2) := by decide +kernel
theorem dX11_owed_69 : decode cX11_owed 69 = .ok (.tableswitch 62 0 2 #[27, 35, 48], 27) := by decide +kernel
theorem dX11_owed_96 : decode cX11_owed 96 = .ok (.aload 7, 2) := by decide +kernel
theorem dX11_owed_98 : decode cX11_owed 98 = .ok (.iload 4, 2) := by decide +kernel
theorem dX11_owed_100 : decode cX11_owed 100 = .ok (.invokevirtual 252, 3) := by decide +kernel
theorem dX11_owed_103 : decode cX11_owed 103 = .ok (.ireturn, 1) := by decide +kernel
theorem dX11_owed_104 : decode cX11_owed 104 = .ok (.aload 7, 2) := by decide +kernel
theorem dX11_owed_106 : decode cX11_owed 106 = .ok (.aload 7, 2) := by decide +kernel
theorem dX11_owed_108 : decode cX11_owed 108 = .ok (.iload 4, 2) := by decide +kernel
theorem dX11_owed_110 : decode cX11_owed 110 = .ok (.invokevirtual 252, 3) := by decide +kernel
theorem dX11_owed_113 : decode cX11_owed 113 = .ok (.invokevirtual 257, 3) := by decide +kernel
theorem dX11_owed_116 : decode cX11_owed 116 = .ok (.ireturn, 1) := by decide +kernel
theorem dX11_owed_117 : decode cX11_owed 117 = .ok (.aload 7, 2) := by decide +kernel
theorem dX11_owed_119 : decode cX11_owed 119 = .ok (.getfield 260, 3) := by decide +kernel
theorem dX11_owed_122 : decode cX11_owed 122 = .ok (.ifCond .eq 7, 3) := by decide +kernel
theorem dX11_owed_125 : decode cX11_owed 125 = .ok (.iconst 1, 1) := by decide +kernel
theorem dX11_owed_126 : decode cX11_owed 126 = .ok (.goto 4, 3) := by decide +kernel
theorem dX11_owed_129 : decode cX11_owed 129 = .ok (.iconst 0, 1) := by decide +kernel
theorem dX11_owed_130 : decode cX11_owed 130 = .ok (.ireturn, 1) := by decide +kernel
theorem dX11_owed_131 : decode cX11_owed 131 = .ok (.iload 6, 2) := by decide +kernel
theorem dX11_owed_133 : decode cX11_owed 133 = .ok (.ireturn, 1) := by decide +kernel
theorem dX11_weights_0 : decode cX11_weights 0 = .ok (.iload_n 1, 1) := by decide +kernel
theorem dX11_weights_1 : decode cX11_weights 1 = .ok (.iload_n 2, 1) := by decide +kernel
theorem dX11_weights_2 : decode cX11_weights 2 = .ok (.iload_n 3, 1) := by decide +kernel
theorem dX11_weights_3 : decode cX11_weights 3 = .ok (.invokestatic 241, 3) := by decide +kernel
theorem dX11_weights_6 : decode cX11_weights 6 = .ok (.ifCond .eq 25, 3) := by decide +kernel
theorem dX11_weights_9 : decode cX11_weights 9 = .ok (.iload 4, 2) := by decide +kernel
theorem dX11_weights_11 : decode cX11_weights 11 = .ok (.iconst 0, 1) := by decide +kernel
theorem dX11_weights_12 : decode cX11_weights 12 = .ok (.ldc_w 264, 3) := by decide +kernel
theorem dX11_weights_15 : decode cX11_weights 15 = .ok (.invokestatic 79, 3) := by decide +kernel
theorem dX11_weights_18 : decode cX11_weights 18 = .ok (.ifCond .eq 13, 3) := by decide +kernel
theorem dX11_weights_21 : decode cX11_weights 21 = .ok (.iload 5, 2) := by decide +kernel
theorem dX11_weights_23 : decode cX11_weights 23 = .ok (.iconst 0, 1) := by decide +kernel
theorem dX11_weights_24 : decode cX11_weights 24 = .ok (.iconst 2, 1) := by decide +kernel
theorem dX11_weights_25 : decode cX11_weights 25 = .ok (.invokestatic 79, 3) := by decide +kernel
theorem dX11_weights_28 : decode cX11_weights 28 = .ok (.ifCond .ne 5, 3) := by decide +kernel
theorem dX11_weights_31 : decode cX11_weights 31 = .ok (.iconst (-1), 1) := by decide +kernel
theorem dX11_weights_32 : decode cX11_weights 32 = .ok (.ireturn, 1) := by decide +kernel
theorem dX11_weights_33 : decode cX11_weights 33 = .ok (.aload_n 0, 1) := by decide +kernel
theorem dX11_weights_34 : decode cX11_weights 34 = .ok (.getfield 65, 3) := by decide +kernel
theorem dX11_weights_37 : decode cX11_weights 37 = .ok (.iload_n 1, 1) := by decide +kernel
theorem dX11_weights_38 : decode cX11_weights 38 = .ok (.iload_n 2, 1) := by decide +kernel
theorem dX11_weights_39 : decode cX11_weights 39 = .ok (.iload_n 3, 1) := by decide +kernel
theorem dX11_weights_40 : decode cX11_weights 40 = .ok (.invokevirtual 244, 3) := by decide +kernel
theorem dX11_weights_43 : decode cX11_weights 43 = .ok (.istore 6, 2) := by decide +kernel
theorem dX11_weights_45 : decode cX11_weights 45 = .ok (.iconst 0, 1) := by decide +kernel
theorem dX11_weights_46 : decode cX11_weights 46 = .ok (.istore 7, 2) := by decide +kernel
theorem dX11_weights_48 : decode cX11_weights 48 = .ok (.bipush (-9), 2) := by decide +kernel
theorem dX11_weights_50 : decode cX11_weights 50 = .ok (.istore 8, 2) := by decide +kernel
theorem dX11_weights_52 : decode cX11_weights 52 = .ok (.bipush (-9), 2) := by decide +kernel
theorem dX11_weights_54 : decode cX11_weights 54 = .ok (.istore 9, 2) := by decide +kernel
theorem dX11_weights_56 : decode cX11_weights 56 = .ok (.iconst 1, 1) := by decide +kernel
theorem dX11_weights_57 : decode cX11_weights 57 = .ok (.istore 10, 2) := by decide +kernel
theorem dX11_weights_59 : decode cX11_weights 59 = .ok (.iload 10, 2) := by decide +kernel
theorem dX11_weights_61 : decode cX11_weights 61 = .ok (.sipush 2000, 3) := by decide +kernel
theorem dX11_weights_64 : decode cX11_weights 64 = .ok (.if_icmp .gt 59, 3) := by decide +kernel
theorem dX11_weights_67 : decode cX11_weights 67 = .ok (.iload 6, 2) := by decide +kernel
theorem dX11_weights_69 : decode cX11_weights 69 = .ok (.bipush (-9), 2) := by decide +kernel
theorem dX11_weights_71 : decode cX11_weights 71 = .ok (.if_icmp .eq 52, 3) := by decide +kernel
theorem dX11_weights_74 : decode cX11_weights 74 = .ok (.aload_n 0, 1) := by decide +kernel
theorem dX11_weights_75 : decode cX11_weights 75 = .ok (.getfield 65, 3) := by decide +kernel
theorem dX11_weights_78 : decode cX11_weights 78 = .ok (.getfield 248, 3) := by decide +kernel
theorem dX11_weights_81 : decode cX11_weights 81 = .ok (.iload 6, 2) := by decide +kernel
theorem dX11_weights_83 : decode cX11_weights 83 = .ok (.aaload, 1) := by decide +kernel
theorem dX11_weights_84 : decode cX11_weights 84 = .ok (.iload 10, 2) := by decide +kernel
theorem dX11_weights_86 : decode cX11_weights 86 = .ok (.invokevirtual 252, 3) := by decide +kernel
theorem dX11_weights_89 : decode cX11_weights 89 = .ok (.iload 4, 2) := by decide +kernel
theorem dX11_weights_91 : decode cX11_weights 91 = .ok (.if_icmp .ne 26, 3) := by decide +kernel
theorem dX11_weights_94 : decode cX11_weights 94 = .ok (.iinc 7 1, 3) := by decide +kernel
theorem dX11_weights_97 : decode cX11_weights 97 = .ok (.iload 8, 2) := by decide +kernel
theorem dX11_weights_99 : decode cX11_weights 99 = .ok (.bipush (-9), 2) := by decide +kernel
theorem dX11_weights_101 : decode cX11_weights 101 = .ok (.if_icmp .ne 8, 3) := by decide +kernel
theorem dX11_weights_104 : decode cX11_weights 104 = .ok (.iload 10, 2) := by decide +kernel
theorem dX11_weights_106 : decode cX11_weights 106 = .ok (.goto 5, 3) := by decide +kernel
theorem dX11_weights_109 : decode cX11_weights 109 = .ok (.iload 8, 2) := by decide +kernel
theorem dX11_weights_111 : decode cX11_weights 111 = .ok (.istore 8, 2) := by decide +kernel
theorem dX11_weights_113 : decode cX11_weights 113 = .ok (.iload 10, 2) := by decide +kernel
theorem dX11_weights_115 : decode cX11_weights 115 = .ok (.istore 9, 2) := by decide +kernel
theorem dX11_weights_117 : decode cX11_weights 117 = .ok (.iinc 10 1, 3) := by decide +kernel
theorem dX11_weights_120 : decode cX11_weights 120 = .ok (.goto (-61), 3) := by decide +kernel
theorem dX11_weights_123 : decode cX11_weights 123 = .ok (.iload 5, 2) := by decide +kernel
theorem dX11_weights_125 : decode cX11_weights 125 = .ok (.lookupswitch 33 #[(0, 27), (1, 30)], 27) := by decide +kernel
theorem dX11_weights_152 : decode cX11_weights 152 = .ok (.iload 7, 2) := by decide +kernel
theorem dX11_weights_154 : decode cX11_weights 154 = .ok (.ireturn, 1) := by decide +kernel
theorem dX11_weights_155 : decode cX11_weights 155 = .ok (.iload 8, 2) := by decide +kernel
theorem dX11_weights_157 : decode cX11_weights 157 = .ok (.ireturn, 1) := by decide +kernel
theorem dX11_weights_158 : decode cX11_weights 158 = .ok (.iload 9, 2) := by decide +kernel
theorem dX11_weights_160 : decode cX11_weights 160 = .ok (.ireturn, 1) := by decide +kernel
theorem dX11_mail_0 : decode cX11_mail 0 = .ok (.iload_n 1, 1) := by decide +kernel
theorem dX11_mail_1 : decode cX11_mail 1 = .ok (.invokestatic 97, 3) := by decide +kernel
theorem dX11_mail_4 : decode cX11_mail 4 = .ok (.ifCond .eq 22, 3) := by decide +kernel
theorem dX11_mail_7 : decode cX11_mail 7 = .ok (.iload_n 2, 1) := by decide +kernel
theorem dX11_mail_8 : decode cX11_mail 8 = .ok (.invokestatic 97, 3) := by decide +kernel
theorem dX11_mail_11 : decode cX11_mail 11 = .ok (.ifCond .eq 15, 3) := by decide +kernel
theorem dX11_mail_14 : decode cX11_mail 14 = .ok (.iload_n 1, 1) := by decide +kernel
theorem dX11_mail_15 : decode cX11_mail 15 = .ok (.iload_n 2, 1) := by decide +kernel
theorem dX11_mail_16 : decode cX11_mail 16 = .ok (.if_icmp .eq 10, 3) := by decide +kernel
theorem dX11_mail_19 : decode cX11_mail 19 = .ok (.iload_n 3, 1) := by decide +kernel
theorem dX11_mail_20 : decode cX11_mail 20 = .ok (.invokestatic 100, 3) := by decide +kernel
theorem dX11_mail_23 : decode cX11_mail 23 = .ok (.ifCond .ne 5, 3) := by decide +kernel
theorem dX11_mail_26 : decode cX11_mail 26 = .ok (.iconst (-1), 1) := by decide +kernel
theorem dX11_mail_27 : decode cX11_mail 27 = .ok (.ireturn, 1) := by decide +kernel
theorem dX11_mail_28 : decode cX11_mail 28 = .ok (.aload_n 0, 1) := by decide +kernel
theorem dX11_mail_29 : decode cX11_mail 29 = .ok (.getfield 28, 3) := by decide +kernel
theorem dX11_mail_32 : decode cX11_mail 32 = .ok (.iload_n 1, 1) := by decide +kernel
theorem dX11_mail_33 : decode cX11_mail 33 = .ok (.iload_n 2, 1) := by decide +kernel
theorem dX11_mail_34 : decode cX11_mail 34 = .ok (.iload_n 3, 1) := by decide +kernel
theorem dX11_mail_35 : decode cX11_mail 35 = .ok (.invokevirtual 265, 3) := by decide +kernel
theorem dX11_mail_38 : decode cX11_mail 38 = .ok (.ifCond .eq 7, 3) := by decide +kernel
theorem dX11_mail_41 : decode cX11_mail 41 = .ok (.iconst 1, 1) := by decide +kernel
theorem dX11_mail_42 : decode cX11_mail 42 = .ok (.goto 4, 3) := by decide +kernel
theorem dX11_mail_45 : decode cX11_mail 45 = .ok (.iconst 0, 1) := by decide +kernel
theorem dX11_mail_46 : decode cX11_mail 46 = .ok (.ireturn, 1) := by decide +kernel
theorem dX11_heap_0 : decode cX11_heap 0 = .ok (.iload_n 1, 1) := by decide +kernel
theorem dX11_heap_1 : decode cX11_heap 1 = .ok (.invokestatic 97, 3) := by decide +kernel
theorem dX11_heap_4 : decode cX11_heap 4 = .ok (.ifCond .eq 10, 3) := by decide +kernel
theorem dX11_heap_7 : decode cX11_heap 7 = .ok (.iload_n 2, 1) := by decide +kernel
theorem dX11_heap_8 : decode cX11_heap 8 = .ok (.invokestatic 100, 3) := by decide +kernel
theorem dX11_heap_11 : decode cX11_heap 11 = .ok (.ifCond .ne 5, 3) := by decide +kernel
theorem dX11_heap_14 : decode cX11_heap 14 = .ok (.iconst (-1), 1) := by decide +kernel
theorem dX11_heap_15 : decode cX11_heap 15 = .ok (.ireturn, 1) := by decide +kernel
theorem dX11_heap_16 : decode cX11_heap 16 = .ok (.aload_n 0, 1) := by decide +kernel
theorem dX11_heap_17 : decode cX11_heap 17 = .ok (.getfield 28, 3) := by decide +kernel
theorem dX11_heap_20 : decode cX11_heap 20 = .ok (.iload_n 1, 1) := by decide +kernel
theorem dX11_heap_21 : decode cX11_heap 21 = .ok (.iload_n 2, 1) := by decide +kernel
theorem dX11_heap_22 : decode cX11_heap 22 = .ok (.invokevirtual 268, 3) := by decide +kernel
theorem dX11_heap_25 : decode cX11_heap 25 = .ok (.ireturn, 1) := by decide +kernel
theorem dX11_many_0 : decode cX11_many 0 = .ok (.iload_n 1, 1) := by decide +kernel
theorem dX11_many_1 : decode cX11_many 1 = .ok (.iconst 0, 1) := by decide +kernel
theorem dX11_many_2 : decode cX11_many 2 = .ok (.aload_n 0, 1) := by decide +kernel
theorem dX11_many_3 : decode cX11_many 3 = .ok (.getfield 76, 3) := by decide +kernel
theorem dX11_many_6 : decode cX11_many 6 = .ok (.iconst 1, 1) := by decide +kernel
theorem dX11_many_7 : decode cX11_many 7 = .ok (.isub, 1) := by decide +kernel
theorem dX11_many_8 : decode cX11_many 8 = .ok (.invokestatic 79, 3) := by decide +kernel
theorem dX11_many_11 : decode cX11_many 11 = .ok (.ifCond .eq 10, 3) := by decide +kernel
theorem dX11_many_14 : decode cX11_many 14 = .ok (.iload_n 2, 1) := by decide +kernel
theorem dX11_many_15 : decode cX11_many 15 = .ok (.invokestatic 100, 3) := by decide +kernel
theorem dX11_many_18 : decode cX11_many 18 = .ok (.ifCond .ne 5, 3) := by decide +kernel
theorem dX11_many_21 : decode cX11_many 21 = .ok (.iconst (-1), 1) := by decide +kernel
theorem dX11_many_22 : decode cX11_many 22 = .ok (.ireturn, 1) := by decide +kernel
theorem dX11_many_23 : decode cX11_many 23 = .ok (.aload_n 0, 1) := by decide +kernel
theorem dX11_many_24 : decode cX11_many 24 = .ok (.getfield 28, 3) := by decide +kernel
theorem dX11_many_27 : decode cX11_many 27 = .ok (.iload_n 1, 1) := by decide +kernel
theorem dX11_many_28 : decode cX11_many 28 = .ok (.iload_n 2, 1) := by decide +kernel
theorem dX11_many_29 : decode cX11_many 29 = .ok (.invokevirtual 271, 3) := by decide +kernel
theorem dX11_many_32 : decode cX11_many 32 = .ok (.ireturn, 1) := by decide +kernel
theorem dX11_look_0 : decode cX11_look 0 = .ok (.iload_n 1, 1) := by decide +kernel
theorem dX11_look_1 : decode cX11_look 1 = .ok (.invokestatic 97, 3) := by decide +kernel
theorem dX11_look_4 : decode cX11_look 4 = .ok (.ifCond .eq 10, 3) := by decide +kernel
theorem dX11_look_7 : decode cX11_look 7 = .ok (.iload_n 2, 1) := by decide +kernel
theorem dX11_look_8 : decode cX11_look 8 = .ok (.invokestatic 100, 3) := by decide +kernel
theorem dX11_look_11 : decode cX11_look 11 = .ok (.ifCond .ne 5, 3) := by decide +kernel
theorem dX11_look_14 : decode cX11_look 14 = .ok (.iconst (-1), 1) := by decide +kernel
theorem dX11_look_15 : decode cX11_look 15 = .ok (.ireturn, 1) := by decide +kernel
theorem dX11_look_16 : decode cX11_look 16 = .ok (.aload_n 0, 1) := by decide +kernel
theorem dX11_look_17 : decode cX11_look 17 = .ok (.getfield 28, 3) := by decide +kernel
theorem dX11_look_20 : decode cX11_look 20 = .ok (.iload_n 1, 1) := by decide +kernel
theorem dX11_look_21 : decode cX11_look 21 = .ok (.iload_n 2, 1) := by decide +kernel
theorem dX11_look_22 : decode cX11_look 22 = .ok (.invokevirtual 274, 3) := by decide +kernel
theorem dX11_look_25 : decode cX11_look 25 = .ok (.ireturn, 1) := by decide +kernel
theorem dX11_count_0 : decode cX11_count 0 = .ok (.iload_n 1, 1) := by decide +kernel
theorem dX11_count_1 : decode cX11_count 1 = .ok (.tableswitch 93 0 6 #[43, 48, 53, 61, 69, 77, 85], 43) := by decide +kernel
theorem dX11_count_44 : decode cX11_count 44 = .ok (.aload_n 0, 1) := by decide +kernel
theorem dX11_count_45 : decode cX11_count 45 = .ok (.getfield 72, 3) := by decide +kernel
theorem dX11_count_48 : decode cX11_count 48 = .ok (.ireturn, 1) := by decide +kernel
theorem dX11_count_49 : decode cX11_count 49 = .ok (.aload_n 0, 1) := by decide +kernel
theorem dX11_count_50 : decode cX11_count 50 = .ok (.getfield 76, 3) := by decide +kernel
theorem dX11_count_53 : decode cX11_count 53 = .ok (.ireturn, 1) := by decide +kernel
theorem dX11_count_54 : decode cX11_count 54 = .ok (.aload_n 0, 1) := by decide +kernel
theorem dX11_count_55 : decode cX11_count 55 = .ok (.getfield 28, 3) := by decide +kernel
theorem dX11_count_58 : decode cX11_count 58 = .ok (.getfield 106, 3) := by decide +kernel
theorem dX11_count_61 : decode cX11_count 61 = .ok (.ireturn, 1) := by decide +kernel
theorem dX11_count_62 : decode cX11_count 62 = .ok (.aload_n 0, 1) := by decide +kernel
theorem dX11_count_63 : decode cX11_count 63 = .ok (.getfield 42, 3) := by decide +kernel
theorem dX11_count_66 : decode cX11_count 66 = .ok (.getfield 180, 3) := by decide +kernel
theorem dX11_count_69 : decode cX11_count 69 = .ok (.ireturn, 1) := by decide +kernel
theorem dX11_count_70 : decode cX11_count 70 = .ok (.aload_n 0, 1) := by decide +kernel
theorem dX11_count_71 : decode cX11_count 71 = .ok (.getfield 65, 3) := by decide +kernel
theorem dX11_count_74 : decode cX11_count 74 = .ok (.getfield 240, 3) := by decide +kernel
theorem dX11_count_77 : decode cX11_count 77 = .ok (.ireturn, 1) := by decide +kernel
theorem dX11_count_78 : decode cX11_count 78 = .ok (.aload_n 0, 1) := by decide +kernel
theorem dX11_count_79 : decode cX11_count 79 = .ok (.getfield 58, 3) := by decide +kernel
theorem dX11_count_82 : decode cX11_count 82 = .ok (.getfield 231, 3) := by decide +kernel
theorem dX11_count_85 : decode cX11_count 85 = .ok (.ireturn, 1) := by decide +kernel
theorem dX11_count_86 : decode cX11_count 86 = .ok (.aload_n 0, 1) := by decide +kernel
theorem dX11_count_87 : decode cX11_count 87 = .ok (.getfield 42, 3) := by decide +kernel
theorem dX11_count_90 : decode cX11_count 90 = .ok (.invokevirtual 277, 3) := by decide +kernel
theorem dX11_count_93 : decode cX11_count 93 = .ok (.ireturn, 1) := by decide +kernel
theorem dX11_count_94 : decode cX11_count 94 = .ok (.iconst (-1), 1) := by decide +kernel
theorem dX11_count_95 : decode cX11_count 95 = .ok (.ireturn, 1) := by decide +kernel
theorem dX11_trace_0 : decode cX11_trace 0 = .ok (.aload_n 0, 1) := by decide +kernel
theorem dX11_trace_1 : decode cX11_trace 1 = .ok (.getfield 35, 3) := by decide +kernel
theorem dX11_trace_4 : decode cX11_trace 4 = .ok (.getfield 280, 3) := by decide +kernel
theorem dX11_trace_7 : decode cX11_trace 7 = .ok (.lreturn, 1) := by decide +kernel
theorem dX11_within_0 : decode cX11_within 0 = .ok (.iload_n 0, 1) := by decide +kernel
theorem dX11_within_1 : decode cX11_within 1 = .ok (.iload_n 1, 1) := by decide +kernel
theorem dX11_within_2 : decode cX11_within 2 = .ok (.if_icmp .lt 12, 3) := by decide +kernel
theorem dX11_within_5 : decode cX11_within 5 = .ok (.iload_n 0, 1) := by decide +kernel
theorem dX11_within_6 : decode cX11_within 6 = .ok (.iload_n 2, 1) := by decide +kernel
theorem dX11_within_7 : decode cX11_within 7 = .ok (.if_icmp .gt 7, 3) := by decide +kernel
theorem dX11_within_10 : decode cX11_within 10 = .ok (.iconst 1, 1) := by decide +kernel
theorem dX11_within_11 : decode cX11_within 11 = .ok (.goto 4, 3) := by decide +kernel
theorem dX11_within_14 : decode cX11_within 14 = .ok (.iconst 0, 1) := by decide +kernel
theorem dX11_within_15 : decode cX11_within 15 = .ok (.ireturn, 1) := by decide +kernel
theorem dX11_isDay_0 : decode cX11_isDay 0 = .ok (.iload_n 0, 1) := by decide +kernel
theorem dX11_isDay_1 : decode cX11_isDay 1 = .ok (.iconst 0, 1) := by decide +kernel
theorem dX11_isDay_2 : decode cX11_isDay 2 = .ok (.sipush 999, 3) := by decide +kernel
theorem dX11_isDay_5 : decode cX11_isDay 5 = .ok (.invokestatic 79, 3) := by decide +kernel
theorem dX11_isDay_8 : decode cX11_isDay 8 = .ok (.ireturn, 1) := by decide +kernel
theorem dX11_isDayOrNone_0 : decode cX11_isDayOrNone 0 = .ok (.iload_n 0, 1) := by decide +kernel
theorem dX11_isDayOrNone_1 : decode cX11_isDayOrNone 1 = .ok (.bipush (-9), 2) := by decide +kernel
theorem dX11_isDayOrNone_3 : decode cX11_isDayOrNone 3 = .ok (.if_icmp .eq 10, 3) := by decide +kernel
theorem dX11_isDayOrNone_6 : decode cX11_isDayOrNone 6 = .ok (.iload_n 0, 1) := by decide +kernel
theorem dX11_isDayOrNone_7 : decode cX11_isDayOrNone 7 = .ok (.invokestatic 100, 3) := by decide +kernel
theorem dX11_isDayOrNone_10 : decode cX11_isDayOrNone 10 = .ok (.ifCond .eq 7, 3) := by decide +kernel
theorem dX11_isDayOrNone_13 : decode cX11_isDayOrNone 13 = .ok (.iconst 1, 1) := by decide +kernel
theorem dX11_isDayOrNone_14 : decode cX11_isDayOrNone 14 = .ok (.goto 4, 3) := by decide +kernel
theorem dX11_isDayOrNone_17 : decode cX11_isDayOrNone 17 = .ok (.iconst 0, 1) := by decide +kernel
theorem dX11_isDayOrNone_18 : decode cX11_isDayOrNone 18 = .ok (.ireturn, 1) := by decide +kernel
theorem dX11_isStretch_0 : decode cX11_isStretch 0 = .ok (.iload_n 0, 1) := by decide +kernel
theorem dX11_isStretch_1 : decode cX11_isStretch 1 = .ok (.invokestatic 100, 3) := by decide +kernel
theorem dX11_isStretch_4 : decode cX11_isStretch 4 = .ok (.ifCond .eq 19, 3) := by decide +kernel
theorem dX11_isStretch_7 : decode cX11_isStretch 7 = .ok (.iload_n 1, 1) := by decide +kernel
theorem dX11_isStretch_8 : decode cX11_isStretch 8 = .ok (.invokestatic 100, 3) := by decide +kernel
theorem dX11_isStretch_11 : decode cX11_isStretch 11 = .ok (.ifCond .eq 12, 3) := by decide +kernel
theorem dX11_isStretch_14 : decode cX11_isStretch 14 = .ok (.iload_n 0, 1) := by decide +kernel
theorem dX11_isStretch_15 : decode cX11_isStretch 15 = .ok (.iload_n 1, 1) := by decide +kernel
theorem dX11_isStretch_16 : decode cX11_isStretch 16 = .ok (.if_icmp .gt 7, 3) := by decide +kernel
theorem dX11_isStretch_19 : decode cX11_isStretch 19 = .ok (.iconst 1, 1) := by decide +kernel
theorem dX11_isStretch_20 : decode cX11_isStretch 20 = .ok (.goto 4, 3) := by decide +kernel
theorem dX11_isStretch_23 : decode cX11_isStretch 23 = .ok (.iconst 0, 1) := by decide +kernel
theorem dX11_isStretch_24 : decode cX11_isStretch 24 = .ok (.ireturn, 1) := by decide +kernel
theorem dX11_isCover_0 : decode cX11_isCover 0 = .ok (.iload_n 0, 1) := by decide +kernel
theorem dX11_isCover_1 : decode cX11_isCover 1 = .ok (.iconst 0, 1) := by decide +kernel
theorem dX11_isCover_2 : decode cX11_isCover 2 = .ok (.bipush 7, 2) := by decide +kernel
theorem dX11_isCover_4 : decode cX11_isCover 4 = .ok (.invokestatic 79, 3) := by decide +kernel
theorem dX11_isCover_7 : decode cX11_isCover 7 = .ok (.ireturn, 1) := by decide +kernel
theorem dX11_isMark_0 : decode cX11_isMark 0 = .ok (.iload_n 1, 1) := by decide +kernel
theorem dX11_isMark_1 : decode cX11_isMark 1 = .ok (.iconst 0, 1) := by decide +kernel
theorem dX11_isMark_2 : decode cX11_isMark 2 = .ok (.aload_n 0, 1) := by decide +kernel
theorem dX11_isMark_3 : decode cX11_isMark 3 = .ok (.getfield 28, 3) := by decide +kernel
theorem dX11_isMark_6 : decode cX11_isMark 6 = .ok (.getfield 106, 3) := by decide +kernel
theorem dX11_isMark_9 : decode cX11_isMark 9 = .ok (.iconst 1, 1) := by decide +kernel
theorem dX11_isMark_10 : decode cX11_isMark 10 = .ok (.isub, 1) := by decide +kernel
theorem dX11_isMark_11 : decode cX11_isMark 11 = .ok (.invokestatic 79, 3) := by decide +kernel
theorem dX11_isMark_14 : decode cX11_isMark 14 = .ok (.ireturn, 1) := by decide +kernel
theorem dX11_areTwoTowns_0 : decode cX11_areTwoTowns 0 = .ok (.iload_n 0, 1) := by decide +kernel
theorem dX11_areTwoTowns_1 : decode cX11_areTwoTowns 1 = .ok (.iconst 0, 1) := by decide +kernel
theorem dX11_areTwoTowns_2 : decode cX11_areTwoTowns 2 = .ok (.iconst 5, 1) := by decide +kernel
theorem dX11_areTwoTowns_3 : decode cX11_areTwoTowns 3 = .ok (.invokestatic 79, 3) := by decide +kernel
theorem dX11_areTwoTowns_6 : decode cX11_areTwoTowns 6 = .ok (.ifCond .eq 21, 3) := by decide +kernel
theorem dX11_areTwoTowns_9 : decode cX11_areTwoTowns 9 = .ok (.iload_n 1, 1) := by decide +kernel
theorem dX11_areTwoTowns_10 : decode cX11_areTwoTowns 10 = .ok (.iconst 0, 1) := by decide +kernel
theorem dX11_areTwoTowns_11 : decode cX11_areTwoTowns 11 = .ok (.iconst 5, 1) := by decide +kernel
theorem dX11_areTwoTowns_12 : decode cX11_areTwoTowns 12 = .ok (.invokestatic 79, 3) := by decide +kernel
theorem dX11_areTwoTowns_15 : decode cX11_areTwoTowns 15 = .ok (.ifCond .eq 12, 3) := by decide +kernel
theorem dX11_areTwoTowns_18 : decode cX11_areTwoTowns 18 = .ok (.iload_n 0, 1) := by decide +kernel
theorem dX11_areTwoTowns_19 : decode cX11_areTwoTowns 19 = .ok (.iload_n 1, 1) := by decide +kernel
theorem dX11_areTwoTowns_20 : decode cX11_areTwoTowns 20 = .ok (.if_icmp .eq 7, 3) := by decide +kernel
theorem dX11_areTwoTowns_23 : decode cX11_areTwoTowns 23 = .ok (.iconst 1, 1) := by decide +kernel
theorem dX11_areTwoTowns_24 : decode cX11_areTwoTowns 24 = .ok (.goto 4, 3) := by decide +kernel
theorem dX11_areTwoTowns_27 : decode cX11_areTwoTowns 27 = .ok (.iconst 0, 1) := by decide +kernel
theorem dX11_areTwoTowns_28 : decode cX11_areTwoTowns 28 = .ok (.ireturn, 1) := by decide +kernel
theorem dX11_areLandsAndDay_0 : decode cX11_areLandsAndDay 0 = .ok (.iload_n 0, 1) := by decide +kernel
theorem dX11_areLandsAndDay_1 : decode cX11_areLandsAndDay 1 = .ok (.iconst 0, 1) := by decide +kernel
theorem dX11_areLandsAndDay_2 : decode cX11_areLandsAndDay 2 = .ok (.iconst 2, 1) := by decide +kernel
theorem dX11_areLandsAndDay_3 : decode cX11_areLandsAndDay 3 = .ok (.invokestatic 79, 3) := by decide +kernel
theorem dX11_areLandsAndDay_6 : decode cX11_areLandsAndDay 6 = .ok (.ifCond .eq 23, 3) := by decide +kernel
theorem dX11_areLandsAndDay_9 : decode cX11_areLandsAndDay 9 = .ok (.iload_n 1, 1) := by decide +kernel
theorem dX11_areLandsAndDay_10 : decode cX11_areLandsAndDay 10 = .ok (.iconst 0, 1) := by decide +kernel
theorem dX11_areLandsAndDay_11 : decode cX11_areLandsAndDay 11 = .ok (.iconst 2, 1) := by decide +kernel
theorem dX11_areLandsAndDay_12 : decode cX11_areLandsAndDay 12 = .ok (.invokestatic 79, 3) := by decide +kernel
theorem dX11_areLandsAndDay_15 : decode cX11_areLandsAndDay 15 = .ok (.ifCond .eq 14, 3) := by decide +kernel
theorem dX11_areLandsAndDay_18 : decode cX11_areLandsAndDay 18 = .ok (.iload_n 2, 1) := by decide +kernel
theorem dX11_areLandsAndDay_19 : decode cX11_areLandsAndDay 19 = .ok (.invokestatic 100, 3) := by decide +kernel
theorem dX11_areLandsAndDay_22 : decode cX11_areLandsAndDay 22 = .ok (.ifCond .eq 7, 3) := by decide +kernel
theorem dX11_areLandsAndDay_25 : decode cX11_areLandsAndDay 25 = .ok (.iconst 1, 1) := by decide +kernel
theorem dX11_areLandsAndDay_26 : decode cX11_areLandsAndDay 26 = .ok (.goto 4, 3) := by decide +kernel
theorem dX11_areLandsAndDay_29 : decode cX11_areLandsAndDay 29 = .ok (.iconst 0, 1) := by decide +kernel
theorem dX11_areLandsAndDay_30 : decode cX11_areLandsAndDay 30 = .ok (.ireturn, 1) := by decide +kernel
theorem dX11_isDate_0 : decode cX11_isDate 0 = .ok (.iload_n 0, 1) := by decide +kernel
theorem dX11_isDate_1 : decode cX11_isDate 1 = .ok (.iconst 0, 1) := by decide +kernel
theorem dX11_isDate_2 : decode cX11_isDate 2 = .ok (.ldc_w 284, 3) := by decide +kernel
theorem dX11_isDate_5 : decode cX11_isDate 5 = .ok (.invokestatic 79, 3) := by decide +kernel
theorem dX11_isDate_8 : decode cX11_isDate 8 = .ok (.ifCond .ne 5, 3) := by decide +kernel
theorem dX11_isDate_11 : decode cX11_isDate 11 = .ok (.iconst 0, 1) := by decide +kernel
theorem dX11_isDate_12 : decode cX11_isDate 12 = .ok (.ireturn, 1) := by decide +kernel
theorem dX11_isDate_13 : decode cX11_isDate 13 = .ok (.iconst 0, 1) := by decide +kernel
theorem dX11_isDate_14 : decode cX11_isDate 14 = .ok (.istore_n 1, 1) := by decide +kernel
theorem dX11_isDate_15 : decode cX11_isDate 15 = .ok (.iload_n 1, 1) := by decide +kernel
theorem dX11_isDate_16 : decode cX11_isDate 16 = .ok (.iconst 3, 1) := by decide +kernel
theorem dX11_isDate_17 : decode cX11_isDate 17 = .ok (.if_icmp .ge 34, 3) := by decide +kernel
theorem dX11_isDate_20 : decode cX11_isDate 20 = .ok (.iload_n 0, 1) := by decide +kernel
theorem dX11_isDate_21 : decode cX11_isDate 21 = .ok (.iload_n 1, 1) := by decide +kernel
theorem dX11_isDate_22 : decode cX11_isDate 22 = .ok (.invokestatic 285, 3) := by decide +kernel
theorem dX11_isDate_25 : decode cX11_isDate 25 = .ok (.istore_n 2, 1) := by decide +kernel
theorem dX11_isDate_26 : decode cX11_isDate 26 = .ok (.iload_n 2, 1) := by decide +kernel
theorem dX11_isDate_27 : decode cX11_isDate 27 = .ok (.bipush 63, 2) := by decide +kernel
theorem dX11_isDate_29 : decode cX11_isDate 29 = .ok (.if_icmp .eq 16, 3) := by decide +kernel
theorem dX11_isDate_32 : decode cX11_isDate 32 = .ok (.iload_n 2, 1) := by decide +kernel
theorem dX11_isDate_33 : decode cX11_isDate 33 = .ok (.bipush 48, 2) := by decide +kernel
theorem dX11_isDate_35 : decode cX11_isDate 35 = .ok (.bipush 57, 2) := by decide +kernel
theorem dX11_isDate_37 : decode cX11_isDate 37 = .ok (.invokestatic 79, 3) := by decide +kernel
theorem dX11_isDate_40 : decode cX11_isDate 40 = .ok (.ifCond .ne 5, 3) := by decide +kernel
theorem dX11_isDate_43 : decode cX11_isDate 43 = .ok (.iconst 0, 1) := by decide +kernel
theorem dX11_isDate_44 : decode cX11_isDate 44 = .ok (.ireturn, 1) := by decide +kernel
theorem dX11_isDate_45 : decode cX11_isDate 45 = .ok (.iinc 1 1, 3) := by decide +kernel
theorem dX11_isDate_48 : decode cX11_isDate 48 = .ok (.goto (-33), 3) := by decide +kernel
theorem dX11_isDate_51 : decode cX11_isDate 51 = .ok (.iconst 1, 1) := by decide +kernel
theorem dX11_isDate_52 : decode cX11_isDate 52 = .ok (.ireturn, 1) := by decide +kernel
theorem dX11_byteOf_0 : decode cX11_byteOf 0 = .ok (.iload_n 0, 1) := by decide +kernel
theorem dX11_byteOf_1 : decode cX11_byteOf 1 = .ok (.bipush 8, 2) := by decide +kernel
theorem dX11_byteOf_3 : decode cX11_byteOf 3 = .ok (.iconst 2, 1) := by decide +kernel
theorem dX11_byteOf_4 : decode cX11_byteOf 4 = .ok (.iload_n 1, 1) := by decide +kernel
theorem dX11_byteOf_5 : decode cX11_byteOf 5 = .ok (.isub, 1) := by decide +kernel
theorem dX11_byteOf_6 : decode cX11_byteOf 6 = .ok (.imul, 1) := by decide +kernel
theorem dX11_byteOf_7 : decode cX11_byteOf 7 = .ok (.ishr, 1) := by decide +kernel
theorem dX11_byteOf_8 : decode cX11_byteOf 8 = .ok (.sipush 255, 3) := by decide +kernel
theorem dX11_byteOf_11 : decode cX11_byteOf 11 = .ok (.iand, 1) := by decide +kernel
theorem dX11_byteOf_12 : decode cX11_byteOf 12 = .ok (.ireturn, 1) := by decide +kernel
theorem dX11_figureOf_0 : decode cX11_figureOf 0 = .ok (.iload_n 1, 1) := by decide +kernel
theorem dX11_figureOf_1 : decode cX11_figureOf 1 = .ok (.lookupswitch 40 #[(0, 27), (1, 32)], 27) := by decide +kernel
theorem dX11_figureOf_28 : decode cX11_figureOf 28 = .ok (.iload_n 0, 1) := by decide +kernel
theorem dX11_figureOf_29 : decode cX11_figureOf 29 = .ok (.bipush 100, 2) := by decide +kernel
theorem dX11_figureOf_31 : decode cX11_figureOf 31 = .ok (.idiv, 1) := by decide +kernel
theorem dX11_figureOf_32 : decode cX11_figureOf 32 = .ok (.ireturn, 1) := by decide +kernel
theorem dX11_figureOf_33 : decode cX11_figureOf 33 = .ok (.iload_n 0, 1) := by decide +kernel
theorem dX11_figureOf_34 : decode cX11_figureOf 34 = .ok (.bipush 10, 2) := by decide +kernel
theorem dX11_figureOf_36 : decode cX11_figureOf 36 = .ok (.idiv, 1) := by decide +kernel
theorem dX11_figureOf_37 : decode cX11_figureOf 37 = .ok (.bipush 10, 2) := by decide +kernel
theorem dX11_figureOf_39 : decode cX11_figureOf 39 = .ok (.irem, 1) := by decide +kernel
theorem dX11_figureOf_40 : decode cX11_figureOf 40 = .ok (.ireturn, 1) := by decide +kernel
theorem dX11_figureOf_41 : decode cX11_figureOf 41 = .ok (.iload_n 0, 1) := by decide +kernel
theorem dX11_figureOf_42 : decode cX11_figureOf 42 = .ok (.bipush 10, 2) := by decide +kernel
theorem dX11_figureOf_44 : decode cX11_figureOf 44 = .ok (.irem, 1) := by decide +kernel
theorem dX11_figureOf_45 : decode cX11_figureOf 45 = .ok (.ireturn, 1) := by decide +kernel
theorem dJ6_bitCount_0f7a4_0 : decode cJ6_bitCount_0f7a4 0 = .ok (.iload_n 0, 1) := by decide +kernel
theorem dJ6_bitCount_0f7a4_1 : decode cJ6_bitCount_0f7a4 1 = .ok (.iload_n 0, 1) := by decide +kernel
theorem dJ6_bitCount_0f7a4_2 : decode cJ6_bitCount_0f7a4 2 = .ok (.iconst 1, 1) := by decide +kernel
theorem dJ6_bitCount_0f7a4_3 : decode cJ6_bitCount_0f7a4 3 = .ok (.iushr, 1) := by decide +kernel
theorem dJ6_bitCount_0f7a4_4 : decode cJ6_bitCount_0f7a4 4 = .ok (.ldc_w 265, 3) := by decide +kernel
theorem dJ6_bitCount_0f7a4_7 : decode cJ6_bitCount_0f7a4 7 = .ok (.iand, 1) := by decide +kernel
theorem dJ6_bitCount_0f7a4_8 : decode cJ6_bitCount_0f7a4 8 = .ok (.isub, 1) := by decide +kernel
theorem dJ6_bitCount_0f7a4_9 : decode cJ6_bitCount_0f7a4 9 = .ok (.istore_n 0, 1) := by decide +kernel
theorem dJ6_bitCount_0f7a4_10 : decode cJ6_bitCount_0f7a4 10 = .ok (.iload_n 0, 1) := by decide +kernel
theorem dJ6_bitCount_0f7a4_11 : decode cJ6_bitCount_0f7a4 11 = .ok (.ldc_w 266, 3) := by decide +kernel
theorem dJ6_bitCount_0f7a4_14 : decode cJ6_bitCount_0f7a4 14 = .ok (.iand, 1) := by decide +kernel
theorem dJ6_bitCount_0f7a4_15 : decode cJ6_bitCount_0f7a4 15 = .ok (.iload_n 0, 1) := by decide +kernel
theorem dJ6_bitCount_0f7a4_16 : decode cJ6_bitCount_0f7a4 16 = .ok (.iconst 2, 1) := by decide +kernel
theorem dJ6_bitCount_0f7a4_17 : decode cJ6_bitCount_0f7a4 17 = .ok (.iushr, 1) := by decide +kernel
theorem dJ6_bitCount_0f7a4_18 : decode cJ6_bitCount_0f7a4 18 = .ok (.ldc_w 266, 3) := by decide +kernel
theorem dJ6_bitCount_0f7a4_21 : decode cJ6_bitCount_0f7a4 21 = .ok (.iand, 1) := by decide +kernel
theorem dJ6_bitCount_0f7a4_22 : decode cJ6_bitCount_0f7a4 22 = .ok (.iadd, 1) := by decide +kernel
theorem dJ6_bitCount_0f7a4_23 : decode cJ6_bitCount_0f7a4 23 = .ok (.istore_n 0, 1) := by decide +kernel
theorem dJ6_bitCount_0f7a4_24 : decode cJ6_bitCount_0f7a4 24 = .ok (.iload_n 0, 1) := by decide +kernel
theorem dJ6_bitCount_0f7a4_25 : decode cJ6_bitCount_0f7a4 25 = .ok (.iload_n 0, 1) := by decide +kernel
theorem dJ6_bitCount_0f7a4_26 : decode cJ6_bitCount_0f7a4 26 = .ok (.iconst 4, 1) := by decide +kernel
theorem dJ6_bitCount_0f7a4_27 : decode cJ6_bitCount_0f7a4 27 = .ok (.iushr, 1) := by decide +kernel
theorem dJ6_bitCount_0f7a4_28 : decode cJ6_bitCount_0f7a4 28 = .ok (.iadd, 1) := by decide +kernel
theorem dJ6_bitCount_0f7a4_29 : decode cJ6_bitCount_0f7a4 29 = .ok (.ldc_w 267, 3) := by decide +kernel
theorem dJ6_bitCount_0f7a4_32 : decode cJ6_bitCount_0f7a4 32 = .ok (.iand, 1) := by decide +kernel
theorem dJ6_bitCount_0f7a4_33 : decode cJ6_bitCount_0f7a4 33 = .ok (.istore_n 0, 1) := by decide +kernel
theorem dJ6_bitCount_0f7a4_34 : decode cJ6_bitCount_0f7a4 34 = .ok (.iload_n 0, 1) := by decide +kernel
theorem dJ6_bitCount_0f7a4_35 : decode cJ6_bitCount_0f7a4 35 = .ok (.iload_n 0, 1) := by decide +kernel
theorem dJ6_bitCount_0f7a4_36 : decode cJ6_bitCount_0f7a4 36 = .ok (.bipush 8, 2) := by decide +kernel
theorem dJ6_bitCount_0f7a4_38 : decode cJ6_bitCount_0f7a4 38 = .ok (.iushr, 1) := by decide +kernel
theorem dJ6_bitCount_0f7a4_39 : decode cJ6_bitCount_0f7a4 39 = .ok (.iadd, 1) := by decide +kernel
theorem dJ6_bitCount_0f7a4_40 : decode cJ6_bitCount_0f7a4 40 = .ok (.istore_n 0, 1) := by decide +kernel
theorem dJ6_bitCount_0f7a4_41 : decode cJ6_bitCount_0f7a4 41 = .ok (.iload_n 0, 1) := by decide +kernel
theorem dJ6_bitCount_0f7a4_42 : decode cJ6_bitCount_0f7a4 42 = .ok (.iload_n 0, 1) := by decide +kernel
theorem dJ6_bitCount_0f7a4_43 : decode cJ6_bitCount_0f7a4 43 = .ok (.bipush 16, 2) := by decide +kernel
theorem dJ6_bitCount_0f7a4_45 : decode cJ6_bitCount_0f7a4 45 = .ok (.iushr, 1) := by decide +kernel
theorem dJ6_bitCount_0f7a4_46 : decode cJ6_bitCount_0f7a4 46 = .ok (.iadd, 1) := by decide +kernel
theorem dJ6_bitCount_0f7a4_47 : decode cJ6_bitCount_0f7a4 47 = .ok (.istore_n 0, 1) := by decide +kernel
theorem dJ6_bitCount_0f7a4_48 : decode cJ6_bitCount_0f7a4 48 = .ok (.iload_n 0, 1) := by decide +kernel
theorem dJ6_bitCount_0f7a4_49 : decode cJ6_bitCount_0f7a4 49 = .ok (.bipush 63, 2) := by decide +kernel
theorem dJ6_bitCount_0f7a4_51 : decode cJ6_bitCount_0f7a4 51 = .ok (.iand, 1) := by decide +kernel
theorem dJ6_bitCount_0f7a4_52 : decode cJ6_bitCount_0f7a4 52 = .ok (.ireturn, 1) := by decide +kernel
theorem dJ13_bitCount_95d88_0 : decode cJ13_bitCount_95d88 0 = .ok (.lload_n 0, 1) := by decide +kernel
theorem dJ13_bitCount_95d88_1 : decode cJ13_bitCount_95d88 1 = .ok (.lload_n 0, 1) := by decide +kernel
theorem dJ13_bitCount_95d88_2 : decode cJ13_bitCount_95d88 2 = .ok (.iconst 1, 1) := by decide +kernel
theorem dJ13_bitCount_95d88_3 : decode cJ13_bitCount_95d88 3 = .ok (.lushr, 1) := by decide +kernel
theorem dJ13_bitCount_95d88_4 : decode cJ13_bitCount_95d88 4 = .ok (.ldc2_w 314, 3) := by decide +kernel
theorem dJ13_bitCount_95d88_7 : decode cJ13_bitCount_95d88 7 = .ok (.land, 1) := by decide +kernel
theorem dJ13_bitCount_95d88_8 : decode cJ13_bitCount_95d88 8 = .ok (.lsub, 1) := by decide +kernel
theorem dJ13_bitCount_95d88_9 : decode cJ13_bitCount_95d88 9 = .ok (.lstore_n 0, 1) := by decide +kernel
theorem dJ13_bitCount_95d88_10 : decode cJ13_bitCount_95d88 10 = .ok (.lload_n 0, 1) := by decide +kernel
theorem dJ13_bitCount_95d88_11 : decode cJ13_bitCount_95d88 11 = .ok (.ldc2_w 316, 3) := by decide +kernel
theorem dJ13_bitCount_95d88_14 : decode cJ13_bitCount_95d88 14 = .ok (.land, 1) := by decide +kernel
theorem dJ13_bitCount_95d88_15 : decode cJ13_bitCount_95d88 15 = .ok (.lload_n 0, 1) := by decide +kernel
theorem dJ13_bitCount_95d88_16 : decode cJ13_bitCount_95d88 16 = .ok (.iconst 2, 1) := by decide +kernel
theorem dJ13_bitCount_95d88_17 : decode cJ13_bitCount_95d88 17 = .ok (.lushr, 1) := by decide +kernel
theorem dJ13_bitCount_95d88_18 : decode cJ13_bitCount_95d88 18 = .ok (.ldc2_w 316, 3) := by decide +kernel
theorem dJ13_bitCount_95d88_21 : decode cJ13_bitCount_95d88 21 = .ok (.land, 1) := by decide +kernel
theorem dJ13_bitCount_95d88_22 : decode cJ13_bitCount_95d88 22 = .ok (.ladd, 1) := by decide +kernel
theorem dJ13_bitCount_95d88_23 : decode cJ13_bitCount_95d88 23 = .ok (.lstore_n 0, 1) := by decide +kernel
theorem dJ13_bitCount_95d88_24 : decode cJ13_bitCount_95d88 24 = .ok (.lload_n 0, 1) := by decide +kernel
theorem dJ13_bitCount_95d88_25 : decode cJ13_bitCount_95d88 25 = .ok (.lload_n 0, 1) := by decide +kernel
theorem dJ13_bitCount_95d88_26 : decode cJ13_bitCount_95d88 26 = .ok (.iconst 4, 1) := by decide +kernel
theorem dJ13_bitCount_95d88_27 : decode cJ13_bitCount_95d88 27 = .ok (.lushr, 1) := by decide +kernel
theorem dJ13_bitCount_95d88_28 : decode cJ13_bitCount_95d88 28 = .ok (.ladd, 1) := by decide +kernel
theorem dJ13_bitCount_95d88_29 : decode cJ13_bitCount_95d88 29 = .ok (.ldc2_w 318, 3) := by decide +kernel
theorem dJ13_bitCount_95d88_32 : decode cJ13_bitCount_95d88 32 = .ok (.land, 1) := by decide +kernel
theorem dJ13_bitCount_95d88_33 : decode cJ13_bitCount_95d88 33 = .ok (.lstore_n 0, 1) := by decide +kernel
theorem dJ13_bitCount_95d88_34 : decode cJ13_bitCount_95d88 34 = .ok (.lload_n 0, 1) := by decide +kernel
theorem dJ13_bitCount_95d88_35 : decode cJ13_bitCount_95d88 35 = .ok (.lload_n 0, 1) := by decide +kernel
theorem dJ13_bitCount_95d88_36 : decode cJ13_bitCount_95d88 36 = .ok (.bipush 8, 2) := by decide +kernel
theorem dJ13_bitCount_95d88_38 : decode cJ13_bitCount_95d88 38 = .ok (.lushr, 1) := by decide +kernel
theorem dJ13_bitCount_95d88_39 : decode cJ13_bitCount_95d88 39 = .ok (.ladd, 1) := by decide +kernel
theorem dJ13_bitCount_95d88_40 : decode cJ13_bitCount_95d88 40 = .ok (.lstore_n 0, 1) := by decide +kernel
theorem dJ13_bitCount_95d88_41 : decode cJ13_bitCount_95d88 41 = .ok (.lload_n 0, 1) := by decide +kernel
theorem dJ13_bitCount_95d88_42 : decode cJ13_bitCount_95d88 42 = .ok (.lload_n 0, 1) := by decide +kernel
theorem dJ13_bitCount_95d88_43 : decode cJ13_bitCount_95d88 43 = .ok (.bipush 16, 2) := by decide +kernel
theorem dJ13_bitCount_95d88_45 : decode cJ13_bitCount_95d88 45 = .ok (.lushr, 1) := by decide +kernel
theorem dJ13_bitCount_95d88_46 : decode cJ13_bitCount_95d88 46 = .ok (.ladd, 1) := by decide +kernel
theorem dJ13_bitCount_95d88_47 : decode cJ13_bitCount_95d88 47 = .ok (.lstore_n 0, 1) := by decide +kernel
theorem dJ13_bitCount_95d88_48 : decode cJ13_bitCount_95d88 48 = .ok (.lload_n 0, 1) := by decide +kernel
theorem dJ13_bitCount_95d88_49 : decode cJ13_bitCount_95d88 49 = .ok (.lload_n 0, 1) := by decide +kernel
theorem dJ13_bitCount_95d88_50 : decode cJ13_bitCount_95d88 50 = .ok (.bipush 32, 2) := by decide +kernel
theorem dJ13_bitCount_95d88_52 : decode cJ13_bitCount_95d88 52 = .ok (.lushr, 1) := by decide +kernel
theorem dJ13_bitCount_95d88_53 : decode cJ13_bitCount_95d88 53 = .ok (.ladd, 1) := by decide +kernel
theorem dJ13_bitCount_95d88_54 : decode cJ13_bitCount_95d88 54 = .ok (.lstore_n 0, 1) := by decide +kernel
theorem dJ13_bitCount_95d88_55 : decode cJ13_bitCount_95d88 55 = .ok (.lload_n 0, 1) := by decide +kernel
theorem dJ13_bitCount_95d88_56 : decode cJ13_bitCount_95d88 56 = .ok (.l2i, 1) := by decide +kernel
theorem dJ13_bitCount_95d88_57 : decode cJ13_bitCount_95d88 57 = .ok (.bipush 127, 2) := by decide +kernel
theorem dJ13_bitCount_95d88_59 : decode cJ13_bitCount_95d88 59 = .ok (.iand, 1) := by decide +kernel
theorem dJ13_bitCount_95d88_60 : decode cJ13_bitCount_95d88 60 = .ok (.ireturn, 1) := by decide +kernel
theorem dJ9_max_7cf53_0 : decode cJ9_max_7cf53 0 = .ok (.iload_n 0, 1) := by decide +kernel
theorem dJ9_max_7cf53_1 : decode cJ9_max_7cf53 1 = .ok (.iload_n 1, 1) := by decide +kernel
theorem dJ9_max_7cf53_2 : decode cJ9_max_7cf53 2 = .ok (.if_icmp .lt 7, 3) := by decide +kernel
theorem dJ9_max_7cf53_5 : decode cJ9_max_7cf53 5 = .ok (.iload_n 0, 1) := by decide +kernel
theorem dJ9_max_7cf53_6 : decode cJ9_max_7cf53 6 = .ok (.goto 4, 3) := by decide +kernel
theorem dJ9_max_7cf53_9 : decode cJ9_max_7cf53 9 = .ok (.iload_n 1, 1) := by decide +kernel
theorem dJ9_max_7cf53_10 : decode cJ9_max_7cf53 10 = .ok (.ireturn, 1) := by decide +kernel
theorem dJ9_min_7cf53_0 : decode cJ9_min_7cf53 0 = .ok (.iload_n 0, 1) := by decide +kernel
theorem dJ9_min_7cf53_1 : decode cJ9_min_7cf53 1 = .ok (.iload_n 1, 1) := by decide +kernel
theorem dJ9_min_7cf53_2 : decode cJ9_min_7cf53 2 = .ok (.if_icmp .gt 7, 3) := by decide +kernel
theorem dJ9_min_7cf53_5 : decode cJ9_min_7cf53 5 = .ok (.iload_n 0, 1) := by decide +kernel
theorem dJ9_min_7cf53_6 : decode cJ9_min_7cf53 6 = .ok (.goto 4, 3) := by decide +kernel
theorem dJ9_min_7cf53_9 : decode cJ9_min_7cf53 9 = .ok (.iload_n 1, 1) := by decide +kernel
theorem dJ9_min_7cf53_10 : decode cJ9_min_7cf53 10 = .ok (.ireturn, 1) := by decide +kernel
theorem dJ0_length_8abf5_0 : decode cJ0_length_8abf5 0 = .ok (.aload_n 0, 1) := by decide +kernel
theorem dJ0_length_8abf5_1 : decode cJ0_length_8abf5 1 = .ok (.getfield 9, 3) := by decide +kernel
theorem dJ0_length_8abf5_4 : decode cJ0_length_8abf5 4 = .ok (.arraylength, 1) := by decide +kernel
theorem dJ0_length_8abf5_5 : decode cJ0_length_8abf5 5 = .ok (.aload_n 0, 1) := by decide +kernel
theorem dJ0_length_8abf5_6 : decode cJ0_length_8abf5 6 = .ok (.invokevirtual 335, 3) := by decide +kernel
theorem dJ0_length_8abf5_9 : decode cJ0_length_8abf5 9 = .ok (.ishr, 1) := by decide +kernel
theorem dJ0_length_8abf5_10 : decode cJ0_length_8abf5 10 = .ok (.ireturn, 1) := by decide +kernel
theorem dJ0_charAt_5068e_0 : decode cJ0_charAt_5068e 0 = .ok (.aload_n 0, 1) := by decide +kernel
theorem dJ0_charAt_5068e_1 : decode cJ0_charAt_5068e 1 = .ok (.invokevirtual 492, 3) := by decide +kernel
theorem dJ0_charAt_5068e_4 : decode cJ0_charAt_5068e 4 = .ok (.ifCond .eq 12, 3) := by decide +kernel
theorem dJ0_charAt_5068e_7 : decode cJ0_charAt_5068e 7 = .ok (.aload_n 0, 1) := by decide +kernel
theorem dJ0_charAt_5068e_8 : decode cJ0_charAt_5068e 8 = .ok (.getfield 9, 3) := by decide +kernel
theorem dJ0_charAt_5068e_11 : decode cJ0_charAt_5068e 11 = .ok (.iload_n 1, 1) := by decide +kernel
theorem dJ0_charAt_5068e_12 : decode cJ0_charAt_5068e 12 = .ok (.invokestatic 495, 3) := by decide +kernel
theorem dJ0_charAt_5068e_15 : decode cJ0_charAt_5068e 15 = .ok (.ireturn, 1) := by decide +kernel
theorem dJ0_charAt_5068e_16 : decode cJ0_charAt_5068e 16 = .ok (.aload_n 0, 1) := by decide +kernel
theorem dJ0_charAt_5068e_17 : decode cJ0_charAt_5068e 17 = .ok (.getfield 9, 3) := by decide +kernel
theorem dJ0_charAt_5068e_20 : decode cJ0_charAt_5068e 20 = .ok (.iload_n 1, 1) := by decide +kernel
theorem dJ0_charAt_5068e_21 : decode cJ0_charAt_5068e 21 = .ok (.invokestatic 498, 3) := by decide +kernel
theorem dJ0_charAt_5068e_24 : decode cJ0_charAt_5068e 24 = .ok (.ireturn, 1) := by decide +kernel
theorem dJ0_coder_7d493_0 : decode cJ0_coder_7d493 0 = .ok (.getstatic 38, 3) := by decide +kernel
theorem dJ0_coder_7d493_3 : decode cJ0_coder_7d493 3 = .ok (.ifCond .eq 10, 3) := by decide +kernel
theorem dJ0_coder_7d493_6 : decode cJ0_coder_7d493 6 = .ok (.aload_n 0, 1) := by decide +kernel
theorem dJ0_coder_7d493_7 : decode cJ0_coder_7d493 7 = .ok (.getfield 15, 3) := by decide +kernel
theorem dJ0_coder_7d493_10 : decode cJ0_coder_7d493 10 = .ok (.goto 4, 3) := by decide +kernel
theorem dJ0_coder_7d493_13 : decode cJ0_coder_7d493 13 = .ok (.iconst 1, 1) := by decide +kernel
theorem dJ0_coder_7d493_14 : decode cJ0_coder_7d493 14 = .ok (.ireturn, 1) := by decide +kernel
theorem dJ0_isLatin1_aae02_0 : decode cJ0_isLatin1_aae02 0 = .ok (.getstatic 38, 3) := by decide +kernel
theorem dJ0_isLatin1_aae02_3 : decode cJ0_isLatin1_aae02 3 = .ok (.ifCond .eq 14, 3) := by decide +kernel
theorem dJ0_isLatin1_aae02_6 : decode cJ0_isLatin1_aae02 6 = .ok (.aload_n 0, 1) := by decide +kernel
theorem dJ0_isLatin1_aae02_7 : decode cJ0_isLatin1_aae02 7 = .ok (.getfield 15, 3) := by decide +kernel
theorem dJ0_isLatin1_aae02_10 : decode cJ0_isLatin1_aae02 10 = .ok (.ifCond .ne 7, 3) := by decide +kernel
theorem dJ0_isLatin1_aae02_13 : decode cJ0_isLatin1_aae02 13 = .ok (.iconst 1, 1) := by decide +kernel
theorem dJ0_isLatin1_aae02_14 : decode cJ0_isLatin1_aae02 14 = .ok (.goto 4, 3) := by decide +kernel
theorem dJ0_isLatin1_aae02_17 : decode cJ0_isLatin1_aae02 17 = .ok (.iconst 0, 1) := by decide +kernel
theorem dJ0_isLatin1_aae02_18 : decode cJ0_isLatin1_aae02 18 = .ok (.ireturn, 1) := by decide +kernel
theorem dJ0_checkIndex_df160_0 : decode cJ0_checkIndex_df160 0 = .ok (.iload_n 0, 1) := by decide +kernel
theorem dJ0_checkIndex_df160_1 : decode cJ0_checkIndex_df160 1 = .ok (.iload_n 1, 1) := by decide +kernel
theorem dJ0_checkIndex_df160_2 : decode cJ0_checkIndex_df160 2 = .ok (.getstatic 1053, 3) := by decide +kernel
theorem dJ0_checkIndex_df160_5 : decode cJ0_checkIndex_df160 5 = .ok (.invokestatic 1059, 3) := by decide +kernel
theorem dJ0_checkIndex_df160_8 : decode cJ0_checkIndex_df160 8 = .ok (.pop, 1) := by decide +kernel
theorem dJ0_checkIndex_df160_9 : decode cJ0_checkIndex_df160 9 = .ok (.return_, 1) := by decide +kernel
theorem dJ1_charAt_3b067_0 : decode cJ1_charAt_3b067 0 = .ok (.iload_n 1, 1) := by decide +kernel
theorem dJ1_charAt_3b067_1 : decode cJ1_charAt_3b067 1 = .ok (.aload_n 0, 1) := by decide +kernel
theorem dJ1_charAt_3b067_2 : decode cJ1_charAt_3b067 2 = .ok (.arraylength, 1) := by decide +kernel
theorem dJ1_charAt_3b067_3 : decode cJ1_charAt_3b067 3 = .ok (.invokestatic 9, 3) := by decide +kernel
theorem dJ1_charAt_3b067_6 : decode cJ1_charAt_3b067 6 = .ok (.aload_n 0, 1) := by decide +kernel
theorem dJ1_charAt_3b067_7 : decode cJ1_charAt_3b067 7 = .ok (.iload_n 1, 1) := by decide +kernel
theorem dJ1_charAt_3b067_8 : decode cJ1_charAt_3b067 8 = .ok (.baload, 1) := by decide +kernel
theorem dJ1_charAt_3b067_9 : decode cJ1_charAt_3b067 9 = .ok (.sipush 255, 3) := by decide +kernel
theorem dJ1_charAt_3b067_12 : decode cJ1_charAt_3b067 12 = .ok (.iand, 1) := by decide +kernel
theorem dJ1_charAt_3b067_13 : decode cJ1_charAt_3b067 13 = .ok (.i2c, 1) := by decide +kernel
theorem dJ1_charAt_3b067_14 : decode cJ1_charAt_3b067 14 = .ok (.ireturn, 1) := by decide +kernel
theorem dJ2_getChar_3b067_0 : decode cJ2_getChar_3b067 0 = .ok (.getstatic 44, 3) := by decide +kernel
theorem dJ2_getChar_3b067_3 : decode cJ2_getChar_3b067 3 = .ok (.ifCond .ne 25, 3) := by decide +kernel
theorem dJ2_getChar_3b067_6 : decode cJ2_getChar_3b067 6 = .ok (.iload_n 1, 1) := by decide +kernel
theorem dJ2_getChar_3b067_7 : decode cJ2_getChar_3b067 7 = .ok (.ifCond .lt 11, 3) := by decide +kernel
theorem dJ2_getChar_3b067_10 : decode cJ2_getChar_3b067 10 = .ok (.iload_n 1, 1) := by decide +kernel
theorem dJ2_getChar_3b067_11 : decode cJ2_getChar_3b067 11 = .ok (.aload_n 0, 1) := by decide +kernel
theorem dJ2_getChar_3b067_12 : decode cJ2_getChar_3b067 12 = .ok (.invokestatic 48, 3) := by decide +kernel
theorem dJ2_getChar_3b067_15 : decode cJ2_getChar_3b067 15 = .ok (.if_icmp .lt 13, 3) := by decide +kernel
theorem dJ2_getChar_3b067_18 : decode cJ2_getChar_3b067 18 = .ok (.new 52, 3) := by decide +kernel
theorem dJ2_getChar_3b067_21 : decode cJ2_getChar_3b067 21 = .ok (.dup, 1) := by decide +kernel
theorem dJ2_getChar_3b067_22 : decode cJ2_getChar_3b067 22 = .ok (.ldc 54, 2) := by decide +kernel
theorem dJ2_getChar_3b067_24 : decode cJ2_getChar_3b067 24 = .ok (.invokespecial 56, 3) := by decide +kernel
theorem dJ2_getChar_3b067_27 : decode cJ2_getChar_3b067 27 = .ok (.athrow, 1) := by decide +kernel
theorem dJ2_getChar_3b067_28 : decode cJ2_getChar_3b067 28 = .ok (.iload_n 1, 1) := by decide +kernel
theorem dJ2_getChar_3b067_29 : decode cJ2_getChar_3b067 29 = .ok (.iconst 1, 1) := by decide +kernel
theorem dJ2_getChar_3b067_30 : decode cJ2_getChar_3b067 30 = .ok (.ishl, 1) := by decide +kernel
theorem dJ2_getChar_3b067_31 : decode cJ2_getChar_3b067 31 = .ok (.istore_n 1, 1) := by decide +kernel
theorem dJ2_getChar_3b067_32 : decode cJ2_getChar_3b067 32 = .ok (.aload_n 0, 1) := by decide +kernel
theorem dJ2_getChar_3b067_33 : decode cJ2_getChar_3b067 33 = .ok (.iload_n 1, 1) := by decide +kernel
theorem dJ2_getChar_3b067_34 : decode cJ2_getChar_3b067 34 = .ok (.iinc 1 1, 3) := by decide +kernel
theorem dJ2_getChar_3b067_37 : decode cJ2_getChar_3b067 37 = .ok (.baload, 1) := by decide +kernel
theorem dJ2_getChar_3b067_38 : decode cJ2_getChar_3b067 38 = .ok (.sipush 255, 3) := by decide +kernel
theorem dJ2_getChar_3b067_41 : decode cJ2_getChar_3b067 41 = .ok (.iand, 1) := by decide +kernel
theorem dJ2_getChar_3b067_42 : decode cJ2_getChar_3b067 42 = .ok (.getstatic 59, 3) := by decide +kernel
theorem dJ2_getChar_3b067_45 : decode cJ2_getChar_3b067 45 = .ok (.ishl, 1) := by decide +kernel
theorem dJ2_getChar_3b067_46 : decode cJ2_getChar_3b067 46 = .ok (.aload_n 0, 1) := by decide +kernel
theorem dJ2_getChar_3b067_47 : decode cJ2_getChar_3b067 47 = .ok (.iload_n 1, 1) := by decide +kernel
theorem dJ2_getChar_3b067_48 : decode cJ2_getChar_3b067 48 = .ok (.baload, 1) := by decide +kernel
theorem dJ2_getChar_3b067_49 : decode cJ2_getChar_3b067 49 = .ok (.sipush 255, 3) := by decide +kernel
theorem dJ2_getChar_3b067_52 : decode cJ2_getChar_3b067 52 = .ok (.iand, 1) := by decide +kernel
theorem dJ2_getChar_3b067_53 : decode cJ2_getChar_3b067 53 = .ok (.getstatic 63, 3) := by decide +kernel
theorem dJ2_getChar_3b067_56 : decode cJ2_getChar_3b067 56 = .ok (.ishl, 1) := by decide +kernel
theorem dJ2_getChar_3b067_57 : decode cJ2_getChar_3b067 57 = .ok (.ior, 1) := by decide +kernel
theorem dJ2_getChar_3b067_58 : decode cJ2_getChar_3b067 58 = .ok (.i2c, 1) := by decide +kernel
theorem dJ2_getChar_3b067_59 : decode cJ2_getChar_3b067 59 = .ok (.ireturn, 1) := by decide +kernel
theorem dJ2_length_9d52b_0 : decode cJ2_length_9d52b 0 = .ok (.aload_n 0, 1) := by decide +kernel
theorem dJ2_length_9d52b_1 : decode cJ2_length_9d52b 1 = .ok (.arraylength, 1) := by decide +kernel
theorem dJ2_length_9d52b_2 : decode cJ2_length_9d52b 2 = .ok (.iconst 1, 1) := by decide +kernel
theorem dJ2_length_9d52b_3 : decode cJ2_length_9d52b 3 = .ok (.ishr, 1) := by decide +kernel
theorem dJ2_length_9d52b_4 : decode cJ2_length_9d52b 4 = .ok (.ireturn, 1) := by decide +kernel
theorem dJ2_charAt_3b067_0 : decode cJ2_charAt_3b067 0 = .ok (.iload_n 1, 1) := by decide +kernel
theorem dJ2_charAt_3b067_1 : decode cJ2_charAt_3b067 1 = .ok (.aload_n 0, 1) := by decide +kernel
theorem dJ2_charAt_3b067_2 : decode cJ2_charAt_3b067 2 = .ok (.invokestatic 67, 3) := by decide +kernel
theorem dJ2_charAt_3b067_5 : decode cJ2_charAt_3b067 5 = .ok (.aload_n 0, 1) := by decide +kernel
theorem dJ2_charAt_3b067_6 : decode cJ2_charAt_3b067 6 = .ok (.iload_n 1, 1) := by decide +kernel
theorem dJ2_charAt_3b067_7 : decode cJ2_charAt_3b067 7 = .ok (.invokestatic 71, 3) := by decide +kernel
theorem dJ2_charAt_3b067_10 : decode cJ2_charAt_3b067 10 = .ok (.ireturn, 1) := by decide +kernel
theorem dJ2_checkIndex_2214a_0 : decode cJ2_checkIndex_2214a 0 = .ok (.iload_n 0, 1) := by decide +kernel
theorem dJ2_checkIndex_2214a_1 : decode cJ2_checkIndex_2214a 1 = .ok (.aload_n 1, 1) := by decide +kernel
theorem dJ2_checkIndex_2214a_2 : decode cJ2_checkIndex_2214a 2 = .ok (.invokestatic 48, 3) := by decide +kernel
theorem dJ2_checkIndex_2214a_5 : decode cJ2_checkIndex_2214a 5 = .ok (.invokestatic 414, 3) := by decide +kernel
theorem dJ2_checkIndex_2214a_8 : decode cJ2_checkIndex_2214a 8 = .ok (.return_, 1) := by decide +kernel
theorem dJ7_fill_53178_0 : decode cJ7_fill_53178 0 = .ok (.iconst 0, 1) := by decide +kernel
theorem dJ7_fill_53178_1 : decode cJ7_fill_53178 1 = .ok (.istore_n 2, 1) := by decide +kernel
theorem dJ7_fill_53178_2 : decode cJ7_fill_53178 2 = .ok (.aload_n 0, 1) := by decide +kernel
theorem dJ7_fill_53178_3 : decode cJ7_fill_53178 3 = .ok (.arraylength, 1) := by decide +kernel
theorem dJ7_fill_53178_4 : decode cJ7_fill_53178 4 = .ok (.istore_n 3, 1) := by decide +kernel
theorem dJ7_fill_53178_5 : decode cJ7_fill_53178 5 = .ok (.iload_n 2, 1) := by decide +kernel
theorem dJ7_fill_53178_6 : decode cJ7_fill_53178 6 = .ok (.iload_n 3, 1) := by decide +kernel
theorem dJ7_fill_53178_7 : decode cJ7_fill_53178 7 = .ok (.if_icmp .ge 13, 3) := by decide +kernel
theorem dJ7_fill_53178_10 : decode cJ7_fill_53178 10 = .ok (.aload_n 0, 1) := by decide +kernel
theorem dJ7_fill_53178_11 : decode cJ7_fill_53178 11 = .ok (.iload_n 2, 1) := by decide +kernel
theorem dJ7_fill_53178_12 : decode cJ7_fill_53178 12 = .ok (.iload_n 1, 1) := by decide +kernel
theorem dJ7_fill_53178_13 : decode cJ7_fill_53178 13 = .ok (.iastore, 1) := by decide +kernel
theorem dJ7_fill_53178_14 : decode cJ7_fill_53178 14 = .ok (.iinc 2 1, 3) := by decide +kernel
theorem dJ7_fill_53178_17 : decode cJ7_fill_53178 17 = .ok (.goto (-12), 3) := by decide +kernel
theorem dJ7_fill_53178_20 : decode cJ7_fill_53178 20 = .ok (.return_, 1) := by decide +kernel
theorem dJ3_checkIndex_8e157_0 : decode cJ3_checkIndex_8e157 0 = .ok (.iload_n 0, 1) := by decide +kernel
theorem dJ3_checkIndex_8e157_1 : decode cJ3_checkIndex_8e157 1 = .ok (.ifCond .lt 8, 3) := by decide +kernel
theorem dJ3_checkIndex_8e157_4 : decode cJ3_checkIndex_8e157 4 = .ok (.iload_n 0, 1) := by decide +kernel
theorem dJ3_checkIndex_8e157_5 : decode cJ3_checkIndex_8e157 5 = .ok (.iload_n 1, 1) := by decide +kernel
theorem dJ3_checkIndex_8e157_6 : decode cJ3_checkIndex_8e157 6 = .ok (.if_icmp .lt 10, 3) := by decide +kernel
theorem dJ3_checkIndex_8e157_9 : decode cJ3_checkIndex_8e157 9 = .ok (.aload_n 2, 1) := by decide +kernel
theorem dJ3_checkIndex_8e157_10 : decode cJ3_checkIndex_8e157 10 = .ok (.iload_n 0, 1) := by decide +kernel
theorem dJ3_checkIndex_8e157_11 : decode cJ3_checkIndex_8e157 11 = .ok (.iload_n 1, 1) := by decide +kernel
theorem dJ3_checkIndex_8e157_12 : decode cJ3_checkIndex_8e157 12 = .ok (.invokestatic 95, 3) := by decide +kernel
theorem dJ3_checkIndex_8e157_15 : decode cJ3_checkIndex_8e157 15 = .ok (.athrow, 1) := by decide +kernel
theorem dJ3_checkIndex_8e157_16 : decode cJ3_checkIndex_8e157 16 = .ok (.iload_n 0, 1) := by decide +kernel
theorem dJ3_checkIndex_8e157_17 : decode cJ3_checkIndex_8e157 17 = .ok (.ireturn, 1) := by decide +kernel
end
section
theorem dX0_init_0 : decode cX0_init 0 = .ok (.aload_n 0, 1) := by decide +kernel
theorem dX0_init_1 : decode cX0_init 1 = .ok (.invokespecial 3, 3) := by decide +kernel
theorem dX0_init_4 : decode cX0_init 4 = .ok (.aload_n 0, 1) := by decide +kernel
theorem dX0_init_5 : decode cX0_init 5 = .ok (.bipush 40, 2) := by decide +kernel
theorem dX0_init_7 : decode cX0_init 7 = .ok (.anewarray 9, 3) := by decide +kernel
theorem dX0_init_10 : decode cX0_init 10 = .ok (.putfield 11, 3) := by decide +kernel
theorem dX0_init_13 : decode cX0_init 13 = .ok (.aload_n 0, 1) := by decide +kernel
theorem dX0_init_14 : decode cX0_init 14 = .ok (.iconst 0, 1) := by decide +kernel
theorem dX0_init_15 : decode cX0_init 15 = .ok (.putfield 17, 3) := by decide +kernel
theorem dX0_init_18 : decode cX0_init 18 = .ok (.return_, 1) := by decide +kernel
theorem dX0_add_0 : decode cX0_add 0 = .ok (.aload_n 0, 1) := by decide +kernel
theorem dX0_add_1 : decode cX0_add 1 = .ok (.getfield 11, 3) := by decide +kernel
theorem dX0_add_4 : decode cX0_add 4 = .ok (.aload_n 0, 1) := by decide +kernel
theorem dX0_add_5 : decode cX0_add 5 = .ok (.getfield 17, 3) := by decide +kernel
theorem dX0_add_8 : decode cX0_add 8 = .ok (.aload_n 1, 1) := by decide +kernel
theorem dX0_add_9 : decode cX0_add 9 = .ok (.aastore, 1) := by decide +kernel
theorem dX0_add_10 : decode cX0_add 10 = .ok (.aload_n 0, 1) := by decide +kernel
theorem dX0_add_11 : decode cX0_add 11 = .ok (.dup, 1) := by decide +kernel
theorem dX0_add_12 : decode cX0_add 12 = .ok (.getfield 17, 3) := by decide +kernel
theorem dX0_add_15 : decode cX0_add 15 = .ok (.dup_x1, 1) := by decide +kernel
theorem dX0_add_16 : decode cX0_add 16 = .ok (.iconst 1, 1) := by decide +kernel
theorem dX0_add_17 : decode cX0_add 17 = .ok (.iadd, 1) := by decide +kernel
theorem dX0_add_18 : decode cX0_add 18 = .ok (.putfield 17, 3) := by decide +kernel
theorem dX0_add_21 : decode cX0_add 21 = .ok (.ireturn, 1) := by decide +kernel
theorem dX0_countOn_0 : decode cX0_countOn 0 = .ok (.iconst 0, 1) := by decide +kernel
theorem dX0_countOn_1 : decode cX0_countOn 1 = .ok (.istore_n 3, 1) := by decide +kernel
theorem dX0_countOn_2 : decode cX0_countOn 2 = .ok (.iconst 0, 1) := by decide +kernel
theorem dX0_countOn_3 : decode cX0_countOn 3 = .ok (.istore 4, 2) := by decide +kernel
theorem dX0_countOn_5 : decode cX0_countOn 5 = .ok (.iload 4, 2) := by decide +kernel
theorem dX0_countOn_7 : decode cX0_countOn 7 = .ok (.aload_n 0, 1) := by decide +kernel
theorem dX0_countOn_8 : decode cX0_countOn 8 = .ok (.getfield 17, 3) := by decide +kernel
theorem dX0_countOn_11 : decode cX0_countOn 11 = .ok (.if_icmp .ge 32, 3) := by decide +kernel
theorem dX0_countOn_14 : decode cX0_countOn 14 = .ok (.iload_n 3, 1) := by decide +kernel
theorem dX0_countOn_15 : decode cX0_countOn 15 = .ok (.aload_n 0, 1) := by decide +kernel
theorem dX0_countOn_16 : decode cX0_countOn 16 = .ok (.getfield 11, 3) := by decide +kernel
theorem dX0_countOn_19 : decode cX0_countOn 19 = .ok (.iload 4, 2) := by decide +kernel
theorem dX0_countOn_21 : decode cX0_countOn 21 = .ok (.aaload, 1) := by decide +kernel
theorem dX0_countOn_22 : decode cX0_countOn 22 = .ok (.iload_n 1, 1) := by decide +kernel
theorem dX0_countOn_23 : decode cX0_countOn 23 = .ok (.iload_n 2, 1) := by decide +kernel
theorem dX0_countOn_24 : decode cX0_countOn 24 = .ok (.invokevirtual 21, 3) := by decide +kernel
theorem dX0_countOn_27 : decode cX0_countOn 27 = .ok (.ifCond .eq 7, 3) := by decide +kernel
theorem dX0_countOn_30 : decode cX0_countOn 30 = .ok (.iconst 1, 1) := by decide +kernel
theorem dX0_countOn_31 : decode cX0_countOn 31 = .ok (.goto 4, 3) := by decide +kernel
theorem dX0_countOn_34 : decode cX0_countOn 34 = .ok (.iconst 0, 1) := by decide +kernel
theorem dX0_countOn_35 : decode cX0_countOn 35 = .ok (.iadd, 1) := by decide +kernel
theorem dX0_countOn_36 : decode cX0_countOn 36 = .ok (.istore_n 3, 1) := by decide +kernel
theorem dX0_countOn_37 : decode cX0_countOn 37 = .ok (.iinc 4 1, 3) := by decide +kernel
theorem dX0_countOn_40 : decode cX0_countOn 40 = .ok (.goto (-35), 3) := by decide +kernel
theorem dX0_countOn_43 : decode cX0_countOn 43 = .ok (.iload_n 3, 1) := by decide +kernel
theorem dX0_countOn_44 : decode cX0_countOn 44 = .ok (.ireturn, 1) := by decide +kernel
theorem dX0_areOneMail_0 : decode cX0_areOneMail 0 = .ok (.iconst 0, 1) := by decide +kernel
theorem dX0_areOneMail_1 : decode cX0_areOneMail 1 = .ok (.istore 4, 2) := by decide +kernel
theorem dX0_areOneMail_3 : decode cX0_areOneMail 3 = .ok (.iload 4, 2) := by decide +kernel
theorem dX0_areOneMail_5 : decode cX0_areOneMail 5 = .ok (.aload_n 0, 1) := by decide +kernel
theorem dX0_areOneMail_6 : decode cX0_areOneMail 6 = .ok (.getfield 17, 3) := by decide +kernel
theorem dX0_areOneMail_9 : decode cX0_areOneMail 9 = .ok (.if_icmp .ge 55, 3) := by decide +kernel
theorem dX0_areOneMail_12 : decode cX0_areOneMail 12 = .ok (.aload_n 0, 1) := by decide +kernel
theorem dX0_areOneMail_13 : decode cX0_areOneMail 13 = .ok (.getfield 11, 3) := by decide +kernel
theorem dX0_areOneMail_16 : decode cX0_areOneMail 16 = .ok (.iload 4, 2) := by decide +kernel
theorem dX0_areOneMail_18 : decode cX0_areOneMail 18 = .ok (.aaload, 1) := by decide +kernel
theorem dX0_areOneMail_19 : decode cX0_areOneMail 19 = .ok (.getfield 25, 3) := by decide +kernel
theorem dX0_areOneMail_22 : decode cX0_areOneMail 22 = .ok (.ifnull 36, 3) := by decide +kernel
theorem dX0_areOneMail_25 : decode cX0_areOneMail 25 = .ok (.aload_n 0, 1) := by decide +kernel
theorem dX0_areOneMail_26 : decode cX0_areOneMail 26 = .ok (.getfield 11, 3) := by decide +kernel
theorem dX0_areOneMail_29 : decode cX0_areOneMail 29 = .ok (.iload 4, 2) := by decide +kernel
theorem dX0_areOneMail_31 : decode cX0_areOneMail 31 = .ok (.aaload, 1) := by decide +kernel
theorem dX0_areOneMail_32 : decode cX0_areOneMail 32 = .ok (.iload_n 1, 1) := by decide +kernel
theorem dX0_areOneMail_33 : decode cX0_areOneMail 33 = .ok (.iload_n 3, 1) := by decide +kernel
theorem dX0_areOneMail_34 : decode cX0_areOneMail 34 = .ok (.invokevirtual 21, 3) := by decide +kernel
theorem dX0_areOneMail_37 : decode cX0_areOneMail 37 = .ok (.ifCond .eq 21, 3) := by decide +kernel
theorem dX0_areOneMail_40 : decode cX0_areOneMail 40 = .ok (.aload_n 0, 1) := by decide +kernel
theorem dX0_areOneMail_41 : decode cX0_areOneMail 41 = .ok (.aload_n 0, 1) := by decide +kernel
theorem dX0_areOneMail_42 : decode cX0_areOneMail 42 = .ok (.getfield 11, 3) := by decide +kernel
theorem dX0_areOneMail_45 : decode cX0_areOneMail 45 = .ok (.iload 4, 2) := by decide +kernel
theorem dX0_areOneMail_47 : decode cX0_areOneMail 47 = .ok (.aaload, 1) := by decide +kernel
theorem dX0_areOneMail_48 : decode cX0_areOneMail 48 = .ok (.iload_n 2, 1) := by decide +kernel
theorem dX0_areOneMail_49 : decode cX0_areOneMail 49 = .ok (.iload_n 3, 1) := by decide +kernel
theorem dX0_areOneMail_50 : decode cX0_areOneMail 50 = .ok (.invokevirtual 29, 3) := by decide +kernel
theorem dX0_areOneMail_53 : decode cX0_areOneMail 53 = .ok (.ifCond .eq 5, 3) := by decide +kernel
theorem dX0_areOneMail_56 : decode cX0_areOneMail 56 = .ok (.iconst 1, 1) := by decide +kernel
theorem dX0_areOneMail_57 : decode cX0_areOneMail 57 = .ok (.ireturn, 1) := by decide +kernel
theorem dX0_areOneMail_58 : decode cX0_areOneMail 58 = .ok (.iinc 4 1, 3) := by decide +kernel
theorem dX0_areOneMail_61 : decode cX0_areOneMail 61 = .ok (.goto (-58), 3) := by decide +kernel
theorem dX0_areOneMail_64 : decode cX0_areOneMail 64 = .ok (.iconst 0, 1) := by decide +kernel
theorem dX0_areOneMail_65 : decode cX0_areOneMail 65 = .ok (.ireturn, 1) := by decide +kernel
theorem dX0_hasMarkWith_0 : decode cX0_hasMarkWith 0 = .ok (.iconst 0, 1) := by decide +kernel
theorem dX0_hasMarkWith_1 : decode cX0_hasMarkWith 1 = .ok (.istore 4, 2) := by decide +kernel
theorem dX0_hasMarkWith_3 : decode cX0_hasMarkWith 3 = .ok (.iload 4, 2) := by decide +kernel
theorem dX0_hasMarkWith_5 : decode cX0_hasMarkWith 5 = .ok (.aload_n 0, 1) := by decide +kernel
theorem dX0_hasMarkWith_6 : decode cX0_hasMarkWith 6 = .ok (.getfield 17, 3) := by decide +kernel
theorem dX0_hasMarkWith_9 : decode cX0_hasMarkWith 9 = .ok (.if_icmp .ge 57, 3) := by decide +kernel
theorem dX0_hasMarkWith_12 : decode cX0_hasMarkWith 12 = .ok (.aload_n 0, 1) := by decide +kernel
theorem dX0_hasMarkWith_13 : decode cX0_hasMarkWith 13 = .ok (.getfield 11, 3) := by decide +kernel
theorem dX0_hasMarkWith_16 : decode cX0_hasMarkWith 16 = .ok (.iload 4, 2) := by decide +kernel
theorem dX0_hasMarkWith_18 : decode cX0_hasMarkWith 18 = .ok (.aaload, 1) := by decide +kernel
theorem dX0_hasMarkWith_19 : decode cX0_hasMarkWith 19 = .ok (.astore 5, 2) := by decide +kernel
theorem dX0_hasMarkWith_21 : decode cX0_hasMarkWith 21 = .ok (.aload 5, 2) := by decide +kernel
theorem dX0_hasMarkWith_23 : decode cX0_hasMarkWith 23 = .ok (.iload_n 2, 1) := by decide +kernel
theorem dX0_hasMarkWith_24 : decode cX0_hasMarkWith 24 = .ok (.iload_n 3, 1) := by decide +kernel
theorem dX0_hasMarkWith_25 : decode cX0_hasMarkWith 25 = .ok (.invokevirtual 21, 3) := by decide +kernel
theorem dX0_hasMarkWith_28 : decode cX0_hasMarkWith 28 = .ok (.ifCond .eq 32, 3) := by decide +kernel
theorem dX0_hasMarkWith_31 : decode cX0_hasMarkWith 31 = .ok (.aload 5, 2) := by decide +kernel
theorem dX0_hasMarkWith_33 : decode cX0_hasMarkWith 33 = .ok (.getfield 33, 3) := by decide +kernel
theorem dX0_hasMarkWith_36 : decode cX0_hasMarkWith 36 = .ok (.aload_n 1, 1) := by decide +kernel
theorem dX0_hasMarkWith_37 : decode cX0_hasMarkWith 37 = .ok (.getfield 33, 3) := by decide +kernel
theorem dX0_hasMarkWith_40 : decode cX0_hasMarkWith 40 = .ok (.if_icmp .ne 20, 3) := by decide +kernel
theorem dX0_hasMarkWith_43 : decode cX0_hasMarkWith 43 = .ok (.aload 5, 2) := by decide +kernel
theorem dX0_hasMarkWith_45 : decode cX0_hasMarkWith 45 = .ok (.getfield 36, 3) := by decide +kernel
theorem dX0_hasMarkWith_48 : decode cX0_hasMarkWith 48 = .ok (.aload_n 1, 1) := by decide +kernel
theorem dX0_hasMarkWith_49 : decode cX0_hasMarkWith 49 = .ok (.getfield 36, 3) := by decide +kernel
theorem dX0_hasMarkWith_52 : decode cX0_hasMarkWith 52 = .ok (.invokevirtual 40, 3) := by decide +kernel
theorem dX0_hasMarkWith_55 : decode cX0_hasMarkWith 55 = .ok (.ifCond .eq 5, 3) := by decide +kernel
theorem dX0_hasMarkWith_58 : decode cX0_hasMarkWith 58 = .ok (.iconst 1, 1) := by decide +kernel
theorem dX0_hasMarkWith_59 : decode cX0_hasMarkWith 59 = .ok (.ireturn, 1) := by decide +kernel
theorem dX0_hasMarkWith_60 : decode cX0_hasMarkWith 60 = .ok (.iinc 4 1, 3) := by decide +kernel
theorem dX0_hasMarkWith_63 : decode cX0_hasMarkWith 63 = .ok (.goto (-60), 3) := by decide +kernel
theorem dX0_hasMarkWith_66 : decode cX0_hasMarkWith 66 = .ok (.iconst 0, 1) := by decide +kernel
theorem dX0_hasMarkWith_67 : decode cX0_hasMarkWith 67 = .ok (.ireturn, 1) := by decide +kernel
theorem dX0_heapOf_0 : decode cX0_heapOf 0 = .ok (.iconst 1, 1) := by decide +kernel
theorem dX0_heapOf_1 : decode cX0_heapOf 1 = .ok (.iload_n 1, 1) := by decide +kernel
theorem dX0_heapOf_2 : decode cX0_heapOf 2 = .ok (.ishl, 1) := by decide +kernel
theorem dX0_heapOf_3 : decode cX0_heapOf 3 = .ok (.istore_n 3, 1) := by decide +kernel
theorem dX0_heapOf_4 : decode cX0_heapOf 4 = .ok (.iconst 0, 1) := by decide +kernel
theorem dX0_heapOf_5 : decode cX0_heapOf 5 = .ok (.istore 4, 2) := by decide +kernel
theorem dX0_heapOf_7 : decode cX0_heapOf 7 = .ok (.iconst 0, 1) := by decide +kernel
theorem dX0_heapOf_8 : decode cX0_heapOf 8 = .ok (.istore 5, 2) := by decide +kernel
theorem dX0_heapOf_10 : decode cX0_heapOf 10 = .ok (.iload 5, 2) := by decide +kernel
theorem dX0_heapOf_12 : decode cX0_heapOf 12 = .ok (.bipush 8, 2) := by decide +kernel
theorem dX0_heapOf_14 : decode cX0_heapOf 14 = .ok (.if_icmp .ge 79, 3) := by decide +kernel
theorem dX0_heapOf_17 : decode cX0_heapOf 17 = .ok (.iload 4, 2) := by decide +kernel
theorem dX0_heapOf_19 : decode cX0_heapOf 19 = .ok (.iload_n 3, 1) := by decide +kernel
theorem dX0_heapOf_20 : decode cX0_heapOf 20 = .ok (.if_icmp .eq 73, 3) := by decide +kernel
theorem dX0_heapOf_23 : decode cX0_heapOf 23 = .ok (.iload_n 3, 1) := by decide +kernel
theorem dX0_heapOf_24 : decode cX0_heapOf 24 = .ok (.iload 4, 2) := by decide +kernel
theorem dX0_heapOf_26 : decode cX0_heapOf 26 = .ok (.iconst (-1), 1) := by decide +kernel
theorem dX0_heapOf_27 : decode cX0_heapOf 27 = .ok (.ixor, 1) := by decide +kernel
theorem dX0_heapOf_28 : decode cX0_heapOf 28 = .ok (.iand, 1) := by decide +kernel
theorem dX0_heapOf_29 : decode cX0_heapOf 29 = .ok (.invokestatic 46, 3) := by decide +kernel
theorem dX0_heapOf_32 : decode cX0_heapOf 32 = .ok (.istore 6, 2) := by decide +kernel
theorem dX0_heapOf_34 : decode cX0_heapOf 34 = .ok (.iload 4, 2) := by decide +kernel
theorem dX0_heapOf_36 : decode cX0_heapOf 36 = .ok (.iconst 1, 1) := by decide +kernel
theorem dX0_heapOf_37 : decode cX0_heapOf 37 = .ok (.iload 6, 2) := by decide +kernel
theorem dX0_heapOf_39 : decode cX0_heapOf 39 = .ok (.ishl, 1) := by decide +kernel
theorem dX0_heapOf_40 : decode cX0_heapOf 40 = .ok (.ior, 1) := by decide +kernel
theorem dX0_heapOf_41 : decode cX0_heapOf 41 = .ok (.istore 4, 2) := by decide +kernel
theorem dX0_heapOf_43 : decode cX0_heapOf 43 = .ok (.iconst 0, 1) := by decide +kernel
theorem dX0_heapOf_44 : decode cX0_heapOf 44 = .ok (.istore 7, 2) := by decide +kernel
theorem dX0_heapOf_46 : decode cX0_heapOf 46 = .ok (.iload 7, 2) := by decide +kernel
theorem dX0_heapOf_48 : decode cX0_heapOf 48 = .ok (.bipush 8, 2) := by decide +kernel
theorem dX0_heapOf_50 : decode cX0_heapOf 50 = .ok (.if_icmp .ge 37, 3) := by decide +kernel
theorem dX0_heapOf_53 : decode cX0_heapOf 53 = .ok (.iload_n 3, 1) := by decide +kernel
theorem dX0_heapOf_54 : decode cX0_heapOf 54 = .ok (.iload 7, 2) := by decide +kernel
theorem dX0_heapOf_56 : decode cX0_heapOf 56 = .ok (.ishr, 1) := by decide +kernel
theorem dX0_heapOf_57 : decode cX0_heapOf 57 = .ok (.iconst 1, 1) := by decide +kernel
theorem dX0_heapOf_58 : decode cX0_heapOf 58 = .ok (.iand, 1) := by decide +kernel
theorem dX0_heapOf_59 : decode cX0_heapOf 59 = .ok (.ifCond .ne 22, 3) := by decide +kernel
theorem dX0_heapOf_62 : decode cX0_heapOf 62 = .ok (.aload_n 0, 1) := by decide +kernel
theorem dX0_heapOf_63 : decode cX0_heapOf 63 = .ok (.iload 6, 2) := by decide +kernel
theorem dX0_heapOf_65 : decode cX0_heapOf 65 = .ok (.iload 7, 2) := by decide +kernel
theorem dX0_heapOf_67 : decode cX0_heapOf 67 = .ok (.iload_n 2, 1) := by decide +kernel
theorem dX0_heapOf_68 : decode cX0_heapOf 68 = .ok (.invokevirtual 50, 3) := by decide +kernel
theorem dX0_heapOf_71 : decode cX0_heapOf 71 = .ok (.ifCond .eq 10, 3) := by decide +kernel
theorem dX0_heapOf_74 : decode cX0_heapOf 74 = .ok (.iload_n 3, 1) := by decide +kernel
theorem dX0_heapOf_75 : decode cX0_heapOf 75 = .ok (.iconst 1, 1) := by decide +kernel
theorem dX0_heapOf_76 : decode cX0_heapOf 76 = .ok (.iload 7, 2) := by decide +kernel
theorem dX0_heapOf_78 : decode cX0_heapOf 78 = .ok (.ishl, 1) := by decide +kernel
theorem dX0_heapOf_79 : decode cX0_heapOf 79 = .ok (.ior, 1) := by decide +kernel
theorem dX0_heapOf_80 : decode cX0_heapOf 80 = .ok (.istore_n 3, 1) := by decide +kernel
theorem dX0_heapOf_81 : decode cX0_heapOf 81 = .ok (.iinc 7 1, 3) := by decide +kernel
theorem dX0_heapOf_84 : decode cX0_heapOf 84 = .ok (.goto (-38), 3) := by decide +kernel
theorem dX0_heapOf_87 : decode cX0_heapOf 87 = .ok (.iinc 5 1, 3) := by decide +kernel
theorem dX0_heapOf_90 : decode cX0_heapOf 90 = .ok (.goto (-80), 3) := by decide +kernel
theorem dX0_heapOf_93 : decode cX0_heapOf 93 = .ok (.iload_n 3, 1) := by decide +kernel
theorem dX0_heapOf_94 : decode cX0_heapOf 94 = .ok (.ireturn, 1) := by decide +kernel
theorem dX0_lowestOf_0 : decode cX0_lowestOf 0 = .ok (.iconst 0, 1) := by decide +kernel
theorem dX0_lowestOf_1 : decode cX0_lowestOf 1 = .ok (.istore_n 1, 1) := by decide +kernel
theorem dX0_lowestOf_2 : decode cX0_lowestOf 2 = .ok (.iload_n 1, 1) := by decide +kernel
theorem dX0_lowestOf_3 : decode cX0_lowestOf 3 = .ok (.bipush 8, 2) := by decide +kernel
theorem dX0_lowestOf_5 : decode cX0_lowestOf 5 = .ok (.if_icmp .ge 20, 3) := by decide +kernel
theorem dX0_lowestOf_8 : decode cX0_lowestOf 8 = .ok (.iload_n 0, 1) := by decide +kernel
theorem dX0_lowestOf_9 : decode cX0_lowestOf 9 = .ok (.iload_n 1, 1) := by decide +kernel
theorem dX0_lowestOf_10 : decode cX0_lowestOf 10 = .ok (.ishr, 1) := by decide +kernel
theorem dX0_lowestOf_11 : decode cX0_lowestOf 11 = .ok (.iconst 1, 1) := by decide +kernel
theorem dX0_lowestOf_12 : decode cX0_lowestOf 12 = .ok (.iand, 1) := by decide +kernel
theorem dX0_lowestOf_13 : decode cX0_lowestOf 13 = .ok (.iconst 1, 1) := by decide +kernel
theorem dX0_lowestOf_14 : decode cX0_lowestOf 14 = .ok (.if_icmp .ne 5, 3) := by decide +kernel
theorem dX0_lowestOf_17 : decode cX0_lowestOf 17 = .ok (.iload_n 1, 1) := by decide +kernel
theorem dX0_lowestOf_18 : decode cX0_lowestOf 18 = .ok (.ireturn, 1) := by decide +kernel
theorem dX0_lowestOf_19 : decode cX0_lowestOf 19 = .ok (.iinc 1 1, 3) := by decide +kernel
theorem dX0_lowestOf_22 : decode cX0_lowestOf 22 = .ok (.goto (-20), 3) := by decide +kernel
theorem dX0_lowestOf_25 : decode cX0_lowestOf 25 = .ok (.iconst 0, 1) := by decide +kernel
theorem dX0_lowestOf_26 : decode cX0_lowestOf 26 = .ok (.ireturn, 1) := by decide +kernel
theorem dX0_manyOf_0 : decode cX0_manyOf 0 = .ok (.iconst 0, 1) := by decide +kernel
theorem dX0_manyOf_1 : decode cX0_manyOf 1 = .ok (.istore_n 3, 1) := by decide +kernel
theorem dX0_manyOf_2 : decode cX0_manyOf 2 = .ok (.iconst 0, 1) := by decide +kernel
theorem dX0_manyOf_3 : decode cX0_manyOf 3 = .ok (.istore 4, 2) := by decide +kernel
theorem dX0_manyOf_5 : decode cX0_manyOf 5 = .ok (.iload 4, 2) := by decide +kernel
theorem dX0_manyOf_7 : decode cX0_manyOf 7 = .ok (.bipush 8, 2) := by decide +kernel
theorem dX0_manyOf_9 : decode cX0_manyOf 9 = .ok (.if_icmp .ge 28, 3) := by decide +kernel
theorem dX0_manyOf_12 : decode cX0_manyOf 12 = .ok (.iload_n 3, 1) := by decide +kernel
theorem dX0_manyOf_13 : decode cX0_manyOf 13 = .ok (.aload_n 0, 1) := by decide +kernel
theorem dX0_manyOf_14 : decode cX0_manyOf 14 = .ok (.iload 4, 2) := by decide +kernel
theorem dX0_manyOf_16 : decode cX0_manyOf 16 = .ok (.iload_n 1, 1) := by decide +kernel
theorem dX0_manyOf_17 : decode cX0_manyOf 17 = .ok (.iload_n 2, 1) := by decide +kernel
theorem dX0_manyOf_18 : decode cX0_manyOf 18 = .ok (.invokevirtual 54, 3) := by decide +kernel
theorem dX0_manyOf_21 : decode cX0_manyOf 21 = .ok (.ifCond .eq 7, 3) := by decide +kernel
theorem dX0_manyOf_24 : decode cX0_manyOf 24 = .ok (.iconst 1, 1) := by decide +kernel
theorem dX0_manyOf_25 : decode cX0_manyOf 25 = .ok (.goto 4, 3) := by decide +kernel
theorem dX0_manyOf_28 : decode cX0_manyOf 28 = .ok (.iconst 0, 1) := by decide +kernel
theorem dX0_manyOf_29 : decode cX0_manyOf 29 = .ok (.iadd, 1) := by decide +kernel
theorem dX0_manyOf_30 : decode cX0_manyOf 30 = .ok (.istore_n 3, 1) := by decide +kernel
theorem dX0_manyOf_31 : decode cX0_manyOf 31 = .ok (.iinc 4 1, 3) := by decide +kernel
theorem dX0_manyOf_34 : decode cX0_manyOf 34 = .ok (.goto (-29), 3) := by decide +kernel
theorem dX0_manyOf_37 : decode cX0_manyOf 37 = .ok (.iconst 0, 1) := by decide +kernel
theorem dX0_manyOf_38 : decode cX0_manyOf 38 = .ok (.istore 4, 2) := by decide +kernel
theorem dX0_manyOf_40 : decode cX0_manyOf 40 = .ok (.iconst 0, 1) := by decide +kernel
theorem dX0_manyOf_41 : decode cX0_manyOf 41 = .ok (.istore 5, 2) := by decide +kernel
theorem dX0_manyOf_43 : decode cX0_manyOf 43 = .ok (.iconst 0, 1) := by decide +kernel
theorem dX0_manyOf_44 : decode cX0_manyOf 44 = .ok (.istore 6, 2) := by decide +kernel
theorem dX0_manyOf_46 : decode cX0_manyOf 46 = .ok (.iload 6, 2) := by decide +kernel
theorem dX0_manyOf_48 : decode cX0_manyOf 48 = .ok (.bipush 16, 2) := by decide +kernel
theorem dX0_manyOf_50 : decode cX0_manyOf 50 = .ok (.if_icmp .ge 107, 3) := by decide +kernel
theorem dX0_manyOf_53 : decode cX0_manyOf 53 = .ok (.lconst 0, 1) := by decide +kernel
theorem dX0_manyOf_54 : decode cX0_manyOf 54 = .ok (.lstore 7, 2) := by decide +kernel
theorem dX0_manyOf_56 : decode cX0_manyOf 56 = .ok (.lconst 0, 1) := by decide +kernel
theorem dX0_manyOf_57 : decode cX0_manyOf 57 = .ok (.lstore 9, 2) := by decide +kernel
theorem dX0_manyOf_59 : decode cX0_manyOf 59 = .ok (.lconst 0, 1) := by decide +kernel
theorem dX0_manyOf_60 : decode cX0_manyOf 60 = .ok (.lstore 11, 2) := by decide +kernel
theorem dX0_manyOf_62 : decode cX0_manyOf 62 = .ok (.iconst 0, 1) := by decide +kernel
theorem dX0_manyOf_63 : decode cX0_manyOf 63 = .ok (.istore 13, 2) := by decide +kernel
theorem dX0_manyOf_65 : decode cX0_manyOf 65 = .ok (.iload 13, 2) := by decide +kernel
theorem dX0_manyOf_67 : decode cX0_manyOf 67 = .ok (.bipush 8, 2) := by decide +kernel
theorem dX0_manyOf_69 : decode cX0_manyOf 69 = .ok (.if_icmp .ge 48, 3) := by decide +kernel
theorem dX0_manyOf_72 : decode cX0_manyOf 72 = .ok (.aload_n 0, 1) := by decide +kernel
theorem dX0_manyOf_73 : decode cX0_manyOf 73 = .ok (.iload 13, 2) := by decide +kernel
theorem dX0_manyOf_75 : decode cX0_manyOf 75 = .ok (.iload_n 1, 1) := by decide +kernel
theorem dX0_manyOf_76 : decode cX0_manyOf 76 = .ok (.iload_n 2, 1) := by decide +kernel
theorem dX0_manyOf_77 : decode cX0_manyOf 77 = .ok (.iload 6, 2) := by decide +kernel
theorem dX0_manyOf_79 : decode cX0_manyOf 79 = .ok (.invokevirtual 57, 3) := by decide +kernel
theorem dX0_manyOf_82 : decode cX0_manyOf 82 = .ok (.lstore 14, 2) := by decide +kernel
theorem dX0_manyOf_84 : decode cX0_manyOf 84 = .ok (.lload 11, 2) := by decide +kernel
theorem dX0_manyOf_86 : decode cX0_manyOf 86 = .ok (.lload 9, 2) := by decide +kernel
theorem dX0_manyOf_88 : decode cX0_manyOf 88 = .ok (.lload 14, 2) := by decide +kernel
theorem dX0_manyOf_90 : decode cX0_manyOf 90 = .ok (.land, 1) := by decide +kernel
theorem dX0_manyOf_91 : decode cX0_manyOf 91 = .ok (.lor, 1) := by decide +kernel
theorem dX0_manyOf_92 : decode cX0_manyOf 92 = .ok (.lstore 11, 2) := by decide +kernel
theorem dX0_manyOf_94 : decode cX0_manyOf 94 = .ok (.lload 9, 2) := by decide +kernel
theorem dX0_manyOf_96 : decode cX0_manyOf 96 = .ok (.lload 7, 2) := by decide +kernel
theorem dX0_manyOf_98 : decode cX0_manyOf 98 = .ok (.lload 14, 2) := by decide +kernel
theorem dX0_manyOf_100 : decode cX0_manyOf 100 = .ok (.land, 1) := by decide +kernel
theorem dX0_manyOf_101 : decode cX0_manyOf 101 = .ok (.lor, 1) := by decide +kernel
theorem dX0_manyOf_102 : decode cX0_manyOf 102 = .ok (.lstore 9, 2) := by decide +kernel
theorem dX0_manyOf_104 : decode cX0_manyOf 104 = .ok (.lload 7, 2) := by decide +kernel
theorem dX0_manyOf_106 : decode cX0_manyOf 106 = .ok (.lload 14, 2) := by decide +kernel
theorem dX0_manyOf_108 : decode cX0_manyOf 108 = .ok (.lor, 1) := by decide +kernel
theorem dX0_manyOf_109 : decode cX0_manyOf 109 = .ok (.lstore 7, 2) := by decide +kernel
theorem dX0_manyOf_111 : decode cX0_manyOf 111 = .ok (.iinc 13 1, 3) := by decide +kernel
theorem dX0_manyOf_114 : decode cX0_manyOf 114 = .ok (.goto (-49), 3) := by decide +kernel
theorem dX0_manyOf_117 : decode cX0_manyOf 117 = .ok (.iload 4, 2) := by decide +kernel
theorem dX0_manyOf_119 : decode cX0_manyOf 119 = .ok (.lload 7, 2) := by decide +kernel
theorem dX0_manyOf_121 : decode cX0_manyOf 121 = .ok (.lload 9, 2) := by decide +kernel
theorem dX0_manyOf_123 : decode cX0_manyOf 123 = .ok (.ldc2_w 61, 3) := by decide +kernel
theorem dX0_manyOf_126 : decode cX0_manyOf 126 = .ok (.lxor, 1) := by decide +kernel
theorem dX0_manyOf_127 : decode cX0_manyOf 127 = .ok (.land, 1) := by decide +kernel
theorem dX0_manyOf_128 : decode cX0_manyOf 128 = .ok (.invokestatic 63, 3) := by decide +kernel
theorem dX0_manyOf_131 : decode cX0_manyOf 131 = .ok (.iadd, 1) := by decide +kernel
theorem dX0_manyOf_132 : decode cX0_manyOf 132 = .ok (.istore 4, 2) := by decide +kernel
theorem dX0_manyOf_134 : decode cX0_manyOf 134 = .ok (.iload 5, 2) := by decide +kernel
theorem dX0_manyOf_136 : decode cX0_manyOf 136 = .ok (.lload 9, 2) := by decide +kernel
theorem dX0_manyOf_138 : decode cX0_manyOf 138 = .ok (.lload 11, 2) := by decide +kernel
theorem dX0_manyOf_140 : decode cX0_manyOf 140 = .ok (.ldc2_w 61, 3) := by decide +kernel
theorem dX0_manyOf_143 : decode cX0_manyOf 143 = .ok (.lxor, 1) := by decide +kernel
theorem dX0_manyOf_144 : decode cX0_manyOf 144 = .ok (.land, 1) := by decide +kernel
theorem dX0_manyOf_145 : decode cX0_manyOf 145 = .ok (.invokestatic 63, 3) := by decide +kernel
theorem dX0_manyOf_148 : decode cX0_manyOf 148 = .ok (.iadd, 1) := by decide +kernel
theorem dX0_manyOf_149 : decode cX0_manyOf 149 = .ok (.istore 5, 2) := by decide +kernel
theorem dX0_manyOf_151 : decode cX0_manyOf 151 = .ok (.iinc 6 1, 3) := by decide +kernel
theorem dX0_manyOf_154 : decode cX0_manyOf 154 = .ok (.goto (-108), 3) := by decide +kernel
theorem dX0_manyOf_157 : decode cX0_manyOf 157 = .ok (.iload_n 3, 1) := by decide +kernel
theorem dX0_manyOf_158 : decode cX0_manyOf 158 = .ok (.iload 5, 2) := by decide +kernel
theorem dX0_manyOf_160 : decode cX0_manyOf 160 = .ok (.ifCond .le 16, 3) := by decide +kernel
theorem dX0_manyOf_163 : decode cX0_manyOf 163 = .ok (.iload 4, 2) := by decide +kernel
theorem dX0_manyOf_165 : decode cX0_manyOf 165 = .ok (.iload 4, 2) := by decide +kernel
theorem dX0_manyOf_167 : decode cX0_manyOf 167 = .ok (.imul, 1) := by decide +kernel
theorem dX0_manyOf_168 : decode cX0_manyOf 168 = .ok (.iconst 2, 1) := by decide +kernel
theorem dX0_manyOf_169 : decode cX0_manyOf 169 = .ok (.iload 5, 2) := by decide +kernel
theorem dX0_manyOf_171 : decode cX0_manyOf 171 = .ok (.imul, 1) := by decide +kernel
theorem dX0_manyOf_172 : decode cX0_manyOf 172 = .ok (.idiv, 1) := by decide +kernel
theorem dX0_manyOf_173 : decode cX0_manyOf 173 = .ok (.goto 12, 3) := by decide +kernel
theorem dX0_manyOf_176 : decode cX0_manyOf 176 = .ok (.iload 4, 2) := by decide +kernel
theorem dX0_manyOf_178 : decode cX0_manyOf 178 = .ok (.iload 4, 2) := by decide +kernel
theorem dX0_manyOf_180 : decode cX0_manyOf 180 = .ok (.iconst 1, 1) := by decide +kernel
theorem dX0_manyOf_181 : decode cX0_manyOf 181 = .ok (.isub, 1) := by decide +kernel
theorem dX0_manyOf_182 : decode cX0_manyOf 182 = .ok (.imul, 1) := by decide +kernel
theorem dX0_manyOf_183 : decode cX0_manyOf 183 = .ok (.iconst 2, 1) := by decide +kernel
theorem dX0_manyOf_184 : decode cX0_manyOf 184 = .ok (.idiv, 1) := by decide +kernel
theorem dX0_manyOf_185 : decode cX0_manyOf 185 = .ok (.iadd, 1) := by decide +kernel
theorem dX0_manyOf_186 : decode cX0_manyOf 186 = .ok (.ireturn, 1) := by decide +kernel
theorem dX0_hasDie_0 : decode cX0_hasDie 0 = .ok (.iconst 0, 1) := by decide +kernel
theorem dX0_hasDie_1 : decode cX0_hasDie 1 = .ok (.istore 4, 2) := by decide +kernel
theorem dX0_hasDie_3 : decode cX0_hasDie 3 = .ok (.iload 4, 2) := by decide +kernel
theorem dX0_hasDie_5 : decode cX0_hasDie 5 = .ok (.aload_n 0, 1) := by decide +kernel
theorem dX0_hasDie_6 : decode cX0_hasDie 6 = .ok (.getfield 17, 3) := by decide +kernel
theorem dX0_hasDie_9 : decode cX0_hasDie 9 = .ok (.if_icmp .ge 40, 3) := by decide +kernel
theorem dX0_hasDie_12 : decode cX0_hasDie 12 = .ok (.aload_n 0, 1) := by decide +kernel
theorem dX0_hasDie_13 : decode cX0_hasDie 13 = .ok (.getfield 11, 3) := by decide +kernel
theorem dX0_hasDie_16 : decode cX0_hasDie 16 = .ok (.iload 4, 2) := by decide +kernel
theorem dX0_hasDie_18 : decode cX0_hasDie 18 = .ok (.aaload, 1) := by decide +kernel
theorem dX0_hasDie_19 : decode cX0_hasDie 19 = .ok (.getfield 33, 3) := by decide +kernel
theorem dX0_hasDie_22 : decode cX0_hasDie 22 = .ok (.iload_n 2, 1) := by decide +kernel
theorem dX0_hasDie_23 : decode cX0_hasDie 23 = .ok (.if_icmp .ne 20, 3) := by decide +kernel
theorem dX0_hasDie_26 : decode cX0_hasDie 26 = .ok (.aload_n 0, 1) := by decide +kernel
theorem dX0_hasDie_27 : decode cX0_hasDie 27 = .ok (.getfield 11, 3) := by decide +kernel
theorem dX0_hasDie_30 : decode cX0_hasDie 30 = .ok (.iload 4, 2) := by decide +kernel
theorem dX0_hasDie_32 : decode cX0_hasDie 32 = .ok (.aaload, 1) := by decide +kernel
theorem dX0_hasDie_33 : decode cX0_hasDie 33 = .ok (.iload_n 1, 1) := by decide +kernel
theorem dX0_hasDie_34 : decode cX0_hasDie 34 = .ok (.iload_n 3, 1) := by decide +kernel
theorem dX0_hasDie_35 : decode cX0_hasDie 35 = .ok (.invokevirtual 21, 3) := by decide +kernel
theorem dX0_hasDie_38 : decode cX0_hasDie 38 = .ok (.ifCond .eq 5, 3) := by decide +kernel
theorem dX0_hasDie_41 : decode cX0_hasDie 41 = .ok (.iconst 1, 1) := by decide +kernel
theorem dX0_hasDie_42 : decode cX0_hasDie 42 = .ok (.ireturn, 1) := by decide +kernel
theorem dX0_hasDie_43 : decode cX0_hasDie 43 = .ok (.iinc 4 1, 3) := by decide +kernel
theorem dX0_hasDie_46 : decode cX0_hasDie 46 = .ok (.goto (-43), 3) := by decide +kernel
theorem dX0_hasDie_49 : decode cX0_hasDie 49 = .ok (.iconst 0, 1) := by decide +kernel
theorem dX0_hasDie_50 : decode cX0_hasDie 50 = .ok (.ireturn, 1) := by decide +kernel
theorem dX0_wordOf_0 : decode cX0_wordOf 0 = .ok (.lconst 0, 1) := by decide +kernel
theorem dX0_wordOf_1 : decode cX0_wordOf 1 = .ok (.lstore 5, 2) := by decide +kernel
theorem dX0_wordOf_3 : decode cX0_wordOf 3 = .ok (.iconst 0, 1) := by decide +kernel
theorem dX0_wordOf_4 : decode cX0_wordOf 4 = .ok (.istore 7, 2) := by decide +kernel
theorem dX0_wordOf_6 : decode cX0_wordOf 6 = .ok (.iload 7, 2) := by decide +kernel
theorem dX0_wordOf_8 : decode cX0_wordOf 8 = .ok (.aload_n 0, 1) := by decide +kernel
theorem dX0_wordOf_9 : decode cX0_wordOf 9 = .ok (.getfield 17, 3) := by decide +kernel
theorem dX0_wordOf_12 : decode cX0_wordOf 12 = .ok (.if_icmp .ge 59, 3) := by decide +kernel
theorem dX0_wordOf_15 : decode cX0_wordOf 15 = .ok (.aload_n 0, 1) := by decide +kernel
theorem dX0_wordOf_16 : decode cX0_wordOf 16 = .ok (.getfield 11, 3) := by decide +kernel
theorem dX0_wordOf_19 : decode cX0_wordOf 19 = .ok (.iload 7, 2) := by decide +kernel
theorem dX0_wordOf_21 : decode cX0_wordOf 21 = .ok (.aaload, 1) := by decide +kernel
theorem dX0_wordOf_22 : decode cX0_wordOf 22 = .ok (.getfield 33, 3) := by decide +kernel
theorem dX0_wordOf_25 : decode cX0_wordOf 25 = .ok (.iload_n 2, 1) := by decide +kernel
theorem dX0_wordOf_26 : decode cX0_wordOf 26 = .ok (.if_icmp .ne 39, 3) := by decide +kernel
theorem dX0_wordOf_29 : decode cX0_wordOf 29 = .ok (.aload_n 0, 1) := by decide +kernel
theorem dX0_wordOf_30 : decode cX0_wordOf 30 = .ok (.getfield 11, 3) := by decide +kernel
theorem dX0_wordOf_33 : decode cX0_wordOf 33 = .ok (.iload 7, 2) := by decide +kernel
theorem dX0_wordOf_35 : decode cX0_wordOf 35 = .ok (.aaload, 1) := by decide +kernel
theorem dX0_wordOf_36 : decode cX0_wordOf 36 = .ok (.iload_n 1, 1) := by decide +kernel
theorem dX0_wordOf_37 : decode cX0_wordOf 37 = .ok (.iload_n 3, 1) := by decide +kernel
theorem dX0_wordOf_38 : decode cX0_wordOf 38 = .ok (.invokevirtual 21, 3) := by decide +kernel
theorem dX0_wordOf_41 : decode cX0_wordOf 41 = .ok (.ifCond .eq 24, 3) := by decide +kernel
theorem dX0_wordOf_44 : decode cX0_wordOf 44 = .ok (.lload 5, 2) := by decide +kernel
theorem dX0_wordOf_46 : decode cX0_wordOf 46 = .ok (.aload_n 0, 1) := by decide +kernel
theorem dX0_wordOf_47 : decode cX0_wordOf 47 = .ok (.getfield 11, 3) := by decide +kernel
theorem dX0_wordOf_50 : decode cX0_wordOf 50 = .ok (.iload 7, 2) := by decide +kernel
theorem dX0_wordOf_52 : decode cX0_wordOf 52 = .ok (.aaload, 1) := by decide +kernel
theorem dX0_wordOf_53 : decode cX0_wordOf 53 = .ok (.getfield 36, 3) := by decide +kernel
theorem dX0_wordOf_56 : decode cX0_wordOf 56 = .ok (.getfield 69, 3) := by decide +kernel
theorem dX0_wordOf_59 : decode cX0_wordOf 59 = .ok (.iload 4, 2) := by decide +kernel
theorem dX0_wordOf_61 : decode cX0_wordOf 61 = .ok (.laload, 1) := by decide +kernel
theorem dX0_wordOf_62 : decode cX0_wordOf 62 = .ok (.lor, 1) := by decide +kernel
theorem dX0_wordOf_63 : decode cX0_wordOf 63 = .ok (.lstore 5, 2) := by decide +kernel
theorem dX0_wordOf_65 : decode cX0_wordOf 65 = .ok (.iinc 7 1, 3) := by decide +kernel
theorem dX0_wordOf_68 : decode cX0_wordOf 68 = .ok (.goto (-62), 3) := by decide +kernel
theorem dX0_wordOf_71 : decode cX0_wordOf 71 = .ok (.lload 5, 2) := by decide +kernel
theorem dX0_wordOf_73 : decode cX0_wordOf 73 = .ok (.lreturn, 1) := by decide +kernel
theorem dX0_nextLook_0 : decode cX0_nextLook 0 = .ok (.bipush (-9), 2) := by decide +kernel
theorem dX0_nextLook_2 : decode cX0_nextLook 2 = .ok (.istore_n 3, 1) := by decide +kernel
theorem dX0_nextLook_3 : decode cX0_nextLook 3 = .ok (.sipush 1001, 3) := by decide +kernel
theorem dX0_nextLook_6 : decode cX0_nextLook 6 = .ok (.istore 4, 2) := by decide +kernel
theorem dX0_nextLook_8 : decode cX0_nextLook 8 = .ok (.iconst 0, 1) := by decide +kernel
theorem dX0_nextLook_9 : decode cX0_nextLook 9 = .ok (.istore 5, 2) := by decide +kernel
theorem dX0_nextLook_11 : decode cX0_nextLook 11 = .ok (.iload 5, 2) := by decide +kernel
theorem dX0_nextLook_13 : decode cX0_nextLook 13 = .ok (.aload_n 0, 1) := by decide +kernel
theorem dX0_nextLook_14 : decode cX0_nextLook 14 = .ok (.getfield 17, 3) := by decide +kernel
theorem dX0_nextLook_17 : decode cX0_nextLook 17 = .ok (.if_icmp .ge 92, 3) := by decide +kernel
theorem dX0_nextLook_20 : decode cX0_nextLook 20 = .ok (.aload_n 0, 1) := by decide +kernel
theorem dX0_nextLook_21 : decode cX0_nextLook 21 = .ok (.getfield 11, 3) := by decide +kernel
theorem dX0_nextLook_24 : decode cX0_nextLook 24 = .ok (.iload 5, 2) := by decide +kernel
theorem dX0_nextLook_26 : decode cX0_nextLook 26 = .ok (.aaload, 1) := by decide +kernel
theorem dX0_nextLook_27 : decode cX0_nextLook 27 = .ok (.astore 6, 2) := by decide +kernel
theorem dX0_nextLook_29 : decode cX0_nextLook 29 = .ok (.iconst 0, 1) := by decide +kernel
theorem dX0_nextLook_30 : decode cX0_nextLook 30 = .ok (.istore 7, 2) := by decide +kernel
theorem dX0_nextLook_32 : decode cX0_nextLook 32 = .ok (.iload 7, 2) := by decide +kernel
theorem dX0_nextLook_34 : decode cX0_nextLook 34 = .ok (.iconst 3, 1) := by decide +kernel
theorem dX0_nextLook_35 : decode cX0_nextLook 35 = .ok (.if_icmp .ge 68, 3) := by decide +kernel
theorem dX0_nextLook_38 : decode cX0_nextLook 38 = .ok (.aload 6, 2) := by decide +kernel
theorem dX0_nextLook_40 : decode cX0_nextLook 40 = .ok (.iload_n 1, 1) := by decide +kernel
theorem dX0_nextLook_41 : decode cX0_nextLook 41 = .ok (.iload_n 2, 1) := by decide +kernel
theorem dX0_nextLook_42 : decode cX0_nextLook 42 = .ok (.invokevirtual 21, 3) := by decide +kernel
theorem dX0_nextLook_45 : decode cX0_nextLook 45 = .ok (.ifCond .eq 58, 3) := by decide +kernel
theorem dX0_nextLook_48 : decode cX0_nextLook 48 = .ok (.aload 6, 2) := by decide +kernel
theorem dX0_nextLook_50 : decode cX0_nextLook 50 = .ok (.getfield 73, 3) := by decide +kernel
theorem dX0_nextLook_53 : decode cX0_nextLook 53 = .ok (.iload 7, 2) := by decide +kernel
theorem dX0_nextLook_55 : decode cX0_nextLook 55 = .ok (.iaload, 1) := by decide +kernel
theorem dX0_nextLook_56 : decode cX0_nextLook 56 = .ok (.istore 8, 2) := by decide +kernel
theorem dX0_nextLook_58 : decode cX0_nextLook 58 = .ok (.aload 6, 2) := by decide +kernel
theorem dX0_nextLook_60 : decode cX0_nextLook 60 = .ok (.iload 7, 2) := by decide +kernel
theorem dX0_nextLook_62 : decode cX0_nextLook 62 = .ok (.invokevirtual 77, 3) := by decide +kernel
theorem dX0_nextLook_65 : decode cX0_nextLook 65 = .ok (.ifCond .eq 32, 3) := by decide +kernel
theorem dX0_nextLook_68 : decode cX0_nextLook 68 = .ok (.iload 8, 2) := by decide +kernel
theorem dX0_nextLook_70 : decode cX0_nextLook 70 = .ok (.aload 6, 2) := by decide +kernel
theorem dX0_nextLook_72 : decode cX0_nextLook 72 = .ok (.getfield 81, 3) := by decide +kernel
theorem dX0_nextLook_75 : decode cX0_nextLook 75 = .ok (.if_icmp .ge 22, 3) := by decide +kernel
theorem dX0_nextLook_78 : decode cX0_nextLook 78 = .ok (.iload 8, 2) := by decide +kernel
theorem dX0_nextLook_80 : decode cX0_nextLook 80 = .ok (.iload 4, 2) := by decide +kernel
theorem dX0_nextLook_82 : decode cX0_nextLook 82 = .ok (.if_icmp .ge 15, 3) := by decide +kernel
theorem dX0_nextLook_85 : decode cX0_nextLook 85 = .ok (.iload 8, 2) := by decide +kernel
theorem dX0_nextLook_87 : decode cX0_nextLook 87 = .ok (.istore 4, 2) := by decide +kernel
theorem dX0_nextLook_89 : decode cX0_nextLook 89 = .ok (.iconst 3, 1) := by decide +kernel
theorem dX0_nextLook_90 : decode cX0_nextLook 90 = .ok (.iload 5, 2) := by decide +kernel
theorem dX0_nextLook_92 : decode cX0_nextLook 92 = .ok (.imul, 1) := by decide +kernel
theorem dX0_nextLook_93 : decode cX0_nextLook 93 = .ok (.iload 7, 2) := by decide +kernel
theorem dX0_nextLook_95 : decode cX0_nextLook 95 = .ok (.iadd, 1) := by decide +kernel
theorem dX0_nextLook_96 : decode cX0_nextLook 96 = .ok (.istore_n 3, 1) := by decide +kernel
theorem dX0_nextLook_97 : decode cX0_nextLook 97 = .ok (.iinc 7 1, 3) := by decide +kernel
theorem dX0_nextLook_100 : decode cX0_nextLook 100 = .ok (.goto (-68), 3) := by decide +kernel
theorem dX0_nextLook_103 : decode cX0_nextLook 103 = .ok (.iinc 5 1, 3) := by decide +kernel
theorem dX0_nextLook_106 : decode cX0_nextLook 106 = .ok (.goto (-95), 3) := by decide +kernel
theorem dX0_nextLook_109 : decode cX0_nextLook 109 = .ok (.iload_n 3, 1) := by decide +kernel
theorem dX0_nextLook_110 : decode cX0_nextLook 110 = .ok (.ireturn, 1) := by decide +kernel
theorem dX1_init_0 : decode cX1_init 0 = .ok (.aload_n 0, 1) := by decide +kernel
theorem dX1_init_1 : decode cX1_init 1 = .ok (.invokespecial 3, 3) := by decide +kernel
theorem dX1_init_4 : decode cX1_init 4 = .ok (.aload_n 0, 1) := by decide +kernel
theorem dX1_init_5 : decode cX1_init 5 = .ok (.bipush 16, 2) := by decide +kernel
theorem dX1_init_7 : decode cX1_init 7 = .ok (.newarray .long, 2) := by decide +kernel
theorem dX1_init_9 : decode cX1_init 9 = .ok (.putfield 11, 3) := by decide +kernel
theorem dX1_init_12 : decode cX1_init 12 = .ok (.return_, 1) := by decide +kernel
theorem dX1_add_0 : decode cX1_add 0 = .ok (.iload_n 1, 1) := by decide +kernel
theorem dX1_add_1 : decode cX1_add 1 = .ok (.invokestatic 15, 3) := by decide +kernel
theorem dX1_add_4 : decode cX1_add 4 = .ok (.ifCond .eq 21, 3) := by decide +kernel
theorem dX1_add_7 : decode cX1_add 7 = .ok (.aload_n 0, 1) := by decide +kernel
theorem dX1_add_8 : decode cX1_add 8 = .ok (.getfield 11, 3) := by decide +kernel
theorem dX1_add_11 : decode cX1_add 11 = .ok (.iload_n 1, 1) := by decide +kernel
theorem dX1_add_12 : decode cX1_add 12 = .ok (.bipush 6, 2) := by decide +kernel
theorem dX1_add_14 : decode cX1_add 14 = .ok (.ishr, 1) := by decide +kernel
theorem dX1_add_15 : decode cX1_add 15 = .ok (.dup2, 1) := by decide +kernel
theorem dX1_add_16 : decode cX1_add 16 = .ok (.laload, 1) := by decide +kernel
theorem dX1_add_17 : decode cX1_add 17 = .ok (.lconst 1, 1) := by decide +kernel
theorem dX1_add_18 : decode cX1_add 18 = .ok (.iload_n 1, 1) := by decide +kernel
theorem dX1_add_19 : decode cX1_add 19 = .ok (.bipush 63, 2) := by decide +kernel
theorem dX1_add_21 : decode cX1_add 21 = .ok (.iand, 1) := by decide +kernel
theorem dX1_add_22 : decode cX1_add 22 = .ok (.lshl, 1) := by decide +kernel
theorem dX1_add_23 : decode cX1_add 23 = .ok (.lor, 1) := by decide +kernel
theorem dX1_add_24 : decode cX1_add 24 = .ok (.lastore, 1) := by decide +kernel
theorem dX1_add_25 : decode cX1_add 25 = .ok (.return_, 1) := by decide +kernel
theorem dX1_has_0 : decode cX1_has 0 = .ok (.iload_n 1, 1) := by decide +kernel
theorem dX1_has_1 : decode cX1_has 1 = .ok (.invokestatic 15, 3) := by decide +kernel
theorem dX1_has_4 : decode cX1_has 4 = .ok (.ifCond .eq 28, 3) := by decide +kernel
theorem dX1_has_7 : decode cX1_has 7 = .ok (.aload_n 0, 1) := by decide +kernel
theorem dX1_has_8 : decode cX1_has 8 = .ok (.getfield 11, 3) := by decide +kernel
theorem dX1_has_11 : decode cX1_has 11 = .ok (.iload_n 1, 1) := by decide +kernel
theorem dX1_has_12 : decode cX1_has 12 = .ok (.bipush 6, 2) := by decide +kernel
theorem dX1_has_14 : decode cX1_has 14 = .ok (.ishr, 1) := by decide +kernel
theorem dX1_has_15 : decode cX1_has 15 = .ok (.laload, 1) := by decide +kernel
theorem dX1_has_16 : decode cX1_has 16 = .ok (.iload_n 1, 1) := by decide +kernel
theorem dX1_has_17 : decode cX1_has 17 = .ok (.bipush 63, 2) := by decide +kernel
theorem dX1_has_19 : decode cX1_has 19 = .ok (.iand, 1) := by decide +kernel
theorem dX1_has_20 : decode cX1_has 20 = .ok (.lushr, 1) := by decide +kernel
theorem dX1_has_21 : decode cX1_has 21 = .ok (.lconst 1, 1) := by decide +kernel
theorem dX1_has_22 : decode cX1_has 22 = .ok (.land, 1) := by decide +kernel
theorem dX1_has_23 : decode cX1_has 23 = .ok (.lconst 1, 1) := by decide +kernel
theorem dX1_has_24 : decode cX1_has 24 = .ok (.lcmp, 1) := by decide +kernel
theorem dX1_has_25 : decode cX1_has 25 = .ok (.ifCond .ne 7, 3) := by decide +kernel
theorem dX1_has_28 : decode cX1_has 28 = .ok (.iconst 1, 1) := by decide +kernel
theorem dX1_has_29 : decode cX1_has 29 = .ok (.goto 4, 3) := by decide +kernel
theorem dX1_has_32 : decode cX1_has 32 = .ok (.iconst 0, 1) := by decide +kernel
theorem dX1_has_33 : decode cX1_has 33 = .ok (.ireturn, 1) := by decide +kernel
theorem dX1_size_0 : decode cX1_size 0 = .ok (.iconst 0, 1) := by decide +kernel
theorem dX1_size_1 : decode cX1_size 1 = .ok (.istore_n 1, 1) := by decide +kernel
theorem dX1_size_2 : decode cX1_size 2 = .ok (.iconst 0, 1) := by decide +kernel
theorem dX1_size_3 : decode cX1_size 3 = .ok (.istore_n 2, 1) := by decide +kernel
theorem dX1_size_4 : decode cX1_size 4 = .ok (.iload_n 2, 1) := by decide +kernel
theorem dX1_size_5 : decode cX1_size 5 = .ok (.bipush 16, 2) := by decide +kernel
theorem dX1_size_7 : decode cX1_size 7 = .ok (.if_icmp .ge 21, 3) := by decide +kernel
theorem dX1_size_10 : decode cX1_size 10 = .ok (.iload_n 1, 1) := by decide +kernel
theorem dX1_size_11 : decode cX1_size 11 = .ok (.aload_n 0, 1) := by decide +kernel
theorem dX1_size_12 : decode cX1_size 12 = .ok (.getfield 11, 3) := by decide +kernel
theorem dX1_size_15 : decode cX1_size 15 = .ok (.iload_n 2, 1) := by decide +kernel
theorem dX1_size_16 : decode cX1_size 16 = .ok (.laload, 1) := by decide +kernel
theorem dX1_size_17 : decode cX1_size 17 = .ok (.invokestatic 19, 3) := by decide +kernel
theorem dX1_size_20 : decode cX1_size 20 = .ok (.iadd, 1) := by decide +kernel
theorem dX1_size_21 : decode cX1_size 21 = .ok (.istore_n 1, 1) := by decide +kernel
theorem dX1_size_22 : decode cX1_size 22 = .ok (.iinc 2 1, 3) := by decide +kernel
theorem dX1_size_25 : decode cX1_size 25 = .ok (.goto (-21), 3) := by decide +kernel
theorem dX1_size_28 : decode cX1_size 28 = .ok (.iload_n 1, 1) := by decide +kernel
theorem dX1_size_29 : decode cX1_size 29 = .ok (.ireturn, 1) := by decide +kernel
theorem dX1_firstFrom_0 : decode cX1_firstFrom 0 = .ok (.iload_n 1, 1) := by decide +kernel
theorem dX1_firstFrom_1 : decode cX1_firstFrom 1 = .ok (.iconst 0, 1) := by decide +kernel
theorem dX1_firstFrom_2 : decode cX1_firstFrom 2 = .ok (.invokestatic 25, 3) := by decide +kernel
theorem dX1_firstFrom_5 : decode cX1_firstFrom 5 = .ok (.istore_n 2, 1) := by decide +kernel
theorem dX1_firstFrom_6 : decode cX1_firstFrom 6 = .ok (.iload_n 2, 1) := by decide +kernel
theorem dX1_firstFrom_7 : decode cX1_firstFrom 7 = .ok (.sipush 1000, 3) := by decide +kernel
theorem dX1_firstFrom_10 : decode cX1_firstFrom 10 = .ok (.if_icmp .ge 43, 3) := by decide +kernel
theorem dX1_firstFrom_13 : decode cX1_firstFrom 13 = .ok (.aload_n 0, 1) := by decide +kernel
theorem dX1_firstFrom_14 : decode cX1_firstFrom 14 = .ok (.iload_n 2, 1) := by decide +kernel
theorem dX1_firstFrom_15 : decode cX1_firstFrom 15 = .ok (.invokevirtual 31, 3) := by decide +kernel
theorem dX1_firstFrom_18 : decode cX1_firstFrom 18 = .ok (.ifCond .eq 5, 3) := by decide +kernel
theorem dX1_firstFrom_21 : decode cX1_firstFrom 21 = .ok (.iload_n 2, 1) := by decide +kernel
theorem dX1_firstFrom_22 : decode cX1_firstFrom 22 = .ok (.ireturn, 1) := by decide +kernel
theorem dX1_firstFrom_23 : decode cX1_firstFrom 23 = .ok (.aload_n 0, 1) := by decide +kernel
theorem dX1_firstFrom_24 : decode cX1_firstFrom 24 = .ok (.getfield 11, 3) := by decide +kernel
theorem dX1_firstFrom_27 : decode cX1_firstFrom 27 = .ok (.iload_n 2, 1) := by decide +kernel
theorem dX1_firstFrom_28 : decode cX1_firstFrom 28 = .ok (.bipush 6, 2) := by decide +kernel
theorem dX1_firstFrom_30 : decode cX1_firstFrom 30 = .ok (.ishr, 1) := by decide +kernel
theorem dX1_firstFrom_31 : decode cX1_firstFrom 31 = .ok (.laload, 1) := by decide +kernel
theorem dX1_firstFrom_32 : decode cX1_firstFrom 32 = .ok (.lconst 0, 1) := by decide +kernel
theorem dX1_firstFrom_33 : decode cX1_firstFrom 33 = .ok (.lcmp, 1) := by decide +kernel
theorem dX1_firstFrom_34 : decode cX1_firstFrom 34 = .ok (.ifCond .ne 12, 3) := by decide +kernel
theorem dX1_firstFrom_37 : decode cX1_firstFrom 37 = .ok (.iload_n 2, 1) := by decide +kernel
theorem dX1_firstFrom_38 : decode cX1_firstFrom 38 = .ok (.bipush 63, 2) := by decide +kernel
theorem dX1_firstFrom_40 : decode cX1_firstFrom 40 = .ok (.ior, 1) := by decide +kernel
theorem dX1_firstFrom_41 : decode cX1_firstFrom 41 = .ok (.iconst 1, 1) := by decide +kernel
theorem dX1_firstFrom_42 : decode cX1_firstFrom 42 = .ok (.iadd, 1) := by decide +kernel
theorem dX1_firstFrom_43 : decode cX1_firstFrom 43 = .ok (.goto 6, 3) := by decide +kernel
theorem dX1_firstFrom_46 : decode cX1_firstFrom 46 = .ok (.iload_n 2, 1) := by decide +kernel
theorem dX1_firstFrom_47 : decode cX1_firstFrom 47 = .ok (.iconst 1, 1) := by decide +kernel
theorem dX1_firstFrom_48 : decode cX1_firstFrom 48 = .ok (.iadd, 1) := by decide +kernel
theorem dX1_firstFrom_49 : decode cX1_firstFrom 49 = .ok (.istore_n 2, 1) := by decide +kernel
theorem dX1_firstFrom_50 : decode cX1_firstFrom 50 = .ok (.goto (-44), 3) := by decide +kernel
theorem dX1_firstFrom_53 : decode cX1_firstFrom 53 = .ok (.bipush (-9), 2) := by decide +kernel
theorem dX1_firstFrom_55 : decode cX1_firstFrom 55 = .ok (.ireturn, 1) := by decide +kernel
theorem dX1_lastTill_0 : decode cX1_lastTill 0 = .ok (.iload_n 1, 1) := by decide +kernel
theorem dX1_lastTill_1 : decode cX1_lastTill 1 = .ok (.sipush 999, 3) := by decide +kernel
theorem dX1_lastTill_4 : decode cX1_lastTill 4 = .ok (.invokestatic 34, 3) := by decide +kernel
theorem dX1_lastTill_7 : decode cX1_lastTill 7 = .ok (.istore_n 2, 1) := by decide +kernel
theorem dX1_lastTill_8 : decode cX1_lastTill 8 = .ok (.iload_n 2, 1) := by decide +kernel
theorem dX1_lastTill_9 : decode cX1_lastTill 9 = .ok (.ifCond .lt 43, 3) := by decide +kernel
theorem dX1_lastTill_12 : decode cX1_lastTill 12 = .ok (.aload_n 0, 1) := by decide +kernel
theorem dX1_lastTill_13 : decode cX1_lastTill 13 = .ok (.iload_n 2, 1) := by decide +kernel
theorem dX1_lastTill_14 : decode cX1_lastTill 14 = .ok (.invokevirtual 31, 3) := by decide +kernel
theorem dX1_lastTill_17 : decode cX1_lastTill 17 = .ok (.ifCond .eq 5, 3) := by decide +kernel
theorem dX1_lastTill_20 : decode cX1_lastTill 20 = .ok (.iload_n 2, 1) := by decide +kernel
theorem dX1_lastTill_21 : decode cX1_lastTill 21 = .ok (.ireturn, 1) := by decide +kernel
theorem dX1_lastTill_22 : decode cX1_lastTill 22 = .ok (.aload_n 0, 1) := by decide +kernel
theorem dX1_lastTill_23 : decode cX1_lastTill 23 = .ok (.getfield 11, 3) := by decide +kernel
theorem dX1_lastTill_26 : decode cX1_lastTill 26 = .ok (.iload_n 2, 1) := by decide +kernel
theorem dX1_lastTill_27 : decode cX1_lastTill 27 = .ok (.bipush 6, 2) := by decide +kernel
theorem dX1_lastTill_29 : decode cX1_lastTill 29 = .ok (.ishr, 1) := by decide +kernel
theorem dX1_lastTill_30 : decode cX1_lastTill 30 = .ok (.laload, 1) := by decide +kernel
theorem dX1_lastTill_31 : decode cX1_lastTill 31 = .ok (.lconst 0, 1) := by decide +kernel
theorem dX1_lastTill_32 : decode cX1_lastTill 32 = .ok (.lcmp, 1) := by decide +kernel
theorem dX1_lastTill_33 : decode cX1_lastTill 33 = .ok (.ifCond .ne 12, 3) := by decide +kernel
theorem dX1_lastTill_36 : decode cX1_lastTill 36 = .ok (.iload_n 2, 1) := by decide +kernel
theorem dX1_lastTill_37 : decode cX1_lastTill 37 = .ok (.bipush (-64), 2) := by decide +kernel
theorem dX1_lastTill_39 : decode cX1_lastTill 39 = .ok (.iand, 1) := by decide +kernel
theorem dX1_lastTill_40 : decode cX1_lastTill 40 = .ok (.iconst 1, 1) := by decide +kernel
theorem dX1_lastTill_41 : decode cX1_lastTill 41 = .ok (.isub, 1) := by decide +kernel
theorem dX1_lastTill_42 : decode cX1_lastTill 42 = .ok (.goto 6, 3) := by decide +kernel
theorem dX1_lastTill_45 : decode cX1_lastTill 45 = .ok (.iload_n 2, 1) := by decide +kernel
theorem dX1_lastTill_46 : decode cX1_lastTill 46 = .ok (.iconst 1, 1) := by decide +kernel
theorem dX1_lastTill_47 : decode cX1_lastTill 47 = .ok (.isub, 1) := by decide +kernel
theorem dX1_lastTill_48 : decode cX1_lastTill 48 = .ok (.istore_n 2, 1) := by decide +kernel
theorem dX1_lastTill_49 : decode cX1_lastTill 49 = .ok (.goto (-41), 3) := by decide +kernel
theorem dX1_lastTill_52 : decode cX1_lastTill 52 = .ok (.bipush (-9), 2) := by decide +kernel
theorem dX1_lastTill_54 : decode cX1_lastTill 54 = .ok (.ireturn, 1) := by decide +kernel
theorem dX1_meets_0 : decode cX1_meets 0 = .ok (.iconst 0, 1) := by decide +kernel
theorem dX1_meets_1 : decode cX1_meets 1 = .ok (.istore_n 2, 1) := by decide +kernel
theorem dX1_meets_2 : decode cX1_meets 2 = .ok (.iload_n 2, 1) := by decide +kernel
theorem dX1_meets_3 : decode cX1_meets 3 = .ok (.bipush 16, 2) := by decide +kernel
theorem dX1_meets_5 : decode cX1_meets 5 = .ok (.if_icmp .ge 29, 3) := by decide +kernel
theorem dX1_meets_8 : decode cX1_meets 8 = .ok (.aload_n 0, 1) := by decide +kernel
theorem dX1_meets_9 : decode cX1_meets 9 = .ok (.getfield 11, 3) := by decide +kernel
theorem dX1_meets_12 : decode cX1_meets 12 = .ok (.iload_n 2, 1) := by decide +kernel
theorem dX1_meets_13 : decode cX1_meets 13 = .ok (.laload, 1) := by decide +kernel
theorem dX1_meets_14 : decode cX1_meets 14 = .ok (.aload_n 1, 1) := by decide +kernel
theorem dX1_meets_15 : decode cX1_meets 15 = .ok (.getfield 11, 3) := by decide +kernel
theorem dX1_meets_18 : decode cX1_meets 18 = .ok (.iload_n 2, 1) := by decide +kernel
theorem dX1_meets_19 : decode cX1_meets 19 = .ok (.laload, 1) := by decide +kernel
theorem dX1_meets_20 : decode cX1_meets 20 = .ok (.land, 1) := by decide +kernel
theorem dX1_meets_21 : decode cX1_meets 21 = .ok (.lconst 0, 1) := by decide +kernel
theorem dX1_meets_22 : decode cX1_meets 22 = .ok (.lcmp, 1) := by decide +kernel
theorem dX1_meets_23 : decode cX1_meets 23 = .ok (.ifCond .eq 5, 3) := by decide +kernel
theorem dX1_meets_26 : decode cX1_meets 26 = .ok (.iconst 1, 1) := by decide +kernel
theorem dX1_meets_27 : decode cX1_meets 27 = .ok (.ireturn, 1) := by decide +kernel
theorem dX1_meets_28 : decode cX1_meets 28 = .ok (.iinc 2 1, 3) := by decide +kernel
theorem dX1_meets_31 : decode cX1_meets 31 = .ok (.goto (-29), 3) := by decide +kernel
theorem dX1_meets_34 : decode cX1_meets 34 = .ok (.iconst 0, 1) := by decide +kernel
theorem dX1_meets_35 : decode cX1_meets 35 = .ok (.ireturn, 1) := by decide +kernel
theorem dX2_init_0 : decode cX2_init 0 = .ok (.aload_n 0, 1) := by decide +kernel
theorem dX2_init_1 : decode cX2_init 1 = .ok (.invokespecial 3, 3) := by decide +kernel
theorem dX2_init_4 : decode cX2_init 4 = .ok (.aload_n 0, 1) := by decide +kernel
theorem dX2_init_5 : decode cX2_init 5 = .ok (.aload_n 1, 1) := by decide +kernel
theorem dX2_init_6 : decode cX2_init 6 = .ok (.putfield 9, 3) := by decide +kernel
theorem dX2_init_9 : decode cX2_init 9 = .ok (.aload_n 0, 1) := by decide +kernel
theorem dX2_init_10 : decode cX2_init 10 = .ok (.iload_n 2, 1) := by decide +kernel
theorem dX2_init_11 : decode cX2_init 11 = .ok (.putfield 15, 3) := by decide +kernel
theorem dX2_init_14 : decode cX2_init 14 = .ok (.aload_n 0, 1) := by decide +kernel
theorem dX2_init_15 : decode cX2_init 15 = .ok (.iload_n 3, 1) := by decide +kernel
theorem dX2_init_16 : decode cX2_init 16 = .ok (.putfield 19, 3) := by decide +kernel
theorem dX2_init_19 : decode cX2_init 19 = .ok (.aload_n 0, 1) := by decide +kernel
theorem dX2_init_20 : decode cX2_init 20 = .ok (.iload 4, 2) := by decide +kernel
theorem dX2_init_22 : decode cX2_init 22 = .ok (.putfield 22, 3) := by decide +kernel
theorem dX2_init_25 : decode cX2_init 25 = .ok (.aload_n 0, 1) := by decide +kernel
theorem dX2_init_26 : decode cX2_init 26 = .ok (.iload 5, 2) := by decide +kernel
theorem dX2_init_28 : decode cX2_init 28 = .ok (.putfield 25, 3) := by decide +kernel
theorem dX2_init_31 : decode cX2_init 31 = .ok (.return_, 1) := by decide +kernel
theorem dX2_strikesOn_0 : decode cX2_strikesOn 0 = .ok (.iload_n 1, 1) := by decide +kernel
theorem dX2_strikesOn_1 : decode cX2_strikesOn 1 = .ok (.aload_n 0, 1) := by decide +kernel
theorem dX2_strikesOn_2 : decode cX2_strikesOn 2 = .ok (.getfield 19, 3) := by decide +kernel
theorem dX2_strikesOn_5 : decode cX2_strikesOn 5 = .ok (.aload_n 0, 1) := by decide +kernel
theorem dX2_strikesOn_6 : decode cX2_strikesOn 6 = .ok (.getfield 22, 3) := by decide +kernel
theorem dX2_strikesOn_9 : decode cX2_strikesOn 9 = .ok (.invokestatic 28, 3) := by decide +kernel
theorem dX2_strikesOn_12 : decode cX2_strikesOn 12 = .ok (.ifCond .eq 28, 3) := by decide +kernel
theorem dX2_strikesOn_15 : decode cX2_strikesOn 15 = .ok (.iload_n 1, 1) := by decide +kernel
theorem dX2_strikesOn_16 : decode cX2_strikesOn 16 = .ok (.aload_n 0, 1) := by decide +kernel
theorem dX2_strikesOn_17 : decode cX2_strikesOn 17 = .ok (.getfield 9, 3) := by decide +kernel
theorem dX2_strikesOn_20 : decode cX2_strikesOn 20 = .ok (.getfield 32, 3) := by decide +kernel
theorem dX2_strikesOn_23 : decode cX2_strikesOn 23 = .ok (.aload_n 0, 1) := by decide +kernel
theorem dX2_strikesOn_24 : decode cX2_strikesOn 24 = .ok (.getfield 9, 3) := by decide +kernel
theorem dX2_strikesOn_27 : decode cX2_strikesOn 27 = .ok (.getfield 35, 3) := by decide +kernel
theorem dX2_strikesOn_30 : decode cX2_strikesOn 30 = .ok (.invokestatic 28, 3) := by decide +kernel
theorem dX2_strikesOn_33 : decode cX2_strikesOn 33 = .ok (.ifCond .eq 7, 3) := by decide +kernel
theorem dX2_strikesOn_36 : decode cX2_strikesOn 36 = .ok (.iconst 1, 1) := by decide +kernel
theorem dX2_strikesOn_37 : decode cX2_strikesOn 37 = .ok (.goto 4, 3) := by decide +kernel
theorem dX2_strikesOn_40 : decode cX2_strikesOn 40 = .ok (.iconst 0, 1) := by decide +kernel
theorem dX2_strikesOn_41 : decode cX2_strikesOn 41 = .ok (.ireturn, 1) := by decide +kernel
theorem dX2_hasInk_0 : decode cX2_hasInk 0 = .ok (.aload_n 0, 1) := by decide +kernel
theorem dX2_hasInk_1 : decode cX2_hasInk 1 = .ok (.getfield 15, 3) := by decide +kernel
theorem dX2_hasInk_4 : decode cX2_hasInk 4 = .ok (.iload_n 1, 1) := by decide +kernel
theorem dX2_hasInk_5 : decode cX2_hasInk 5 = .ok (.ishr, 1) := by decide +kernel
theorem dX2_hasInk_6 : decode cX2_hasInk 6 = .ok (.iconst 1, 1) := by decide +kernel
theorem dX2_hasInk_7 : decode cX2_hasInk 7 = .ok (.iand, 1) := by decide +kernel
theorem dX2_hasInk_8 : decode cX2_hasInk 8 = .ok (.iconst 1, 1) := by decide +kernel
theorem dX2_hasInk_9 : decode cX2_hasInk 9 = .ok (.if_icmp .ne 7, 3) := by decide +kernel
theorem dX2_hasInk_12 : decode cX2_hasInk 12 = .ok (.iconst 1, 1) := by decide +kernel
theorem dX2_hasInk_13 : decode cX2_hasInk 13 = .ok (.goto 4, 3) := by decide +kernel
theorem dX2_hasInk_16 : decode cX2_hasInk 16 = .ok (.iconst 0, 1) := by decide +kernel
theorem dX2_hasInk_17 : decode cX2_hasInk 17 = .ok (.ireturn, 1) := by decide +kernel
theorem dX2_fitsNick_0 : decode cX2_fitsNick 0 = .ok (.aload_n 0, 1) := by decide +kernel
theorem dX2_fitsNick_1 : decode cX2_fitsNick 1 = .ok (.getfield 25, 3) := by decide +kernel
theorem dX2_fitsNick_4 : decode cX2_fitsNick 4 = .ok (.bipush (-9), 2) := by decide +kernel
theorem dX2_fitsNick_6 : decode cX2_fitsNick 6 = .ok (.if_icmp .eq 15, 3) := by decide +kernel
theorem dX2_fitsNick_9 : decode cX2_fitsNick 9 = .ok (.iload_n 2, 1) := by decide +kernel
theorem dX2_fitsNick_10 : decode cX2_fitsNick 10 = .ok (.aload_n 0, 1) := by decide +kernel
theorem dX2_fitsNick_11 : decode cX2_fitsNick 11 = .ok (.getfield 25, 3) := by decide +kernel
theorem dX2_fitsNick_14 : decode cX2_fitsNick 14 = .ok (.if_icmp .lt 7, 3) := by decide +kernel
theorem dX2_fitsNick_17 : decode cX2_fitsNick 17 = .ok (.iconst 1, 1) := by decide +kernel
theorem dX2_fitsNick_18 : decode cX2_fitsNick 18 = .ok (.goto 4, 3) := by decide +kernel
theorem dX2_fitsNick_21 : decode cX2_fitsNick 21 = .ok (.iconst 0, 1) := by decide +kernel
theorem dX2_fitsNick_22 : decode cX2_fitsNick 22 = .ok (.istore_n 3, 1) := by decide +kernel
theorem dX2_fitsNick_23 : decode cX2_fitsNick 23 = .ok (.iload_n 1, 1) := by decide +kernel
theorem dX2_fitsNick_24 : decode cX2_fitsNick 24 = .ok (.bipush (-9), 2) := by decide +kernel
theorem dX2_fitsNick_26 : decode cX2_fitsNick 26 = .ok (.if_icmp .eq 17, 3) := by decide +kernel
theorem dX2_fitsNick_29 : decode cX2_fitsNick 29 = .ok (.iload_n 3, 1) := by decide +kernel
theorem dX2_fitsNick_30 : decode cX2_fitsNick 30 = .ok (.iload_n 1, 1) := by decide +kernel
theorem dX2_fitsNick_31 : decode cX2_fitsNick 31 = .ok (.iconst 1, 1) := by decide +kernel
theorem dX2_fitsNick_32 : decode cX2_fitsNick 32 = .ok (.if_icmp .ne 7, 3) := by decide +kernel
theorem dX2_fitsNick_35 : decode cX2_fitsNick 35 = .ok (.iconst 1, 1) := by decide +kernel
theorem dX2_fitsNick_36 : decode cX2_fitsNick 36 = .ok (.goto 4, 3) := by decide +kernel
theorem dX2_fitsNick_39 : decode cX2_fitsNick 39 = .ok (.iconst 0, 1) := by decide +kernel
theorem dX2_fitsNick_40 : decode cX2_fitsNick 40 = .ok (.if_icmp .ne 7, 3) := by decide +kernel
theorem dX2_fitsNick_43 : decode cX2_fitsNick 43 = .ok (.iconst 1, 1) := by decide +kernel
theorem dX2_fitsNick_44 : decode cX2_fitsNick 44 = .ok (.goto 4, 3) := by decide +kernel
theorem dX2_fitsNick_47 : decode cX2_fitsNick 47 = .ok (.iconst 0, 1) := by decide +kernel
theorem dX2_fitsNick_48 : decode cX2_fitsNick 48 = .ok (.ireturn, 1) := by decide +kernel
theorem dX3_init_0 : decode cX3_init 0 = .ok (.aload_n 0, 1) := by decide +kernel
theorem dX3_init_1 : decode cX3_init 1 = .ok (.invokespecial 3, 3) := by decide +kernel
theorem dX3_init_4 : decode cX3_init 4 = .ok (.aload_n 0, 1) := by decide +kernel
theorem dX3_init_5 : decode cX3_init 5 = .ok (.bipush 10, 2) := by decide +kernel
theorem dX3_init_7 : decode cX3_init 7 = .ok (.anewarray 9, 3) := by decide +kernel
theorem dX3_init_10 : decode cX3_init 10 = .ok (.putfield 11, 3) := by decide +kernel
theorem dX3_init_13 : decode cX3_init 13 = .ok (.aload_n 0, 1) := by decide +kernel
theorem dX3_init_14 : decode cX3_init 14 = .ok (.bipush 10, 2) := by decide +kernel
theorem dX3_init_16 : decode cX3_init 16 = .ok (.newarray .int, 2) := by decide +kernel
theorem dX3_init_18 : decode cX3_init 18 = .ok (.putfield 17, 3) := by decide +kernel
theorem dX3_init_21 : decode cX3_init 21 = .ok (.aload_n 0, 1) := by decide +kernel
theorem dX3_init_22 : decode cX3_init 22 = .ok (.sipush 1024, 3) := by decide +kernel
theorem dX3_init_25 : decode cX3_init 25 = .ok (.newarray .int, 2) := by decide +kernel
theorem dX3_init_27 : decode cX3_init 27 = .ok (.putfield 21, 3) := by decide +kernel
theorem dX3_init_30 : decode cX3_init 30 = .ok (.aload_n 0, 1) := by decide +kernel
theorem dX3_init_31 : decode cX3_init 31 = .ok (.iconst 0, 1) := by decide +kernel
theorem dX3_init_32 : decode cX3_init 32 = .ok (.putfield 24, 3) := by decide +kernel
theorem dX3_init_35 : decode cX3_init 35 = .ok (.aload_n 0, 1) := by decide +kernel
theorem dX3_init_36 : decode cX3_init 36 = .ok (.iconst 0, 1) := by decide +kernel
theorem dX3_init_37 : decode cX3_init 37 = .ok (.putfield 28, 3) := by decide +kernel
theorem dX3_init_40 : decode cX3_init 40 = .ok (.aload_n 0, 1) := by decide +kernel
theorem dX3_init_41 : decode cX3_init 41 = .ok (.iconst 0, 1) := by decide +kernel
theorem dX3_init_42 : decode cX3_init 42 = .ok (.putfield 31, 3) := by decide +kernel
theorem dX3_init_45 : decode cX3_init 45 = .ok (.aload_n 0, 1) := by decide +kernel
theorem dX3_init_46 : decode cX3_init 46 = .ok (.iconst 0, 1) := by decide +kernel
theorem dX3_init_47 : decode cX3_init 47 = .ok (.putfield 34, 3) := by decide +kernel
theorem dX3_init_50 : decode cX3_init 50 = .ok (.aload_n 0, 1) := by decide +kernel
theorem dX3_init_51 : decode cX3_init 51 = .ok (.aload_n 1, 1) := by decide +kernel
theorem dX3_init_52 : decode cX3_init 52 = .ok (.putfield 37, 3) := by decide +kernel
theorem dX3_init_55 : decode cX3_init 55 = .ok (.return_, 1) := by decide +kernel
theorem dX3_gather_0 : decode cX3_gather 0 = .ok (.aload_n 0, 1) := by decide +kernel
theorem dX3_gather_1 : decode cX3_gather 1 = .ok (.iconst 0, 1) := by decide +kernel
theorem dX3_gather_2 : decode cX3_gather 2 = .ok (.putfield 24, 3) := by decide +kernel
theorem dX3_gather_5 : decode cX3_gather 5 = .ok (.iconst 0, 1) := by decide +kernel
theorem dX3_gather_6 : decode cX3_gather 6 = .ok (.istore 4, 2) := by decide +kernel
theorem dX3_gather_8 : decode cX3_gather 8 = .ok (.iload 4, 2) := by decide +kernel
theorem dX3_gather_10 : decode cX3_gather 10 = .ok (.aload_n 1, 1) := by decide +kernel
theorem dX3_gather_11 : decode cX3_gather 11 = .ok (.getfield 41, 3) := by decide +kernel
theorem dX3_gather_14 : decode cX3_gather 14 = .ok (.if_icmp .ge 65, 3) := by decide +kernel
theorem dX3_gather_17 : decode cX3_gather 17 = .ok (.aload_n 1, 1) := by decide +kernel
theorem dX3_gather_18 : decode cX3_gather 18 = .ok (.getfield 46, 3) := by decide +kernel
theorem dX3_gather_21 : decode cX3_gather 21 = .ok (.iload 4, 2) := by decide +kernel
theorem dX3_gather_23 : decode cX3_gather 23 = .ok (.aaload, 1) := by decide +kernel
theorem dX3_gather_24 : decode cX3_gather 24 = .ok (.astore 5, 2) := by decide +kernel
theorem dX3_gather_26 : decode cX3_gather 26 = .ok (.aload 5, 2) := by decide +kernel
theorem dX3_gather_28 : decode cX3_gather 28 = .ok (.getfield 49, 3) := by decide +kernel
theorem dX3_gather_31 : decode cX3_gather 31 = .ok (.ifnull 42, 3) := by decide +kernel
theorem dX3_gather_34 : decode cX3_gather 34 = .ok (.aload 5, 2) := by decide +kernel
theorem dX3_gather_36 : decode cX3_gather 36 = .ok (.iload_n 2, 1) := by decide +kernel
theorem dX3_gather_37 : decode cX3_gather 37 = .ok (.iload_n 3, 1) := by decide +kernel
theorem dX3_gather_38 : decode cX3_gather 38 = .ok (.invokevirtual 53, 3) := by decide +kernel
theorem dX3_gather_41 : decode cX3_gather 41 = .ok (.ifCond .eq 32, 3) := by decide +kernel
theorem dX3_gather_44 : decode cX3_gather 44 = .ok (.aload_n 0, 1) := by decide +kernel
theorem dX3_gather_45 : decode cX3_gather 45 = .ok (.getfield 24, 3) := by decide +kernel
theorem dX3_gather_48 : decode cX3_gather 48 = .ok (.bipush 10, 2) := by decide +kernel
theorem dX3_gather_50 : decode cX3_gather 50 = .ok (.if_icmp .lt 5, 3) := by decide +kernel
theorem dX3_gather_53 : decode cX3_gather 53 = .ok (.iconst 0, 1) := by decide +kernel
theorem dX3_gather_54 : decode cX3_gather 54 = .ok (.ireturn, 1) := by decide +kernel
theorem dX3_gather_55 : decode cX3_gather 55 = .ok (.aload_n 0, 1) := by decide +kernel
theorem dX3_gather_56 : decode cX3_gather 56 = .ok (.getfield 11, 3) := by decide +kernel
theorem dX3_gather_59 : decode cX3_gather 59 = .ok (.aload_n 0, 1) := by decide +kernel
theorem dX3_gather_60 : decode cX3_gather 60 = .ok (.dup, 1) := by decide +kernel
theorem dX3_gather_61 : decode cX3_gather 61 = .ok (.getfield 24, 3) := by decide +kernel
theorem dX3_gather_64 : decode cX3_gather 64 = .ok (.dup_x1, 1) := by decide +kernel
theorem dX3_gather_65 : decode cX3_gather 65 = .ok (.iconst 1, 1) := by decide +kernel
theorem dX3_gather_66 : decode cX3_gather 66 = .ok (.iadd, 1) := by decide +kernel
theorem dX3_gather_67 : decode cX3_gather 67 = .ok (.putfield 24, 3) := by decide +kernel
theorem dX3_gather_70 : decode cX3_gather 70 = .ok (.aload 5, 2) := by decide +kernel
theorem dX3_gather_72 : decode cX3_gather 72 = .ok (.aastore, 1) := by decide +kernel
theorem dX3_gather_73 : decode cX3_gather 73 = .ok (.iinc 4 1, 3) := by decide +kernel
theorem dX3_gather_76 : decode cX3_gather 76 = .ok (.goto (-68), 3) := by decide +kernel
theorem dX3_gather_79 : decode cX3_gather 79 = .ok (.iconst 1, 1) := by decide +kernel
theorem dX3_gather_80 : decode cX3_gather 80 = .ok (.ireturn, 1) := by decide +kernel
theorem dX3_firstBarred_0 : decode cX3_firstBarred 0 = .ok (.bipush (-9), 2) := by decide +kernel
theorem dX3_firstBarred_2 : decode cX3_firstBarred 2 = .ok (.istore_n 2, 1) := by decide +kernel
theorem dX3_firstBarred_3 : decode cX3_firstBarred 3 = .ok (.iconst 0, 1) := by decide +kernel
theorem dX3_firstBarred_4 : decode cX3_firstBarred 4 = .ok (.istore_n 3, 1) := by decide +kernel
theorem dX3_firstBarred_5 : decode cX3_firstBarred 5 = .ok (.iload_n 3, 1) := by decide +kernel
theorem dX3_firstBarred_6 : decode cX3_firstBarred 6 = .ok (.aload_n 0, 1) := by decide +kernel
theorem dX3_firstBarred_7 : decode cX3_firstBarred 7 = .ok (.getfield 24, 3) := by decide +kernel
theorem dX3_firstBarred_10 : decode cX3_firstBarred 10 = .ok (.if_icmp .ge 106, 3) := by decide +kernel
theorem dX3_firstBarred_13 : decode cX3_firstBarred 13 = .ok (.iload_n 1, 1) := by decide +kernel
theorem dX3_firstBarred_14 : decode cX3_firstBarred 14 = .ok (.iload_n 3, 1) := by decide +kernel
theorem dX3_firstBarred_15 : decode cX3_firstBarred 15 = .ok (.ishr, 1) := by decide +kernel
theorem dX3_firstBarred_16 : decode cX3_firstBarred 16 = .ok (.iconst 1, 1) := by decide +kernel
theorem dX3_firstBarred_17 : decode cX3_firstBarred 17 = .ok (.iand, 1) := by decide +kernel
theorem dX3_firstBarred_18 : decode cX3_firstBarred 18 = .ok (.iconst 1, 1) := by decide +kernel
theorem dX3_firstBarred_19 : decode cX3_firstBarred 19 = .ok (.if_icmp .ne 6, 3) := by decide +kernel
theorem dX3_firstBarred_22 : decode cX3_firstBarred 22 = .ok (.goto 88, 3) := by decide +kernel
theorem dX3_firstBarred_25 : decode cX3_firstBarred 25 = .ok (.iconst 0, 1) := by decide +kernel
theorem dX3_firstBarred_26 : decode cX3_firstBarred 26 = .ok (.istore 4, 2) := by decide +kernel
theorem dX3_firstBarred_28 : decode cX3_firstBarred 28 = .ok (.iload_n 2, 1) := by decide +kernel
theorem dX3_firstBarred_29 : decode cX3_firstBarred 29 = .ok (.bipush (-9), 2) := by decide +kernel
theorem dX3_firstBarred_31 : decode cX3_firstBarred 31 = .ok (.if_icmp .eq 44, 3) := by decide +kernel
theorem dX3_firstBarred_34 : decode cX3_firstBarred 34 = .ok (.aload_n 0, 1) := by decide +kernel
theorem dX3_firstBarred_35 : decode cX3_firstBarred 35 = .ok (.getfield 37, 3) := by decide +kernel
theorem dX3_firstBarred_38 : decode cX3_firstBarred 38 = .ok (.aload_n 0, 1) := by decide +kernel
theorem dX3_firstBarred_39 : decode cX3_firstBarred 39 = .ok (.getfield 11, 3) := by decide +kernel
theorem dX3_firstBarred_42 : decode cX3_firstBarred 42 = .ok (.iload_n 2, 1) := by decide +kernel
theorem dX3_firstBarred_43 : decode cX3_firstBarred 43 = .ok (.aaload, 1) := by decide +kernel
theorem dX3_firstBarred_44 : decode cX3_firstBarred 44 = .ok (.getfield 57, 3) := by decide +kernel
theorem dX3_firstBarred_47 : decode cX3_firstBarred 47 = .ok (.aload_n 0, 1) := by decide +kernel
theorem dX3_firstBarred_48 : decode cX3_firstBarred 48 = .ok (.getfield 17, 3) := by decide +kernel
theorem dX3_firstBarred_51 : decode cX3_firstBarred 51 = .ok (.iload_n 2, 1) := by decide +kernel
theorem dX3_firstBarred_52 : decode cX3_firstBarred 52 = .ok (.iaload, 1) := by decide +kernel
theorem dX3_firstBarred_53 : decode cX3_firstBarred 53 = .ok (.invokevirtual 60, 3) := by decide +kernel
theorem dX3_firstBarred_56 : decode cX3_firstBarred 56 = .ok (.aload_n 0, 1) := by decide +kernel
theorem dX3_firstBarred_57 : decode cX3_firstBarred 57 = .ok (.getfield 37, 3) := by decide +kernel
theorem dX3_firstBarred_60 : decode cX3_firstBarred 60 = .ok (.getfield 66, 3) := by decide +kernel
theorem dX3_firstBarred_63 : decode cX3_firstBarred 63 = .ok (.aload_n 0, 1) := by decide +kernel
theorem dX3_firstBarred_64 : decode cX3_firstBarred 64 = .ok (.getfield 11, 3) := by decide +kernel
theorem dX3_firstBarred_67 : decode cX3_firstBarred 67 = .ok (.iload_n 3, 1) := by decide +kernel
theorem dX3_firstBarred_68 : decode cX3_firstBarred 68 = .ok (.aaload, 1) := by decide +kernel
theorem dX3_firstBarred_69 : decode cX3_firstBarred 69 = .ok (.getfield 57, 3) := by decide +kernel
theorem dX3_firstBarred_72 : decode cX3_firstBarred 72 = .ok (.iaload, 1) := by decide +kernel
theorem dX3_firstBarred_73 : decode cX3_firstBarred 73 = .ok (.istore 4, 2) := by decide +kernel
theorem dX3_firstBarred_75 : decode cX3_firstBarred 75 = .ok (.aload_n 0, 1) := by decide +kernel
theorem dX3_firstBarred_76 : decode cX3_firstBarred 76 = .ok (.getfield 17, 3) := by decide +kernel
theorem dX3_firstBarred_79 : decode cX3_firstBarred 79 = .ok (.iload_n 3, 1) := by decide +kernel
theorem dX3_firstBarred_80 : decode cX3_firstBarred 80 = .ok (.aload_n 0, 1) := by decide +kernel
theorem dX3_firstBarred_81 : decode cX3_firstBarred 81 = .ok (.getfield 11, 3) := by decide +kernel
theorem dX3_firstBarred_84 : decode cX3_firstBarred 84 = .ok (.iload_n 3, 1) := by decide +kernel
theorem dX3_firstBarred_85 : decode cX3_firstBarred 85 = .ok (.aaload, 1) := by decide +kernel
theorem dX3_firstBarred_86 : decode cX3_firstBarred 86 = .ok (.getfield 69, 3) := by decide +kernel
theorem dX3_firstBarred_89 : decode cX3_firstBarred 89 = .ok (.iload 4, 2) := by decide +kernel
theorem dX3_firstBarred_91 : decode cX3_firstBarred 91 = .ok (.invokevirtual 73, 3) := by decide +kernel
theorem dX3_firstBarred_94 : decode cX3_firstBarred 94 = .ok (.iastore, 1) := by decide +kernel
theorem dX3_firstBarred_95 : decode cX3_firstBarred 95 = .ok (.aload_n 0, 1) := by decide +kernel
theorem dX3_firstBarred_96 : decode cX3_firstBarred 96 = .ok (.getfield 17, 3) := by decide +kernel
theorem dX3_firstBarred_99 : decode cX3_firstBarred 99 = .ok (.iload_n 3, 1) := by decide +kernel
theorem dX3_firstBarred_100 : decode cX3_firstBarred 100 = .ok (.iaload, 1) := by decide +kernel
theorem dX3_firstBarred_101 : decode cX3_firstBarred 101 = .ok (.bipush (-9), 2) := by decide +kernel
theorem dX3_firstBarred_103 : decode cX3_firstBarred 103 = .ok (.if_icmp .ne 5, 3) := by decide +kernel
theorem dX3_firstBarred_106 : decode cX3_firstBarred 106 = .ok (.iload_n 3, 1) := by decide +kernel
theorem dX3_firstBarred_107 : decode cX3_firstBarred 107 = .ok (.ireturn, 1) := by decide +kernel
theorem dX3_firstBarred_108 : decode cX3_firstBarred 108 = .ok (.iload_n 3, 1) := by decide +kernel
theorem dX3_firstBarred_109 : decode cX3_firstBarred 109 = .ok (.istore_n 2, 1) := by decide +kernel
theorem dX3_firstBarred_110 : decode cX3_firstBarred 110 = .ok (.iinc 3 1, 3) := by decide +kernel
theorem dX3_firstBarred_113 : decode cX3_firstBarred 113 = .ok (.goto (-108), 3) := by decide +kernel
theorem dX3_firstBarred_116 : decode cX3_firstBarred 116 = .ok (.bipush (-9), 2) := by decide +kernel
theorem dX3_firstBarred_118 : decode cX3_firstBarred 118 = .ok (.ireturn, 1) := by decide +kernel
theorem dX3_lastDayOf_0 : decode cX3_lastDayOf 0 = .ok (.sipush 999, 3) := by decide +kernel
theorem dX3_lastDayOf_3 : decode cX3_lastDayOf 3 = .ok (.istore_n 2, 1) := by decide +kernel
theorem dX3_lastDayOf_4 : decode cX3_lastDayOf 4 = .ok (.bipush (-9), 2) := by decide +kernel
theorem dX3_lastDayOf_6 : decode cX3_lastDayOf 6 = .ok (.istore_n 3, 1) := by decide +kernel
theorem dX3_lastDayOf_7 : decode cX3_lastDayOf 7 = .ok (.aload_n 0, 1) := by decide +kernel
theorem dX3_lastDayOf_8 : decode cX3_lastDayOf 8 = .ok (.getfield 24, 3) := by decide +kernel
theorem dX3_lastDayOf_11 : decode cX3_lastDayOf 11 = .ok (.iconst 1, 1) := by decide +kernel
theorem dX3_lastDayOf_12 : decode cX3_lastDayOf 12 = .ok (.isub, 1) := by decide +kernel
theorem dX3_lastDayOf_13 : decode cX3_lastDayOf 13 = .ok (.istore 4, 2) := by decide +kernel
theorem dX3_lastDayOf_15 : decode cX3_lastDayOf 15 = .ok (.iload 4, 2) := by decide +kernel
theorem dX3_lastDayOf_17 : decode cX3_lastDayOf 17 = .ok (.iload_n 1, 1) := by decide +kernel
theorem dX3_lastDayOf_18 : decode cX3_lastDayOf 18 = .ok (.if_icmp .lt 76, 3) := by decide +kernel
theorem dX3_lastDayOf_21 : decode cX3_lastDayOf 21 = .ok (.aload_n 0, 1) := by decide +kernel
theorem dX3_lastDayOf_22 : decode cX3_lastDayOf 22 = .ok (.getfield 11, 3) := by decide +kernel
theorem dX3_lastDayOf_25 : decode cX3_lastDayOf 25 = .ok (.iload 4, 2) := by decide +kernel
theorem dX3_lastDayOf_27 : decode cX3_lastDayOf 27 = .ok (.aaload, 1) := by decide +kernel
theorem dX3_lastDayOf_28 : decode cX3_lastDayOf 28 = .ok (.getfield 69, 3) := by decide +kernel
theorem dX3_lastDayOf_31 : decode cX3_lastDayOf 31 = .ok (.iload_n 2, 1) := by decide +kernel
theorem dX3_lastDayOf_32 : decode cX3_lastDayOf 32 = .ok (.invokevirtual 79, 3) := by decide +kernel
theorem dX3_lastDayOf_35 : decode cX3_lastDayOf 35 = .ok (.istore_n 3, 1) := by decide +kernel
theorem dX3_lastDayOf_36 : decode cX3_lastDayOf 36 = .ok (.iload_n 3, 1) := by decide +kernel
theorem dX3_lastDayOf_37 : decode cX3_lastDayOf 37 = .ok (.bipush (-9), 2) := by decide +kernel
theorem dX3_lastDayOf_39 : decode cX3_lastDayOf 39 = .ok (.if_icmp .eq 8, 3) := by decide +kernel
theorem dX3_lastDayOf_42 : decode cX3_lastDayOf 42 = .ok (.iload 4, 2) := by decide +kernel
theorem dX3_lastDayOf_44 : decode cX3_lastDayOf 44 = .ok (.ifCond .ne 5, 3) := by decide +kernel
theorem dX3_lastDayOf_47 : decode cX3_lastDayOf 47 = .ok (.iload_n 3, 1) := by decide +kernel
theorem dX3_lastDayOf_48 : decode cX3_lastDayOf 48 = .ok (.ireturn, 1) := by decide +kernel
theorem dX3_lastDayOf_49 : decode cX3_lastDayOf 49 = .ok (.aload_n 0, 1) := by decide +kernel
theorem dX3_lastDayOf_50 : decode cX3_lastDayOf 50 = .ok (.getfield 37, 3) := by decide +kernel
theorem dX3_lastDayOf_53 : decode cX3_lastDayOf 53 = .ok (.aload_n 0, 1) := by decide +kernel
theorem dX3_lastDayOf_54 : decode cX3_lastDayOf 54 = .ok (.getfield 11, 3) := by decide +kernel
theorem dX3_lastDayOf_57 : decode cX3_lastDayOf 57 = .ok (.iload 4, 2) := by decide +kernel
theorem dX3_lastDayOf_59 : decode cX3_lastDayOf 59 = .ok (.aaload, 1) := by decide +kernel
theorem dX3_lastDayOf_60 : decode cX3_lastDayOf 60 = .ok (.getfield 57, 3) := by decide +kernel
theorem dX3_lastDayOf_63 : decode cX3_lastDayOf 63 = .ok (.iload_n 3, 1) := by decide +kernel
theorem dX3_lastDayOf_64 : decode cX3_lastDayOf 64 = .ok (.invokevirtual 82, 3) := by decide +kernel
theorem dX3_lastDayOf_67 : decode cX3_lastDayOf 67 = .ok (.aload_n 0, 1) := by decide +kernel
theorem dX3_lastDayOf_68 : decode cX3_lastDayOf 68 = .ok (.getfield 37, 3) := by decide +kernel
theorem dX3_lastDayOf_71 : decode cX3_lastDayOf 71 = .ok (.getfield 85, 3) := by decide +kernel
theorem dX3_lastDayOf_74 : decode cX3_lastDayOf 74 = .ok (.aload_n 0, 1) := by decide +kernel
theorem dX3_lastDayOf_75 : decode cX3_lastDayOf 75 = .ok (.getfield 11, 3) := by decide +kernel
theorem dX3_lastDayOf_78 : decode cX3_lastDayOf 78 = .ok (.iload 4, 2) := by decide +kernel
theorem dX3_lastDayOf_80 : decode cX3_lastDayOf 80 = .ok (.iconst 1, 1) := by decide +kernel
theorem dX3_lastDayOf_81 : decode cX3_lastDayOf 81 = .ok (.isub, 1) := by decide +kernel
theorem dX3_lastDayOf_82 : decode cX3_lastDayOf 82 = .ok (.aaload, 1) := by decide +kernel
theorem dX3_lastDayOf_83 : decode cX3_lastDayOf 83 = .ok (.getfield 57, 3) := by decide +kernel
theorem dX3_lastDayOf_86 : decode cX3_lastDayOf 86 = .ok (.iaload, 1) := by decide +kernel
theorem dX3_lastDayOf_87 : decode cX3_lastDayOf 87 = .ok (.istore_n 2, 1) := by decide +kernel
theorem dX3_lastDayOf_88 : decode cX3_lastDayOf 88 = .ok (.iinc 4 (-1), 3) := by decide +kernel
theorem dX3_lastDayOf_91 : decode cX3_lastDayOf 91 = .ok (.goto (-76), 3) := by decide +kernel
theorem dX3_lastDayOf_94 : decode cX3_lastDayOf 94 = .ok (.iload_n 3, 1) := by decide +kernel
theorem dX3_lastDayOf_95 : decode cX3_lastDayOf 95 = .ok (.ireturn, 1) := by decide +kernel
theorem dX3_weighSets_0 : decode cX3_weighSets 0 = .ok (.aload_n 0, 1) := by decide +kernel
theorem dX3_weighSets_1 : decode cX3_weighSets 1 = .ok (.invokevirtual 88, 3) := by decide +kernel
theorem dX3_weighSets_4 : decode cX3_weighSets 4 = .ok (.iconst 1, 1) := by decide +kernel
theorem dX3_weighSets_5 : decode cX3_weighSets 5 = .ok (.aload_n 0, 1) := by decide +kernel
theorem dX3_weighSets_6 : decode cX3_weighSets 6 = .ok (.getfield 24, 3) := by decide +kernel
theorem dX3_weighSets_9 : decode cX3_weighSets 9 = .ok (.ishl, 1) := by decide +kernel
theorem dX3_weighSets_10 : decode cX3_weighSets 10 = .ok (.iconst 1, 1) := by decide +kernel
theorem dX3_weighSets_11 : decode cX3_weighSets 11 = .ok (.isub, 1) := by decide +kernel
theorem dX3_weighSets_12 : decode cX3_weighSets 12 = .ok (.istore_n 1, 1) := by decide +kernel
theorem dX3_weighSets_13 : decode cX3_weighSets 13 = .ok (.aload_n 0, 1) := by decide +kernel
theorem dX3_weighSets_14 : decode cX3_weighSets 14 = .ok (.aload_n 0, 1) := by decide +kernel
theorem dX3_weighSets_15 : decode cX3_weighSets 15 = .ok (.getfield 24, 3) := by decide +kernel
theorem dX3_weighSets_18 : decode cX3_weighSets 18 = .ok (.iconst 1, 1) := by decide +kernel
theorem dX3_weighSets_19 : decode cX3_weighSets 19 = .ok (.iadd, 1) := by decide +kernel
theorem dX3_weighSets_20 : decode cX3_weighSets 20 = .ok (.putfield 28, 3) := by decide +kernel
theorem dX3_weighSets_23 : decode cX3_weighSets 23 = .ok (.iconst 0, 1) := by decide +kernel
theorem dX3_weighSets_24 : decode cX3_weighSets 24 = .ok (.istore_n 2, 1) := by decide +kernel
theorem dX3_weighSets_25 : decode cX3_weighSets 25 = .ok (.iload_n 2, 1) := by decide +kernel
theorem dX3_weighSets_26 : decode cX3_weighSets 26 = .ok (.iload_n 1, 1) := by decide +kernel
theorem dX3_weighSets_27 : decode cX3_weighSets 27 = .ok (.if_icmp .gt 73, 3) := by decide +kernel
theorem dX3_weighSets_30 : decode cX3_weighSets 30 = .ok (.iload_n 2, 1) := by decide +kernel
theorem dX3_weighSets_31 : decode cX3_weighSets 31 = .ok (.invokestatic 91, 3) := by decide +kernel
theorem dX3_weighSets_34 : decode cX3_weighSets 34 = .ok (.istore_n 3, 1) := by decide +kernel
theorem dX3_weighSets_35 : decode cX3_weighSets 35 = .ok (.aload_n 0, 1) := by decide +kernel
theorem dX3_weighSets_36 : decode cX3_weighSets 36 = .ok (.getfield 21, 3) := by decide +kernel
theorem dX3_weighSets_39 : decode cX3_weighSets 39 = .ok (.iload_n 1, 1) := by decide +kernel
theorem dX3_weighSets_40 : decode cX3_weighSets 40 = .ok (.iload_n 2, 1) := by decide +kernel
theorem dX3_weighSets_41 : decode cX3_weighSets 41 = .ok (.iconst (-1), 1) := by decide +kernel
theorem dX3_weighSets_42 : decode cX3_weighSets 42 = .ok (.ixor, 1) := by decide +kernel
theorem dX3_weighSets_43 : decode cX3_weighSets 43 = .ok (.iand, 1) := by decide +kernel
theorem dX3_weighSets_44 : decode cX3_weighSets 44 = .ok (.iaload, 1) := by decide +kernel
theorem dX3_weighSets_45 : decode cX3_weighSets 45 = .ok (.bipush (-9), 2) := by decide +kernel
theorem dX3_weighSets_47 : decode cX3_weighSets 47 = .ok (.if_icmp .eq 47, 3) := by decide +kernel
theorem dX3_weighSets_50 : decode cX3_weighSets 50 = .ok (.iload_n 3, 1) := by decide +kernel
theorem dX3_weighSets_51 : decode cX3_weighSets 51 = .ok (.aload_n 0, 1) := by decide +kernel
theorem dX3_weighSets_52 : decode cX3_weighSets 52 = .ok (.getfield 28, 3) := by decide +kernel
theorem dX3_weighSets_55 : decode cX3_weighSets 55 = .ok (.if_icmp .le 6, 3) := by decide +kernel
theorem dX3_weighSets_58 : decode cX3_weighSets 58 = .ok (.goto 36, 3) := by decide +kernel
theorem dX3_weighSets_61 : decode cX3_weighSets 61 = .ok (.iload_n 3, 1) := by decide +kernel
theorem dX3_weighSets_62 : decode cX3_weighSets 62 = .ok (.aload_n 0, 1) := by decide +kernel
theorem dX3_weighSets_63 : decode cX3_weighSets 63 = .ok (.getfield 28, 3) := by decide +kernel
theorem dX3_weighSets_66 : decode cX3_weighSets 66 = .ok (.if_icmp .ge 18, 3) := by decide +kernel
theorem dX3_weighSets_69 : decode cX3_weighSets 69 = .ok (.aload_n 0, 1) := by decide +kernel
theorem dX3_weighSets_70 : decode cX3_weighSets 70 = .ok (.iload_n 3, 1) := by decide +kernel
theorem dX3_weighSets_71 : decode cX3_weighSets 71 = .ok (.putfield 28, 3) := by decide +kernel
theorem dX3_weighSets_74 : decode cX3_weighSets 74 = .ok (.aload_n 0, 1) := by decide +kernel
theorem dX3_weighSets_75 : decode cX3_weighSets 75 = .ok (.iload_n 2, 1) := by decide +kernel
theorem dX3_weighSets_76 : decode cX3_weighSets 76 = .ok (.putfield 31, 3) := by decide +kernel
theorem dX3_weighSets_79 : decode cX3_weighSets 79 = .ok (.aload_n 0, 1) := by decide +kernel
theorem dX3_weighSets_80 : decode cX3_weighSets 80 = .ok (.iconst 0, 1) := by decide +kernel
theorem dX3_weighSets_81 : decode cX3_weighSets 81 = .ok (.putfield 34, 3) := by decide +kernel
theorem dX3_weighSets_84 : decode cX3_weighSets 84 = .ok (.aload_n 0, 1) := by decide +kernel
theorem dX3_weighSets_85 : decode cX3_weighSets 85 = .ok (.dup, 1) := by decide +kernel
theorem dX3_weighSets_86 : decode cX3_weighSets 86 = .ok (.getfield 34, 3) := by decide +kernel
theorem dX3_weighSets_89 : decode cX3_weighSets 89 = .ok (.iconst 1, 1) := by decide +kernel
theorem dX3_weighSets_90 : decode cX3_weighSets 90 = .ok (.iadd, 1) := by decide +kernel
theorem dX3_weighSets_91 : decode cX3_weighSets 91 = .ok (.putfield 34, 3) := by decide +kernel
theorem dX3_weighSets_94 : decode cX3_weighSets 94 = .ok (.iinc 2 1, 3) := by decide +kernel
theorem dX3_weighSets_97 : decode cX3_weighSets 97 = .ok (.goto (-72), 3) := by decide +kernel
theorem dX3_weighSets_100 : decode cX3_weighSets 100 = .ok (.return_, 1) := by decide +kernel
theorem dX3_endAllSets_0 : decode cX3_endAllSets 0 = .ok (.iconst 1, 1) := by decide +kernel
theorem dX3_endAllSets_1 : decode cX3_endAllSets 1 = .ok (.aload_n 0, 1) := by decide +kernel
theorem dX3_endAllSets_2 : decode cX3_endAllSets 2 = .ok (.getfield 24, 3) := by decide +kernel
theorem dX3_endAllSets_5 : decode cX3_endAllSets 5 = .ok (.ishl, 1) := by decide +kernel
theorem dX3_endAllSets_6 : decode cX3_endAllSets 6 = .ok (.istore_n 1, 1) := by decide +kernel
theorem dX3_endAllSets_7 : decode cX3_endAllSets 7 = .ok (.aload_n 0, 1) := by decide +kernel
theorem dX3_endAllSets_8 : decode cX3_endAllSets 8 = .ok (.getfield 21, 3) := by decide +kernel
theorem dX3_endAllSets_11 : decode cX3_endAllSets 11 = .ok (.bipush (-9), 2) := by decide +kernel
theorem dX3_endAllSets_13 : decode cX3_endAllSets 13 = .ok (.invokestatic 96, 3) := by decide +kernel
theorem dX3_endAllSets_16 : decode cX3_endAllSets 16 = .ok (.aload_n 0, 1) := by decide +kernel
theorem dX3_endAllSets_17 : decode cX3_endAllSets 17 = .ok (.getfield 21, 3) := by decide +kernel
theorem dX3_endAllSets_20 : decode cX3_endAllSets 20 = .ok (.iconst 0, 1) := by decide +kernel
theorem dX3_endAllSets_21 : decode cX3_endAllSets 21 = .ok (.iconst 0, 1) := by decide +kernel
theorem dX3_endAllSets_22 : decode cX3_endAllSets 22 = .ok (.iastore, 1) := by decide +kernel
theorem dX3_endAllSets_23 : decode cX3_endAllSets 23 = .ok (.iconst 0, 1) := by decide +kernel
theorem dX3_endAllSets_24 : decode cX3_endAllSets 24 = .ok (.istore_n 2, 1) := by decide +kernel
theorem dX3_endAllSets_25 : decode cX3_endAllSets 25 = .ok (.iload_n 2, 1) := by decide +kernel
theorem dX3_endAllSets_26 : decode cX3_endAllSets 26 = .ok (.iload_n 1, 1) := by decide +kernel
theorem dX3_endAllSets_27 : decode cX3_endAllSets 27 = .ok (.if_icmp .ge 143, 3) := by decide +kernel
theorem dX3_endAllSets_30 : decode cX3_endAllSets 30 = .ok (.aload_n 0, 1) := by decide +kernel
theorem dX3_endAllSets_31 : decode cX3_endAllSets 31 = .ok (.getfield 21, 3) := by decide +kernel
theorem dX3_endAllSets_34 : decode cX3_endAllSets 34 = .ok (.iload_n 2, 1) := by decide +kernel
theorem dX3_endAllSets_35 : decode cX3_endAllSets 35 = .ok (.iaload, 1) := by decide +kernel
theorem dX3_endAllSets_36 : decode cX3_endAllSets 36 = .ok (.bipush (-9), 2) := by decide +kernel
theorem dX3_endAllSets_38 : decode cX3_endAllSets 38 = .ok (.if_icmp .ne 6, 3) := by decide +kernel
theorem dX3_endAllSets_41 : decode cX3_endAllSets 41 = .ok (.goto 123, 3) := by decide +kernel
theorem dX3_endAllSets_44 : decode cX3_endAllSets 44 = .ok (.aload_n 0, 1) := by decide +kernel
theorem dX3_endAllSets_45 : decode cX3_endAllSets 45 = .ok (.iload_n 2, 1) := by decide +kernel
theorem dX3_endAllSets_46 : decode cX3_endAllSets 46 = .ok (.invokevirtual 102, 3) := by decide +kernel
theorem dX3_endAllSets_49 : decode cX3_endAllSets 49 = .ok (.istore_n 3, 1) := by decide +kernel
theorem dX3_endAllSets_50 : decode cX3_endAllSets 50 = .ok (.iload_n 3, 1) := by decide +kernel
theorem dX3_endAllSets_51 : decode cX3_endAllSets 51 = .ok (.bipush (-9), 2) := by decide +kernel
theorem dX3_endAllSets_53 : decode cX3_endAllSets 53 = .ok (.if_icmp .eq 25, 3) := by decide +kernel
theorem dX3_endAllSets_56 : decode cX3_endAllSets 56 = .ok (.aload_n 0, 1) := by decide +kernel
theorem dX3_endAllSets_57 : decode cX3_endAllSets 57 = .ok (.getfield 37, 3) := by decide +kernel
theorem dX3_endAllSets_60 : decode cX3_endAllSets 60 = .ok (.aload_n 0, 1) := by decide +kernel
theorem dX3_endAllSets_61 : decode cX3_endAllSets 61 = .ok (.getfield 11, 3) := by decide +kernel
theorem dX3_endAllSets_64 : decode cX3_endAllSets 64 = .ok (.iload_n 3, 1) := by decide +kernel
theorem dX3_endAllSets_65 : decode cX3_endAllSets 65 = .ok (.aaload, 1) := by decide +kernel
theorem dX3_endAllSets_66 : decode cX3_endAllSets 66 = .ok (.getfield 57, 3) := by decide +kernel
theorem dX3_endAllSets_69 : decode cX3_endAllSets 69 = .ok (.aload_n 0, 1) := by decide +kernel
theorem dX3_endAllSets_70 : decode cX3_endAllSets 70 = .ok (.getfield 21, 3) := by decide +kernel
theorem dX3_endAllSets_73 : decode cX3_endAllSets 73 = .ok (.iload_n 2, 1) := by decide +kernel
theorem dX3_endAllSets_74 : decode cX3_endAllSets 74 = .ok (.iaload, 1) := by decide +kernel
theorem dX3_endAllSets_75 : decode cX3_endAllSets 75 = .ok (.invokevirtual 60, 3) := by decide +kernel
theorem dX3_endAllSets_78 : decode cX3_endAllSets 78 = .ok (.iload_n 3, 1) := by decide +kernel
theorem dX3_endAllSets_79 : decode cX3_endAllSets 79 = .ok (.bipush (-9), 2) := by decide +kernel
theorem dX3_endAllSets_81 : decode cX3_endAllSets 81 = .ok (.if_icmp .ne 7, 3) := by decide +kernel
theorem dX3_endAllSets_84 : decode cX3_endAllSets 84 = .ok (.iconst 0, 1) := by decide +kernel
theorem dX3_endAllSets_85 : decode cX3_endAllSets 85 = .ok (.goto 6, 3) := by decide +kernel
theorem dX3_endAllSets_88 : decode cX3_endAllSets 88 = .ok (.iload_n 3, 1) := by decide +kernel
theorem dX3_endAllSets_89 : decode cX3_endAllSets 89 = .ok (.iconst 1, 1) := by decide +kernel
theorem dX3_endAllSets_90 : decode cX3_endAllSets 90 = .ok (.iadd, 1) := by decide +kernel
theorem dX3_endAllSets_91 : decode cX3_endAllSets 91 = .ok (.istore 4, 2) := by decide +kernel
theorem dX3_endAllSets_93 : decode cX3_endAllSets 93 = .ok (.iload 4, 2) := by decide +kernel
theorem dX3_endAllSets_95 : decode cX3_endAllSets 95 = .ok (.aload_n 0, 1) := by decide +kernel
theorem dX3_endAllSets_96 : decode cX3_endAllSets 96 = .ok (.getfield 24, 3) := by decide +kernel
theorem dX3_endAllSets_99 : decode cX3_endAllSets 99 = .ok (.if_icmp .ge 65, 3) := by decide +kernel
theorem dX3_endAllSets_102 : decode cX3_endAllSets 102 = .ok (.iload_n 3, 1) := by decide +kernel
theorem dX3_endAllSets_103 : decode cX3_endAllSets 103 = .ok (.bipush (-9), 2) := by decide +kernel
theorem dX3_endAllSets_105 : decode cX3_endAllSets 105 = .ok (.if_icmp .ne 7, 3) := by decide +kernel
theorem dX3_endAllSets_108 : decode cX3_endAllSets 108 = .ok (.iconst 0, 1) := by decide +kernel
theorem dX3_endAllSets_109 : decode cX3_endAllSets 109 = .ok (.goto 21, 3) := by decide +kernel
theorem dX3_endAllSets_112 : decode cX3_endAllSets 112 = .ok (.aload_n 0, 1) := by decide +kernel
theorem dX3_endAllSets_113 : decode cX3_endAllSets 113 = .ok (.getfield 37, 3) := by decide +kernel
theorem dX3_endAllSets_116 : decode cX3_endAllSets 116 = .ok (.getfield 66, 3) := by decide +kernel
theorem dX3_endAllSets_119 : decode cX3_endAllSets 119 = .ok (.aload_n 0, 1) := by decide +kernel
theorem dX3_endAllSets_120 : decode cX3_endAllSets 120 = .ok (.getfield 11, 3) := by decide +kernel
theorem dX3_endAllSets_123 : decode cX3_endAllSets 123 = .ok (.iload 4, 2) := by decide +kernel
theorem dX3_endAllSets_125 : decode cX3_endAllSets 125 = .ok (.aaload, 1) := by decide +kernel
theorem dX3_endAllSets_126 : decode cX3_endAllSets 126 = .ok (.getfield 57, 3) := by decide +kernel
theorem dX3_endAllSets_129 : decode cX3_endAllSets 129 = .ok (.iaload, 1) := by decide +kernel
theorem dX3_endAllSets_130 : decode cX3_endAllSets 130 = .ok (.istore 5, 2) := by decide +kernel
theorem dX3_endAllSets_132 : decode cX3_endAllSets 132 = .ok (.aload_n 0, 1) := by decide +kernel
theorem dX3_endAllSets_133 : decode cX3_endAllSets 133 = .ok (.getfield 21, 3) := by decide +kernel
theorem dX3_endAllSets_136 : decode cX3_endAllSets 136 = .ok (.iload_n 2, 1) := by decide +kernel
theorem dX3_endAllSets_137 : decode cX3_endAllSets 137 = .ok (.iconst 1, 1) := by decide +kernel
theorem dX3_endAllSets_138 : decode cX3_endAllSets 138 = .ok (.iload 4, 2) := by decide +kernel
theorem dX3_endAllSets_140 : decode cX3_endAllSets 140 = .ok (.ishl, 1) := by decide +kernel
theorem dX3_endAllSets_141 : decode cX3_endAllSets 141 = .ok (.ior, 1) := by decide +kernel
theorem dX3_endAllSets_142 : decode cX3_endAllSets 142 = .ok (.aload_n 0, 1) := by decide +kernel
theorem dX3_endAllSets_143 : decode cX3_endAllSets 143 = .ok (.getfield 11, 3) := by decide +kernel
theorem dX3_endAllSets_146 : decode cX3_endAllSets 146 = .ok (.iload 4, 2) := by decide +kernel
theorem dX3_endAllSets_148 : decode cX3_endAllSets 148 = .ok (.aaload, 1) := by decide +kernel
theorem dX3_endAllSets_149 : decode cX3_endAllSets 149 = .ok (.getfield 69, 3) := by decide +kernel
theorem dX3_endAllSets_152 : decode cX3_endAllSets 152 = .ok (.iload 5, 2) := by decide +kernel
theorem dX3_endAllSets_154 : decode cX3_endAllSets 154 = .ok (.invokevirtual 73, 3) := by decide +kernel
theorem dX3_endAllSets_157 : decode cX3_endAllSets 157 = .ok (.iastore, 1) := by decide +kernel
theorem dX3_endAllSets_158 : decode cX3_endAllSets 158 = .ok (.iinc 4 1, 3) := by decide +kernel
theorem dX3_endAllSets_161 : decode cX3_endAllSets 161 = .ok (.goto (-68), 3) := by decide +kernel
theorem dX3_endAllSets_164 : decode cX3_endAllSets 164 = .ok (.iinc 2 1, 3) := by decide +kernel
theorem dX3_endAllSets_167 : decode cX3_endAllSets 167 = .ok (.goto (-142), 3) := by decide +kernel
theorem dX3_endAllSets_170 : decode cX3_endAllSets 170 = .ok (.return_, 1) := by decide +kernel
theorem dX3_lastOf_0 : decode cX3_lastOf 0 = .ok (.aload_n 0, 1) := by decide +kernel
theorem dX3_lastOf_1 : decode cX3_lastOf 1 = .ok (.getfield 24, 3) := by decide +kernel
theorem dX3_lastOf_4 : decode cX3_lastOf 4 = .ok (.iconst 1, 1) := by decide +kernel
theorem dX3_lastOf_5 : decode cX3_lastOf 5 = .ok (.isub, 1) := by decide +kernel
theorem dX3_lastOf_6 : decode cX3_lastOf 6 = .ok (.istore_n 2, 1) := by decide +kernel
theorem dX3_lastOf_7 : decode cX3_lastOf 7 = .ok (.iload_n 2, 1) := by decide +kernel
theorem dX3_lastOf_8 : decode cX3_lastOf 8 = .ok (.ifCond .lt 20, 3) := by decide +kernel
theorem dX3_lastOf_11 : decode cX3_lastOf 11 = .ok (.iload_n 1, 1) := by decide +kernel
theorem dX3_lastOf_12 : decode cX3_lastOf 12 = .ok (.iload_n 2, 1) := by decide +kernel
theorem dX3_lastOf_13 : decode cX3_lastOf 13 = .ok (.ishr, 1) := by decide +kernel
theorem dX3_lastOf_14 : decode cX3_lastOf 14 = .ok (.iconst 1, 1) := by decide +kernel
theorem dX3_lastOf_15 : decode cX3_lastOf 15 = .ok (.iand, 1) := by decide +kernel
theorem dX3_lastOf_16 : decode cX3_lastOf 16 = .ok (.iconst 1, 1) := by decide +kernel
theorem dX3_lastOf_17 : decode cX3_lastOf 17 = .ok (.if_icmp .ne 5, 3) := by decide +kernel
theorem dX3_lastOf_20 : decode cX3_lastOf 20 = .ok (.iload_n 2, 1) := by decide +kernel
theorem dX3_lastOf_21 : decode cX3_lastOf 21 = .ok (.ireturn, 1) := by decide +kernel
theorem dX3_lastOf_22 : decode cX3_lastOf 22 = .ok (.iinc 2 (-1), 3) := by decide +kernel
theorem dX3_lastOf_25 : decode cX3_lastOf 25 = .ok (.goto (-18), 3) := by decide +kernel
theorem dX3_lastOf_28 : decode cX3_lastOf 28 = .ok (.bipush (-9), 2) := by decide +kernel
theorem dX3_lastOf_30 : decode cX3_lastOf 30 = .ok (.ireturn, 1) := by decide +kernel
theorem dX4_init_0 : decode cX4_init 0 = .ok (.aload_n 0, 1) := by decide +kernel
theorem dX4_init_1 : decode cX4_init 1 = .ok (.invokespecial 3, 3) := by decide +kernel
theorem dX4_init_4 : decode cX4_init 4 = .ok (.aload_n 0, 1) := by decide +kernel
theorem dX4_init_5 : decode cX4_init 5 = .ok (.lconst 0, 1) := by decide +kernel
theorem dX4_init_6 : decode cX4_init 6 = .ok (.putfield 9, 3) := by decide +kernel
theorem dX4_init_9 : decode cX4_init 9 = .ok (.return_, 1) := by decide +kernel
theorem dX4_ofKind_0 : decode cX4_ofKind 0 = .ok (.iload_n 1, 1) := by decide +kernel
theorem dX4_ofKind_1 : decode cX4_ofKind 1 = .ok (.tableswitch 65 1 5 #[35, 41, 47, 53, 59], 35) := by decide +kernel
theorem dX4_ofKind_36 : decode cX4_ofKind 36 = .ok (.aload_n 0, 1) := by decide +kernel
theorem dX4_ofKind_37 : decode cX4_ofKind 37 = .ok (.aload_n 2, 1) := by decide +kernel
theorem dX4_ofKind_38 : decode cX4_ofKind 38 = .ok (.invokevirtual 15, 3) := by decide +kernel
theorem dX4_ofKind_41 : decode cX4_ofKind 41 = .ok (.ireturn, 1) := by decide +kernel
theorem dX4_ofKind_42 : decode cX4_ofKind 42 = .ok (.aload_n 0, 1) := by decide +kernel
theorem dX4_ofKind_43 : decode cX4_ofKind 43 = .ok (.aload_n 2, 1) := by decide +kernel
theorem dX4_ofKind_44 : decode cX4_ofKind 44 = .ok (.invokevirtual 19, 3) := by decide +kernel
theorem dX4_ofKind_47 : decode cX4_ofKind 47 = .ok (.ireturn, 1) := by decide +kernel
theorem dX4_ofKind_48 : decode cX4_ofKind 48 = .ok (.aload_n 0, 1) := by decide +kernel
theorem dX4_ofKind_49 : decode cX4_ofKind 49 = .ok (.aload_n 2, 1) := by decide +kernel
theorem dX4_ofKind_50 : decode cX4_ofKind 50 = .ok (.invokevirtual 22, 3) := by decide +kernel
theorem dX4_ofKind_53 : decode cX4_ofKind 53 = .ok (.ireturn, 1) := by decide +kernel
theorem dX4_ofKind_54 : decode cX4_ofKind 54 = .ok (.aload_n 0, 1) := by decide +kernel
theorem dX4_ofKind_55 : decode cX4_ofKind 55 = .ok (.aload_n 2, 1) := by decide +kernel
theorem dX4_ofKind_56 : decode cX4_ofKind 56 = .ok (.invokevirtual 25, 3) := by decide +kernel
theorem dX4_ofKind_59 : decode cX4_ofKind 59 = .ok (.ireturn, 1) := by decide +kernel
theorem dX4_ofKind_60 : decode cX4_ofKind 60 = .ok (.aload_n 0, 1) := by decide +kernel
theorem dX4_ofKind_61 : decode cX4_ofKind 61 = .ok (.aload_n 2, 1) := by decide +kernel
theorem dX4_ofKind_62 : decode cX4_ofKind 62 = .ok (.invokevirtual 28, 3) := by decide +kernel
theorem dX4_ofKind_65 : decode cX4_ofKind 65 = .ok (.ireturn, 1) := by decide +kernel
theorem dX4_ofKind_66 : decode cX4_ofKind 66 = .ok (.aload_n 0, 1) := by decide +kernel
theorem dX4_ofKind_67 : decode cX4_ofKind 67 = .ok (.aload_n 2, 1) := by decide +kernel
theorem dX4_ofKind_68 : decode cX4_ofKind 68 = .ok (.invokevirtual 31, 3) := by decide +kernel
theorem dX4_ofKind_71 : decode cX4_ofKind 71 = .ok (.ireturn, 1) := by decide +kernel
theorem dX4_ofMark_0 : decode cX4_ofMark 0 = .ok (.aload_n 0, 1) := by decide +kernel
theorem dX4_ofMark_1 : decode cX4_ofMark 1 = .ok (.dup, 1) := by decide +kernel
theorem dX4_ofMark_2 : decode cX4_ofMark 2 = .ok (.getfield 9, 3) := by decide +kernel
theorem dX4_ofMark_5 : decode cX4_ofMark 5 = .ok (.lconst 1, 1) := by decide +kernel
theorem dX4_ofMark_6 : decode cX4_ofMark 6 = .ok (.ladd, 1) := by decide +kernel
theorem dX4_ofMark_7 : decode cX4_ofMark 7 = .ok (.putfield 9, 3) := by decide +kernel
theorem dX4_ofMark_10 : decode cX4_ofMark 10 = .ok (.aload_n 1, 1) := by decide +kernel
theorem dX4_ofMark_11 : decode cX4_ofMark 11 = .ok (.getfield 34, 3) := by decide +kernel
theorem dX4_ofMark_14 : decode cX4_ofMark 14 = .ok (.ifnonnull 8, 3) := by decide +kernel
theorem dX4_ofMark_17 : decode cX4_ofMark 17 = .ok (.bipush 10, 2) := by decide +kernel
theorem dX4_ofMark_19 : decode cX4_ofMark 19 = .ok (.goto 5, 3) := by decide +kernel
theorem dX4_ofMark_22 : decode cX4_ofMark 22 = .ok (.bipush 15, 2) := by decide +kernel
theorem dX4_ofMark_24 : decode cX4_ofMark 24 = .ok (.ireturn, 1) := by decide +kernel
theorem dX4_ofDated_0 : decode cX4_ofDated 0 = .ok (.aload_n 0, 1) := by decide +kernel
theorem dX4_ofDated_1 : decode cX4_ofDated 1 = .ok (.dup, 1) := by decide +kernel
theorem dX4_ofDated_2 : decode cX4_ofDated 2 = .ok (.getfield 9, 3) := by decide +kernel
theorem dX4_ofDated_5 : decode cX4_ofDated 5 = .ok (.ldc2_w 40, 3) := by decide +kernel
theorem dX4_ofDated_8 : decode cX4_ofDated 8 = .ok (.ladd, 1) := by decide +kernel
theorem dX4_ofDated_9 : decode cX4_ofDated 9 = .ok (.putfield 9, 3) := by decide +kernel
theorem dX4_ofDated_12 : decode cX4_ofDated 12 = .ok (.aload_n 0, 1) := by decide +kernel
theorem dX4_ofDated_13 : decode cX4_ofDated 13 = .ok (.aload_n 1, 1) := by decide +kernel
theorem dX4_ofDated_14 : decode cX4_ofDated 14 = .ok (.invokevirtual 31, 3) := by decide +kernel
theorem dX4_ofDated_17 : decode cX4_ofDated 17 = .ok (.iconst 4, 1) := by decide +kernel
theorem dX4_ofDated_18 : decode cX4_ofDated 18 = .ok (.aload_n 1, 1) := by decide +kernel
theorem dX4_ofDated_19 : decode cX4_ofDated 19 = .ok (.invokevirtual 42, 3) := by decide +kernel
theorem dX4_ofDated_22 : decode cX4_ofDated 22 = .ok (.imul, 1) := by decide +kernel
theorem dX4_ofDated_23 : decode cX4_ofDated 23 = .ok (.iadd, 1) := by decide +kernel
theorem dX4_ofDated_24 : decode cX4_ofDated 24 = .ok (.ireturn, 1) := by decide +kernel
theorem dX4_ofRate_0 : decode cX4_ofRate 0 = .ok (.aload_n 0, 1) := by decide +kernel
theorem dX4_ofRate_1 : decode cX4_ofRate 1 = .ok (.dup, 1) := by decide +kernel
theorem dX4_ofRate_2 : decode cX4_ofRate 2 = .ok (.getfield 9, 3) := by decide +kernel
theorem dX4_ofRate_5 : decode cX4_ofRate 5 = .ok (.ldc2_w 46, 3) := by decide +kernel
theorem dX4_ofRate_8 : decode cX4_ofRate 8 = .ok (.ladd, 1) := by decide +kernel
theorem dX4_ofRate_9 : decode cX4_ofRate 9 = .ok (.putfield 9, 3) := by decide +kernel
theorem dX4_ofRate_12 : decode cX4_ofRate 12 = .ok (.aload_n 0, 1) := by decide +kernel
theorem dX4_ofRate_13 : decode cX4_ofRate 13 = .ok (.aload_n 1, 1) := by decide +kernel
theorem dX4_ofRate_14 : decode cX4_ofRate 14 = .ok (.invokevirtual 31, 3) := by decide +kernel
theorem dX4_ofRate_17 : decode cX4_ofRate 17 = .ok (.aload_n 1, 1) := by decide +kernel
theorem dX4_ofRate_18 : decode cX4_ofRate 18 = .ok (.getfield 48, 3) := by decide +kernel
theorem dX4_ofRate_21 : decode cX4_ofRate 21 = .ok (.bipush (-9), 2) := by decide +kernel
theorem dX4_ofRate_23 : decode cX4_ofRate 23 = .ok (.if_icmp .ne 7, 3) := by decide +kernel
theorem dX4_ofRate_26 : decode cX4_ofRate 26 = .ok (.iconst 0, 1) := by decide +kernel
theorem dX4_ofRate_27 : decode cX4_ofRate 27 = .ok (.goto 5, 3) := by decide +kernel
theorem dX4_ofRate_30 : decode cX4_ofRate 30 = .ok (.bipush 7, 2) := by decide +kernel
theorem dX4_ofRate_32 : decode cX4_ofRate 32 = .ok (.iadd, 1) := by decide +kernel
theorem dX4_ofRate_33 : decode cX4_ofRate 33 = .ok (.ireturn, 1) := by decide +kernel
theorem dX4_ofThrough_0 : decode cX4_ofThrough 0 = .ok (.aload_n 0, 1) := by decide +kernel
theorem dX4_ofThrough_1 : decode cX4_ofThrough 1 = .ok (.dup, 1) := by decide +kernel
theorem dX4_ofThrough_2 : decode cX4_ofThrough 2 = .ok (.getfield 9, 3) := by decide +kernel
theorem dX4_ofThrough_5 : decode cX4_ofThrough 5 = .ok (.ldc2_w 52, 3) := by decide +kernel
theorem dX4_ofThrough_8 : decode cX4_ofThrough 8 = .ok (.ladd, 1) := by decide +kernel
theorem dX4_ofThrough_9 : decode cX4_ofThrough 9 = .ok (.putfield 9, 3) := by decide +kernel
theorem dX4_ofThrough_12 : decode cX4_ofThrough 12 = .ok (.aload_n 0, 1) := by decide +kernel
theorem dX4_ofThrough_13 : decode cX4_ofThrough 13 = .ok (.aload_n 1, 1) := by decide +kernel
theorem dX4_ofThrough_14 : decode cX4_ofThrough 14 = .ok (.invokevirtual 15, 3) := by decide +kernel
theorem dX4_ofThrough_17 : decode cX4_ofThrough 17 = .ok (.istore_n 2, 1) := by decide +kernel
theorem dX4_ofThrough_18 : decode cX4_ofThrough 18 = .ok (.iload_n 2, 1) := by decide +kernel
theorem dX4_ofThrough_19 : decode cX4_ofThrough 19 = .ok (.iload_n 2, 1) := by decide +kernel
theorem dX4_ofThrough_20 : decode cX4_ofThrough 20 = .ok (.iconst 3, 1) := by decide +kernel
theorem dX4_ofThrough_21 : decode cX4_ofThrough 21 = .ok (.idiv, 1) := by decide +kernel
theorem dX4_ofThrough_22 : decode cX4_ofThrough 22 = .ok (.iadd, 1) := by decide +kernel
theorem dX4_ofThrough_23 : decode cX4_ofThrough 23 = .ok (.ireturn, 1) := by decide +kernel
theorem dX4_ofStamp_0 : decode cX4_ofStamp 0 = .ok (.aload_n 0, 1) := by decide +kernel
theorem dX4_ofStamp_1 : decode cX4_ofStamp 1 = .ok (.dup, 1) := by decide +kernel
theorem dX4_ofStamp_2 : decode cX4_ofStamp 2 = .ok (.getfield 9, 3) := by decide +kernel
theorem dX4_ofStamp_5 : decode cX4_ofStamp 5 = .ok (.ldc2_w 54, 3) := by decide +kernel
theorem dX4_ofStamp_8 : decode cX4_ofStamp 8 = .ok (.ladd, 1) := by decide +kernel
theorem dX4_ofStamp_9 : decode cX4_ofStamp 9 = .ok (.putfield 9, 3) := by decide +kernel
theorem dX4_ofStamp_12 : decode cX4_ofStamp 12 = .ok (.aload_n 0, 1) := by decide +kernel
theorem dX4_ofStamp_13 : decode cX4_ofStamp 13 = .ok (.aload_n 1, 1) := by decide +kernel
theorem dX4_ofStamp_14 : decode cX4_ofStamp 14 = .ok (.invokevirtual 31, 3) := by decide +kernel
theorem dX4_ofStamp_17 : decode cX4_ofStamp 17 = .ok (.aload_n 1, 1) := by decide +kernel
theorem dX4_ofStamp_18 : decode cX4_ofStamp 18 = .ok (.getfield 56, 3) := by decide +kernel
theorem dX4_ofStamp_21 : decode cX4_ofStamp 21 = .ok (.iadd, 1) := by decide +kernel
theorem dX4_ofStamp_22 : decode cX4_ofStamp 22 = .ok (.ireturn, 1) := by decide +kernel
theorem dX4_ofDoubted_0 : decode cX4_ofDoubted 0 = .ok (.aload_n 0, 1) := by decide +kernel
theorem dX4_ofDoubted_1 : decode cX4_ofDoubted 1 = .ok (.dup, 1) := by decide +kernel
theorem dX4_ofDoubted_2 : decode cX4_ofDoubted 2 = .ok (.getfield 9, 3) := by decide +kernel
theorem dX4_ofDoubted_5 : decode cX4_ofDoubted 5 = .ok (.ldc2_w 59, 3) := by decide +kernel
theorem dX4_ofDoubted_8 : decode cX4_ofDoubted 8 = .ok (.ladd, 1) := by decide +kernel
theorem dX4_ofDoubted_9 : decode cX4_ofDoubted 9 = .ok (.putfield 9, 3) := by decide +kernel
theorem dX4_ofDoubted_12 : decode cX4_ofDoubted 12 = .ok (.aload_n 0, 1) := by decide +kernel
theorem dX4_ofDoubted_13 : decode cX4_ofDoubted 13 = .ok (.aload_n 1, 1) := by decide +kernel
theorem dX4_ofDoubted_14 : decode cX4_ofDoubted 14 = .ok (.invokevirtual 31, 3) := by decide +kernel
theorem dX4_ofDoubted_17 : decode cX4_ofDoubted 17 = .ok (.iconst 2, 1) := by decide +kernel
theorem dX4_ofDoubted_18 : decode cX4_ofDoubted 18 = .ok (.idiv, 1) := by decide +kernel
theorem dX4_ofDoubted_19 : decode cX4_ofDoubted 19 = .ok (.ireturn, 1) := by decide +kernel
theorem dX5_init_0 : decode cX5_init 0 = .ok (.aload_n 0, 1) := by decide +kernel
theorem dX5_init_1 : decode cX5_init 1 = .ok (.invokespecial 3, 3) := by decide +kernel
theorem dX5_init_4 : decode cX5_init 4 = .ok (.aload_n 0, 1) := by decide +kernel
theorem dX5_init_5 : decode cX5_init 5 = .ok (.new 9, 3) := by decide +kernel
theorem dX5_init_8 : decode cX5_init 8 = .ok (.dup, 1) := by decide +kernel
theorem dX5_init_9 : decode cX5_init 9 = .ok (.invokespecial 11, 3) := by decide +kernel
theorem dX5_init_12 : decode cX5_init 12 = .ok (.putfield 12, 3) := by decide +kernel
theorem dX5_init_15 : decode cX5_init 15 = .ok (.aload_n 0, 1) := by decide +kernel
theorem dX5_init_16 : decode cX5_init 16 = .ok (.iconst 3, 1) := by decide +kernel
theorem dX5_init_17 : decode cX5_init 17 = .ok (.newarray .int, 2) := by decide +kernel
theorem dX5_init_19 : decode cX5_init 19 = .ok (.putfield 18, 3) := by decide +kernel
theorem dX5_init_22 : decode cX5_init 22 = .ok (.aload_n 0, 1) := by decide +kernel
theorem dX5_init_23 : decode cX5_init 23 = .ok (.bipush (-9), 2) := by decide +kernel
theorem dX5_init_25 : decode cX5_init 25 = .ok (.putfield 22, 3) := by decide +kernel
theorem dX5_init_28 : decode cX5_init 28 = .ok (.aload_n 0, 1) := by decide +kernel
theorem dX5_init_29 : decode cX5_init 29 = .ok (.bipush (-9), 2) := by decide +kernel
theorem dX5_init_31 : decode cX5_init 31 = .ok (.putfield 26, 3) := by decide +kernel
theorem dX5_init_34 : decode cX5_init 34 = .ok (.aload_n 0, 1) := by decide +kernel
theorem dX5_init_35 : decode cX5_init 35 = .ok (.aconst_null, 1) := by decide +kernel
theorem dX5_init_36 : decode cX5_init 36 = .ok (.putfield 29, 3) := by decide +kernel
theorem dX5_init_39 : decode cX5_init 39 = .ok (.aload_n 0, 1) := by decide +kernel
theorem dX5_init_40 : decode cX5_init 40 = .ok (.bipush (-9), 2) := by decide +kernel
theorem dX5_init_42 : decode cX5_init 42 = .ok (.putfield 33, 3) := by decide +kernel
theorem dX5_init_45 : decode cX5_init 45 = .ok (.aload_n 0, 1) := by decide +kernel
theorem dX5_init_46 : decode cX5_init 46 = .ok (.bipush (-9), 2) := by decide +kernel
theorem dX5_init_48 : decode cX5_init 48 = .ok (.putfield 36, 3) := by decide +kernel
theorem dX5_init_51 : decode cX5_init 51 = .ok (.aload_n 0, 1) := by decide +kernel
theorem dX5_init_52 : decode cX5_init 52 = .ok (.iload_n 1, 1) := by decide +kernel
theorem dX5_init_53 : decode cX5_init 53 = .ok (.putfield 39, 3) := by decide +kernel
theorem dX5_init_56 : decode cX5_init 56 = .ok (.aload_n 0, 1) := by decide +kernel
theorem dX5_init_57 : decode cX5_init 57 = .ok (.iload_n 2, 1) := by decide +kernel
theorem dX5_init_58 : decode cX5_init 58 = .ok (.putfield 42, 3) := by decide +kernel
theorem dX5_init_61 : decode cX5_init 61 = .ok (.aload_n 0, 1) := by decide +kernel
theorem dX5_init_62 : decode cX5_init 62 = .ok (.iload_n 3, 1) := by decide +kernel
theorem dX5_init_63 : decode cX5_init 63 = .ok (.putfield 45, 3) := by decide +kernel
theorem dX5_init_66 : decode cX5_init 66 = .ok (.return_, 1) := by decide +kernel
theorem dX5_write_0 : decode cX5_write 0 = .ok (.aload_n 0, 1) := by decide +kernel
theorem dX5_write_1 : decode cX5_write 1 = .ok (.iload_n 1, 1) := by decide +kernel
theorem dX5_write_2 : decode cX5_write 2 = .ok (.putfield 48, 3) := by decide +kernel
theorem dX5_write_5 : decode cX5_write 5 = .ok (.aload_n 0, 1) := by decide +kernel
theorem dX5_write_6 : decode cX5_write 6 = .ok (.iload_n 2, 1) := by decide +kernel
theorem dX5_write_7 : decode cX5_write 7 = .ok (.putfield 22, 3) := by decide +kernel
theorem dX5_write_10 : decode cX5_write 10 = .ok (.return_, 1) := by decide +kernel
theorem dX5_strike_0 : decode cX5_strike 0 = .ok (.aload_n 0, 1) := by decide +kernel
theorem dX5_strike_1 : decode cX5_strike 1 = .ok (.iload_n 1, 1) := by decide +kernel
theorem dX5_strike_2 : decode cX5_strike 2 = .ok (.putfield 26, 3) := by decide +kernel
theorem dX5_strike_5 : decode cX5_strike 5 = .ok (.aload_n 0, 1) := by decide +kernel
theorem dX5_strike_6 : decode cX5_strike 6 = .ok (.aload_n 2, 1) := by decide +kernel
theorem dX5_strike_7 : decode cX5_strike 7 = .ok (.putfield 29, 3) := by decide +kernel
theorem dX5_strike_10 : decode cX5_strike 10 = .ok (.aload_n 0, 1) := by decide +kernel
theorem dX5_strike_11 : decode cX5_strike 11 = .ok (.iload_n 3, 1) := by decide +kernel
theorem dX5_strike_12 : decode cX5_strike 12 = .ok (.putfield 51, 3) := by decide +kernel
theorem dX5_strike_15 : decode cX5_strike 15 = .ok (.aload_n 0, 1) := by decide +kernel
theorem dX5_strike_16 : decode cX5_strike 16 = .ok (.iload 4, 2) := by decide +kernel
theorem dX5_strike_18 : decode cX5_strike 18 = .ok (.putfield 33, 3) := by decide +kernel
theorem dX5_strike_21 : decode cX5_strike 21 = .ok (.aload_n 0, 1) := by decide +kernel
theorem dX5_strike_22 : decode cX5_strike 22 = .ok (.aload_n 2, 1) := by decide +kernel
theorem dX5_strike_23 : decode cX5_strike 23 = .ok (.ifnonnull 8, 3) := by decide +kernel
theorem dX5_strike_26 : decode cX5_strike 26 = .ok (.bipush (-9), 2) := by decide +kernel
theorem dX5_strike_28 : decode cX5_strike 28 = .ok (.goto 10, 3) := by decide +kernel
theorem dX5_strike_31 : decode cX5_strike 31 = .ok (.aload_n 2, 1) := by decide +kernel
theorem dX5_strike_32 : decode cX5_strike 32 = .ok (.getfield 54, 3) := by decide +kernel
theorem dX5_strike_35 : decode cX5_strike 35 = .ok (.getfield 60, 3) := by decide +kernel
theorem dX5_strike_38 : decode cX5_strike 38 = .ok (.putfield 36, 3) := by decide +kernel
theorem dX5_strike_41 : decode cX5_strike 41 = .ok (.return_, 1) := by decide +kernel
theorem dX5_findDays_0 : decode cX5_findDays 0 = .ok (.iconst 0, 1) := by decide +kernel
theorem dX5_findDays_1 : decode cX5_findDays 1 = .ok (.istore_n 1, 1) := by decide +kernel
theorem dX5_findDays_2 : decode cX5_findDays 2 = .ok (.iload_n 1, 1) := by decide +kernel
theorem dX5_findDays_3 : decode cX5_findDays 3 = .ok (.sipush 1000, 3) := by decide +kernel
theorem dX5_findDays_6 : decode cX5_findDays 6 = .ok (.if_icmp .ge 33, 3) := by decide +kernel
theorem dX5_findDays_9 : decode cX5_findDays 9 = .ok (.aload_n 0, 1) := by decide +kernel
theorem dX5_findDays_10 : decode cX5_findDays 10 = .ok (.iload_n 1, 1) := by decide +kernel
theorem dX5_findDays_11 : decode cX5_findDays 11 = .ok (.invokevirtual 63, 3) := by decide +kernel
theorem dX5_findDays_14 : decode cX5_findDays 14 = .ok (.ifCond .eq 19, 3) := by decide +kernel
theorem dX5_findDays_17 : decode cX5_findDays 17 = .ok (.aload_n 0, 1) := by decide +kernel
theorem dX5_findDays_18 : decode cX5_findDays 18 = .ok (.iload_n 1, 1) := by decide +kernel
theorem dX5_findDays_19 : decode cX5_findDays 19 = .ok (.invokevirtual 67, 3) := by decide +kernel
theorem dX5_findDays_22 : decode cX5_findDays 22 = .ok (.ifCond .eq 11, 3) := by decide +kernel
theorem dX5_findDays_25 : decode cX5_findDays 25 = .ok (.aload_n 0, 1) := by decide +kernel
theorem dX5_findDays_26 : decode cX5_findDays 26 = .ok (.getfield 12, 3) := by decide +kernel
theorem dX5_findDays_29 : decode cX5_findDays 29 = .ok (.iload_n 1, 1) := by decide +kernel
theorem dX5_findDays_30 : decode cX5_findDays 30 = .ok (.invokevirtual 70, 3) := by decide +kernel
theorem dX5_findDays_33 : decode cX5_findDays 33 = .ok (.iinc 1 1, 3) := by decide +kernel
theorem dX5_findDays_36 : decode cX5_findDays 36 = .ok (.goto (-34), 3) := by decide +kernel
theorem dX5_findDays_39 : decode cX5_findDays 39 = .ok (.aload_n 0, 1) := by decide +kernel
theorem dX5_findDays_40 : decode cX5_findDays 40 = .ok (.aload_n 0, 1) := by decide +kernel
theorem dX5_findDays_41 : decode cX5_findDays 41 = .ok (.getfield 12, 3) := by decide +kernel
theorem dX5_findDays_44 : decode cX5_findDays 44 = .ok (.invokevirtual 74, 3) := by decide +kernel
theorem dX5_findDays_47 : decode cX5_findDays 47 = .ok (.putfield 78, 3) := by decide +kernel
theorem dX5_findDays_50 : decode cX5_findDays 50 = .ok (.bipush 10, 2) := by decide +kernel
theorem dX5_findDays_52 : decode cX5_findDays 52 = .ok (.newarray .int, 2) := by decide +kernel
theorem dX5_findDays_54 : decode cX5_findDays 54 = .ok (.astore_n 1, 1) := by decide +kernel
theorem dX5_findDays_55 : decode cX5_findDays 55 = .ok (.iconst 0, 1) := by decide +kernel
theorem dX5_findDays_56 : decode cX5_findDays 56 = .ok (.istore_n 2, 1) := by decide +kernel
theorem dX5_findDays_57 : decode cX5_findDays 57 = .ok (.iload_n 2, 1) := by decide +kernel
theorem dX5_findDays_58 : decode cX5_findDays 58 = .ok (.iconst 3, 1) := by decide +kernel
theorem dX5_findDays_59 : decode cX5_findDays 59 = .ok (.if_icmp .ge 21, 3) := by decide +kernel
theorem dX5_findDays_62 : decode cX5_findDays 62 = .ok (.aload_n 0, 1) := by decide +kernel
theorem dX5_findDays_63 : decode cX5_findDays 63 = .ok (.getfield 18, 3) := by decide +kernel
theorem dX5_findDays_66 : decode cX5_findDays 66 = .ok (.iload_n 2, 1) := by decide +kernel
theorem dX5_findDays_67 : decode cX5_findDays 67 = .ok (.aload_n 0, 1) := by decide +kernel
theorem dX5_findDays_68 : decode cX5_findDays 68 = .ok (.iload_n 2, 1) := by decide +kernel
theorem dX5_findDays_69 : decode cX5_findDays 69 = .ok (.aload_n 1, 1) := by decide +kernel
theorem dX5_findDays_70 : decode cX5_findDays 70 = .ok (.invokevirtual 81, 3) := by decide +kernel
theorem dX5_findDays_73 : decode cX5_findDays 73 = .ok (.iastore, 1) := by decide +kernel
theorem dX5_findDays_74 : decode cX5_findDays 74 = .ok (.iinc 2 1, 3) := by decide +kernel
theorem dX5_findDays_77 : decode cX5_findDays 77 = .ok (.goto (-20), 3) := by decide +kernel
theorem dX5_findDays_80 : decode cX5_findDays 80 = .ok (.return_, 1) := by decide +kernel
theorem dX5_fitsDate_0 : decode cX5_fitsDate 0 = .ok (.iconst 0, 1) := by decide +kernel
theorem dX5_fitsDate_1 : decode cX5_fitsDate 1 = .ok (.istore_n 2, 1) := by decide +kernel
theorem dX5_fitsDate_2 : decode cX5_fitsDate 2 = .ok (.iload_n 2, 1) := by decide +kernel
theorem dX5_fitsDate_3 : decode cX5_fitsDate 3 = .ok (.iconst 3, 1) := by decide +kernel
theorem dX5_fitsDate_4 : decode cX5_fitsDate 4 = .ok (.if_icmp .ge 38, 3) := by decide +kernel
theorem dX5_fitsDate_7 : decode cX5_fitsDate 7 = .ok (.aload_n 0, 1) := by decide +kernel
theorem dX5_fitsDate_8 : decode cX5_fitsDate 8 = .ok (.getfield 48, 3) := by decide +kernel
theorem dX5_fitsDate_11 : decode cX5_fitsDate 11 = .ok (.iload_n 2, 1) := by decide +kernel
theorem dX5_fitsDate_12 : decode cX5_fitsDate 12 = .ok (.invokestatic 85, 3) := by decide +kernel
theorem dX5_fitsDate_15 : decode cX5_fitsDate 15 = .ok (.istore_n 3, 1) := by decide +kernel
theorem dX5_fitsDate_16 : decode cX5_fitsDate 16 = .ok (.iload_n 3, 1) := by decide +kernel
theorem dX5_fitsDate_17 : decode cX5_fitsDate 17 = .ok (.bipush 63, 2) := by decide +kernel
theorem dX5_fitsDate_19 : decode cX5_fitsDate 19 = .ok (.if_icmp .eq 17, 3) := by decide +kernel
theorem dX5_fitsDate_22 : decode cX5_fitsDate 22 = .ok (.iload_n 3, 1) := by decide +kernel
theorem dX5_fitsDate_23 : decode cX5_fitsDate 23 = .ok (.bipush 48, 2) := by decide +kernel
theorem dX5_fitsDate_25 : decode cX5_fitsDate 25 = .ok (.isub, 1) := by decide +kernel
theorem dX5_fitsDate_26 : decode cX5_fitsDate 26 = .ok (.iload_n 1, 1) := by decide +kernel
theorem dX5_fitsDate_27 : decode cX5_fitsDate 27 = .ok (.iload_n 2, 1) := by decide +kernel
theorem dX5_fitsDate_28 : decode cX5_fitsDate 28 = .ok (.invokestatic 89, 3) := by decide +kernel
theorem dX5_fitsDate_31 : decode cX5_fitsDate 31 = .ok (.if_icmp .eq 5, 3) := by decide +kernel
theorem dX5_fitsDate_34 : decode cX5_fitsDate 34 = .ok (.iconst 0, 1) := by decide +kernel
theorem dX5_fitsDate_35 : decode cX5_fitsDate 35 = .ok (.ireturn, 1) := by decide +kernel
theorem dX5_fitsDate_36 : decode cX5_fitsDate 36 = .ok (.iinc 2 1, 3) := by decide +kernel
theorem dX5_fitsDate_39 : decode cX5_fitsDate 39 = .ok (.goto (-37), 3) := by decide +kernel
theorem dX5_fitsDate_42 : decode cX5_fitsDate 42 = .ok (.iconst 1, 1) := by decide +kernel
theorem dX5_fitsDate_43 : decode cX5_fitsDate 43 = .ok (.ireturn, 1) := by decide +kernel
theorem dX5_fitsDie_0 : decode cX5_fitsDie 0 = .ok (.aload_n 0, 1) := by decide +kernel
theorem dX5_fitsDie_1 : decode cX5_fitsDie 1 = .ok (.getfield 29, 3) := by decide +kernel
theorem dX5_fitsDie_4 : decode cX5_fitsDie 4 = .ok (.ifnull 43, 3) := by decide +kernel
theorem dX5_fitsDie_7 : decode cX5_fitsDie 7 = .ok (.aload_n 0, 1) := by decide +kernel
theorem dX5_fitsDie_8 : decode cX5_fitsDie 8 = .ok (.getfield 29, 3) := by decide +kernel
theorem dX5_fitsDie_11 : decode cX5_fitsDie 11 = .ok (.iload_n 1, 1) := by decide +kernel
theorem dX5_fitsDie_12 : decode cX5_fitsDie 12 = .ok (.invokevirtual 92, 3) := by decide +kernel
theorem dX5_fitsDie_15 : decode cX5_fitsDie 15 = .ok (.ifCond .eq 36, 3) := by decide +kernel
theorem dX5_fitsDie_18 : decode cX5_fitsDie 18 = .ok (.aload_n 0, 1) := by decide +kernel
theorem dX5_fitsDie_19 : decode cX5_fitsDie 19 = .ok (.getfield 29, 3) := by decide +kernel
theorem dX5_fitsDie_22 : decode cX5_fitsDie 22 = .ok (.aload_n 0, 1) := by decide +kernel
theorem dX5_fitsDie_23 : decode cX5_fitsDie 23 = .ok (.getfield 51, 3) := by decide +kernel
theorem dX5_fitsDie_26 : decode cX5_fitsDie 26 = .ok (.invokevirtual 95, 3) := by decide +kernel
theorem dX5_fitsDie_29 : decode cX5_fitsDie 29 = .ok (.ifCond .eq 22, 3) := by decide +kernel
theorem dX5_fitsDie_32 : decode cX5_fitsDie 32 = .ok (.aload_n 0, 1) := by decide +kernel
theorem dX5_fitsDie_33 : decode cX5_fitsDie 33 = .ok (.getfield 29, 3) := by decide +kernel
theorem dX5_fitsDie_36 : decode cX5_fitsDie 36 = .ok (.aload_n 0, 1) := by decide +kernel
theorem dX5_fitsDie_37 : decode cX5_fitsDie 37 = .ok (.getfield 33, 3) := by decide +kernel
theorem dX5_fitsDie_40 : decode cX5_fitsDie 40 = .ok (.iload_n 1, 1) := by decide +kernel
theorem dX5_fitsDie_41 : decode cX5_fitsDie 41 = .ok (.invokevirtual 98, 3) := by decide +kernel
theorem dX5_fitsDie_44 : decode cX5_fitsDie 44 = .ok (.ifCond .eq 7, 3) := by decide +kernel
theorem dX5_fitsDie_47 : decode cX5_fitsDie 47 = .ok (.iconst 1, 1) := by decide +kernel
theorem dX5_fitsDie_48 : decode cX5_fitsDie 48 = .ok (.goto 4, 3) := by decide +kernel
theorem dX5_fitsDie_51 : decode cX5_fitsDie 51 = .ok (.iconst 0, 1) := by decide +kernel
theorem dX5_fitsDie_52 : decode cX5_fitsDie 52 = .ok (.ireturn, 1) := by decide +kernel
theorem dX5_mostDaysByFigure_0 : decode cX5_mostDaysByFigure 0 = .ok (.aload_n 2, 1) := by decide +kernel
theorem dX5_mostDaysByFigure_1 : decode cX5_mostDaysByFigure 1 = .ok (.iconst 0, 1) := by decide +kernel
theorem dX5_mostDaysByFigure_2 : decode cX5_mostDaysByFigure 2 = .ok (.invokestatic 102, 3) := by decide +kernel
theorem dX5_mostDaysByFigure_5 : decode cX5_mostDaysByFigure 5 = .ok (.iconst 0, 1) := by decide +kernel
theorem dX5_mostDaysByFigure_6 : decode cX5_mostDaysByFigure 6 = .ok (.istore_n 3, 1) := by decide +kernel
theorem dX5_mostDaysByFigure_7 : decode cX5_mostDaysByFigure 7 = .ok (.iconst 0, 1) := by decide +kernel
theorem dX5_mostDaysByFigure_8 : decode cX5_mostDaysByFigure 8 = .ok (.istore 4, 2) := by decide +kernel
theorem dX5_mostDaysByFigure_10 : decode cX5_mostDaysByFigure 10 = .ok (.iload 4, 2) := by decide +kernel
theorem dX5_mostDaysByFigure_12 : decode cX5_mostDaysByFigure 12 = .ok (.sipush 1000, 3) := by decide +kernel
theorem dX5_mostDaysByFigure_15 : decode cX5_mostDaysByFigure 15 = .ok (.if_icmp .ge 59, 3) := by decide +kernel
theorem dX5_mostDaysByFigure_18 : decode cX5_mostDaysByFigure 18 = .ok (.iload 4, 2) := by decide +kernel
theorem dX5_mostDaysByFigure_20 : decode cX5_mostDaysByFigure 20 = .ok (.iload_n 1, 1) := by decide +kernel
theorem dX5_mostDaysByFigure_21 : decode cX5_mostDaysByFigure 21 = .ok (.invokestatic 89, 3) := by decide +kernel
theorem dX5_mostDaysByFigure_24 : decode cX5_mostDaysByFigure 24 = .ok (.istore 5, 2) := by decide +kernel
theorem dX5_mostDaysByFigure_26 : decode cX5_mostDaysByFigure 26 = .ok (.aload_n 0, 1) := by decide +kernel
theorem dX5_mostDaysByFigure_27 : decode cX5_mostDaysByFigure 27 = .ok (.getfield 12, 3) := by decide +kernel
theorem dX5_mostDaysByFigure_30 : decode cX5_mostDaysByFigure 30 = .ok (.iload 4, 2) := by decide +kernel
theorem dX5_mostDaysByFigure_32 : decode cX5_mostDaysByFigure 32 = .ok (.invokevirtual 108, 3) := by decide +kernel
theorem dX5_mostDaysByFigure_35 : decode cX5_mostDaysByFigure 35 = .ok (.ifCond .eq 33, 3) := by decide +kernel
theorem dX5_mostDaysByFigure_38 : decode cX5_mostDaysByFigure 38 = .ok (.iload 5, 2) := by decide +kernel
theorem dX5_mostDaysByFigure_40 : decode cX5_mostDaysByFigure 40 = .ok (.iconst 0, 1) := by decide +kernel
theorem dX5_mostDaysByFigure_41 : decode cX5_mostDaysByFigure 41 = .ok (.aload_n 2, 1) := by decide +kernel
theorem dX5_mostDaysByFigure_42 : decode cX5_mostDaysByFigure 42 = .ok (.arraylength, 1) := by decide +kernel
theorem dX5_mostDaysByFigure_43 : decode cX5_mostDaysByFigure 43 = .ok (.iconst 1, 1) := by decide +kernel
theorem dX5_mostDaysByFigure_44 : decode cX5_mostDaysByFigure 44 = .ok (.isub, 1) := by decide +kernel
theorem dX5_mostDaysByFigure_45 : decode cX5_mostDaysByFigure 45 = .ok (.invokestatic 111, 3) := by decide +kernel
theorem dX5_mostDaysByFigure_48 : decode cX5_mostDaysByFigure 48 = .ok (.ifCond .eq 20, 3) := by decide +kernel
theorem dX5_mostDaysByFigure_51 : decode cX5_mostDaysByFigure 51 = .ok (.aload_n 2, 1) := by decide +kernel
theorem dX5_mostDaysByFigure_52 : decode cX5_mostDaysByFigure 52 = .ok (.iload 5, 2) := by decide +kernel
theorem dX5_mostDaysByFigure_54 : decode cX5_mostDaysByFigure 54 = .ok (.dup2, 1) := by decide +kernel
theorem dX5_mostDaysByFigure_55 : decode cX5_mostDaysByFigure 55 = .ok (.iaload, 1) := by decide +kernel
theorem dX5_mostDaysByFigure_56 : decode cX5_mostDaysByFigure 56 = .ok (.iconst 1, 1) := by decide +kernel
theorem dX5_mostDaysByFigure_57 : decode cX5_mostDaysByFigure 57 = .ok (.iadd, 1) := by decide +kernel
theorem dX5_mostDaysByFigure_58 : decode cX5_mostDaysByFigure 58 = .ok (.iastore, 1) := by decide +kernel
theorem dX5_mostDaysByFigure_59 : decode cX5_mostDaysByFigure 59 = .ok (.iload_n 3, 1) := by decide +kernel
theorem dX5_mostDaysByFigure_60 : decode cX5_mostDaysByFigure 60 = .ok (.aload_n 2, 1) := by decide +kernel
theorem dX5_mostDaysByFigure_61 : decode cX5_mostDaysByFigure 61 = .ok (.iload 5, 2) := by decide +kernel
theorem dX5_mostDaysByFigure_63 : decode cX5_mostDaysByFigure 63 = .ok (.iaload, 1) := by decide +kernel
theorem dX5_mostDaysByFigure_64 : decode cX5_mostDaysByFigure 64 = .ok (.invokestatic 115, 3) := by decide +kernel
theorem dX5_mostDaysByFigure_67 : decode cX5_mostDaysByFigure 67 = .ok (.istore_n 3, 1) := by decide +kernel
theorem dX5_mostDaysByFigure_68 : decode cX5_mostDaysByFigure 68 = .ok (.iinc 4 1, 3) := by decide +kernel
theorem dX5_mostDaysByFigure_71 : decode cX5_mostDaysByFigure 71 = .ok (.goto (-61), 3) := by decide +kernel
theorem dX5_mostDaysByFigure_74 : decode cX5_mostDaysByFigure 74 = .ok (.iload_n 3, 1) := by decide +kernel
theorem dX5_mostDaysByFigure_75 : decode cX5_mostDaysByFigure 75 = .ok (.ireturn, 1) := by decide +kernel
theorem dX5_isOn_0 : decode cX5_isOn 0 = .ok (.aload_n 0, 1) := by decide +kernel
theorem dX5_isOn_1 : decode cX5_isOn 1 = .ok (.getfield 39, 3) := by decide +kernel
theorem dX5_isOn_4 : decode cX5_isOn 4 = .ok (.iload_n 1, 1) := by decide +kernel
theorem dX5_isOn_5 : decode cX5_isOn 5 = .ok (.if_icmp .ne 15, 3) := by decide +kernel
theorem dX5_isOn_8 : decode cX5_isOn 8 = .ok (.aload_n 0, 1) := by decide +kernel
theorem dX5_isOn_9 : decode cX5_isOn 9 = .ok (.getfield 45, 3) := by decide +kernel
theorem dX5_isOn_12 : decode cX5_isOn 12 = .ok (.iload_n 2, 1) := by decide +kernel
theorem dX5_isOn_13 : decode cX5_isOn 13 = .ok (.if_icmp .gt 7, 3) := by decide +kernel
theorem dX5_isOn_16 : decode cX5_isOn 16 = .ok (.iconst 1, 1) := by decide +kernel
theorem dX5_isOn_17 : decode cX5_isOn 17 = .ok (.goto 4, 3) := by decide +kernel
theorem dX5_isOn_20 : decode cX5_isOn 20 = .ok (.iconst 0, 1) := by decide +kernel
theorem dX5_isOn_21 : decode cX5_isOn 21 = .ok (.ireturn, 1) := by decide +kernel
theorem dX5_isTorn_0 : decode cX5_isTorn 0 = .ok (.aload_n 0, 1) := by decide +kernel
theorem dX5_isTorn_1 : decode cX5_isTorn 1 = .ok (.getfield 48, 3) := by decide +kernel
theorem dX5_isTorn_4 : decode cX5_isTorn 4 = .ok (.iload_n 1, 1) := by decide +kernel
theorem dX5_isTorn_5 : decode cX5_isTorn 5 = .ok (.invokestatic 85, 3) := by decide +kernel
theorem dX5_isTorn_8 : decode cX5_isTorn 8 = .ok (.bipush 63, 2) := by decide +kernel
theorem dX5_isTorn_10 : decode cX5_isTorn 10 = .ok (.if_icmp .ne 7, 3) := by decide +kernel
theorem dX5_isTorn_13 : decode cX5_isTorn 13 = .ok (.iconst 1, 1) := by decide +kernel
theorem dX5_isTorn_14 : decode cX5_isTorn 14 = .ok (.goto 4, 3) := by decide +kernel
theorem dX5_isTorn_17 : decode cX5_isTorn 17 = .ok (.iconst 0, 1) := by decide +kernel
theorem dX5_isTorn_18 : decode cX5_isTorn 18 = .ok (.ireturn, 1) := by decide +kernel
theorem dX5_readBytes_0 : decode cX5_readBytes 0 = .ok (.iconst 0, 1) := by decide +kernel
theorem dX5_readBytes_1 : decode cX5_readBytes 1 = .ok (.istore_n 1, 1) := by decide +kernel
theorem dX5_readBytes_2 : decode cX5_readBytes 2 = .ok (.iconst 0, 1) := by decide +kernel
theorem dX5_readBytes_3 : decode cX5_readBytes 3 = .ok (.istore_n 2, 1) := by decide +kernel
theorem dX5_readBytes_4 : decode cX5_readBytes 4 = .ok (.iload_n 2, 1) := by decide +kernel
theorem dX5_readBytes_5 : decode cX5_readBytes 5 = .ok (.iconst 3, 1) := by decide +kernel
theorem dX5_readBytes_6 : decode cX5_readBytes 6 = .ok (.if_icmp .ge 25, 3) := by decide +kernel
theorem dX5_readBytes_9 : decode cX5_readBytes 9 = .ok (.iload_n 1, 1) := by decide +kernel
theorem dX5_readBytes_10 : decode cX5_readBytes 10 = .ok (.aload_n 0, 1) := by decide +kernel
theorem dX5_readBytes_11 : decode cX5_readBytes 11 = .ok (.iload_n 2, 1) := by decide +kernel
theorem dX5_readBytes_12 : decode cX5_readBytes 12 = .ok (.invokevirtual 120, 3) := by decide +kernel
theorem dX5_readBytes_15 : decode cX5_readBytes 15 = .ok (.ifCond .eq 7, 3) := by decide +kernel
theorem dX5_readBytes_18 : decode cX5_readBytes 18 = .ok (.iconst 0, 1) := by decide +kernel
theorem dX5_readBytes_19 : decode cX5_readBytes 19 = .ok (.goto 4, 3) := by decide +kernel
theorem dX5_readBytes_22 : decode cX5_readBytes 22 = .ok (.iconst 1, 1) := by decide +kernel
theorem dX5_readBytes_23 : decode cX5_readBytes 23 = .ok (.iadd, 1) := by decide +kernel
theorem dX5_readBytes_24 : decode cX5_readBytes 24 = .ok (.istore_n 1, 1) := by decide +kernel
theorem dX5_readBytes_25 : decode cX5_readBytes 25 = .ok (.iinc 2 1, 3) := by decide +kernel
theorem dX5_readBytes_28 : decode cX5_readBytes 28 = .ok (.goto (-24), 3) := by decide +kernel
theorem dX5_readBytes_31 : decode cX5_readBytes 31 = .ok (.iload_n 1, 1) := by decide +kernel
theorem dX5_readBytes_32 : decode cX5_readBytes 32 = .ok (.ireturn, 1) := by decide +kernel
theorem dX6_init_0 : decode cX6_init 0 = .ok (.aload_n 0, 1) := by decide +kernel
theorem dX6_init_1 : decode cX6_init 1 = .ok (.invokespecial 1, 3) := by decide +kernel
theorem dX6_init_4 : decode cX6_init 4 = .ok (.aload_n 0, 1) := by decide +kernel
theorem dX6_init_5 : decode cX6_init 5 = .ok (.iload_n 1, 1) := by decide +kernel
theorem dX6_init_6 : decode cX6_init 6 = .ok (.putfield 7, 3) := by decide +kernel
theorem dX6_init_9 : decode cX6_init 9 = .ok (.aload_n 0, 1) := by decide +kernel
theorem dX6_init_10 : decode cX6_init 10 = .ok (.iload_n 2, 1) := by decide +kernel
theorem dX6_init_11 : decode cX6_init 11 = .ok (.putfield 13, 3) := by decide +kernel
theorem dX6_init_14 : decode cX6_init 14 = .ok (.aload_n 0, 1) := by decide +kernel
theorem dX6_init_15 : decode cX6_init 15 = .ok (.iload_n 3, 1) := by decide +kernel
theorem dX6_init_16 : decode cX6_init 16 = .ok (.putfield 16, 3) := by decide +kernel
theorem dX6_init_19 : decode cX6_init 19 = .ok (.return_, 1) := by decide +kernel
theorem dX7_init_0 : decode cX7_init 0 = .ok (.aload_n 0, 1) := by decide +kernel
theorem dX7_init_1 : decode cX7_init 1 = .ok (.invokespecial 3, 3) := by decide +kernel
theorem dX7_init_4 : decode cX7_init 4 = .ok (.aload_n 0, 1) := by decide +kernel
theorem dX7_init_5 : decode cX7_init 5 = .ok (.bipush 12, 2) := by decide +kernel
theorem dX7_init_7 : decode cX7_init 7 = .ok (.anewarray 9, 3) := by decide +kernel
theorem dX7_init_10 : decode cX7_init 10 = .ok (.putfield 11, 3) := by decide +kernel
theorem dX7_init_13 : decode cX7_init 13 = .ok (.aload_n 0, 1) := by decide +kernel
theorem dX7_init_14 : decode cX7_init 14 = .ok (.iconst 0, 1) := by decide +kernel
theorem dX7_init_15 : decode cX7_init 15 = .ok (.putfield 17, 3) := by decide +kernel
theorem dX7_init_18 : decode cX7_init 18 = .ok (.iconst 0, 1) := by decide +kernel
theorem dX7_init_19 : decode cX7_init 19 = .ok (.istore_n 1, 1) := by decide +kernel
theorem dX7_init_20 : decode cX7_init 20 = .ok (.iload_n 1, 1) := by decide +kernel
theorem dX7_init_21 : decode cX7_init 21 = .ok (.bipush 12, 2) := by decide +kernel
theorem dX7_init_23 : decode cX7_init 23 = .ok (.if_icmp .ge 22, 3) := by decide +kernel
theorem dX7_init_26 : decode cX7_init 26 = .ok (.aload_n 0, 1) := by decide +kernel
theorem dX7_init_27 : decode cX7_init 27 = .ok (.getfield 11, 3) := by decide +kernel
theorem dX7_init_30 : decode cX7_init 30 = .ok (.iload_n 1, 1) := by decide +kernel
theorem dX7_init_31 : decode cX7_init 31 = .ok (.new 9, 3) := by decide +kernel
theorem dX7_init_34 : decode cX7_init 34 = .ok (.dup, 1) := by decide +kernel
theorem dX7_init_35 : decode cX7_init 35 = .ok (.invokespecial 21, 3) := by decide +kernel
theorem dX7_init_38 : decode cX7_init 38 = .ok (.aastore, 1) := by decide +kernel
theorem dX7_init_39 : decode cX7_init 39 = .ok (.iinc 1 1, 3) := by decide +kernel
theorem dX7_init_42 : decode cX7_init 42 = .ok (.goto (-22), 3) := by decide +kernel
theorem dX7_init_45 : decode cX7_init 45 = .ok (.return_, 1) := by decide +kernel
theorem dX7_lastThatHolds_0 : decode cX7_lastThatHolds 0 = .ok (.aload_n 0, 1) := by decide +kernel
theorem dX7_lastThatHolds_1 : decode cX7_lastThatHolds 1 = .ok (.getfield 17, 3) := by decide +kernel
theorem dX7_lastThatHolds_4 : decode cX7_lastThatHolds 4 = .ok (.iconst 1, 1) := by decide +kernel
theorem dX7_lastThatHolds_5 : decode cX7_lastThatHolds 5 = .ok (.isub, 1) := by decide +kernel
theorem dX7_lastThatHolds_6 : decode cX7_lastThatHolds 6 = .ok (.istore 4, 2) := by decide +kernel
theorem dX7_lastThatHolds_8 : decode cX7_lastThatHolds 8 = .ok (.iload 4, 2) := by decide +kernel
theorem dX7_lastThatHolds_10 : decode cX7_lastThatHolds 10 = .ok (.ifCond .lt 28, 3) := by decide +kernel
theorem dX7_lastThatHolds_13 : decode cX7_lastThatHolds 13 = .ok (.aload_n 0, 1) := by decide +kernel
theorem dX7_lastThatHolds_14 : decode cX7_lastThatHolds 14 = .ok (.getfield 11, 3) := by decide +kernel
theorem dX7_lastThatHolds_17 : decode cX7_lastThatHolds 17 = .ok (.iload 4, 2) := by decide +kernel
theorem dX7_lastThatHolds_19 : decode cX7_lastThatHolds 19 = .ok (.aaload, 1) := by decide +kernel
theorem dX7_lastThatHolds_20 : decode cX7_lastThatHolds 20 = .ok (.iload_n 1, 1) := by decide +kernel
theorem dX7_lastThatHolds_21 : decode cX7_lastThatHolds 21 = .ok (.iload_n 2, 1) := by decide +kernel
theorem dX7_lastThatHolds_22 : decode cX7_lastThatHolds 22 = .ok (.iload_n 3, 1) := by decide +kernel
theorem dX7_lastThatHolds_23 : decode cX7_lastThatHolds 23 = .ok (.invokevirtual 22, 3) := by decide +kernel
theorem dX7_lastThatHolds_26 : decode cX7_lastThatHolds 26 = .ok (.ifCond .eq 6, 3) := by decide +kernel
theorem dX7_lastThatHolds_29 : decode cX7_lastThatHolds 29 = .ok (.iload 4, 2) := by decide +kernel
theorem dX7_lastThatHolds_31 : decode cX7_lastThatHolds 31 = .ok (.ireturn, 1) := by decide +kernel
theorem dX7_lastThatHolds_32 : decode cX7_lastThatHolds 32 = .ok (.iinc 4 (-1), 3) := by decide +kernel
theorem dX7_lastThatHolds_35 : decode cX7_lastThatHolds 35 = .ok (.goto (-27), 3) := by decide +kernel
theorem dX7_lastThatHolds_38 : decode cX7_lastThatHolds 38 = .ok (.bipush (-9), 2) := by decide +kernel
theorem dX7_lastThatHolds_40 : decode cX7_lastThatHolds 40 = .ok (.ireturn, 1) := by decide +kernel
theorem dX8_init_0 : decode cX8_init 0 = .ok (.aload_n 0, 1) := by decide +kernel
theorem dX8_init_1 : decode cX8_init 1 = .ok (.invokespecial 3, 3) := by decide +kernel
theorem dX8_init_4 : decode cX8_init 4 = .ok (.aload_n 0, 1) := by decide +kernel
theorem dX8_init_5 : decode cX8_init 5 = .ok (.sipush 600, 3) := by decide +kernel
theorem dX8_init_8 : decode cX8_init 8 = .ok (.newarray .byte, 2) := by decide +kernel
theorem dX8_init_10 : decode cX8_init 10 = .ok (.putfield 9, 3) := by decide +kernel
theorem dX8_init_13 : decode cX8_init 13 = .ok (.aload_n 0, 1) := by decide +kernel
theorem dX8_init_14 : decode cX8_init 14 = .ok (.iconst 0, 1) := by decide +kernel
theorem dX8_init_15 : decode cX8_init 15 = .ok (.putfield 15, 3) := by decide +kernel
theorem dX8_init_18 : decode cX8_init 18 = .ok (.aload_n 0, 1) := by decide +kernel
theorem dX8_init_19 : decode cX8_init 19 = .ok (.iconst 0, 1) := by decide +kernel
theorem dX8_init_20 : decode cX8_init 20 = .ok (.putfield 19, 3) := by decide +kernel
theorem dX8_init_23 : decode cX8_init 23 = .ok (.aload_n 0, 1) := by decide +kernel
theorem dX8_init_24 : decode cX8_init 24 = .ok (.iconst 0, 1) := by decide +kernel
theorem dX8_init_25 : decode cX8_init 25 = .ok (.putfield 22, 3) := by decide +kernel
theorem dX8_init_28 : decode cX8_init 28 = .ok (.aload_n 0, 1) := by decide +kernel
theorem dX8_init_29 : decode cX8_init 29 = .ok (.iconst 1, 1) := by decide +kernel
theorem dX8_init_30 : decode cX8_init 30 = .ok (.putfield 25, 3) := by decide +kernel
theorem dX8_init_33 : decode cX8_init 33 = .ok (.aload_n 0, 1) := by decide +kernel
theorem dX8_init_34 : decode cX8_init 34 = .ok (.iconst 0, 1) := by decide +kernel
theorem dX8_init_35 : decode cX8_init 35 = .ok (.putfield 28, 3) := by decide +kernel
theorem dX8_init_38 : decode cX8_init 38 = .ok (.aload_n 0, 1) := by decide +kernel
theorem dX8_init_39 : decode cX8_init 39 = .ok (.iconst 0, 1) := by decide +kernel
theorem dX8_init_40 : decode cX8_init 40 = .ok (.putfield 31, 3) := by decide +kernel
theorem dX8_init_43 : decode cX8_init 43 = .ok (.return_, 1) := by decide +kernel
theorem dX8_addBytes_0 : decode cX8_addBytes 0 = .ok (.iload_n 3, 1) := by decide +kernel
theorem dX8_addBytes_1 : decode cX8_addBytes 1 = .ok (.iconst 1, 1) := by decide +kernel
theorem dX8_addBytes_2 : decode cX8_addBytes 2 = .ok (.isub, 1) := by decide +kernel
theorem dX8_addBytes_3 : decode cX8_addBytes 3 = .ok (.istore 4, 2) := by decide +kernel
theorem dX8_addBytes_5 : decode cX8_addBytes 5 = .ok (.iload 4, 2) := by decide +kernel
theorem dX8_addBytes_7 : decode cX8_addBytes 7 = .ok (.ifCond .lt 44, 3) := by decide +kernel
theorem dX8_addBytes_10 : decode cX8_addBytes 10 = .ok (.aload_n 0, 1) := by decide +kernel
theorem dX8_addBytes_11 : decode cX8_addBytes 11 = .ok (.getfield 15, 3) := by decide +kernel
theorem dX8_addBytes_14 : decode cX8_addBytes 14 = .ok (.sipush 600, 3) := by decide +kernel
theorem dX8_addBytes_17 : decode cX8_addBytes 17 = .ok (.if_icmp .ge 34, 3) := by decide +kernel
theorem dX8_addBytes_20 : decode cX8_addBytes 20 = .ok (.aload_n 0, 1) := by decide +kernel
theorem dX8_addBytes_21 : decode cX8_addBytes 21 = .ok (.getfield 9, 3) := by decide +kernel
theorem dX8_addBytes_24 : decode cX8_addBytes 24 = .ok (.aload_n 0, 1) := by decide +kernel
theorem dX8_addBytes_25 : decode cX8_addBytes 25 = .ok (.dup, 1) := by decide +kernel
theorem dX8_addBytes_26 : decode cX8_addBytes 26 = .ok (.getfield 15, 3) := by decide +kernel
theorem dX8_addBytes_29 : decode cX8_addBytes 29 = .ok (.dup_x1, 1) := by decide +kernel
theorem dX8_addBytes_30 : decode cX8_addBytes 30 = .ok (.iconst 1, 1) := by decide +kernel
theorem dX8_addBytes_31 : decode cX8_addBytes 31 = .ok (.iadd, 1) := by decide +kernel
theorem dX8_addBytes_32 : decode cX8_addBytes 32 = .ok (.putfield 15, 3) := by decide +kernel
theorem dX8_addBytes_35 : decode cX8_addBytes 35 = .ok (.lload_n 1, 1) := by decide +kernel
theorem dX8_addBytes_36 : decode cX8_addBytes 36 = .ok (.bipush 8, 2) := by decide +kernel
theorem dX8_addBytes_38 : decode cX8_addBytes 38 = .ok (.iload 4, 2) := by decide +kernel
theorem dX8_addBytes_40 : decode cX8_addBytes 40 = .ok (.imul, 1) := by decide +kernel
theorem dX8_addBytes_41 : decode cX8_addBytes 41 = .ok (.lushr, 1) := by decide +kernel
theorem dX8_addBytes_42 : decode cX8_addBytes 42 = .ok (.l2i, 1) := by decide +kernel
theorem dX8_addBytes_43 : decode cX8_addBytes 43 = .ok (.i2b, 1) := by decide +kernel
theorem dX8_addBytes_44 : decode cX8_addBytes 44 = .ok (.bastore, 1) := by decide +kernel
theorem dX8_addBytes_45 : decode cX8_addBytes 45 = .ok (.iinc 4 (-1), 3) := by decide +kernel
theorem dX8_addBytes_48 : decode cX8_addBytes 48 = .ok (.goto (-43), 3) := by decide +kernel
theorem dX8_addBytes_51 : decode cX8_addBytes 51 = .ok (.return_, 1) := by decide +kernel
theorem dX8_readInto_0 : decode cX8_readInto 0 = .ok (.aload_n 0, 1) := by decide +kernel
theorem dX8_readInto_1 : decode cX8_readInto 1 = .ok (.iconst 0, 1) := by decide +kernel
theorem dX8_readInto_2 : decode cX8_readInto 2 = .ok (.putfield 19, 3) := by decide +kernel
theorem dX8_readInto_5 : decode cX8_readInto 5 = .ok (.aload_n 1, 1) := by decide +kernel
theorem dX8_readInto_6 : decode cX8_readInto 6 = .ok (.iconst 0, 1) := by decide +kernel
theorem dX8_readInto_7 : decode cX8_readInto 7 = .ok (.putfield 34, 3) := by decide +kernel
theorem dX8_readInto_10 : decode cX8_readInto 10 = .ok (.aload_n 0, 1) := by decide +kernel
theorem dX8_readInto_11 : decode cX8_readInto 11 = .ok (.invokevirtual 39, 3) := by decide +kernel
theorem dX8_readInto_14 : decode cX8_readInto 14 = .ok (.iconst 0, 1) := by decide +kernel
theorem dX8_readInto_15 : decode cX8_readInto 15 = .ok (.istore_n 2, 1) := by decide +kernel
theorem dX8_readInto_16 : decode cX8_readInto 16 = .ok (.iload_n 2, 1) := by decide +kernel
theorem dX8_readInto_17 : decode cX8_readInto 17 = .ok (.bipush 12, 2) := by decide +kernel
theorem dX8_readInto_19 : decode cX8_readInto 19 = .ok (.if_icmp .ge 75, 3) := by decide +kernel
theorem dX8_readInto_22 : decode cX8_readInto 22 = .ok (.aload_n 0, 1) := by decide +kernel
theorem dX8_readInto_23 : decode cX8_readInto 23 = .ok (.getfield 25, 3) := by decide +kernel
theorem dX8_readInto_26 : decode cX8_readInto 26 = .ok (.iconst 1, 1) := by decide +kernel
theorem dX8_readInto_27 : decode cX8_readInto 27 = .ok (.if_icmp .eq 67, 3) := by decide +kernel
theorem dX8_readInto_30 : decode cX8_readInto 30 = .ok (.aload_n 1, 1) := by decide +kernel
theorem dX8_readInto_31 : decode cX8_readInto 31 = .ok (.getfield 42, 3) := by decide +kernel
theorem dX8_readInto_34 : decode cX8_readInto 34 = .ok (.iload_n 2, 1) := by decide +kernel
theorem dX8_readInto_35 : decode cX8_readInto 35 = .ok (.aaload, 1) := by decide +kernel
theorem dX8_readInto_36 : decode cX8_readInto 36 = .ok (.astore_n 3, 1) := by decide +kernel
theorem dX8_readInto_37 : decode cX8_readInto 37 = .ok (.aload_n 3, 1) := by decide +kernel
theorem dX8_readInto_38 : decode cX8_readInto 38 = .ok (.invokevirtual 46, 3) := by decide +kernel
theorem dX8_readInto_41 : decode cX8_readInto 41 = .ok (.aload_n 0, 1) := by decide +kernel
theorem dX8_readInto_42 : decode cX8_readInto 42 = .ok (.aload_n 3, 1) := by decide +kernel
theorem dX8_readInto_43 : decode cX8_readInto 43 = .ok (.invokevirtual 51, 3) := by decide +kernel
theorem dX8_readInto_46 : decode cX8_readInto 46 = .ok (.ifCond .eq 27, 3) := by decide +kernel
theorem dX8_readInto_49 : decode cX8_readInto 49 = .ok (.aload_n 0, 1) := by decide +kernel
theorem dX8_readInto_50 : decode cX8_readInto 50 = .ok (.aload_n 3, 1) := by decide +kernel
theorem dX8_readInto_51 : decode cX8_readInto 51 = .ok (.invokevirtual 55, 3) := by decide +kernel
theorem dX8_readInto_54 : decode cX8_readInto 54 = .ok (.ifCond .eq 19, 3) := by decide +kernel
theorem dX8_readInto_57 : decode cX8_readInto 57 = .ok (.aload_n 0, 1) := by decide +kernel
theorem dX8_readInto_58 : decode cX8_readInto 58 = .ok (.aload_n 3, 1) := by decide +kernel
theorem dX8_readInto_59 : decode cX8_readInto 59 = .ok (.invokevirtual 58, 3) := by decide +kernel
theorem dX8_readInto_62 : decode cX8_readInto 62 = .ok (.ifCond .eq 11, 3) := by decide +kernel
theorem dX8_readInto_65 : decode cX8_readInto 65 = .ok (.aload_n 0, 1) := by decide +kernel
theorem dX8_readInto_66 : decode cX8_readInto 66 = .ok (.aload_n 3, 1) := by decide +kernel
theorem dX8_readInto_67 : decode cX8_readInto 67 = .ok (.invokevirtual 61, 3) := by decide +kernel
theorem dX8_readInto_70 : decode cX8_readInto 70 = .ok (.ifCond .ne 8, 3) := by decide +kernel
theorem dX8_readInto_73 : decode cX8_readInto 73 = .ok (.aload_n 0, 1) := by decide +kernel
theorem dX8_readInto_74 : decode cX8_readInto 74 = .ok (.getfield 22, 3) := by decide +kernel
theorem dX8_readInto_77 : decode cX8_readInto 77 = .ok (.ireturn, 1) := by decide +kernel
theorem dX8_readInto_78 : decode cX8_readInto 78 = .ok (.aload_n 1, 1) := by decide +kernel
theorem dX8_readInto_79 : decode cX8_readInto 79 = .ok (.dup, 1) := by decide +kernel
theorem dX8_readInto_80 : decode cX8_readInto 80 = .ok (.getfield 34, 3) := by decide +kernel
theorem dX8_readInto_83 : decode cX8_readInto 83 = .ok (.iconst 1, 1) := by decide +kernel
theorem dX8_readInto_84 : decode cX8_readInto 84 = .ok (.iadd, 1) := by decide +kernel
theorem dX8_readInto_85 : decode cX8_readInto 85 = .ok (.putfield 34, 3) := by decide +kernel
theorem dX8_readInto_88 : decode cX8_readInto 88 = .ok (.iinc 2 1, 3) := by decide +kernel
theorem dX8_readInto_91 : decode cX8_readInto 91 = .ok (.goto (-75), 3) := by decide +kernel
theorem dX8_readInto_94 : decode cX8_readInto 94 = .ok (.aload_n 0, 1) := by decide +kernel
theorem dX8_readInto_95 : decode cX8_readInto 95 = .ok (.getfield 25, 3) := by decide +kernel
theorem dX8_readInto_98 : decode cX8_readInto 98 = .ok (.iconst 1, 1) := by decide +kernel
theorem dX8_readInto_99 : decode cX8_readInto 99 = .ok (.if_icmp .ne 8, 3) := by decide +kernel
theorem dX8_readInto_102 : decode cX8_readInto 102 = .ok (.bipush (-9), 2) := by decide +kernel
theorem dX8_readInto_104 : decode cX8_readInto 104 = .ok (.goto 7, 3) := by decide +kernel
theorem dX8_readInto_107 : decode cX8_readInto 107 = .ok (.aload_n 0, 1) := by decide +kernel
theorem dX8_readInto_108 : decode cX8_readInto 108 = .ok (.getfield 22, 3) := by decide +kernel
theorem dX8_readInto_111 : decode cX8_readInto 111 = .ok (.ireturn, 1) := by decide +kernel
theorem dX8_readLandsAndDays_0 : decode cX8_readLandsAndDays 0 = .ok (.aload_n 0, 1) := by decide +kernel
theorem dX8_readLandsAndDays_1 : decode cX8_readLandsAndDays 1 = .ok (.iconst 3, 1) := by decide +kernel
theorem dX8_readLandsAndDays_2 : decode cX8_readLandsAndDays 2 = .ok (.invokevirtual 64, 3) := by decide +kernel
theorem dX8_readLandsAndDays_5 : decode cX8_readLandsAndDays 5 = .ok (.ifCond .eq 12, 3) := by decide +kernel
theorem dX8_readLandsAndDays_8 : decode cX8_readLandsAndDays 8 = .ok (.aload_n 0, 1) := by decide +kernel
theorem dX8_readLandsAndDays_9 : decode cX8_readLandsAndDays 9 = .ok (.iconst 0, 1) := by decide +kernel
theorem dX8_readLandsAndDays_10 : decode cX8_readLandsAndDays 10 = .ok (.iconst 2, 1) := by decide +kernel
theorem dX8_readLandsAndDays_11 : decode cX8_readLandsAndDays 11 = .ok (.invokevirtual 68, 3) := by decide +kernel
theorem dX8_readLandsAndDays_14 : decode cX8_readLandsAndDays 14 = .ok (.ifCond .ne 5, 3) := by decide +kernel
theorem dX8_readLandsAndDays_17 : decode cX8_readLandsAndDays 17 = .ok (.iconst 0, 1) := by decide +kernel
theorem dX8_readLandsAndDays_18 : decode cX8_readLandsAndDays 18 = .ok (.ireturn, 1) := by decide +kernel
theorem dX8_readLandsAndDays_19 : decode cX8_readLandsAndDays 19 = .ok (.aload_n 1, 1) := by decide +kernel
theorem dX8_readLandsAndDays_20 : decode cX8_readLandsAndDays 20 = .ok (.aload_n 0, 1) := by decide +kernel
theorem dX8_readLandsAndDays_21 : decode cX8_readLandsAndDays 21 = .ok (.getfield 31, 3) := by decide +kernel
theorem dX8_readLandsAndDays_24 : decode cX8_readLandsAndDays 24 = .ok (.putfield 72, 3) := by decide +kernel
theorem dX8_readLandsAndDays_27 : decode cX8_readLandsAndDays 27 = .ok (.aload_n 0, 1) := by decide +kernel
theorem dX8_readLandsAndDays_28 : decode cX8_readLandsAndDays 28 = .ok (.bipush 62, 2) := by decide +kernel
theorem dX8_readLandsAndDays_30 : decode cX8_readLandsAndDays 30 = .ok (.invokevirtual 64, 3) := by decide +kernel
theorem dX8_readLandsAndDays_33 : decode cX8_readLandsAndDays 33 = .ok (.ifCond .eq 12, 3) := by decide +kernel
theorem dX8_readLandsAndDays_36 : decode cX8_readLandsAndDays 36 = .ok (.aload_n 0, 1) := by decide +kernel
theorem dX8_readLandsAndDays_37 : decode cX8_readLandsAndDays 37 = .ok (.iconst 0, 1) := by decide +kernel
theorem dX8_readLandsAndDays_38 : decode cX8_readLandsAndDays 38 = .ok (.iconst 2, 1) := by decide +kernel
theorem dX8_readLandsAndDays_39 : decode cX8_readLandsAndDays 39 = .ok (.invokevirtual 68, 3) := by decide +kernel
theorem dX8_readLandsAndDays_42 : decode cX8_readLandsAndDays 42 = .ok (.ifCond .ne 5, 3) := by decide +kernel
theorem dX8_readLandsAndDays_45 : decode cX8_readLandsAndDays 45 = .ok (.iconst 0, 1) := by decide +kernel
theorem dX8_readLandsAndDays_46 : decode cX8_readLandsAndDays 46 = .ok (.ireturn, 1) := by decide +kernel
theorem dX8_readLandsAndDays_47 : decode cX8_readLandsAndDays 47 = .ok (.aload_n 1, 1) := by decide +kernel
theorem dX8_readLandsAndDays_48 : decode cX8_readLandsAndDays 48 = .ok (.aload_n 0, 1) := by decide +kernel
theorem dX8_readLandsAndDays_49 : decode cX8_readLandsAndDays 49 = .ok (.getfield 31, 3) := by decide +kernel
theorem dX8_readLandsAndDays_52 : decode cX8_readLandsAndDays 52 = .ok (.putfield 75, 3) := by decide +kernel
theorem dX8_readLandsAndDays_55 : decode cX8_readLandsAndDays 55 = .ok (.aload_n 0, 1) := by decide +kernel
theorem dX8_readLandsAndDays_56 : decode cX8_readLandsAndDays 56 = .ok (.bipush 44, 2) := by decide +kernel
theorem dX8_readLandsAndDays_58 : decode cX8_readLandsAndDays 58 = .ok (.invokevirtual 64, 3) := by decide +kernel
theorem dX8_readLandsAndDays_61 : decode cX8_readLandsAndDays 61 = .ok (.ifCond .eq 14, 3) := by decide +kernel
theorem dX8_readLandsAndDays_64 : decode cX8_readLandsAndDays 64 = .ok (.aload_n 0, 1) := by decide +kernel
theorem dX8_readLandsAndDays_65 : decode cX8_readLandsAndDays 65 = .ok (.iconst 0, 1) := by decide +kernel
theorem dX8_readLandsAndDays_66 : decode cX8_readLandsAndDays 66 = .ok (.sipush 999, 3) := by decide +kernel
theorem dX8_readLandsAndDays_69 : decode cX8_readLandsAndDays 69 = .ok (.invokevirtual 68, 3) := by decide +kernel
theorem dX8_readLandsAndDays_72 : decode cX8_readLandsAndDays 72 = .ok (.ifCond .ne 5, 3) := by decide +kernel
theorem dX8_readLandsAndDays_75 : decode cX8_readLandsAndDays 75 = .ok (.iconst 0, 1) := by decide +kernel
theorem dX8_readLandsAndDays_76 : decode cX8_readLandsAndDays 76 = .ok (.ireturn, 1) := by decide +kernel
theorem dX8_readLandsAndDays_77 : decode cX8_readLandsAndDays 77 = .ok (.aload_n 1, 1) := by decide +kernel
theorem dX8_readLandsAndDays_78 : decode cX8_readLandsAndDays 78 = .ok (.aload_n 0, 1) := by decide +kernel
theorem dX8_readLandsAndDays_79 : decode cX8_readLandsAndDays 79 = .ok (.getfield 31, 3) := by decide +kernel
theorem dX8_readLandsAndDays_82 : decode cX8_readLandsAndDays 82 = .ok (.putfield 78, 3) := by decide +kernel
theorem dX8_readLandsAndDays_85 : decode cX8_readLandsAndDays 85 = .ok (.aload_n 0, 1) := by decide +kernel
theorem dX8_readLandsAndDays_86 : decode cX8_readLandsAndDays 86 = .ok (.bipush 45, 2) := by decide +kernel
theorem dX8_readLandsAndDays_88 : decode cX8_readLandsAndDays 88 = .ok (.invokevirtual 64, 3) := by decide +kernel
theorem dX8_readLandsAndDays_91 : decode cX8_readLandsAndDays 91 = .ok (.ifCond .eq 17, 3) := by decide +kernel
theorem dX8_readLandsAndDays_94 : decode cX8_readLandsAndDays 94 = .ok (.aload_n 0, 1) := by decide +kernel
theorem dX8_readLandsAndDays_95 : decode cX8_readLandsAndDays 95 = .ok (.aload_n 1, 1) := by decide +kernel
theorem dX8_readLandsAndDays_96 : decode cX8_readLandsAndDays 96 = .ok (.getfield 78, 3) := by decide +kernel
theorem dX8_readLandsAndDays_99 : decode cX8_readLandsAndDays 99 = .ok (.sipush 999, 3) := by decide +kernel
theorem dX8_readLandsAndDays_102 : decode cX8_readLandsAndDays 102 = .ok (.invokevirtual 68, 3) := by decide +kernel
theorem dX8_readLandsAndDays_105 : decode cX8_readLandsAndDays 105 = .ok (.ifCond .ne 5, 3) := by decide +kernel
theorem dX8_readLandsAndDays_108 : decode cX8_readLandsAndDays 108 = .ok (.iconst 0, 1) := by decide +kernel
theorem dX8_readLandsAndDays_109 : decode cX8_readLandsAndDays 109 = .ok (.ireturn, 1) := by decide +kernel
theorem dX8_readLandsAndDays_110 : decode cX8_readLandsAndDays 110 = .ok (.aload_n 1, 1) := by decide +kernel
theorem dX8_readLandsAndDays_111 : decode cX8_readLandsAndDays 111 = .ok (.aload_n 0, 1) := by decide +kernel
theorem dX8_readLandsAndDays_112 : decode cX8_readLandsAndDays 112 = .ok (.getfield 31, 3) := by decide +kernel
theorem dX8_readLandsAndDays_115 : decode cX8_readLandsAndDays 115 = .ok (.putfield 81, 3) := by decide +kernel
theorem dX8_readLandsAndDays_118 : decode cX8_readLandsAndDays 118 = .ok (.iconst 1, 1) := by decide +kernel
theorem dX8_readLandsAndDays_119 : decode cX8_readLandsAndDays 119 = .ok (.ireturn, 1) := by decide +kernel
theorem dX8_readSums_0 : decode cX8_readSums 0 = .ok (.aload_n 0, 1) := by decide +kernel
theorem dX8_readSums_1 : decode cX8_readSums 1 = .ok (.bipush 58, 2) := by decide +kernel
theorem dX8_readSums_3 : decode cX8_readSums 3 = .ok (.invokevirtual 64, 3) := by decide +kernel
theorem dX8_readSums_6 : decode cX8_readSums 6 = .ok (.ifCond .eq 14, 3) := by decide +kernel
theorem dX8_readSums_9 : decode cX8_readSums 9 = .ok (.aload_n 0, 1) := by decide +kernel
theorem dX8_readSums_10 : decode cX8_readSums 10 = .ok (.iconst 0, 1) := by decide +kernel
theorem dX8_readSums_11 : decode cX8_readSums 11 = .ok (.sipush 999, 3) := by decide +kernel
theorem dX8_readSums_14 : decode cX8_readSums 14 = .ok (.invokevirtual 68, 3) := by decide +kernel
theorem dX8_readSums_17 : decode cX8_readSums 17 = .ok (.ifCond .ne 5, 3) := by decide +kernel
theorem dX8_readSums_20 : decode cX8_readSums 20 = .ok (.iconst 0, 1) := by decide +kernel
theorem dX8_readSums_21 : decode cX8_readSums 21 = .ok (.ireturn, 1) := by decide +kernel
theorem dX8_readSums_22 : decode cX8_readSums 22 = .ok (.aload_n 1, 1) := by decide +kernel
theorem dX8_readSums_23 : decode cX8_readSums 23 = .ok (.aload_n 0, 1) := by decide +kernel
theorem dX8_readSums_24 : decode cX8_readSums 24 = .ok (.getfield 31, 3) := by decide +kernel
theorem dX8_readSums_27 : decode cX8_readSums 27 = .ok (.putfield 84, 3) := by decide +kernel
theorem dX8_readSums_30 : decode cX8_readSums 30 = .ok (.aload_n 0, 1) := by decide +kernel
theorem dX8_readSums_31 : decode cX8_readSums 31 = .ok (.iconst 4, 1) := by decide +kernel
theorem dX8_readSums_32 : decode cX8_readSums 32 = .ok (.invokevirtual 64, 3) := by decide +kernel
theorem dX8_readSums_35 : decode cX8_readSums 35 = .ok (.ifCond .eq 14, 3) := by decide +kernel
theorem dX8_readSums_38 : decode cX8_readSums 38 = .ok (.aload_n 0, 1) := by decide +kernel
theorem dX8_readSums_39 : decode cX8_readSums 39 = .ok (.iconst 1, 1) := by decide +kernel
theorem dX8_readSums_40 : decode cX8_readSums 40 = .ok (.sipush 500, 3) := by decide +kernel
theorem dX8_readSums_43 : decode cX8_readSums 43 = .ok (.invokevirtual 68, 3) := by decide +kernel
theorem dX8_readSums_46 : decode cX8_readSums 46 = .ok (.ifCond .ne 5, 3) := by decide +kernel
theorem dX8_readSums_49 : decode cX8_readSums 49 = .ok (.iconst 0, 1) := by decide +kernel
theorem dX8_readSums_50 : decode cX8_readSums 50 = .ok (.ireturn, 1) := by decide +kernel
theorem dX8_readSums_51 : decode cX8_readSums 51 = .ok (.aload_n 1, 1) := by decide +kernel
theorem dX8_readSums_52 : decode cX8_readSums 52 = .ok (.aload_n 0, 1) := by decide +kernel
theorem dX8_readSums_53 : decode cX8_readSums 53 = .ok (.getfield 31, 3) := by decide +kernel
theorem dX8_readSums_56 : decode cX8_readSums 56 = .ok (.putfield 87, 3) := by decide +kernel
theorem dX8_readSums_59 : decode cX8_readSums 59 = .ok (.aload_n 0, 1) := by decide +kernel
theorem dX8_readSums_60 : decode cX8_readSums 60 = .ok (.bipush 43, 2) := by decide +kernel
theorem dX8_readSums_62 : decode cX8_readSums 62 = .ok (.invokevirtual 64, 3) := by decide +kernel
theorem dX8_readSums_65 : decode cX8_readSums 65 = .ok (.ifCond .ne 5, 3) := by decide +kernel
theorem dX8_readSums_68 : decode cX8_readSums 68 = .ok (.iconst 1, 1) := by decide +kernel
theorem dX8_readSums_69 : decode cX8_readSums 69 = .ok (.ireturn, 1) := by decide +kernel
theorem dX8_readSums_70 : decode cX8_readSums 70 = .ok (.aload_n 0, 1) := by decide +kernel
theorem dX8_readSums_71 : decode cX8_readSums 71 = .ok (.iconst 0, 1) := by decide +kernel
theorem dX8_readSums_72 : decode cX8_readSums 72 = .ok (.sipush 999, 3) := by decide +kernel
theorem dX8_readSums_75 : decode cX8_readSums 75 = .ok (.invokevirtual 68, 3) := by decide +kernel
theorem dX8_readSums_78 : decode cX8_readSums 78 = .ok (.ifCond .ne 5, 3) := by decide +kernel
theorem dX8_readSums_81 : decode cX8_readSums 81 = .ok (.iconst 0, 1) := by decide +kernel
theorem dX8_readSums_82 : decode cX8_readSums 82 = .ok (.ireturn, 1) := by decide +kernel
theorem dX8_readSums_83 : decode cX8_readSums 83 = .ok (.aload_n 1, 1) := by decide +kernel
theorem dX8_readSums_84 : decode cX8_readSums 84 = .ok (.aload_n 0, 1) := by decide +kernel
theorem dX8_readSums_85 : decode cX8_readSums 85 = .ok (.getfield 31, 3) := by decide +kernel
theorem dX8_readSums_88 : decode cX8_readSums 88 = .ok (.putfield 90, 3) := by decide +kernel
theorem dX8_readSums_91 : decode cX8_readSums 91 = .ok (.iconst 1, 1) := by decide +kernel
theorem dX8_readSums_92 : decode cX8_readSums 92 = .ok (.ireturn, 1) := by decide +kernel
theorem dX8_readPart_0 : decode cX8_readPart 0 = .ok (.aload_n 0, 1) := by decide +kernel
theorem dX8_readPart_1 : decode cX8_readPart 1 = .ok (.iconst 5, 1) := by decide +kernel
theorem dX8_readPart_2 : decode cX8_readPart 2 = .ok (.invokevirtual 64, 3) := by decide +kernel
theorem dX8_readPart_5 : decode cX8_readPart 5 = .ok (.ifCond .ne 5, 3) := by decide +kernel
theorem dX8_readPart_8 : decode cX8_readPart 8 = .ok (.iconst 1, 1) := by decide +kernel
theorem dX8_readPart_9 : decode cX8_readPart 9 = .ok (.ireturn, 1) := by decide +kernel
theorem dX8_readPart_10 : decode cX8_readPart 10 = .ok (.aload_n 0, 1) := by decide +kernel
theorem dX8_readPart_11 : decode cX8_readPart 11 = .ok (.iconst 0, 1) := by decide +kernel
theorem dX8_readPart_12 : decode cX8_readPart 12 = .ok (.bipush 99, 2) := by decide +kernel
theorem dX8_readPart_14 : decode cX8_readPart 14 = .ok (.invokevirtual 68, 3) := by decide +kernel
theorem dX8_readPart_17 : decode cX8_readPart 17 = .ok (.ifCond .ne 5, 3) := by decide +kernel
theorem dX8_readPart_20 : decode cX8_readPart 20 = .ok (.iconst 0, 1) := by decide +kernel
theorem dX8_readPart_21 : decode cX8_readPart 21 = .ok (.ireturn, 1) := by decide +kernel
theorem dX8_readPart_22 : decode cX8_readPart 22 = .ok (.aload_n 1, 1) := by decide +kernel
theorem dX8_readPart_23 : decode cX8_readPart 23 = .ok (.aload_n 0, 1) := by decide +kernel
theorem dX8_readPart_24 : decode cX8_readPart 24 = .ok (.getfield 31, 3) := by decide +kernel
theorem dX8_readPart_27 : decode cX8_readPart 27 = .ok (.putfield 93, 3) := by decide +kernel
theorem dX8_readPart_30 : decode cX8_readPart 30 = .ok (.aload_n 0, 1) := by decide +kernel
theorem dX8_readPart_31 : decode cX8_readPart 31 = .ok (.bipush 47, 2) := by decide +kernel
theorem dX8_readPart_33 : decode cX8_readPart 33 = .ok (.invokevirtual 64, 3) := by decide +kernel
theorem dX8_readPart_36 : decode cX8_readPart 36 = .ok (.ifCond .eq 20, 3) := by decide +kernel
theorem dX8_readPart_39 : decode cX8_readPart 39 = .ok (.aload_n 0, 1) := by decide +kernel
theorem dX8_readPart_40 : decode cX8_readPart 40 = .ok (.iconst 1, 1) := by decide +kernel
theorem dX8_readPart_41 : decode cX8_readPart 41 = .ok (.aload_n 1, 1) := by decide +kernel
theorem dX8_readPart_42 : decode cX8_readPart 42 = .ok (.getfield 93, 3) := by decide +kernel
theorem dX8_readPart_45 : decode cX8_readPart 45 = .ok (.invokestatic 96, 3) := by decide +kernel
theorem dX8_readPart_48 : decode cX8_readPart 48 = .ok (.bipush 99, 2) := by decide +kernel
theorem dX8_readPart_50 : decode cX8_readPart 50 = .ok (.invokevirtual 68, 3) := by decide +kernel
theorem dX8_readPart_53 : decode cX8_readPart 53 = .ok (.ifCond .ne 5, 3) := by decide +kernel
theorem dX8_readPart_56 : decode cX8_readPart 56 = .ok (.iconst 0, 1) := by decide +kernel
theorem dX8_readPart_57 : decode cX8_readPart 57 = .ok (.ireturn, 1) := by decide +kernel
theorem dX8_readPart_58 : decode cX8_readPart 58 = .ok (.aload_n 1, 1) := by decide +kernel
theorem dX8_readPart_59 : decode cX8_readPart 59 = .ok (.aload_n 0, 1) := by decide +kernel
theorem dX8_readPart_60 : decode cX8_readPart 60 = .ok (.getfield 31, 3) := by decide +kernel
theorem dX8_readPart_63 : decode cX8_readPart 63 = .ok (.putfield 102, 3) := by decide +kernel
theorem dX8_readPart_66 : decode cX8_readPart 66 = .ok (.iconst 1, 1) := by decide +kernel
theorem dX8_readPart_67 : decode cX8_readPart 67 = .ok (.ireturn, 1) := by decide +kernel
theorem dX8_readEnd_0 : decode cX8_readEnd 0 = .ok (.aload_n 1, 1) := by decide +kernel
theorem dX8_readEnd_1 : decode cX8_readEnd 1 = .ok (.aload_n 0, 1) := by decide +kernel
theorem dX8_readEnd_2 : decode cX8_readEnd 2 = .ok (.bipush 6, 2) := by decide +kernel
theorem dX8_readEnd_4 : decode cX8_readEnd 4 = .ok (.invokevirtual 64, 3) := by decide +kernel
theorem dX8_readEnd_7 : decode cX8_readEnd 7 = .ok (.putfield 105, 3) := by decide +kernel
theorem dX8_readEnd_10 : decode cX8_readEnd 10 = .ok (.aload_n 0, 1) := by decide +kernel
theorem dX8_readEnd_11 : decode cX8_readEnd 11 = .ok (.bipush 59, 2) := by decide +kernel
theorem dX8_readEnd_13 : decode cX8_readEnd 13 = .ok (.invokevirtual 64, 3) := by decide +kernel
theorem dX8_readEnd_16 : decode cX8_readEnd 16 = .ok (.ireturn, 1) := by decide +kernel
theorem dX8_take_0 : decode cX8_take 0 = .ok (.aload_n 0, 1) := by decide +kernel
theorem dX8_take_1 : decode cX8_take 1 = .ok (.getfield 25, 3) := by decide +kernel
theorem dX8_take_4 : decode cX8_take 4 = .ok (.iload_n 1, 1) := by decide +kernel
theorem dX8_take_5 : decode cX8_take 5 = .ok (.if_icmp .eq 5, 3) := by decide +kernel
theorem dX8_take_8 : decode cX8_take 8 = .ok (.iconst 0, 1) := by decide +kernel
theorem dX8_take_9 : decode cX8_take 9 = .ok (.ireturn, 1) := by decide +kernel
theorem dX8_take_10 : decode cX8_take 10 = .ok (.aload_n 0, 1) := by decide +kernel
theorem dX8_take_11 : decode cX8_take 11 = .ok (.invokevirtual 39, 3) := by decide +kernel
theorem dX8_take_14 : decode cX8_take 14 = .ok (.iconst 1, 1) := by decide +kernel
theorem dX8_take_15 : decode cX8_take 15 = .ok (.ireturn, 1) := by decide +kernel
theorem dX8_takeNumber_0 : decode cX8_takeNumber 0 = .ok (.aload_n 0, 1) := by decide +kernel
theorem dX8_takeNumber_1 : decode cX8_takeNumber 1 = .ok (.getfield 25, 3) := by decide +kernel
theorem dX8_takeNumber_4 : decode cX8_takeNumber 4 = .ok (.iconst 2, 1) := by decide +kernel
theorem dX8_takeNumber_5 : decode cX8_takeNumber 5 = .ok (.if_icmp .ne 15, 3) := by decide +kernel
theorem dX8_takeNumber_8 : decode cX8_takeNumber 8 = .ok (.aload_n 0, 1) := by decide +kernel
theorem dX8_takeNumber_9 : decode cX8_takeNumber 9 = .ok (.getfield 28, 3) := by decide +kernel
theorem dX8_takeNumber_12 : decode cX8_takeNumber 12 = .ok (.iload_n 1, 1) := by decide +kernel
theorem dX8_takeNumber_13 : decode cX8_takeNumber 13 = .ok (.iload_n 2, 1) := by decide +kernel
theorem dX8_takeNumber_14 : decode cX8_takeNumber 14 = .ok (.invokestatic 109, 3) := by decide +kernel
theorem dX8_takeNumber_17 : decode cX8_takeNumber 17 = .ok (.ifCond .ne 5, 3) := by decide +kernel
theorem dX8_takeNumber_20 : decode cX8_takeNumber 20 = .ok (.iconst 0, 1) := by decide +kernel
theorem dX8_takeNumber_21 : decode cX8_takeNumber 21 = .ok (.ireturn, 1) := by decide +kernel
theorem dX8_takeNumber_22 : decode cX8_takeNumber 22 = .ok (.aload_n 0, 1) := by decide +kernel
theorem dX8_takeNumber_23 : decode cX8_takeNumber 23 = .ok (.aload_n 0, 1) := by decide +kernel
theorem dX8_takeNumber_24 : decode cX8_takeNumber 24 = .ok (.getfield 28, 3) := by decide +kernel
theorem dX8_takeNumber_27 : decode cX8_takeNumber 27 = .ok (.putfield 31, 3) := by decide +kernel
theorem dX8_takeNumber_30 : decode cX8_takeNumber 30 = .ok (.aload_n 0, 1) := by decide +kernel
theorem dX8_takeNumber_31 : decode cX8_takeNumber 31 = .ok (.invokevirtual 39, 3) := by decide +kernel
theorem dX8_takeNumber_34 : decode cX8_takeNumber 34 = .ok (.iconst 1, 1) := by decide +kernel
theorem dX8_takeNumber_35 : decode cX8_takeNumber 35 = .ok (.ireturn, 1) := by decide +kernel
theorem dX8_step_0 : decode cX8_step 0 = .ok (.aload_n 0, 1) := by decide +kernel
theorem dX8_step_1 : decode cX8_step 1 = .ok (.getfield 19, 3) := by decide +kernel
theorem dX8_step_4 : decode cX8_step 4 = .ok (.aload_n 0, 1) := by decide +kernel
theorem dX8_step_5 : decode cX8_step 5 = .ok (.getfield 15, 3) := by decide +kernel
theorem dX8_step_8 : decode cX8_step 8 = .ok (.if_icmp .ge 30, 3) := by decide +kernel
theorem dX8_step_11 : decode cX8_step 11 = .ok (.aload_n 0, 1) := by decide +kernel
theorem dX8_step_12 : decode cX8_step 12 = .ok (.getfield 9, 3) := by decide +kernel
theorem dX8_step_15 : decode cX8_step 15 = .ok (.aload_n 0, 1) := by decide +kernel
theorem dX8_step_16 : decode cX8_step 16 = .ok (.getfield 19, 3) := by decide +kernel
theorem dX8_step_19 : decode cX8_step 19 = .ok (.baload, 1) := by decide +kernel
theorem dX8_step_20 : decode cX8_step 20 = .ok (.bipush 32, 2) := by decide +kernel
theorem dX8_step_22 : decode cX8_step 22 = .ok (.if_icmp .ne 16, 3) := by decide +kernel
theorem dX8_step_25 : decode cX8_step 25 = .ok (.aload_n 0, 1) := by decide +kernel
theorem dX8_step_26 : decode cX8_step 26 = .ok (.dup, 1) := by decide +kernel
theorem dX8_step_27 : decode cX8_step 27 = .ok (.getfield 19, 3) := by decide +kernel
theorem dX8_step_30 : decode cX8_step 30 = .ok (.iconst 1, 1) := by decide +kernel
theorem dX8_step_31 : decode cX8_step 31 = .ok (.iadd, 1) := by decide +kernel
theorem dX8_step_32 : decode cX8_step 32 = .ok (.putfield 19, 3) := by decide +kernel
theorem dX8_step_35 : decode cX8_step 35 = .ok (.goto (-35), 3) := by decide +kernel
theorem dX8_step_38 : decode cX8_step 38 = .ok (.aload_n 0, 1) := by decide +kernel
theorem dX8_step_39 : decode cX8_step 39 = .ok (.aload_n 0, 1) := by decide +kernel
theorem dX8_step_40 : decode cX8_step 40 = .ok (.getfield 19, 3) := by decide +kernel
theorem dX8_step_43 : decode cX8_step 43 = .ok (.putfield 22, 3) := by decide +kernel
theorem dX8_step_46 : decode cX8_step 46 = .ok (.aload_n 0, 1) := by decide +kernel
theorem dX8_step_47 : decode cX8_step 47 = .ok (.getfield 19, 3) := by decide +kernel
theorem dX8_step_50 : decode cX8_step 50 = .ok (.aload_n 0, 1) := by decide +kernel
theorem dX8_step_51 : decode cX8_step 51 = .ok (.getfield 15, 3) := by decide +kernel
theorem dX8_step_54 : decode cX8_step 54 = .ok (.if_icmp .lt 11, 3) := by decide +kernel
theorem dX8_step_57 : decode cX8_step 57 = .ok (.aload_n 0, 1) := by decide +kernel
theorem dX8_step_58 : decode cX8_step 58 = .ok (.iconst 1, 1) := by decide +kernel
theorem dX8_step_59 : decode cX8_step 59 = .ok (.putfield 25, 3) := by decide +kernel
theorem dX8_step_62 : decode cX8_step 62 = .ok (.goto 97, 3) := by decide +kernel
theorem dX8_step_65 : decode cX8_step 65 = .ok (.aload_n 0, 1) := by decide +kernel
theorem dX8_step_66 : decode cX8_step 66 = .ok (.getfield 9, 3) := by decide +kernel
theorem dX8_step_69 : decode cX8_step 69 = .ok (.aload_n 0, 1) := by decide +kernel
theorem dX8_step_70 : decode cX8_step 70 = .ok (.getfield 19, 3) := by decide +kernel
theorem dX8_step_73 : decode cX8_step 73 = .ok (.baload, 1) := by decide +kernel
theorem dX8_step_74 : decode cX8_step 74 = .ok (.invokestatic 113, 3) := by decide +kernel
theorem dX8_step_77 : decode cX8_step 77 = .ok (.ifCond .eq 14, 3) := by decide +kernel
theorem dX8_step_80 : decode cX8_step 80 = .ok (.aload_n 0, 1) := by decide +kernel
theorem dX8_step_81 : decode cX8_step 81 = .ok (.aload_n 0, 1) := by decide +kernel
theorem dX8_step_82 : decode cX8_step 82 = .ok (.invokevirtual 116, 3) := by decide +kernel
theorem dX8_step_85 : decode cX8_step 85 = .ok (.putfield 25, 3) := by decide +kernel
theorem dX8_step_88 : decode cX8_step 88 = .ok (.goto 71, 3) := by decide +kernel
theorem dX8_step_91 : decode cX8_step 91 = .ok (.aload_n 0, 1) := by decide +kernel
theorem dX8_step_92 : decode cX8_step 92 = .ok (.getfield 9, 3) := by decide +kernel
theorem dX8_step_95 : decode cX8_step 95 = .ok (.aload_n 0, 1) := by decide +kernel
theorem dX8_step_96 : decode cX8_step 96 = .ok (.getfield 19, 3) := by decide +kernel
theorem dX8_step_99 : decode cX8_step 99 = .ok (.baload, 1) := by decide +kernel
theorem dX8_step_100 : decode cX8_step 100 = .ok (.invokestatic 120, 3) := by decide +kernel
theorem dX8_step_103 : decode cX8_step 103 = .ok (.ifCond .eq 14, 3) := by decide +kernel
theorem dX8_step_106 : decode cX8_step 106 = .ok (.aload_n 0, 1) := by decide +kernel
theorem dX8_step_107 : decode cX8_step 107 = .ok (.aload_n 0, 1) := by decide +kernel
theorem dX8_step_108 : decode cX8_step 108 = .ok (.invokevirtual 123, 3) := by decide +kernel
theorem dX8_step_111 : decode cX8_step 111 = .ok (.putfield 25, 3) := by decide +kernel
theorem dX8_step_114 : decode cX8_step 114 = .ok (.goto 45, 3) := by decide +kernel
theorem dX8_step_117 : decode cX8_step 117 = .ok (.aload_n 0, 1) := by decide +kernel
theorem dX8_step_118 : decode cX8_step 118 = .ok (.aload_n 0, 1) := by decide +kernel
theorem dX8_step_119 : decode cX8_step 119 = .ok (.getfield 9, 3) := by decide +kernel
theorem dX8_step_122 : decode cX8_step 122 = .ok (.aload_n 0, 1) := by decide +kernel
theorem dX8_step_123 : decode cX8_step 123 = .ok (.getfield 19, 3) := by decide +kernel
theorem dX8_step_126 : decode cX8_step 126 = .ok (.baload, 1) := by decide +kernel
theorem dX8_step_127 : decode cX8_step 127 = .ok (.invokestatic 126, 3) := by decide +kernel
theorem dX8_step_130 : decode cX8_step 130 = .ok (.ifCond .eq 15, 3) := by decide +kernel
theorem dX8_step_133 : decode cX8_step 133 = .ok (.aload_n 0, 1) := by decide +kernel
theorem dX8_step_134 : decode cX8_step 134 = .ok (.getfield 9, 3) := by decide +kernel
theorem dX8_step_137 : decode cX8_step 137 = .ok (.aload_n 0, 1) := by decide +kernel
theorem dX8_step_138 : decode cX8_step 138 = .ok (.getfield 19, 3) := by decide +kernel
theorem dX8_step_141 : decode cX8_step 141 = .ok (.baload, 1) := by decide +kernel
theorem dX8_step_142 : decode cX8_step 142 = .ok (.goto 4, 3) := by decide +kernel
theorem dX8_step_145 : decode cX8_step 145 = .ok (.iconst 0, 1) := by decide +kernel
theorem dX8_step_146 : decode cX8_step 146 = .ok (.putfield 25, 3) := by decide +kernel
theorem dX8_step_149 : decode cX8_step 149 = .ok (.aload_n 0, 1) := by decide +kernel
theorem dX8_step_150 : decode cX8_step 150 = .ok (.dup, 1) := by decide +kernel
theorem dX8_step_151 : decode cX8_step 151 = .ok (.getfield 19, 3) := by decide +kernel
theorem dX8_step_154 : decode cX8_step 154 = .ok (.iconst 1, 1) := by decide +kernel
theorem dX8_step_155 : decode cX8_step 155 = .ok (.iadd, 1) := by decide +kernel
theorem dX8_step_156 : decode cX8_step 156 = .ok (.putfield 19, 3) := by decide +kernel
theorem dX8_step_159 : decode cX8_step 159 = .ok (.return_, 1) := by decide +kernel
theorem dX8_stepNumber_0 : decode cX8_stepNumber 0 = .ok (.aload_n 0, 1) := by decide +kernel
theorem dX8_stepNumber_1 : decode cX8_stepNumber 1 = .ok (.iconst 0, 1) := by decide +kernel
theorem dX8_stepNumber_2 : decode cX8_stepNumber 2 = .ok (.putfield 28, 3) := by decide +kernel
theorem dX8_stepNumber_5 : decode cX8_stepNumber 5 = .ok (.aload_n 0, 1) := by decide +kernel
theorem dX8_stepNumber_6 : decode cX8_stepNumber 6 = .ok (.getfield 19, 3) := by decide +kernel
theorem dX8_stepNumber_9 : decode cX8_stepNumber 9 = .ok (.aload_n 0, 1) := by decide +kernel
theorem dX8_stepNumber_10 : decode cX8_stepNumber 10 = .ok (.getfield 15, 3) := by decide +kernel
theorem dX8_stepNumber_13 : decode cX8_stepNumber 13 = .ok (.if_icmp .ge 61, 3) := by decide +kernel
theorem dX8_stepNumber_16 : decode cX8_stepNumber 16 = .ok (.aload_n 0, 1) := by decide +kernel
theorem dX8_stepNumber_17 : decode cX8_stepNumber 17 = .ok (.getfield 9, 3) := by decide +kernel
theorem dX8_stepNumber_20 : decode cX8_stepNumber 20 = .ok (.aload_n 0, 1) := by decide +kernel
theorem dX8_stepNumber_21 : decode cX8_stepNumber 21 = .ok (.getfield 19, 3) := by decide +kernel
theorem dX8_stepNumber_24 : decode cX8_stepNumber 24 = .ok (.baload, 1) := by decide +kernel
theorem dX8_stepNumber_25 : decode cX8_stepNumber 25 = .ok (.invokestatic 113, 3) := by decide +kernel
theorem dX8_stepNumber_28 : decode cX8_stepNumber 28 = .ok (.ifCond .eq 46, 3) := by decide +kernel
theorem dX8_stepNumber_31 : decode cX8_stepNumber 31 = .ok (.aload_n 0, 1) := by decide +kernel
theorem dX8_stepNumber_32 : decode cX8_stepNumber 32 = .ok (.bipush 10, 2) := by decide +kernel
theorem dX8_stepNumber_34 : decode cX8_stepNumber 34 = .ok (.aload_n 0, 1) := by decide +kernel
theorem dX8_stepNumber_35 : decode cX8_stepNumber 35 = .ok (.getfield 28, 3) := by decide +kernel
theorem dX8_stepNumber_38 : decode cX8_stepNumber 38 = .ok (.imul, 1) := by decide +kernel
theorem dX8_stepNumber_39 : decode cX8_stepNumber 39 = .ok (.aload_n 0, 1) := by decide +kernel
theorem dX8_stepNumber_40 : decode cX8_stepNumber 40 = .ok (.getfield 9, 3) := by decide +kernel
theorem dX8_stepNumber_43 : decode cX8_stepNumber 43 = .ok (.aload_n 0, 1) := by decide +kernel
theorem dX8_stepNumber_44 : decode cX8_stepNumber 44 = .ok (.getfield 19, 3) := by decide +kernel
theorem dX8_stepNumber_47 : decode cX8_stepNumber 47 = .ok (.baload, 1) := by decide +kernel
theorem dX8_stepNumber_48 : decode cX8_stepNumber 48 = .ok (.iadd, 1) := by decide +kernel
theorem dX8_stepNumber_49 : decode cX8_stepNumber 49 = .ok (.bipush 48, 2) := by decide +kernel
theorem dX8_stepNumber_51 : decode cX8_stepNumber 51 = .ok (.isub, 1) := by decide +kernel
theorem dX8_stepNumber_52 : decode cX8_stepNumber 52 = .ok (.sipush 10000, 3) := by decide +kernel
theorem dX8_stepNumber_55 : decode cX8_stepNumber 55 = .ok (.invokestatic 129, 3) := by decide +kernel
theorem dX8_stepNumber_58 : decode cX8_stepNumber 58 = .ok (.putfield 28, 3) := by decide +kernel
theorem dX8_stepNumber_61 : decode cX8_stepNumber 61 = .ok (.aload_n 0, 1) := by decide +kernel
theorem dX8_stepNumber_62 : decode cX8_stepNumber 62 = .ok (.dup, 1) := by decide +kernel
theorem dX8_stepNumber_63 : decode cX8_stepNumber 63 = .ok (.getfield 19, 3) := by decide +kernel
theorem dX8_stepNumber_66 : decode cX8_stepNumber 66 = .ok (.iconst 1, 1) := by decide +kernel
theorem dX8_stepNumber_67 : decode cX8_stepNumber 67 = .ok (.iadd, 1) := by decide +kernel
theorem dX8_stepNumber_68 : decode cX8_stepNumber 68 = .ok (.putfield 19, 3) := by decide +kernel
theorem dX8_stepNumber_71 : decode cX8_stepNumber 71 = .ok (.goto (-66), 3) := by decide +kernel
theorem dX8_stepNumber_74 : decode cX8_stepNumber 74 = .ok (.aload_n 0, 1) := by decide +kernel
theorem dX8_stepNumber_75 : decode cX8_stepNumber 75 = .ok (.getfield 9, 3) := by decide +kernel
theorem dX8_stepNumber_78 : decode cX8_stepNumber 78 = .ok (.aload_n 0, 1) := by decide +kernel
theorem dX8_stepNumber_79 : decode cX8_stepNumber 79 = .ok (.getfield 22, 3) := by decide +kernel
theorem dX8_stepNumber_82 : decode cX8_stepNumber 82 = .ok (.baload, 1) := by decide +kernel
theorem dX8_stepNumber_83 : decode cX8_stepNumber 83 = .ok (.bipush 48, 2) := by decide +kernel
theorem dX8_stepNumber_85 : decode cX8_stepNumber 85 = .ok (.if_icmp .ne 20, 3) := by decide +kernel
theorem dX8_stepNumber_88 : decode cX8_stepNumber 88 = .ok (.aload_n 0, 1) := by decide +kernel
theorem dX8_stepNumber_89 : decode cX8_stepNumber 89 = .ok (.getfield 19, 3) := by decide +kernel
theorem dX8_stepNumber_92 : decode cX8_stepNumber 92 = .ok (.aload_n 0, 1) := by decide +kernel
theorem dX8_stepNumber_93 : decode cX8_stepNumber 93 = .ok (.getfield 22, 3) := by decide +kernel
theorem dX8_stepNumber_96 : decode cX8_stepNumber 96 = .ok (.isub, 1) := by decide +kernel
theorem dX8_stepNumber_97 : decode cX8_stepNumber 97 = .ok (.iconst 1, 1) := by decide +kernel
theorem dX8_stepNumber_98 : decode cX8_stepNumber 98 = .ok (.if_icmp .le 7, 3) := by decide +kernel
theorem dX8_stepNumber_101 : decode cX8_stepNumber 101 = .ok (.iconst 1, 1) := by decide +kernel
theorem dX8_stepNumber_102 : decode cX8_stepNumber 102 = .ok (.goto 4, 3) := by decide +kernel
theorem dX8_stepNumber_105 : decode cX8_stepNumber 105 = .ok (.iconst 0, 1) := by decide +kernel
theorem dX8_stepNumber_106 : decode cX8_stepNumber 106 = .ok (.istore_n 1, 1) := by decide +kernel
theorem dX8_stepNumber_107 : decode cX8_stepNumber 107 = .ok (.iload_n 1, 1) := by decide +kernel
theorem dX8_stepNumber_108 : decode cX8_stepNumber 108 = .ok (.ifCond .ne 13, 3) := by decide +kernel
theorem dX8_stepNumber_111 : decode cX8_stepNumber 111 = .ok (.aload_n 0, 1) := by decide +kernel
theorem dX8_stepNumber_112 : decode cX8_stepNumber 112 = .ok (.getfield 28, 3) := by decide +kernel
theorem dX8_stepNumber_115 : decode cX8_stepNumber 115 = .ok (.sipush 9999, 3) := by decide +kernel
theorem dX8_stepNumber_118 : decode cX8_stepNumber 118 = .ok (.if_icmp .le 7, 3) := by decide +kernel
theorem dX8_stepNumber_121 : decode cX8_stepNumber 121 = .ok (.iconst 0, 1) := by decide +kernel
theorem dX8_stepNumber_122 : decode cX8_stepNumber 122 = .ok (.goto 4, 3) := by decide +kernel
theorem dX8_stepNumber_125 : decode cX8_stepNumber 125 = .ok (.iconst 2, 1) := by decide +kernel
theorem dX8_stepNumber_126 : decode cX8_stepNumber 126 = .ok (.ireturn, 1) := by decide +kernel
theorem dX8_stepWord_0 : decode cX8_stepWord 0 = .ok (.aload_n 0, 1) := by decide +kernel
theorem dX8_stepWord_1 : decode cX8_stepWord 1 = .ok (.getfield 19, 3) := by decide +kernel
theorem dX8_stepWord_4 : decode cX8_stepWord 4 = .ok (.aload_n 0, 1) := by decide +kernel
theorem dX8_stepWord_5 : decode cX8_stepWord 5 = .ok (.getfield 15, 3) := by decide +kernel
theorem dX8_stepWord_8 : decode cX8_stepWord 8 = .ok (.if_icmp .ge 31, 3) := by decide +kernel
theorem dX8_stepWord_11 : decode cX8_stepWord 11 = .ok (.aload_n 0, 1) := by decide +kernel
theorem dX8_stepWord_12 : decode cX8_stepWord 12 = .ok (.getfield 9, 3) := by decide +kernel
theorem dX8_stepWord_15 : decode cX8_stepWord 15 = .ok (.aload_n 0, 1) := by decide +kernel
theorem dX8_stepWord_16 : decode cX8_stepWord 16 = .ok (.getfield 19, 3) := by decide +kernel
theorem dX8_stepWord_19 : decode cX8_stepWord 19 = .ok (.baload, 1) := by decide +kernel
theorem dX8_stepWord_20 : decode cX8_stepWord 20 = .ok (.invokestatic 120, 3) := by decide +kernel
theorem dX8_stepWord_23 : decode cX8_stepWord 23 = .ok (.ifCond .eq 16, 3) := by decide +kernel
theorem dX8_stepWord_26 : decode cX8_stepWord 26 = .ok (.aload_n 0, 1) := by decide +kernel
theorem dX8_stepWord_27 : decode cX8_stepWord 27 = .ok (.dup, 1) := by decide +kernel
theorem dX8_stepWord_28 : decode cX8_stepWord 28 = .ok (.getfield 19, 3) := by decide +kernel
theorem dX8_stepWord_31 : decode cX8_stepWord 31 = .ok (.iconst 1, 1) := by decide +kernel
theorem dX8_stepWord_32 : decode cX8_stepWord 32 = .ok (.iadd, 1) := by decide +kernel
theorem dX8_stepWord_33 : decode cX8_stepWord 33 = .ok (.putfield 19, 3) := by decide +kernel
theorem dX8_stepWord_36 : decode cX8_stepWord 36 = .ok (.goto (-36), 3) := by decide +kernel
theorem dX8_stepWord_39 : decode cX8_stepWord 39 = .ok (.aload_n 0, 1) := by decide +kernel
theorem dX8_stepWord_40 : decode cX8_stepWord 40 = .ok (.ldc 132, 2) := by decide +kernel
theorem dX8_stepWord_42 : decode cX8_stepWord 42 = .ok (.invokevirtual 134, 3) := by decide +kernel
theorem dX8_stepWord_45 : decode cX8_stepWord 45 = .ok (.ifCond .eq 5, 3) := by decide +kernel
theorem dX8_stepWord_48 : decode cX8_stepWord 48 = .ok (.iconst 3, 1) := by decide +kernel
theorem dX8_stepWord_49 : decode cX8_stepWord 49 = .ok (.ireturn, 1) := by decide +kernel
theorem dX8_stepWord_50 : decode cX8_stepWord 50 = .ok (.aload_n 0, 1) := by decide +kernel
theorem dX8_stepWord_51 : decode cX8_stepWord 51 = .ok (.ldc 138, 2) := by decide +kernel
theorem dX8_stepWord_53 : decode cX8_stepWord 53 = .ok (.invokevirtual 134, 3) := by decide +kernel
theorem dX8_stepWord_56 : decode cX8_stepWord 56 = .ok (.ifCond .eq 5, 3) := by decide +kernel
theorem dX8_stepWord_59 : decode cX8_stepWord 59 = .ok (.iconst 4, 1) := by decide +kernel
theorem dX8_stepWord_60 : decode cX8_stepWord 60 = .ok (.ireturn, 1) := by decide +kernel
theorem dX8_stepWord_61 : decode cX8_stepWord 61 = .ok (.aload_n 0, 1) := by decide +kernel
theorem dX8_stepWord_62 : decode cX8_stepWord 62 = .ok (.ldc 140, 2) := by decide +kernel
theorem dX8_stepWord_64 : decode cX8_stepWord 64 = .ok (.invokevirtual 134, 3) := by decide +kernel
theorem dX8_stepWord_67 : decode cX8_stepWord 67 = .ok (.ifCond .eq 5, 3) := by decide +kernel
theorem dX8_stepWord_70 : decode cX8_stepWord 70 = .ok (.iconst 5, 1) := by decide +kernel
theorem dX8_stepWord_71 : decode cX8_stepWord 71 = .ok (.ireturn, 1) := by decide +kernel
theorem dX8_stepWord_72 : decode cX8_stepWord 72 = .ok (.aload_n 0, 1) := by decide +kernel
theorem dX8_stepWord_73 : decode cX8_stepWord 73 = .ok (.ldc 142, 2) := by decide +kernel
theorem dX8_stepWord_75 : decode cX8_stepWord 75 = .ok (.invokevirtual 134, 3) := by decide +kernel
theorem dX8_stepWord_78 : decode cX8_stepWord 78 = .ok (.ifCond .eq 8, 3) := by decide +kernel
theorem dX8_stepWord_81 : decode cX8_stepWord 81 = .ok (.bipush 6, 2) := by decide +kernel
theorem dX8_stepWord_83 : decode cX8_stepWord 83 = .ok (.goto 4, 3) := by decide +kernel
theorem dX8_stepWord_86 : decode cX8_stepWord 86 = .ok (.iconst 0, 1) := by decide +kernel
theorem dX8_stepWord_87 : decode cX8_stepWord 87 = .ok (.ireturn, 1) := by decide +kernel
theorem dX8_spells_0 : decode cX8_spells 0 = .ok (.aload_n 0, 1) := by decide +kernel
theorem dX8_spells_1 : decode cX8_spells 1 = .ok (.getfield 19, 3) := by decide +kernel
theorem dX8_spells_4 : decode cX8_spells 4 = .ok (.aload_n 0, 1) := by decide +kernel
theorem dX8_spells_5 : decode cX8_spells 5 = .ok (.getfield 22, 3) := by decide +kernel
theorem dX8_spells_8 : decode cX8_spells 8 = .ok (.isub, 1) := by decide +kernel
theorem dX8_spells_9 : decode cX8_spells 9 = .ok (.aload_n 1, 1) := by decide +kernel
theorem dX8_spells_10 : decode cX8_spells 10 = .ok (.invokevirtual 143, 3) := by decide +kernel
theorem dX8_spells_13 : decode cX8_spells 13 = .ok (.if_icmp .eq 5, 3) := by decide +kernel
theorem dX8_spells_16 : decode cX8_spells 16 = .ok (.iconst 0, 1) := by decide +kernel
theorem dX8_spells_17 : decode cX8_spells 17 = .ok (.ireturn, 1) := by decide +kernel
theorem dX8_spells_18 : decode cX8_spells 18 = .ok (.aload_n 0, 1) := by decide +kernel
theorem dX8_spells_19 : decode cX8_spells 19 = .ok (.getfield 22, 3) := by decide +kernel
theorem dX8_spells_22 : decode cX8_spells 22 = .ok (.istore_n 2, 1) := by decide +kernel
theorem dX8_spells_23 : decode cX8_spells 23 = .ok (.iload_n 2, 1) := by decide +kernel
theorem dX8_spells_24 : decode cX8_spells 24 = .ok (.aload_n 0, 1) := by decide +kernel
theorem dX8_spells_25 : decode cX8_spells 25 = .ok (.getfield 19, 3) := by decide +kernel
theorem dX8_spells_28 : decode cX8_spells 28 = .ok (.if_icmp .ge 30, 3) := by decide +kernel
theorem dX8_spells_31 : decode cX8_spells 31 = .ok (.aload_n 0, 1) := by decide +kernel
theorem dX8_spells_32 : decode cX8_spells 32 = .ok (.getfield 9, 3) := by decide +kernel
theorem dX8_spells_35 : decode cX8_spells 35 = .ok (.iload_n 2, 1) := by decide +kernel
theorem dX8_spells_36 : decode cX8_spells 36 = .ok (.baload, 1) := by decide +kernel
theorem dX8_spells_37 : decode cX8_spells 37 = .ok (.aload_n 1, 1) := by decide +kernel
theorem dX8_spells_38 : decode cX8_spells 38 = .ok (.iload_n 2, 1) := by decide +kernel
theorem dX8_spells_39 : decode cX8_spells 39 = .ok (.aload_n 0, 1) := by decide +kernel
theorem dX8_spells_40 : decode cX8_spells 40 = .ok (.getfield 22, 3) := by decide +kernel
theorem dX8_spells_43 : decode cX8_spells 43 = .ok (.isub, 1) := by decide +kernel
theorem dX8_spells_44 : decode cX8_spells 44 = .ok (.invokevirtual 147, 3) := by decide +kernel
theorem dX8_spells_47 : decode cX8_spells 47 = .ok (.if_icmp .eq 5, 3) := by decide +kernel
theorem dX8_spells_50 : decode cX8_spells 50 = .ok (.iconst 0, 1) := by decide +kernel
theorem dX8_spells_51 : decode cX8_spells 51 = .ok (.ireturn, 1) := by decide +kernel
theorem dX8_spells_52 : decode cX8_spells 52 = .ok (.iinc 2 1, 3) := by decide +kernel
theorem dX8_spells_55 : decode cX8_spells 55 = .ok (.goto (-32), 3) := by decide +kernel
theorem dX8_spells_58 : decode cX8_spells 58 = .ok (.iconst 1, 1) := by decide +kernel
theorem dX8_spells_59 : decode cX8_spells 59 = .ok (.ireturn, 1) := by decide +kernel
theorem dX8_isDigit_0 : decode cX8_isDigit 0 = .ok (.iload_n 0, 1) := by decide +kernel
theorem dX8_isDigit_1 : decode cX8_isDigit 1 = .ok (.bipush 48, 2) := by decide +kernel
theorem dX8_isDigit_3 : decode cX8_isDigit 3 = .ok (.if_icmp .lt 13, 3) := by decide +kernel
theorem dX8_isDigit_6 : decode cX8_isDigit 6 = .ok (.iload_n 0, 1) := by decide +kernel
theorem dX8_isDigit_7 : decode cX8_isDigit 7 = .ok (.bipush 57, 2) := by decide +kernel
theorem dX8_isDigit_9 : decode cX8_isDigit 9 = .ok (.if_icmp .gt 7, 3) := by decide +kernel
theorem dX8_isDigit_12 : decode cX8_isDigit 12 = .ok (.iconst 1, 1) := by decide +kernel
theorem dX8_isDigit_13 : decode cX8_isDigit 13 = .ok (.goto 4, 3) := by decide +kernel
theorem dX8_isDigit_16 : decode cX8_isDigit 16 = .ok (.iconst 0, 1) := by decide +kernel
theorem dX8_isDigit_17 : decode cX8_isDigit 17 = .ok (.ireturn, 1) := by decide +kernel
theorem dX8_isLetter_0 : decode cX8_isLetter 0 = .ok (.iload_n 0, 1) := by decide +kernel
theorem dX8_isLetter_1 : decode cX8_isLetter 1 = .ok (.bipush 97, 2) := by decide +kernel
theorem dX8_isLetter_3 : decode cX8_isLetter 3 = .ok (.if_icmp .lt 13, 3) := by decide +kernel
theorem dX8_isLetter_6 : decode cX8_isLetter 6 = .ok (.iload_n 0, 1) := by decide +kernel
theorem dX8_isLetter_7 : decode cX8_isLetter 7 = .ok (.bipush 122, 2) := by decide +kernel
theorem dX8_isLetter_9 : decode cX8_isLetter 9 = .ok (.if_icmp .gt 7, 3) := by decide +kernel
theorem dX8_isLetter_12 : decode cX8_isLetter 12 = .ok (.iconst 1, 1) := by decide +kernel
theorem dX8_isLetter_13 : decode cX8_isLetter 13 = .ok (.goto 4, 3) := by decide +kernel
theorem dX8_isLetter_16 : decode cX8_isLetter 16 = .ok (.iconst 0, 1) := by decide +kernel
theorem dX8_isLetter_17 : decode cX8_isLetter 17 = .ok (.ireturn, 1) := by decide +kernel
theorem dX8_isSign_0 : decode cX8_isSign 0 = .ok (.iconst 0, 1) := by decide +kernel
theorem dX8_isSign_1 : decode cX8_isSign 1 = .ok (.istore_n 1, 1) := by decide +kernel
theorem dX8_isSign_2 : decode cX8_isSign 2 = .ok (.iload_n 1, 1) := by decide +kernel
theorem dX8_isSign_3 : decode cX8_isSign 3 = .ok (.ldc 151, 2) := by decide +kernel
theorem dX8_isSign_5 : decode cX8_isSign 5 = .ok (.invokevirtual 143, 3) := by decide +kernel
theorem dX8_isSign_8 : decode cX8_isSign 8 = .ok (.if_icmp .ge 21, 3) := by decide +kernel
theorem dX8_isSign_11 : decode cX8_isSign 11 = .ok (.ldc 151, 2) := by decide +kernel
theorem dX8_isSign_13 : decode cX8_isSign 13 = .ok (.iload_n 1, 1) := by decide +kernel
theorem dX8_isSign_14 : decode cX8_isSign 14 = .ok (.invokevirtual 147, 3) := by decide +kernel
theorem dX8_isSign_17 : decode cX8_isSign 17 = .ok (.iload_n 0, 1) := by decide +kernel
theorem dX8_isSign_18 : decode cX8_isSign 18 = .ok (.if_icmp .ne 5, 3) := by decide +kernel
theorem dX8_isSign_21 : decode cX8_isSign 21 = .ok (.iconst 1, 1) := by decide +kernel
theorem dX8_isSign_22 : decode cX8_isSign 22 = .ok (.ireturn, 1) := by decide +kernel
theorem dX8_isSign_23 : decode cX8_isSign 23 = .ok (.iinc 1 1, 3) := by decide +kernel
theorem dX8_isSign_26 : decode cX8_isSign 26 = .ok (.goto (-24), 3) := by decide +kernel
theorem dX8_isSign_29 : decode cX8_isSign 29 = .ok (.iconst 0, 1) := by decide +kernel
theorem dX8_isSign_30 : decode cX8_isSign 30 = .ok (.ireturn, 1) := by decide +kernel
theorem dX9_init_0 : decode cX9_init 0 = .ok (.aload_n 0, 1) := by decide +kernel
theorem dX9_init_1 : decode cX9_init 1 = .ok (.invokespecial 1, 3) := by decide +kernel
theorem dX9_init_4 : decode cX9_init 4 = .ok (.aload_n 0, 1) := by decide +kernel
theorem dX9_init_5 : decode cX9_init 5 = .ok (.iconst 1, 1) := by decide +kernel
theorem dX9_init_6 : decode cX9_init 6 = .ok (.putfield 7, 3) := by decide +kernel
theorem dX9_init_9 : decode cX9_init 9 = .ok (.aload_n 0, 1) := by decide +kernel
theorem dX9_init_10 : decode cX9_init 10 = .ok (.iconst 1, 1) := by decide +kernel
theorem dX9_init_11 : decode cX9_init 11 = .ok (.putfield 13, 3) := by decide +kernel
theorem dX9_init_14 : decode cX9_init 14 = .ok (.aload_n 0, 1) := by decide +kernel
theorem dX9_init_15 : decode cX9_init 15 = .ok (.iconst 1, 1) := by decide +kernel
theorem dX9_init_16 : decode cX9_init 16 = .ok (.putfield 16, 3) := by decide +kernel
theorem dX9_init_19 : decode cX9_init 19 = .ok (.return_, 1) := by decide +kernel
theorem dX9_forgetChoices_0 : decode cX9_forgetChoices 0 = .ok (.aload_n 0, 1) := by decide +kernel
theorem dX9_forgetChoices_1 : decode cX9_forgetChoices 1 = .ok (.iconst 0, 1) := by decide +kernel
theorem dX9_forgetChoices_2 : decode cX9_forgetChoices 2 = .ok (.putfield 19, 3) := by decide +kernel
theorem dX9_forgetChoices_5 : decode cX9_forgetChoices 5 = .ok (.aload_n 0, 1) := by decide +kernel
theorem dX9_forgetChoices_6 : decode cX9_forgetChoices 6 = .ok (.iconst 1, 1) := by decide +kernel
theorem dX9_forgetChoices_7 : decode cX9_forgetChoices 7 = .ok (.putfield 13, 3) := by decide +kernel
theorem dX9_forgetChoices_10 : decode cX9_forgetChoices 10 = .ok (.aload_n 0, 1) := by decide +kernel
theorem dX9_forgetChoices_11 : decode cX9_forgetChoices 11 = .ok (.iconst 1, 1) := by decide +kernel
theorem dX9_forgetChoices_12 : decode cX9_forgetChoices 12 = .ok (.putfield 16, 3) := by decide +kernel
theorem dX9_forgetChoices_15 : decode cX9_forgetChoices 15 = .ok (.aload_n 0, 1) := by decide +kernel
theorem dX9_forgetChoices_16 : decode cX9_forgetChoices 16 = .ok (.iconst 0, 1) := by decide +kernel
theorem dX9_forgetChoices_17 : decode cX9_forgetChoices 17 = .ok (.putfield 22, 3) := by decide +kernel
theorem dX9_forgetChoices_20 : decode cX9_forgetChoices 20 = .ok (.return_, 1) := by decide +kernel
theorem dX9_holds_0 : decode cX9_holds 0 = .ok (.aload_n 0, 1) := by decide +kernel
theorem dX9_holds_1 : decode cX9_holds 1 = .ok (.getfield 26, 3) := by decide +kernel
theorem dX9_holds_4 : decode cX9_holds 4 = .ok (.iload_n 1, 1) := by decide +kernel
theorem dX9_holds_5 : decode cX9_holds 5 = .ok (.if_icmp .ne 30, 3) := by decide +kernel
theorem dX9_holds_8 : decode cX9_holds 8 = .ok (.aload_n 0, 1) := by decide +kernel
theorem dX9_holds_9 : decode cX9_holds 9 = .ok (.getfield 29, 3) := by decide +kernel
theorem dX9_holds_12 : decode cX9_holds 12 = .ok (.iload_n 2, 1) := by decide +kernel
theorem dX9_holds_13 : decode cX9_holds 13 = .ok (.if_icmp .ne 22, 3) := by decide +kernel
theorem dX9_holds_16 : decode cX9_holds 16 = .ok (.iload_n 3, 1) := by decide +kernel
theorem dX9_holds_17 : decode cX9_holds 17 = .ok (.aload_n 0, 1) := by decide +kernel
theorem dX9_holds_18 : decode cX9_holds 18 = .ok (.getfield 32, 3) := by decide +kernel
theorem dX9_holds_21 : decode cX9_holds 21 = .ok (.aload_n 0, 1) := by decide +kernel
theorem dX9_holds_22 : decode cX9_holds 22 = .ok (.getfield 35, 3) := by decide +kernel
theorem dX9_holds_25 : decode cX9_holds 25 = .ok (.invokestatic 38, 3) := by decide +kernel
theorem dX9_holds_28 : decode cX9_holds 28 = .ok (.ifCond .eq 7, 3) := by decide +kernel
theorem dX9_holds_31 : decode cX9_holds 31 = .ok (.iconst 1, 1) := by decide +kernel
theorem dX9_holds_32 : decode cX9_holds 32 = .ok (.goto 4, 3) := by decide +kernel
theorem dX9_holds_35 : decode cX9_holds 35 = .ok (.iconst 0, 1) := by decide +kernel
theorem dX9_holds_36 : decode cX9_holds 36 = .ok (.ireturn, 1) := by decide +kernel
theorem dX9_sumFor_0 : decode cX9_sumFor 0 = .ok (.aload_n 0, 1) := by decide +kernel
theorem dX9_sumFor_1 : decode cX9_sumFor 1 = .ok (.getfield 7, 3) := by decide +kernel
theorem dX9_sumFor_4 : decode cX9_sumFor 4 = .ok (.ifCond .le 14, 3) := by decide +kernel
theorem dX9_sumFor_7 : decode cX9_sumFor 7 = .ok (.iload_n 1, 1) := by decide +kernel
theorem dX9_sumFor_8 : decode cX9_sumFor 8 = .ok (.iconst 1, 1) := by decide +kernel
theorem dX9_sumFor_9 : decode cX9_sumFor 9 = .ok (.isub, 1) := by decide +kernel
theorem dX9_sumFor_10 : decode cX9_sumFor 10 = .ok (.aload_n 0, 1) := by decide +kernel
theorem dX9_sumFor_11 : decode cX9_sumFor 11 = .ok (.getfield 7, 3) := by decide +kernel
theorem dX9_sumFor_14 : decode cX9_sumFor 14 = .ok (.idiv, 1) := by decide +kernel
theorem dX9_sumFor_15 : decode cX9_sumFor 15 = .ok (.goto 4, 3) := by decide +kernel
theorem dX9_sumFor_18 : decode cX9_sumFor 18 = .ok (.iconst 0, 1) := by decide +kernel
theorem dX9_sumFor_19 : decode cX9_sumFor 19 = .ok (.istore_n 2, 1) := by decide +kernel
theorem dX9_sumFor_20 : decode cX9_sumFor 20 = .ok (.aload_n 0, 1) := by decide +kernel
theorem dX9_sumFor_21 : decode cX9_sumFor 21 = .ok (.getfield 44, 3) := by decide +kernel
theorem dX9_sumFor_24 : decode cX9_sumFor 24 = .ok (.aload_n 0, 1) := by decide +kernel
theorem dX9_sumFor_25 : decode cX9_sumFor 25 = .ok (.getfield 19, 3) := by decide +kernel
theorem dX9_sumFor_28 : decode cX9_sumFor 28 = .ok (.iload_n 2, 1) := by decide +kernel
theorem dX9_sumFor_29 : decode cX9_sumFor 29 = .ok (.imul, 1) := by decide +kernel
theorem dX9_sumFor_30 : decode cX9_sumFor 30 = .ok (.iadd, 1) := by decide +kernel
theorem dX9_sumFor_31 : decode cX9_sumFor 31 = .ok (.ireturn, 1) := by decide +kernel
theorem dX9_partOf_0 : decode cX9_partOf 0 = .ok (.aload_n 0, 1) := by decide +kernel
theorem dX9_partOf_1 : decode cX9_partOf 1 = .ok (.getfield 16, 3) := by decide +kernel
theorem dX9_partOf_4 : decode cX9_partOf 4 = .ok (.ifCond .le 17, 3) := by decide +kernel
theorem dX9_partOf_7 : decode cX9_partOf 7 = .ok (.iload_n 1, 1) := by decide +kernel
theorem dX9_partOf_8 : decode cX9_partOf 8 = .ok (.aload_n 0, 1) := by decide +kernel
theorem dX9_partOf_9 : decode cX9_partOf 9 = .ok (.getfield 13, 3) := by decide +kernel
theorem dX9_partOf_12 : decode cX9_partOf 12 = .ok (.imul, 1) := by decide +kernel
theorem dX9_partOf_13 : decode cX9_partOf 13 = .ok (.aload_n 0, 1) := by decide +kernel
theorem dX9_partOf_14 : decode cX9_partOf 14 = .ok (.getfield 16, 3) := by decide +kernel
theorem dX9_partOf_17 : decode cX9_partOf 17 = .ok (.idiv, 1) := by decide +kernel
theorem dX9_partOf_18 : decode cX9_partOf 18 = .ok (.goto 4, 3) := by decide +kernel
theorem dX9_partOf_21 : decode cX9_partOf 21 = .ok (.iload_n 1, 1) := by decide +kernel
theorem dX9_partOf_22 : decode cX9_partOf 22 = .ok (.ireturn, 1) := by decide +kernel
theorem dX10_init_0 : decode cX10_init 0 = .ok (.aload_n 0, 1) := by decide +kernel
theorem dX10_init_1 : decode cX10_init 1 = .ok (.invokespecial 3, 3) := by decide +kernel
theorem dX10_init_4 : decode cX10_init 4 = .ok (.aload_n 0, 1) := by decide +kernel
theorem dX10_init_5 : decode cX10_init 5 = .ok (.bipush 20, 2) := by decide +kernel
theorem dX10_init_7 : decode cX10_init 7 = .ok (.newarray .int, 2) := by decide +kernel
theorem dX10_init_9 : decode cX10_init 9 = .ok (.putfield 9, 3) := by decide +kernel
theorem dX10_init_12 : decode cX10_init 12 = .ok (.aload_n 0, 1) := by decide +kernel
theorem dX10_init_13 : decode cX10_init 13 = .ok (.bipush 20, 2) := by decide +kernel
theorem dX10_init_15 : decode cX10_init 15 = .ok (.newarray .int, 2) := by decide +kernel
theorem dX10_init_17 : decode cX10_init 17 = .ok (.putfield 15, 3) := by decide +kernel
theorem dX10_init_20 : decode cX10_init 20 = .ok (.aload_n 0, 1) := by decide +kernel
theorem dX10_init_21 : decode cX10_init 21 = .ok (.bipush 20, 2) := by decide +kernel
theorem dX10_init_23 : decode cX10_init 23 = .ok (.newarray .int, 2) := by decide +kernel
theorem dX10_init_25 : decode cX10_init 25 = .ok (.putfield 18, 3) := by decide +kernel
theorem dX10_init_28 : decode cX10_init 28 = .ok (.aload_n 0, 1) := by decide +kernel
theorem dX10_init_29 : decode cX10_init 29 = .ok (.bipush 20, 2) := by decide +kernel
theorem dX10_init_31 : decode cX10_init 31 = .ok (.newarray .int, 2) := by decide +kernel
theorem dX10_init_33 : decode cX10_init 33 = .ok (.putfield 21, 3) := by decide +kernel
theorem dX10_init_36 : decode cX10_init 36 = .ok (.aload_n 0, 1) := by decide +kernel
theorem dX10_init_37 : decode cX10_init 37 = .ok (.bipush 6, 2) := by decide +kernel
theorem dX10_init_39 : decode cX10_init 39 = .ok (.bipush 6, 2) := by decide +kernel
theorem dX10_init_41 : decode cX10_init 41 = .ok (.multianewarray 24 2, 4) := by decide +kernel
theorem dX10_init_45 : decode cX10_init 45 = .ok (.putfield 26, 3) := by decide +kernel
theorem dX10_init_48 : decode cX10_init 48 = .ok (.aload_n 0, 1) := by decide +kernel
theorem dX10_init_49 : decode cX10_init 49 = .ok (.bipush 6, 2) := by decide +kernel
theorem dX10_init_51 : decode cX10_init 51 = .ok (.newarray .int, 2) := by decide +kernel
theorem dX10_init_53 : decode cX10_init 53 = .ok (.putfield 29, 3) := by decide +kernel
theorem dX10_init_56 : decode cX10_init 56 = .ok (.aload_n 0, 1) := by decide +kernel
theorem dX10_init_57 : decode cX10_init 57 = .ok (.bipush 6, 2) := by decide +kernel
theorem dX10_init_59 : decode cX10_init 59 = .ok (.newarray .int, 2) := by decide +kernel
theorem dX10_init_61 : decode cX10_init 61 = .ok (.putfield 32, 3) := by decide +kernel
theorem dX10_init_64 : decode cX10_init 64 = .ok (.aload_n 0, 1) := by decide +kernel
theorem dX10_init_65 : decode cX10_init 65 = .ok (.iconst 0, 1) := by decide +kernel
theorem dX10_init_66 : decode cX10_init 66 = .ok (.putfield 35, 3) := by decide +kernel
theorem dX10_init_69 : decode cX10_init 69 = .ok (.iconst 0, 1) := by decide +kernel
theorem dX10_init_70 : decode cX10_init 70 = .ok (.istore_n 1, 1) := by decide +kernel
theorem dX10_init_71 : decode cX10_init 71 = .ok (.iload_n 1, 1) := by decide +kernel
theorem dX10_init_72 : decode cX10_init 72 = .ok (.bipush 6, 2) := by decide +kernel
theorem dX10_init_74 : decode cX10_init 74 = .ok (.if_icmp .ge 20, 3) := by decide +kernel
theorem dX10_init_77 : decode cX10_init 77 = .ok (.aload_n 0, 1) := by decide +kernel
theorem dX10_init_78 : decode cX10_init 78 = .ok (.getfield 26, 3) := by decide +kernel
theorem dX10_init_81 : decode cX10_init 81 = .ok (.iload_n 1, 1) := by decide +kernel
theorem dX10_init_82 : decode cX10_init 82 = .ok (.aaload, 1) := by decide +kernel
theorem dX10_init_83 : decode cX10_init 83 = .ok (.bipush (-9), 2) := by decide +kernel
theorem dX10_init_85 : decode cX10_init 85 = .ok (.invokestatic 39, 3) := by decide +kernel
theorem dX10_init_88 : decode cX10_init 88 = .ok (.iinc 1 1, 3) := by decide +kernel
theorem dX10_init_91 : decode cX10_init 91 = .ok (.goto (-20), 3) := by decide +kernel
theorem dX10_init_94 : decode cX10_init 94 = .ok (.return_, 1) := by decide +kernel
theorem dX10_addSailing_0 : decode cX10_addSailing 0 = .ok (.aload_n 0, 1) := by decide +kernel
theorem dX10_addSailing_1 : decode cX10_addSailing 1 = .ok (.getfield 9, 3) := by decide +kernel
theorem dX10_addSailing_4 : decode cX10_addSailing 4 = .ok (.aload_n 0, 1) := by decide +kernel
theorem dX10_addSailing_5 : decode cX10_addSailing 5 = .ok (.getfield 35, 3) := by decide +kernel
theorem dX10_addSailing_8 : decode cX10_addSailing 8 = .ok (.iload_n 1, 1) := by decide +kernel
theorem dX10_addSailing_9 : decode cX10_addSailing 9 = .ok (.iastore, 1) := by decide +kernel
theorem dX10_addSailing_10 : decode cX10_addSailing 10 = .ok (.aload_n 0, 1) := by decide +kernel
theorem dX10_addSailing_11 : decode cX10_addSailing 11 = .ok (.getfield 15, 3) := by decide +kernel
theorem dX10_addSailing_14 : decode cX10_addSailing 14 = .ok (.aload_n 0, 1) := by decide +kernel
theorem dX10_addSailing_15 : decode cX10_addSailing 15 = .ok (.getfield 35, 3) := by decide +kernel
theorem dX10_addSailing_18 : decode cX10_addSailing 18 = .ok (.iload_n 2, 1) := by decide +kernel
theorem dX10_addSailing_19 : decode cX10_addSailing 19 = .ok (.iastore, 1) := by decide +kernel
theorem dX10_addSailing_20 : decode cX10_addSailing 20 = .ok (.aload_n 0, 1) := by decide +kernel
theorem dX10_addSailing_21 : decode cX10_addSailing 21 = .ok (.getfield 18, 3) := by decide +kernel
theorem dX10_addSailing_24 : decode cX10_addSailing 24 = .ok (.aload_n 0, 1) := by decide +kernel
theorem dX10_addSailing_25 : decode cX10_addSailing 25 = .ok (.getfield 35, 3) := by decide +kernel
theorem dX10_addSailing_28 : decode cX10_addSailing 28 = .ok (.iload_n 3, 1) := by decide +kernel
theorem dX10_addSailing_29 : decode cX10_addSailing 29 = .ok (.iastore, 1) := by decide +kernel
theorem dX10_addSailing_30 : decode cX10_addSailing 30 = .ok (.aload_n 0, 1) := by decide +kernel
theorem dX10_addSailing_31 : decode cX10_addSailing 31 = .ok (.getfield 21, 3) := by decide +kernel
theorem dX10_addSailing_34 : decode cX10_addSailing 34 = .ok (.aload_n 0, 1) := by decide +kernel
theorem dX10_addSailing_35 : decode cX10_addSailing 35 = .ok (.getfield 35, 3) := by decide +kernel
theorem dX10_addSailing_38 : decode cX10_addSailing 38 = .ok (.iload 4, 2) := by decide +kernel
theorem dX10_addSailing_40 : decode cX10_addSailing 40 = .ok (.iastore, 1) := by decide +kernel
theorem dX10_addSailing_41 : decode cX10_addSailing 41 = .ok (.aload_n 0, 1) := by decide +kernel
theorem dX10_addSailing_42 : decode cX10_addSailing 42 = .ok (.dup, 1) := by decide +kernel
theorem dX10_addSailing_43 : decode cX10_addSailing 43 = .ok (.getfield 35, 3) := by decide +kernel
theorem dX10_addSailing_46 : decode cX10_addSailing 46 = .ok (.dup_x1, 1) := by decide +kernel
theorem dX10_addSailing_47 : decode cX10_addSailing 47 = .ok (.iconst 1, 1) := by decide +kernel
theorem dX10_addSailing_48 : decode cX10_addSailing 48 = .ok (.iadd, 1) := by decide +kernel
theorem dX10_addSailing_49 : decode cX10_addSailing 49 = .ok (.putfield 35, 3) := by decide +kernel
theorem dX10_addSailing_52 : decode cX10_addSailing 52 = .ok (.ireturn, 1) := by decide +kernel
theorem dX10_lostSailings_0 : decode cX10_lostSailings 0 = .ok (.iconst 0, 1) := by decide +kernel
theorem dX10_lostSailings_1 : decode cX10_lostSailings 1 = .ok (.istore_n 1, 1) := by decide +kernel
theorem dX10_lostSailings_2 : decode cX10_lostSailings 2 = .ok (.iconst 0, 1) := by decide +kernel
theorem dX10_lostSailings_3 : decode cX10_lostSailings 3 = .ok (.istore_n 2, 1) := by decide +kernel
theorem dX10_lostSailings_4 : decode cX10_lostSailings 4 = .ok (.iload_n 2, 1) := by decide +kernel
theorem dX10_lostSailings_5 : decode cX10_lostSailings 5 = .ok (.aload_n 0, 1) := by decide +kernel
theorem dX10_lostSailings_6 : decode cX10_lostSailings 6 = .ok (.getfield 35, 3) := by decide +kernel
theorem dX10_lostSailings_9 : decode cX10_lostSailings 9 = .ok (.if_icmp .ge 28, 3) := by decide +kernel
theorem dX10_lostSailings_12 : decode cX10_lostSailings 12 = .ok (.iload_n 1, 1) := by decide +kernel
theorem dX10_lostSailings_13 : decode cX10_lostSailings 13 = .ok (.aload_n 0, 1) := by decide +kernel
theorem dX10_lostSailings_14 : decode cX10_lostSailings 14 = .ok (.getfield 21, 3) := by decide +kernel
theorem dX10_lostSailings_17 : decode cX10_lostSailings 17 = .ok (.iload_n 2, 1) := by decide +kernel
theorem dX10_lostSailings_18 : decode cX10_lostSailings 18 = .ok (.iaload, 1) := by decide +kernel
theorem dX10_lostSailings_19 : decode cX10_lostSailings 19 = .ok (.bipush (-9), 2) := by decide +kernel
theorem dX10_lostSailings_21 : decode cX10_lostSailings 21 = .ok (.if_icmp .ne 7, 3) := by decide +kernel
theorem dX10_lostSailings_24 : decode cX10_lostSailings 24 = .ok (.iconst 1, 1) := by decide +kernel
theorem dX10_lostSailings_25 : decode cX10_lostSailings 25 = .ok (.goto 4, 3) := by decide +kernel
theorem dX10_lostSailings_28 : decode cX10_lostSailings 28 = .ok (.iconst 0, 1) := by decide +kernel
theorem dX10_lostSailings_29 : decode cX10_lostSailings 29 = .ok (.iadd, 1) := by decide +kernel
theorem dX10_lostSailings_30 : decode cX10_lostSailings 30 = .ok (.istore_n 1, 1) := by decide +kernel
theorem dX10_lostSailings_31 : decode cX10_lostSailings 31 = .ok (.iinc 2 1, 3) := by decide +kernel
theorem dX10_lostSailings_34 : decode cX10_lostSailings 34 = .ok (.goto (-30), 3) := by decide +kernel
theorem dX10_lostSailings_37 : decode cX10_lostSailings 37 = .ok (.iload_n 1, 1) := by decide +kernel
theorem dX10_lostSailings_38 : decode cX10_lostSailings 38 = .ok (.ireturn, 1) := by decide +kernel
theorem dX10_spreadFrom_0 : decode cX10_spreadFrom 0 = .ok (.aload_n 0, 1) := by decide +kernel
theorem dX10_spreadFrom_1 : decode cX10_spreadFrom 1 = .ok (.getfield 29, 3) := by decide +kernel
theorem dX10_spreadFrom_4 : decode cX10_spreadFrom 4 = .ok (.sipush 1000, 3) := by decide +kernel
theorem dX10_spreadFrom_7 : decode cX10_spreadFrom 7 = .ok (.invokestatic 39, 3) := by decide +kernel
theorem dX10_spreadFrom_10 : decode cX10_spreadFrom 10 = .ok (.aload_n 0, 1) := by decide +kernel
theorem dX10_spreadFrom_11 : decode cX10_spreadFrom 11 = .ok (.getfield 29, 3) := by decide +kernel
theorem dX10_spreadFrom_14 : decode cX10_spreadFrom 14 = .ok (.iload_n 1, 1) := by decide +kernel
theorem dX10_spreadFrom_15 : decode cX10_spreadFrom 15 = .ok (.iload_n 2, 1) := by decide +kernel
theorem dX10_spreadFrom_16 : decode cX10_spreadFrom 16 = .ok (.iastore, 1) := by decide +kernel
theorem dX10_spreadFrom_17 : decode cX10_spreadFrom 17 = .ok (.iconst 1, 1) := by decide +kernel
theorem dX10_spreadFrom_18 : decode cX10_spreadFrom 18 = .ok (.istore_n 3, 1) := by decide +kernel
theorem dX10_spreadFrom_19 : decode cX10_spreadFrom 19 = .ok (.iconst 0, 1) := by decide +kernel
theorem dX10_spreadFrom_20 : decode cX10_spreadFrom 20 = .ok (.istore 4, 2) := by decide +kernel
theorem dX10_spreadFrom_22 : decode cX10_spreadFrom 22 = .ok (.iload 4, 2) := by decide +kernel
theorem dX10_spreadFrom_24 : decode cX10_spreadFrom 24 = .ok (.bipush 6, 2) := by decide +kernel
theorem dX10_spreadFrom_26 : decode cX10_spreadFrom 26 = .ok (.if_icmp .ge 35, 3) := by decide +kernel
theorem dX10_spreadFrom_29 : decode cX10_spreadFrom 29 = .ok (.iload_n 3, 1) := by decide +kernel
theorem dX10_spreadFrom_30 : decode cX10_spreadFrom 30 = .ok (.ifCond .eq 31, 3) := by decide +kernel
theorem dX10_spreadFrom_33 : decode cX10_spreadFrom 33 = .ok (.aload_n 0, 1) := by decide +kernel
theorem dX10_spreadFrom_34 : decode cX10_spreadFrom 34 = .ok (.invokevirtual 45, 3) := by decide +kernel
theorem dX10_spreadFrom_37 : decode cX10_spreadFrom 37 = .ok (.istore_n 3, 1) := by decide +kernel
theorem dX10_spreadFrom_38 : decode cX10_spreadFrom 38 = .ok (.aload_n 0, 1) := by decide +kernel
theorem dX10_spreadFrom_39 : decode cX10_spreadFrom 39 = .ok (.invokevirtual 49, 3) := by decide +kernel
theorem dX10_spreadFrom_42 : decode cX10_spreadFrom 42 = .ok (.ifCond .ne 7, 3) := by decide +kernel
theorem dX10_spreadFrom_45 : decode cX10_spreadFrom 45 = .ok (.iload_n 3, 1) := by decide +kernel
theorem dX10_spreadFrom_46 : decode cX10_spreadFrom 46 = .ok (.ifCond .eq 7, 3) := by decide +kernel
theorem dX10_spreadFrom_49 : decode cX10_spreadFrom 49 = .ok (.iconst 1, 1) := by decide +kernel
theorem dX10_spreadFrom_50 : decode cX10_spreadFrom 50 = .ok (.goto 4, 3) := by decide +kernel
theorem dX10_spreadFrom_53 : decode cX10_spreadFrom 53 = .ok (.iconst 0, 1) := by decide +kernel
theorem dX10_spreadFrom_54 : decode cX10_spreadFrom 54 = .ok (.istore_n 3, 1) := by decide +kernel
theorem dX10_spreadFrom_55 : decode cX10_spreadFrom 55 = .ok (.iinc 4 1, 3) := by decide +kernel
theorem dX10_spreadFrom_58 : decode cX10_spreadFrom 58 = .ok (.goto (-36), 3) := by decide +kernel
theorem dX10_spreadFrom_61 : decode cX10_spreadFrom 61 = .ok (.return_, 1) := by decide +kernel
theorem dX10_spreadBySailings_0 : decode cX10_spreadBySailings 0 = .ok (.iconst 0, 1) := by decide +kernel
theorem dX10_spreadBySailings_1 : decode cX10_spreadBySailings 1 = .ok (.istore_n 1, 1) := by decide +kernel
theorem dX10_spreadBySailings_2 : decode cX10_spreadBySailings 2 = .ok (.iconst 0, 1) := by decide +kernel
theorem dX10_spreadBySailings_3 : decode cX10_spreadBySailings 3 = .ok (.istore_n 2, 1) := by decide +kernel
theorem dX10_spreadBySailings_4 : decode cX10_spreadBySailings 4 = .ok (.iload_n 2, 1) := by decide +kernel
theorem dX10_spreadBySailings_5 : decode cX10_spreadBySailings 5 = .ok (.aload_n 0, 1) := by decide +kernel
theorem dX10_spreadBySailings_6 : decode cX10_spreadBySailings 6 = .ok (.getfield 35, 3) := by decide +kernel
theorem dX10_spreadBySailings_9 : decode cX10_spreadBySailings 9 = .ok (.if_icmp .ge 79, 3) := by decide +kernel
theorem dX10_spreadBySailings_12 : decode cX10_spreadBySailings 12 = .ok (.aload_n 0, 1) := by decide +kernel
theorem dX10_spreadBySailings_13 : decode cX10_spreadBySailings 13 = .ok (.getfield 21, 3) := by decide +kernel
theorem dX10_spreadBySailings_16 : decode cX10_spreadBySailings 16 = .ok (.iload_n 2, 1) := by decide +kernel
theorem dX10_spreadBySailings_17 : decode cX10_spreadBySailings 17 = .ok (.iaload, 1) := by decide +kernel
theorem dX10_spreadBySailings_18 : decode cX10_spreadBySailings 18 = .ok (.bipush (-9), 2) := by decide +kernel
theorem dX10_spreadBySailings_20 : decode cX10_spreadBySailings 20 = .ok (.if_icmp .eq 62, 3) := by decide +kernel
theorem dX10_spreadBySailings_23 : decode cX10_spreadBySailings 23 = .ok (.aload_n 0, 1) := by decide +kernel
theorem dX10_spreadBySailings_24 : decode cX10_spreadBySailings 24 = .ok (.getfield 29, 3) := by decide +kernel
theorem dX10_spreadBySailings_27 : decode cX10_spreadBySailings 27 = .ok (.aload_n 0, 1) := by decide +kernel
theorem dX10_spreadBySailings_28 : decode cX10_spreadBySailings 28 = .ok (.getfield 9, 3) := by decide +kernel
theorem dX10_spreadBySailings_31 : decode cX10_spreadBySailings 31 = .ok (.iload_n 2, 1) := by decide +kernel
theorem dX10_spreadBySailings_32 : decode cX10_spreadBySailings 32 = .ok (.iaload, 1) := by decide +kernel
theorem dX10_spreadBySailings_33 : decode cX10_spreadBySailings 33 = .ok (.iaload, 1) := by decide +kernel
theorem dX10_spreadBySailings_34 : decode cX10_spreadBySailings 34 = .ok (.aload_n 0, 1) := by decide +kernel
theorem dX10_spreadBySailings_35 : decode cX10_spreadBySailings 35 = .ok (.getfield 18, 3) := by decide +kernel
theorem dX10_spreadBySailings_38 : decode cX10_spreadBySailings 38 = .ok (.iload_n 2, 1) := by decide +kernel
theorem dX10_spreadBySailings_39 : decode cX10_spreadBySailings 39 = .ok (.iaload, 1) := by decide +kernel
theorem dX10_spreadBySailings_40 : decode cX10_spreadBySailings 40 = .ok (.if_icmp .gt 42, 3) := by decide +kernel
theorem dX10_spreadBySailings_43 : decode cX10_spreadBySailings 43 = .ok (.aload_n 0, 1) := by decide +kernel
theorem dX10_spreadBySailings_44 : decode cX10_spreadBySailings 44 = .ok (.getfield 21, 3) := by decide +kernel
theorem dX10_spreadBySailings_47 : decode cX10_spreadBySailings 47 = .ok (.iload_n 2, 1) := by decide +kernel
theorem dX10_spreadBySailings_48 : decode cX10_spreadBySailings 48 = .ok (.iaload, 1) := by decide +kernel
theorem dX10_spreadBySailings_49 : decode cX10_spreadBySailings 49 = .ok (.aload_n 0, 1) := by decide +kernel
theorem dX10_spreadBySailings_50 : decode cX10_spreadBySailings 50 = .ok (.getfield 29, 3) := by decide +kernel
theorem dX10_spreadBySailings_53 : decode cX10_spreadBySailings 53 = .ok (.aload_n 0, 1) := by decide +kernel
theorem dX10_spreadBySailings_54 : decode cX10_spreadBySailings 54 = .ok (.getfield 15, 3) := by decide +kernel
theorem dX10_spreadBySailings_57 : decode cX10_spreadBySailings 57 = .ok (.iload_n 2, 1) := by decide +kernel
theorem dX10_spreadBySailings_58 : decode cX10_spreadBySailings 58 = .ok (.iaload, 1) := by decide +kernel
theorem dX10_spreadBySailings_59 : decode cX10_spreadBySailings 59 = .ok (.iaload, 1) := by decide +kernel
theorem dX10_spreadBySailings_60 : decode cX10_spreadBySailings 60 = .ok (.if_icmp .ge 22, 3) := by decide +kernel
theorem dX10_spreadBySailings_63 : decode cX10_spreadBySailings 63 = .ok (.aload_n 0, 1) := by decide +kernel
theorem dX10_spreadBySailings_64 : decode cX10_spreadBySailings 64 = .ok (.getfield 29, 3) := by decide +kernel
theorem dX10_spreadBySailings_67 : decode cX10_spreadBySailings 67 = .ok (.aload_n 0, 1) := by decide +kernel
theorem dX10_spreadBySailings_68 : decode cX10_spreadBySailings 68 = .ok (.getfield 15, 3) := by decide +kernel
theorem dX10_spreadBySailings_71 : decode cX10_spreadBySailings 71 = .ok (.iload_n 2, 1) := by decide +kernel
theorem dX10_spreadBySailings_72 : decode cX10_spreadBySailings 72 = .ok (.iaload, 1) := by decide +kernel
theorem dX10_spreadBySailings_73 : decode cX10_spreadBySailings 73 = .ok (.aload_n 0, 1) := by decide +kernel
theorem dX10_spreadBySailings_74 : decode cX10_spreadBySailings 74 = .ok (.getfield 21, 3) := by decide +kernel
theorem dX10_spreadBySailings_77 : decode cX10_spreadBySailings 77 = .ok (.iload_n 2, 1) := by decide +kernel
theorem dX10_spreadBySailings_78 : decode cX10_spreadBySailings 78 = .ok (.iaload, 1) := by decide +kernel
theorem dX10_spreadBySailings_79 : decode cX10_spreadBySailings 79 = .ok (.iastore, 1) := by decide +kernel
theorem dX10_spreadBySailings_80 : decode cX10_spreadBySailings 80 = .ok (.iconst 1, 1) := by decide +kernel
theorem dX10_spreadBySailings_81 : decode cX10_spreadBySailings 81 = .ok (.istore_n 1, 1) := by decide +kernel
theorem dX10_spreadBySailings_82 : decode cX10_spreadBySailings 82 = .ok (.iinc 2 1, 3) := by decide +kernel
theorem dX10_spreadBySailings_85 : decode cX10_spreadBySailings 85 = .ok (.goto (-81), 3) := by decide +kernel
theorem dX10_spreadBySailings_88 : decode cX10_spreadBySailings 88 = .ok (.iload_n 1, 1) := by decide +kernel
theorem dX10_spreadBySailings_89 : decode cX10_spreadBySailings 89 = .ok (.ireturn, 1) := by decide +kernel
theorem dX10_spreadByRoads_0 : decode cX10_spreadByRoads 0 = .ok (.iconst 0, 1) := by decide +kernel
theorem dX10_spreadByRoads_1 : decode cX10_spreadByRoads 1 = .ok (.istore_n 1, 1) := by decide +kernel
theorem dX10_spreadByRoads_2 : decode cX10_spreadByRoads 2 = .ok (.iconst 0, 1) := by decide +kernel
theorem dX10_spreadByRoads_3 : decode cX10_spreadByRoads 3 = .ok (.istore_n 2, 1) := by decide +kernel
theorem dX10_spreadByRoads_4 : decode cX10_spreadByRoads 4 = .ok (.iload_n 2, 1) := by decide +kernel
theorem dX10_spreadByRoads_5 : decode cX10_spreadByRoads 5 = .ok (.bipush 6, 2) := by decide +kernel
theorem dX10_spreadByRoads_7 : decode cX10_spreadByRoads 7 = .ok (.if_icmp .ge 83, 3) := by decide +kernel
theorem dX10_spreadByRoads_10 : decode cX10_spreadByRoads 10 = .ok (.iconst 0, 1) := by decide +kernel
theorem dX10_spreadByRoads_11 : decode cX10_spreadByRoads 11 = .ok (.istore_n 3, 1) := by decide +kernel
theorem dX10_spreadByRoads_12 : decode cX10_spreadByRoads 12 = .ok (.iload_n 3, 1) := by decide +kernel
theorem dX10_spreadByRoads_13 : decode cX10_spreadByRoads 13 = .ok (.bipush 6, 2) := by decide +kernel
theorem dX10_spreadByRoads_15 : decode cX10_spreadByRoads 15 = .ok (.if_icmp .ge 69, 3) := by decide +kernel
theorem dX10_spreadByRoads_18 : decode cX10_spreadByRoads 18 = .ok (.aload_n 0, 1) := by decide +kernel
theorem dX10_spreadByRoads_19 : decode cX10_spreadByRoads 19 = .ok (.getfield 26, 3) := by decide +kernel
theorem dX10_spreadByRoads_22 : decode cX10_spreadByRoads 22 = .ok (.iload_n 2, 1) := by decide +kernel
theorem dX10_spreadByRoads_23 : decode cX10_spreadByRoads 23 = .ok (.aaload, 1) := by decide +kernel
theorem dX10_spreadByRoads_24 : decode cX10_spreadByRoads 24 = .ok (.iload_n 3, 1) := by decide +kernel
theorem dX10_spreadByRoads_25 : decode cX10_spreadByRoads 25 = .ok (.iaload, 1) := by decide +kernel
theorem dX10_spreadByRoads_26 : decode cX10_spreadByRoads 26 = .ok (.bipush (-9), 2) := by decide +kernel
theorem dX10_spreadByRoads_28 : decode cX10_spreadByRoads 28 = .ok (.if_icmp .eq 50, 3) := by decide +kernel
theorem dX10_spreadByRoads_31 : decode cX10_spreadByRoads 31 = .ok (.aload_n 0, 1) := by decide +kernel
theorem dX10_spreadByRoads_32 : decode cX10_spreadByRoads 32 = .ok (.getfield 29, 3) := by decide +kernel
theorem dX10_spreadByRoads_35 : decode cX10_spreadByRoads 35 = .ok (.iload_n 2, 1) := by decide +kernel
theorem dX10_spreadByRoads_36 : decode cX10_spreadByRoads 36 = .ok (.iaload, 1) := by decide +kernel
theorem dX10_spreadByRoads_37 : decode cX10_spreadByRoads 37 = .ok (.aload_n 0, 1) := by decide +kernel
theorem dX10_spreadByRoads_38 : decode cX10_spreadByRoads 38 = .ok (.getfield 26, 3) := by decide +kernel
theorem dX10_spreadByRoads_41 : decode cX10_spreadByRoads 41 = .ok (.iload_n 2, 1) := by decide +kernel
theorem dX10_spreadByRoads_42 : decode cX10_spreadByRoads 42 = .ok (.aaload, 1) := by decide +kernel
theorem dX10_spreadByRoads_43 : decode cX10_spreadByRoads 43 = .ok (.iload_n 3, 1) := by decide +kernel
theorem dX10_spreadByRoads_44 : decode cX10_spreadByRoads 44 = .ok (.iaload, 1) := by decide +kernel
theorem dX10_spreadByRoads_45 : decode cX10_spreadByRoads 45 = .ok (.iadd, 1) := by decide +kernel
theorem dX10_spreadByRoads_46 : decode cX10_spreadByRoads 46 = .ok (.aload_n 0, 1) := by decide +kernel
theorem dX10_spreadByRoads_47 : decode cX10_spreadByRoads 47 = .ok (.getfield 29, 3) := by decide +kernel
theorem dX10_spreadByRoads_50 : decode cX10_spreadByRoads 50 = .ok (.iload_n 3, 1) := by decide +kernel
theorem dX10_spreadByRoads_51 : decode cX10_spreadByRoads 51 = .ok (.iaload, 1) := by decide +kernel
theorem dX10_spreadByRoads_52 : decode cX10_spreadByRoads 52 = .ok (.if_icmp .ge 26, 3) := by decide +kernel
theorem dX10_spreadByRoads_55 : decode cX10_spreadByRoads 55 = .ok (.aload_n 0, 1) := by decide +kernel
theorem dX10_spreadByRoads_56 : decode cX10_spreadByRoads 56 = .ok (.getfield 29, 3) := by decide +kernel
theorem dX10_spreadByRoads_59 : decode cX10_spreadByRoads 59 = .ok (.iload_n 3, 1) := by decide +kernel
theorem dX10_spreadByRoads_60 : decode cX10_spreadByRoads 60 = .ok (.aload_n 0, 1) := by decide +kernel
theorem dX10_spreadByRoads_61 : decode cX10_spreadByRoads 61 = .ok (.getfield 29, 3) := by decide +kernel
theorem dX10_spreadByRoads_64 : decode cX10_spreadByRoads 64 = .ok (.iload_n 2, 1) := by decide +kernel
theorem dX10_spreadByRoads_65 : decode cX10_spreadByRoads 65 = .ok (.iaload, 1) := by decide +kernel
theorem dX10_spreadByRoads_66 : decode cX10_spreadByRoads 66 = .ok (.aload_n 0, 1) := by decide +kernel
theorem dX10_spreadByRoads_67 : decode cX10_spreadByRoads 67 = .ok (.getfield 26, 3) := by decide +kernel
theorem dX10_spreadByRoads_70 : decode cX10_spreadByRoads 70 = .ok (.iload_n 2, 1) := by decide +kernel
theorem dX10_spreadByRoads_71 : decode cX10_spreadByRoads 71 = .ok (.aaload, 1) := by decide +kernel
theorem dX10_spreadByRoads_72 : decode cX10_spreadByRoads 72 = .ok (.iload_n 3, 1) := by decide +kernel
theorem dX10_spreadByRoads_73 : decode cX10_spreadByRoads 73 = .ok (.iaload, 1) := by decide +kernel
theorem dX10_spreadByRoads_74 : decode cX10_spreadByRoads 74 = .ok (.iadd, 1) := by decide +kernel
theorem dX10_spreadByRoads_75 : decode cX10_spreadByRoads 75 = .ok (.iastore, 1) := by decide +kernel
theorem dX10_spreadByRoads_76 : decode cX10_spreadByRoads 76 = .ok (.iconst 1, 1) := by decide +kernel
theorem dX10_spreadByRoads_77 : decode cX10_spreadByRoads 77 = .ok (.istore_n 1, 1) := by decide +kernel
theorem dX10_spreadByRoads_78 : decode cX10_spreadByRoads 78 = .ok (.iinc 3 1, 3) := by decide +kernel
theorem dX10_spreadByRoads_81 : decode cX10_spreadByRoads 81 = .ok (.goto (-69), 3) := by decide +kernel
theorem dX10_spreadByRoads_84 : decode cX10_spreadByRoads 84 = .ok (.iinc 2 1, 3) := by decide +kernel
theorem dX10_spreadByRoads_87 : decode cX10_spreadByRoads 87 = .ok (.goto (-83), 3) := by decide +kernel
theorem dX10_spreadByRoads_90 : decode cX10_spreadByRoads 90 = .ok (.iload_n 1, 1) := by decide +kernel
theorem dX10_spreadByRoads_91 : decode cX10_spreadByRoads 91 = .ok (.ireturn, 1) := by decide +kernel
theorem dX10_drawBackFrom_0 : decode cX10_drawBackFrom 0 = .ok (.aload_n 0, 1) := by decide +kernel
theorem dX10_drawBackFrom_1 : decode cX10_drawBackFrom 1 = .ok (.getfield 32, 3) := by decide +kernel
theorem dX10_drawBackFrom_4 : decode cX10_drawBackFrom 4 = .ok (.iconst (-1), 1) := by decide +kernel
theorem dX10_drawBackFrom_5 : decode cX10_drawBackFrom 5 = .ok (.invokestatic 39, 3) := by decide +kernel
theorem dX10_drawBackFrom_8 : decode cX10_drawBackFrom 8 = .ok (.aload_n 0, 1) := by decide +kernel
theorem dX10_drawBackFrom_9 : decode cX10_drawBackFrom 9 = .ok (.getfield 32, 3) := by decide +kernel
theorem dX10_drawBackFrom_12 : decode cX10_drawBackFrom 12 = .ok (.iload_n 1, 1) := by decide +kernel
theorem dX10_drawBackFrom_13 : decode cX10_drawBackFrom 13 = .ok (.iload_n 2, 1) := by decide +kernel
theorem dX10_drawBackFrom_14 : decode cX10_drawBackFrom 14 = .ok (.iastore, 1) := by decide +kernel
theorem dX10_drawBackFrom_15 : decode cX10_drawBackFrom 15 = .ok (.iconst 1, 1) := by decide +kernel
theorem dX10_drawBackFrom_16 : decode cX10_drawBackFrom 16 = .ok (.istore_n 3, 1) := by decide +kernel
theorem dX10_drawBackFrom_17 : decode cX10_drawBackFrom 17 = .ok (.iconst 0, 1) := by decide +kernel
theorem dX10_drawBackFrom_18 : decode cX10_drawBackFrom 18 = .ok (.istore 4, 2) := by decide +kernel
theorem dX10_drawBackFrom_20 : decode cX10_drawBackFrom 20 = .ok (.iload 4, 2) := by decide +kernel
theorem dX10_drawBackFrom_22 : decode cX10_drawBackFrom 22 = .ok (.bipush 6, 2) := by decide +kernel
theorem dX10_drawBackFrom_24 : decode cX10_drawBackFrom 24 = .ok (.if_icmp .ge 35, 3) := by decide +kernel
theorem dX10_drawBackFrom_27 : decode cX10_drawBackFrom 27 = .ok (.iload_n 3, 1) := by decide +kernel
theorem dX10_drawBackFrom_28 : decode cX10_drawBackFrom 28 = .ok (.ifCond .eq 31, 3) := by decide +kernel
theorem dX10_drawBackFrom_31 : decode cX10_drawBackFrom 31 = .ok (.aload_n 0, 1) := by decide +kernel
theorem dX10_drawBackFrom_32 : decode cX10_drawBackFrom 32 = .ok (.invokevirtual 52, 3) := by decide +kernel
theorem dX10_drawBackFrom_35 : decode cX10_drawBackFrom 35 = .ok (.istore_n 3, 1) := by decide +kernel
theorem dX10_drawBackFrom_36 : decode cX10_drawBackFrom 36 = .ok (.aload_n 0, 1) := by decide +kernel
theorem dX10_drawBackFrom_37 : decode cX10_drawBackFrom 37 = .ok (.invokevirtual 55, 3) := by decide +kernel
theorem dX10_drawBackFrom_40 : decode cX10_drawBackFrom 40 = .ok (.ifCond .ne 7, 3) := by decide +kernel
theorem dX10_drawBackFrom_43 : decode cX10_drawBackFrom 43 = .ok (.iload_n 3, 1) := by decide +kernel
theorem dX10_drawBackFrom_44 : decode cX10_drawBackFrom 44 = .ok (.ifCond .eq 7, 3) := by decide +kernel
theorem dX10_drawBackFrom_47 : decode cX10_drawBackFrom 47 = .ok (.iconst 1, 1) := by decide +kernel
theorem dX10_drawBackFrom_48 : decode cX10_drawBackFrom 48 = .ok (.goto 4, 3) := by decide +kernel
theorem dX10_drawBackFrom_51 : decode cX10_drawBackFrom 51 = .ok (.iconst 0, 1) := by decide +kernel
theorem dX10_drawBackFrom_52 : decode cX10_drawBackFrom 52 = .ok (.istore_n 3, 1) := by decide +kernel
theorem dX10_drawBackFrom_53 : decode cX10_drawBackFrom 53 = .ok (.iinc 4 1, 3) := by decide +kernel
theorem dX10_drawBackFrom_56 : decode cX10_drawBackFrom 56 = .ok (.goto (-36), 3) := by decide +kernel
theorem dX10_drawBackFrom_59 : decode cX10_drawBackFrom 59 = .ok (.return_, 1) := by decide +kernel
theorem dX10_drawBackBySailings_0 : decode cX10_drawBackBySailings 0 = .ok (.iconst 0, 1) := by decide +kernel
theorem dX10_drawBackBySailings_1 : decode cX10_drawBackBySailings 1 = .ok (.istore_n 1, 1) := by decide +kernel
theorem dX10_drawBackBySailings_2 : decode cX10_drawBackBySailings 2 = .ok (.iconst 0, 1) := by decide +kernel
theorem dX10_drawBackBySailings_3 : decode cX10_drawBackBySailings 3 = .ok (.istore_n 2, 1) := by decide +kernel
theorem dX10_drawBackBySailings_4 : decode cX10_drawBackBySailings 4 = .ok (.iload_n 2, 1) := by decide +kernel
theorem dX10_drawBackBySailings_5 : decode cX10_drawBackBySailings 5 = .ok (.aload_n 0, 1) := by decide +kernel
theorem dX10_drawBackBySailings_6 : decode cX10_drawBackBySailings 6 = .ok (.getfield 35, 3) := by decide +kernel
theorem dX10_drawBackBySailings_9 : decode cX10_drawBackBySailings 9 = .ok (.if_icmp .ge 79, 3) := by decide +kernel
theorem dX10_drawBackBySailings_12 : decode cX10_drawBackBySailings 12 = .ok (.aload_n 0, 1) := by decide +kernel
theorem dX10_drawBackBySailings_13 : decode cX10_drawBackBySailings 13 = .ok (.getfield 21, 3) := by decide +kernel
theorem dX10_drawBackBySailings_16 : decode cX10_drawBackBySailings 16 = .ok (.iload_n 2, 1) := by decide +kernel
theorem dX10_drawBackBySailings_17 : decode cX10_drawBackBySailings 17 = .ok (.iaload, 1) := by decide +kernel
theorem dX10_drawBackBySailings_18 : decode cX10_drawBackBySailings 18 = .ok (.bipush (-9), 2) := by decide +kernel
theorem dX10_drawBackBySailings_20 : decode cX10_drawBackBySailings 20 = .ok (.if_icmp .eq 62, 3) := by decide +kernel
theorem dX10_drawBackBySailings_23 : decode cX10_drawBackBySailings 23 = .ok (.aload_n 0, 1) := by decide +kernel
theorem dX10_drawBackBySailings_24 : decode cX10_drawBackBySailings 24 = .ok (.getfield 21, 3) := by decide +kernel
theorem dX10_drawBackBySailings_27 : decode cX10_drawBackBySailings 27 = .ok (.iload_n 2, 1) := by decide +kernel
theorem dX10_drawBackBySailings_28 : decode cX10_drawBackBySailings 28 = .ok (.iaload, 1) := by decide +kernel
theorem dX10_drawBackBySailings_29 : decode cX10_drawBackBySailings 29 = .ok (.aload_n 0, 1) := by decide +kernel
theorem dX10_drawBackBySailings_30 : decode cX10_drawBackBySailings 30 = .ok (.getfield 32, 3) := by decide +kernel
theorem dX10_drawBackBySailings_33 : decode cX10_drawBackBySailings 33 = .ok (.aload_n 0, 1) := by decide +kernel
theorem dX10_drawBackBySailings_34 : decode cX10_drawBackBySailings 34 = .ok (.getfield 15, 3) := by decide +kernel
theorem dX10_drawBackBySailings_37 : decode cX10_drawBackBySailings 37 = .ok (.iload_n 2, 1) := by decide +kernel
theorem dX10_drawBackBySailings_38 : decode cX10_drawBackBySailings 38 = .ok (.iaload, 1) := by decide +kernel
theorem dX10_drawBackBySailings_39 : decode cX10_drawBackBySailings 39 = .ok (.iaload, 1) := by decide +kernel
theorem dX10_drawBackBySailings_40 : decode cX10_drawBackBySailings 40 = .ok (.if_icmp .gt 42, 3) := by decide +kernel
theorem dX10_drawBackBySailings_43 : decode cX10_drawBackBySailings 43 = .ok (.aload_n 0, 1) := by decide +kernel
theorem dX10_drawBackBySailings_44 : decode cX10_drawBackBySailings 44 = .ok (.getfield 18, 3) := by decide +kernel
theorem dX10_drawBackBySailings_47 : decode cX10_drawBackBySailings 47 = .ok (.iload_n 2, 1) := by decide +kernel
theorem dX10_drawBackBySailings_48 : decode cX10_drawBackBySailings 48 = .ok (.iaload, 1) := by decide +kernel
theorem dX10_drawBackBySailings_49 : decode cX10_drawBackBySailings 49 = .ok (.aload_n 0, 1) := by decide +kernel
theorem dX10_drawBackBySailings_50 : decode cX10_drawBackBySailings 50 = .ok (.getfield 32, 3) := by decide +kernel
theorem dX10_drawBackBySailings_53 : decode cX10_drawBackBySailings 53 = .ok (.aload_n 0, 1) := by decide +kernel
theorem dX10_drawBackBySailings_54 : decode cX10_drawBackBySailings 54 = .ok (.getfield 9, 3) := by decide +kernel
theorem dX10_drawBackBySailings_57 : decode cX10_drawBackBySailings 57 = .ok (.iload_n 2, 1) := by decide +kernel
theorem dX10_drawBackBySailings_58 : decode cX10_drawBackBySailings 58 = .ok (.iaload, 1) := by decide +kernel
theorem dX10_drawBackBySailings_59 : decode cX10_drawBackBySailings 59 = .ok (.iaload, 1) := by decide +kernel
theorem dX10_drawBackBySailings_60 : decode cX10_drawBackBySailings 60 = .ok (.if_icmp .le 22, 3) := by decide +kernel
theorem dX10_drawBackBySailings_63 : decode cX10_drawBackBySailings 63 = .ok (.aload_n 0, 1) := by decide +kernel
theorem dX10_drawBackBySailings_64 : decode cX10_drawBackBySailings 64 = .ok (.getfield 32, 3) := by decide +kernel
theorem dX10_drawBackBySailings_67 : decode cX10_drawBackBySailings 67 = .ok (.aload_n 0, 1) := by decide +kernel
theorem dX10_drawBackBySailings_68 : decode cX10_drawBackBySailings 68 = .ok (.getfield 9, 3) := by decide +kernel
theorem dX10_drawBackBySailings_71 : decode cX10_drawBackBySailings 71 = .ok (.iload_n 2, 1) := by decide +kernel
theorem dX10_drawBackBySailings_72 : decode cX10_drawBackBySailings 72 = .ok (.iaload, 1) := by decide +kernel
theorem dX10_drawBackBySailings_73 : decode cX10_drawBackBySailings 73 = .ok (.aload_n 0, 1) := by decide +kernel
theorem dX10_drawBackBySailings_74 : decode cX10_drawBackBySailings 74 = .ok (.getfield 18, 3) := by decide +kernel
theorem dX10_drawBackBySailings_77 : decode cX10_drawBackBySailings 77 = .ok (.iload_n 2, 1) := by decide +kernel
theorem dX10_drawBackBySailings_78 : decode cX10_drawBackBySailings 78 = .ok (.iaload, 1) := by decide +kernel
theorem dX10_drawBackBySailings_79 : decode cX10_drawBackBySailings 79 = .ok (.iastore, 1) := by decide +kernel
theorem dX10_drawBackBySailings_80 : decode cX10_drawBackBySailings 80 = .ok (.iconst 1, 1) := by decide +kernel
theorem dX10_drawBackBySailings_81 : decode cX10_drawBackBySailings 81 = .ok (.istore_n 1, 1) := by decide +kernel
theorem dX10_drawBackBySailings_82 : decode cX10_drawBackBySailings 82 = .ok (.iinc 2 1, 3) := by decide +kernel
theorem dX10_drawBackBySailings_85 : decode cX10_drawBackBySailings 85 = .ok (.goto (-81), 3) := by decide +kernel
theorem dX10_drawBackBySailings_88 : decode cX10_drawBackBySailings 88 = .ok (.iload_n 1, 1) := by decide +kernel
theorem dX10_drawBackBySailings_89 : decode cX10_drawBackBySailings 89 = .ok (.ireturn, 1) := by decide +kernel
theorem dX10_drawBackByRoads_0 : decode cX10_drawBackByRoads 0 = .ok (.iconst 0, 1) := by decide +kernel
theorem dX10_drawBackByRoads_1 : decode cX10_drawBackByRoads 1 = .ok (.istore_n 1, 1) := by decide +kernel
theorem dX10_drawBackByRoads_2 : decode cX10_drawBackByRoads 2 = .ok (.iconst 0, 1) := by decide +kernel
theorem dX10_drawBackByRoads_3 : decode cX10_drawBackByRoads 3 = .ok (.istore_n 2, 1) := by decide +kernel
theorem dX10_drawBackByRoads_4 : decode cX10_drawBackByRoads 4 = .ok (.iload_n 2, 1) := by decide +kernel
theorem dX10_drawBackByRoads_5 : decode cX10_drawBackByRoads 5 = .ok (.bipush 6, 2) := by decide +kernel
theorem dX10_drawBackByRoads_7 : decode cX10_drawBackByRoads 7 = .ok (.if_icmp .ge 83, 3) := by decide +kernel
theorem dX10_drawBackByRoads_10 : decode cX10_drawBackByRoads 10 = .ok (.iconst 0, 1) := by decide +kernel
theorem dX10_drawBackByRoads_11 : decode cX10_drawBackByRoads 11 = .ok (.istore_n 3, 1) := by decide +kernel
theorem dX10_drawBackByRoads_12 : decode cX10_drawBackByRoads 12 = .ok (.iload_n 3, 1) := by decide +kernel
theorem dX10_drawBackByRoads_13 : decode cX10_drawBackByRoads 13 = .ok (.bipush 6, 2) := by decide +kernel
theorem dX10_drawBackByRoads_15 : decode cX10_drawBackByRoads 15 = .ok (.if_icmp .ge 69, 3) := by decide +kernel
theorem dX10_drawBackByRoads_18 : decode cX10_drawBackByRoads 18 = .ok (.aload_n 0, 1) := by decide +kernel
theorem dX10_drawBackByRoads_19 : decode cX10_drawBackByRoads 19 = .ok (.getfield 26, 3) := by decide +kernel
theorem dX10_drawBackByRoads_22 : decode cX10_drawBackByRoads 22 = .ok (.iload_n 2, 1) := by decide +kernel
theorem dX10_drawBackByRoads_23 : decode cX10_drawBackByRoads 23 = .ok (.aaload, 1) := by decide +kernel
theorem dX10_drawBackByRoads_24 : decode cX10_drawBackByRoads 24 = .ok (.iload_n 3, 1) := by decide +kernel
theorem dX10_drawBackByRoads_25 : decode cX10_drawBackByRoads 25 = .ok (.iaload, 1) := by decide +kernel
theorem dX10_drawBackByRoads_26 : decode cX10_drawBackByRoads 26 = .ok (.bipush (-9), 2) := by decide +kernel
theorem dX10_drawBackByRoads_28 : decode cX10_drawBackByRoads 28 = .ok (.if_icmp .eq 50, 3) := by decide +kernel
theorem dX10_drawBackByRoads_31 : decode cX10_drawBackByRoads 31 = .ok (.aload_n 0, 1) := by decide +kernel
theorem dX10_drawBackByRoads_32 : decode cX10_drawBackByRoads 32 = .ok (.getfield 32, 3) := by decide +kernel
theorem dX10_drawBackByRoads_35 : decode cX10_drawBackByRoads 35 = .ok (.iload_n 3, 1) := by decide +kernel
theorem dX10_drawBackByRoads_36 : decode cX10_drawBackByRoads 36 = .ok (.iaload, 1) := by decide +kernel
theorem dX10_drawBackByRoads_37 : decode cX10_drawBackByRoads 37 = .ok (.aload_n 0, 1) := by decide +kernel
theorem dX10_drawBackByRoads_38 : decode cX10_drawBackByRoads 38 = .ok (.getfield 26, 3) := by decide +kernel
theorem dX10_drawBackByRoads_41 : decode cX10_drawBackByRoads 41 = .ok (.iload_n 2, 1) := by decide +kernel
theorem dX10_drawBackByRoads_42 : decode cX10_drawBackByRoads 42 = .ok (.aaload, 1) := by decide +kernel
theorem dX10_drawBackByRoads_43 : decode cX10_drawBackByRoads 43 = .ok (.iload_n 3, 1) := by decide +kernel
theorem dX10_drawBackByRoads_44 : decode cX10_drawBackByRoads 44 = .ok (.iaload, 1) := by decide +kernel
theorem dX10_drawBackByRoads_45 : decode cX10_drawBackByRoads 45 = .ok (.isub, 1) := by decide +kernel
theorem dX10_drawBackByRoads_46 : decode cX10_drawBackByRoads 46 = .ok (.aload_n 0, 1) := by decide +kernel
theorem dX10_drawBackByRoads_47 : decode cX10_drawBackByRoads 47 = .ok (.getfield 32, 3) := by decide +kernel
theorem dX10_drawBackByRoads_50 : decode cX10_drawBackByRoads 50 = .ok (.iload_n 2, 1) := by decide +kernel
theorem dX10_drawBackByRoads_51 : decode cX10_drawBackByRoads 51 = .ok (.iaload, 1) := by decide +kernel
theorem dX10_drawBackByRoads_52 : decode cX10_drawBackByRoads 52 = .ok (.if_icmp .le 26, 3) := by decide +kernel
theorem dX10_drawBackByRoads_55 : decode cX10_drawBackByRoads 55 = .ok (.aload_n 0, 1) := by decide +kernel
theorem dX10_drawBackByRoads_56 : decode cX10_drawBackByRoads 56 = .ok (.getfield 32, 3) := by decide +kernel
theorem dX10_drawBackByRoads_59 : decode cX10_drawBackByRoads 59 = .ok (.iload_n 2, 1) := by decide +kernel
theorem dX10_drawBackByRoads_60 : decode cX10_drawBackByRoads 60 = .ok (.aload_n 0, 1) := by decide +kernel
theorem dX10_drawBackByRoads_61 : decode cX10_drawBackByRoads 61 = .ok (.getfield 32, 3) := by decide +kernel
theorem dX10_drawBackByRoads_64 : decode cX10_drawBackByRoads 64 = .ok (.iload_n 3, 1) := by decide +kernel
theorem dX10_drawBackByRoads_65 : decode cX10_drawBackByRoads 65 = .ok (.iaload, 1) := by decide +kernel
theorem dX10_drawBackByRoads_66 : decode cX10_drawBackByRoads 66 = .ok (.aload_n 0, 1) := by decide +kernel
theorem dX10_drawBackByRoads_67 : decode cX10_drawBackByRoads 67 = .ok (.getfield 26, 3) := by decide +kernel
theorem dX10_drawBackByRoads_70 : decode cX10_drawBackByRoads 70 = .ok (.iload_n 2, 1) := by decide +kernel
theorem dX10_drawBackByRoads_71 : decode cX10_drawBackByRoads 71 = .ok (.aaload, 1) := by decide +kernel
theorem dX10_drawBackByRoads_72 : decode cX10_drawBackByRoads 72 = .ok (.iload_n 3, 1) := by decide +kernel
theorem dX10_drawBackByRoads_73 : decode cX10_drawBackByRoads 73 = .ok (.iaload, 1) := by decide +kernel
theorem dX10_drawBackByRoads_74 : decode cX10_drawBackByRoads 74 = .ok (.isub, 1) := by decide +kernel
theorem dX10_drawBackByRoads_75 : decode cX10_drawBackByRoads 75 = .ok (.iastore, 1) := by decide +kernel
theorem dX10_drawBackByRoads_76 : decode cX10_drawBackByRoads 76 = .ok (.iconst 1, 1) := by decide +kernel
theorem dX10_drawBackByRoads_77 : decode cX10_drawBackByRoads 77 = .ok (.istore_n 1, 1) := by decide +kernel
theorem dX10_drawBackByRoads_78 : decode cX10_drawBackByRoads 78 = .ok (.iinc 3 1, 3) := by decide +kernel
theorem dX10_drawBackByRoads_81 : decode cX10_drawBackByRoads 81 = .ok (.goto (-69), 3) := by decide +kernel
theorem dX10_drawBackByRoads_84 : decode cX10_drawBackByRoads 84 = .ok (.iinc 2 1, 3) := by decide +kernel
theorem dX10_drawBackByRoads_87 : decode cX10_drawBackByRoads 87 = .ok (.goto (-83), 3) := by decide +kernel
theorem dX10_drawBackByRoads_90 : decode cX10_drawBackByRoads 90 = .ok (.iload_n 1, 1) := by decide +kernel
theorem dX10_drawBackByRoads_91 : decode cX10_drawBackByRoads 91 = .ok (.ireturn, 1) := by decide +kernel
end
section
/-! ===== the abstract heap: shapes, ints, longs, references, by abstract addresses ===== -/
abbrev AV : Type := Option (Int ⊕ (Int64 ⊕ Option Nat))
abbrev vI (z : Int) : AV := some (Sum.inl z)
abbrev vL (w : Int64) : AV := some (Sum.inr (Sum.inl w))
abbrev vR (r : Option Nat) : AV := some (Sum.inr (Sum.inr r))
abbrev vA (a : Nat) : AV := some (Sum.inr (Sum.inr (some a)))
abbrev Sh : Type := Nat ⊕ (FieldType × Nat)
abbrev GH : Type := (Nat → Option Sh) × (Nat → Nat → Int) × (Nat → Nat → Int64) × (Nat → Nat → Option Nat)
def zr (z : Int) : Prop := -2147483648 ≤ z ∧ z ≤ 2147483647
def cv (ad : Nat → Nat) : AV → Value
  | some (Sum.inl z) => .int (Int32.ofInt z)
  | some (Sum.inr (Sum.inl w)) => .long w
  | some (Sum.inr (Sum.inr (some a))) => .ref (ad a)
  | some (Sum.inr (Sum.inr none)) => .null
  | none => .null
def vok (g : GH) : AV → Prop
  | some (Sum.inl z) => zr z
  | some (Sum.inr (Sum.inr (some a))) => g.1 a ≠ none ∨ 1000000 ≤ a
  | _ => True
def fv (ty : FieldType) (ad : Nat → Nat) (g : GH) (a k : Nat) : Value := match ty with
  | .long => .long (g.2.2.1 a k)
  | .object _ => va_rf ((g.2.2.2 a k).map ad)
  | .array _ => va_rf ((g.2.2.2 a k).map ad)
  | _ => .int (Int32.ofInt (g.2.1 a k))
def tyc (c : Nat) : Nat → FieldType := match c with
  | 0 => tyX0 | 1 => tyX1 | 2 => tyX2 | 3 => tyX3 | 4 => tyX4 | 5 => tyX5 | 6 => tyX6 | 7 => tyX7 | 8 => tyX8 | 9 => tyX9 | 10 => tyX10 | 11 => tyX11 | _ => tyX12
def arrTys : List FieldType := [.int, .long, .byte, .boolean, .array .int, .object RX2, .object RX5, .object RX6, .object RX9]
def cok (D : va_G) (cid : FieldType → ClassId) (ad : Nat → Nat) (g : GH) (a : Nat) (H : Heap) : Sh → Prop
  | Sum.inl ci => ∃ r : vw_C, vwCl[ci]? = some r ∧ t_OB (ad a) (D.1 ci) r.2.2 (D.2 ci) H (fun k => fv (tyc ci k) ad g a k)
  | Sum.inr (ty, n) => ty ∈ arrTys ∧ H[ad a]? = some (arrV (cid ty) n (fun k => fv ty ad g a k))
abbrev BH : Type := Nat × Heap
def clo (g : GH) : Prop := ∀ a k b, g.2.2.2 a k = some b → g.1 b ≠ none ∨ 1000000 ≤ b
def Rp (B : BH) (D : va_G) (cid : FieldType → ClassId) (ad : Nat → Nat) (g : GH) (H : Heap) : Prop :=
  (∀ a, g.1 a ≠ none → B.1 ≤ ad a) ∧ (∀ a b, g.1 a ≠ none → g.1 b ≠ none → ad a = ad b → a = b) ∧ (∀ q : Nat, q < B.1 → H[q]? = B.2[q]?) ∧ B.1 ≤ H.size ∧ (∀ a sh, g.1 a = some sh → cok D cid ad g a H sh) ∧ (∀ a k, zr (g.2.1 a k)) ∧ clo g
/-- one slot of one cell -/
def u2 {α : Type} (f : Nat → Nat → α) (a k : Nat) (v : α) : Nat → Nat → α := fun a' k' => if a' = a ∧ k' = k then v else f a' k'
def u1 {α : Type} (f : Nat → α) (a : Nat) (v : α) : Nat → α := fun a' => if a' = a then v else f a'
theorem u2_s {α : Type} {f : Nat → Nat → α} {a k : Nat} {v : α} : u2 f a k v a k = v := by simp [u2]
theorem u2_n {α : Type} {f : Nat → Nat → α} {a k a' k' : Nat} {v : α} (h : a' ≠ a ∨ k' ≠ k) : u2 f a k v a' k' = f a' k' := by
  unfold u2; rw [if_neg]; rintro ⟨rfl, rfl⟩; simp at h
theorem u1_s {α : Type} {f : Nat → α} {a : Nat} {v : α} : u1 f a v a = v := by simp [u1]
theorem u1_n {α : Type} {f : Nat → α} {a a' : Nat} {v : α} (h : a' ≠ a) : u1 f a v a' = f a' := by simp [u1, h]
def gI (g : GH) (a k : Nat) (z : Int) : GH := (g.1, u2 g.2.1 a k z, g.2.2.1, g.2.2.2)
def gL (g : GH) (a k : Nat) (w : Int64) : GH := (g.1, g.2.1, u2 g.2.2.1 a k w, g.2.2.2)
def gR (g : GH) (a k : Nat) (r : Option Nat) : GH := (g.1, g.2.1, g.2.2.1, u2 g.2.2.2 a k r)
/-- a new cell at a -/
def gN (g : GH) (a : Nat) (sh : Sh) : GH := (u1 g.1 a (some sh), u1 g.2.1 a (fun _ => 0), u1 g.2.2.1 a (fun _ => 0), u1 g.2.2.2 a (fun _ => none))
theorem zr_toInt {z : Int} (h : zr z) : (Int32.ofInt z).toInt = z := Int32.toInt_ofInt_of_le (by have := h.1; omega) (by have := h.2; omega)
theorem zr_32 (x : Int32) : zr x.toInt := ⟨by have := Int32.le_toInt x; omega, by have := Int32.toInt_lt x; omega⟩
theorem zi_lt {x y : Int} (hx : zr x) (hy : zr y) : Int32.ofInt x < Int32.ofInt y ↔ x < y := by rw [Int32.lt_iff_toInt_lt, zr_toInt hx, zr_toInt hy]
theorem zi_le {x y : Int} (hx : zr x) (hy : zr y) : Int32.ofInt x ≤ Int32.ofInt y ↔ x ≤ y := by rw [Int32.le_iff_toInt_le, zr_toInt hx, zr_toInt hy]
theorem zi_eq {x y : Int} (hx : zr x) (hy : zr y) : Int32.ofInt x = Int32.ofInt y ↔ x = y := by
  rw [← Int32.toInt_inj, zr_toInt hx, zr_toInt hy]
theorem zr_0 : zr 0 := ⟨by decide, by decide⟩
theorem cv_cat {ad : Nat → Nat} {v : AV} : (cv ad v).category = 2 ↔ ∃ w, v = vL w := by
  rcases v with _ | z | w | _ | a <;> simp [cv, Value.category]
theorem cv_one {ad : Nat → Nat} {v : AV} (h : ∀ w, v ≠ vL w) : (cv ad v).category = 1 := by
  rcases lv_cat (cv ad v) with h1 | h1
  · exact h1
  · obtain ⟨w, hw⟩ := cv_cat.mp h1
    exact absurd hw (h w)
theorem cv_rf (ad : Nat → Nat) (r : Option Nat) : cv ad (vR r) = va_rf (r.map ad) := by cases r <;> rfl
/-- what an extension keeps -/
def Ext (ad : Nat → Nat) (g : GH) (ad' : Nat → Nat) (g' : GH) : Prop := (∀ a, g.1 a ≠ none → ad' a = ad a ∧ g'.1 a = g.1 a) ∧ ∀ a, 1000000 ≤ a → ad' a = ad a
theorem Ext.rf {ad : Nat → Nat} {g : GH} : Ext ad g ad g := ⟨fun _ _ => ⟨rfl, rfl⟩, fun _ _ => rfl⟩
theorem Ext.sh {ad ad0 : Nat → Nat} {g0 g g' : GH} (h : Ext ad0 g0 ad g) (hg : g'.1 = g.1) : Ext ad0 g0 ad g' := ⟨fun a ha => ⟨(h.1 a ha).1, by rw [hg]; exact (h.1 a ha).2⟩, h.2⟩
theorem Ext.tr {ad0 ad1 ad2 : Nat → Nat} {g0 g1 g2 : GH} (h : Ext ad0 g0 ad1 g1) (h2 : Ext ad1 g1 ad2 g2) : Ext ad0 g0 ad2 g2 := by
  refine ⟨fun a ha => ?_, fun a ha => (h2.2 a ha).trans (h.2 a ha)⟩
  have h1 := h.1 a ha
  have h3 := h2.1 a (by rw [h1.2]; exact ha)
  exact ⟨h3.1.trans h1.1, h3.2.trans h1.2⟩
theorem Ext.cv {ad ad' : Nat → Nat} {g g' : GH} (h : Ext ad g ad' g') {v : AV} (hv : vok g v) : cv ad' v = cv ad v := by
  rcases v with _ | z | w | _ | a
  · rfl
  · rfl
  · rfl
  · rfl
  · rcases hv with hv | hv
    · simp only [_root_.id, Jvm.Pilot.@@N@@.cv]; rw [(h.1 a hv).1]
    · simp only [Jvm.Pilot.@@N@@.cv]; rw [h.2 a hv]
theorem Ext.vok {ad ad' : Nat → Nat} {g g' : GH} (h : Ext ad g ad' g') {v : AV} (hv : vok g v) : vok g' v := by
  rcases v with _ | z | w | _ | a
  · trivial
  · exact hv
  · trivial
  · trivial
  · rcases hv with hv | hv
    · exact Or.inl (by rw [(h.1 a hv).2]; exact hv)
    · exact Or.inr hv
/-- a write: the cell at a gets v in slot k -/
theorem Rp.write {B : BH} {D : va_G} {cid : FieldType → ClassId} {ad : Nat → Nat} {g g' : GH} {H H' : Heap} (h : Rp B D cid ad g H) {a k : Nat} (hsh : g'.1 = g.1) (ha : g.1 a ≠ none)
    (hs : ∀ ty a' k', a' ≠ a ∨ k' ≠ k → fv ty ad g' a' k' = fv ty ad g a' k') (hz : ∀ a k, zr (g'.2.1 a k)) (hc : clo g') (hsz : H'.size = H.size) (ho : ∀ q : Nat, q ≠ ad a → H'[q]? = H[q]?) (hn : ∀ sh, g.1 a = some sh → cok D cid ad g' a H' sh) : Rp B D cid ad g' H' := by
  obtain ⟨h1, h2, h3, h4, h5, h6, h7⟩ := h
  refine ⟨fun b hb => h1 b (by rw [← hsh]; exact hb), fun b c hb hc => h2 b c (by rw [← hsh]; exact hb) (by rw [← hsh]; exact hc), fun q hq => ?_, by omega, fun b sh hb => ?_, hz, hc⟩
  · rw [ho q (by have := h1 a ha; omega)]; exact h3 q hq
  · rw [hsh] at hb
    by_cases e : b = a
    · subst e; exact hn sh hb
    · have hne : ad b ≠ ad a := fun q => e (h2 b a (by rw [hb]; simp) ha q)
      have h8 := h5 b sh hb
      rcases sh with ci | ⟨ty, n⟩
      · obtain ⟨r, hr, hob⟩ := h8
        exact ⟨r, hr, (hob.kept (ho _ hne)).to (fun j _ => (hs _ _ _ (Or.inl e)).symm)⟩
      · refine ⟨h8.1, ?_⟩
        rw [ho _ hne, h8.2]
        congr 2
        funext j
        exact (hs _ _ _ (Or.inl e)).symm
theorem fv_gI_ne {ty : FieldType} {ad : Nat → Nat} {g : GH} {a k a' k' : Nat} {z : Int} (h : a' ≠ a ∨ k' ≠ k) : fv ty ad (gI g a k z) a' k' = fv ty ad g a' k' := by
  unfold fv gI; dsimp only; rw [u2_n h]
theorem fv_gL_ne {ty : FieldType} {ad : Nat → Nat} {g : GH} {a k a' k' : Nat} {z : Int64} (h : a' ≠ a ∨ k' ≠ k) : fv ty ad (gL g a k z) a' k' = fv ty ad g a' k' := by
  unfold fv gL; dsimp only; rw [u2_n h]
theorem fv_gR_ne {ty : FieldType} {ad : Nat → Nat} {g : GH} {a k a' k' : Nat} {z : Option Nat} (h : a' ≠ a ∨ k' ≠ k) : fv ty ad (gR g a k z) a' k' = fv ty ad g a' k' := by
  unfold fv gR; dsimp only; rw [u2_n h]
/-- a new cell -/
theorem Rp.new {B : BH} {D : va_G} {cid : FieldType → ClassId} {ad : Nat → Nat} {g : GH} {H H' : Heap} (h : Rp B D cid ad g H) {a : Nat} {sh : Sh} (ha : g.1 a = none) (hlt : a < 1000000) (hsz : H.size ≤ H'.size) (ho : ∀ q : Nat, q < H.size → H'[q]? = H[q]?) {q0 : Nat} (hq0 : H.size ≤ q0)
    (hn : cok D cid (u1 ad a q0) (gN g a sh) a H' sh) : Rp B D cid (u1 ad a q0) (gN g a sh) H' ∧ Ext ad g (u1 ad a q0) (gN g a sh) := by
  obtain ⟨h1, h2, h3, h4, h5, h6, h7⟩ := h
  have hlt2 : ∀ b, g.1 b ≠ none → ad b < H.size := by
    intro b hb
    cases e : g.1 b with
    | none => exact absurd e hb
    | some sh =>
      have h8 := h5 b sh e
      rcases sh with ci | ⟨ty, n⟩
      · obtain ⟨r, hr, cell, hc, -⟩ := h8
        exact (Array.getElem?_eq_some_iff.mp hc).1
      · exact (Array.getElem?_eq_some_iff.mp h8.2).1
  have hg : ∀ b, b ≠ a → (gN g a sh).1 b = g.1 b := fun b hb => u1_n hb
  have had : ∀ b, b ≠ a → u1 ad a q0 b = ad b := fun b hb => u1_n hb
  have hf : ∀ b ty k, b ≠ a → fv ty (u1 ad a q0) (gN g a sh) b k = fv ty ad g b k := by
    intro b ty k hb
    have hr : (gN g a sh).2.2.2 b k = g.2.2.2 b k := by show u1 g.2.2.2 a _ b k = _; rw [u1_n hb]
    have hi : (gN g a sh).2.1 b k = g.2.1 b k := by show u1 g.2.1 a _ b k = _; rw [u1_n hb]
    have hl : (gN g a sh).2.2.1 b k = g.2.2.1 b k := by show u1 g.2.2.1 a _ b k = _; rw [u1_n hb]
    have hm : (g.2.2.2 b k).map (u1 ad a q0) = (g.2.2.2 b k).map ad := by
      cases e : g.2.2.2 b k with
      | none => rfl
      | some c =>
        have hca : c ≠ a := by
          rcases h7 b k c e with h | h
          · intro q; rw [q] at h; exact h ha
          · omega
        show some (u1 ad a q0 c) = some (ad c)
        rw [had c hca]
    unfold fv
    rw [hr, hi, hl, hm]
  refine ⟨⟨fun b hb => ?_, fun b c hb hc e => ?_, fun q hq => ?_, by omega, fun b sb hb => ?_, fun b k => ?_, fun b k c hc => ?_⟩, ⟨fun b hb => ?_, fun b hb => had b (by omega)⟩⟩
  · by_cases e : b = a
    · subst e; rw [u1_s]; omega
    · rw [had b e]; exact h1 b (by rw [← hg b e]; exact hb)
  · by_cases eb : b = a <;> by_cases ec : c = a
    · rw [eb, ec]
    · subst eb; rw [u1_s, had c ec] at e
      have := hlt2 c (by rw [← hg c ec]; exact hc)
      omega
    · subst ec; rw [u1_s, had b eb] at e
      have := hlt2 b (by rw [← hg b eb]; exact hb)
      omega
    · rw [had b eb, had c ec] at e
      exact h2 b c (by rw [← hg b eb]; exact hb) (by rw [← hg c ec]; exact hc) e
  · rw [ho q (by omega)]; exact h3 q hq
  · by_cases e : b = a
    · subst e
      have : some sh = some sb := by rw [← hb]; exact u1_s.symm
      cases this
      exact hn
    · rw [hg b e] at hb
      have h8 := h5 b sb hb
      have hl := hlt2 b (by rw [hb]; simp)
      rcases sb with ci | ⟨ty, n⟩
      · obtain ⟨r, hr, hob⟩ := h8
        refine ⟨r, hr, ?_⟩
        rw [had b e]
        exact (hob.kept (ho _ hl)).to (fun j _ => (hf b _ j e).symm)
      · refine ⟨h8.1, ?_⟩
        rw [had b e, ho _ hl, h8.2]
        congr 2
        funext j
        exact (hf b _ j e).symm
  · by_cases e : b = a
    · subst e; show zr (u1 g.2.1 b (fun _ => 0) b k); rw [u1_s]; exact zr_0
    · show zr (u1 g.2.1 a (fun _ => 0) b k); rw [u1_n e]; exact h6 b k
  · by_cases e : b = a
    · subst e
      have : u1 g.2.2.2 b (fun _ => none) b k = some c := hc
      rw [u1_s] at this
      cases this
    · have : u1 g.2.2.2 a (fun _ => none) b k = some c := hc
      rw [u1_n e] at this
      rcases h7 b k c this with h | h
      · by_cases ec : c = a
        · subst ec; exact absurd ha h
        · exact Or.inl (by rw [hg c ec]; exact h)
      · exact Or.inr h
  · have e : b ≠ a := fun q => hb (by rw [q]; exact ha)
    exact ⟨had b e, hg b e⟩
end
section
/-! ===== the walk over the abstract heap ===== -/
def tb : List Cond := lw_tbl.filter goodWord
theorem tb_in {w : Cond} (h : w ∈ lw_tbl) (hg : goodWord w = true) : w ∈ tb := List.mem_filter.mpr ⟨h, hg⟩
/-- a method: its name, code, locals, answer's type, room -/
abbrev MI : Type := MethodName × ByteArray × Nat × Option FieldType × Room
def MC (M : MI) (p : Program) (s : State) (m : MethodId) (args : Array Value) (meth : Method) (c : Code) : Prop :=
  p.tables.exec = Jvm.exec ∧ c.code = M.2.1 ∧ meth.sig.returnType = M.2.2.2.1 ∧ c.maxLocals = M.2.2.1 ∧ s.vm.findClass M.1.cls = some m.cls ∧ (∀ w ∈ tb, w.before args s = true) ∧ meth.locks = false ∧ meth.name = M.1.name
def sLen : List Nat := [4, 3, 4, 3, 7]
def sByt : List (List Int32) := [[114, 97, 116, 101], [112, 101, 114], [112, 97, 114, 116], [100, 117, 101], [62, 44, 45, 58, 43, 47, 59]]
def sIdx : List (Nat × String) := [(132, "rate"), (138, "per"), (140, "part"), (142, "due"), (151, ">,-:+/;")]
def SK (B : BH) (ad : Nat → Nat) (U : State) : Prop := ∃ adK adV : Nat → Nat, vk_S 5 sLen sByt adK adV (fun q => B.1 ≤ q) U B.2 ∧ (∀ k, k < 5 → ad (1000000 + k) = adK k ∧ ad (1000100 + k) = adV k) ∧ (∀ k i t, sIdx[k]? = some (i, t) → vk_R RX8 i t (adK k) U) ∧ va_Z "java/lang/String" "COMPACT_STRINGS" "Z" (.int 1) (fun q => B.1 ≤ q) U B.2
def KN (B : BH) (D : va_G) (cid : FieldType → ClassId) (ad : Nat → Nat) (U : State) : Prop :=
  va_K D vwCl [] U ∧ (∀ ty, ty ∈ arrTys → ArrOfT U (cid ty) ty ∧ va_RA U (cid ty) ty) ∧ SK B ad U
theorem KN.ext {B : BH} {D : va_G} {cid : FieldType → ClassId} {ad ad' : Nat → Nat} {U : State} (h : KN B D cid ad U) (he : ∀ a, 1000000 ≤ a → ad' a = ad a) : KN B D cid ad' U := by
  obtain ⟨h1, h2, adK, adV, h3, h4, h5⟩ := h
  exact ⟨h1, h2, adK, adV, h3, fun k hk => ⟨(he _ (by omega)).trans (h4 k hk).1, (he _ (by omega)).trans (h4 k hk).2⟩, h5⟩
theorem KN.warm {B : BH} {D : va_G} {cid : FieldType → ClassId} {ad : Nat → Nat} {s U : State} (hW : s.WarmedH U.vm) (h : KN B D cid ad s) : KN B D cid ad U := by
  obtain ⟨h1, h2, adK, adV, h3, h4, h5, h6⟩ := h
  exact ⟨h1.moved hW.alike, fun ty ht => ⟨arrOfT_moved hW.alike (h2 ty ht).1, (h2 ty ht).2.moved hW.alike⟩, adK, adV, h3.moved hW.alike, h4, fun k i t hk => (h5 k i t hk).warm hW, va_Z.moved hW.alike h6⟩
theorem KN.same {B : BH} {D : va_G} {cid : FieldType → ClassId} {ad : Nat → Nat} {s U : State} (hv : U.vm = s.vm) (h : KN B D cid ad s) : KN B D cid ad U := by
  have ha : s.vm.Alike U.vm := by rw [hv]; exact Vm.Alike.refl _
  obtain ⟨h1, h2, adK, adV, h3, h4, h5, h6⟩ := h
  exact ⟨h1.moved ha, fun ty ht => ⟨arrOfT_moved ha (h2 ty ht).1, (h2 ty ht).2.moved ha⟩, adK, adV, h3.moved ha, h4, fun k i t hk => (h5 k i t hk).same hv, va_Z.moved ha h6⟩
/-- the locals: by their places; none where nothing is known -/
def lvl (ad : Nat → Nat) (ls : List AV) : List (Nat × Value) := (List.range ls.length).filterMap (fun i => match ls[i]? with
  | some (some v) => some (i, cv ad (some v))
  | _ => none)
theorem lvl_mem {ad : Nat → Nat} {ls : List AV} {q : Nat × Value} : q ∈ lvl ad ls ↔ ∃ v, ls[q.1]? = some (some v) ∧ q.2 = cv ad (some v) := by
  unfold lvl
  rw [List.mem_filterMap]
  constructor
  · rintro ⟨i, hi, h⟩
    split at h
    · rename_i v hv
      cases h
      exact ⟨v, hv, rfl⟩
    · cases h
  · rintro ⟨v, hv, h⟩
    refine ⟨q.1, List.mem_range.mpr (List.getElem?_eq_some_iff.mp hv).1, ?_⟩
    rw [hv]
    show some (q.1, _) = some q
    rw [← h]
def lok (ad : Nat → Nat) (nL : Nat) (ls : List AV) (LS : Array Slot) : Prop := lv_has LS nL (lvl ad ls)
theorem lok.at {ad : Nat → Nat} {nL : Nat} {ls : List AV} {LS : Array Slot} (h : lok ad nL ls LS) {i : Nat} {v : Int ⊕ (Int64 ⊕ Option Nat)} (hi : ls[i]? = some (some v)) : LS[i]? = some (.val (cv ad (some v))) :=
  h.2.2 (i, cv ad (some v)) (lvl_mem.mpr ⟨v, hi, rfl⟩)
theorem lok.re {ad ad' : Nat → Nat} {nL : Nat} {ls : List AV} {LS : Array Slot} (h : lok ad nL ls LS) (he : ∀ v ∈ ls, cv ad' v = cv ad v) : lok ad' nL ls LS := by
  refine ⟨h.1, h.2.1, fun q hq => ?_⟩
  obtain ⟨v, hv, e⟩ := lvl_mem.mp hq
  rw [e, he _ (List.mem_of_getElem? hv)]
  exact h.at hv
/-- the place ahead of i holds no long -/
def lnl (ls : List AV) : Nat → Bool
  | 0 => true
  | i + 1 => match ls[i]? with
    | some (some (Sum.inr (Sum.inl _))) => false
    | _ => true
theorem lnl_ne {ls : List AV} {i j : Nat} (h : lnl ls i = true) (hj : j + 1 = i) {w : Int64} : ls[j]? ≠ some (vL w) := by
  subst hj
  intro q
  simp [lnl, q] at h
theorem lok.set {ad : Nat → Nat} {nL : Nat} {ls : List AV} {LS' : Array Slot} {i : Nat} {v : AV} {x : Value} (hx : cv ad v = x) (hn : lnl ls i = true)
    (h : lv_has LS' nL ((i, x) :: (lvl ad ls).filter (fun q => !(q.1 == i) && !(q.1 + 1 == i && q.2.category == 2)))) : lok ad nL (ls.set i v) LS' := by
  refine ⟨h.1, h.2.1, fun q hq => ?_⟩
  obtain ⟨w, hw, e⟩ := lvl_mem.mp hq
  by_cases hi : q.1 = i
  · have h1 := h.2.2 (i, x) List.mem_cons_self
    have h2 : v = some w := by
      rw [hi, List.getElem?_set] at hw
      simp at hw
      exact hw.2
    rw [e, ← h2, hx, hi]
    exact h1
  · rw [List.getElem?_set_ne (Ne.symm hi)] at hw
    refine h.2.2 q (List.mem_cons_of_mem _ (List.mem_filter.mpr ⟨lvl_mem.mpr ⟨w, hw, e⟩, ?_⟩))
    simp only [Bool.and_eq_true, Bool.not_eq_true', beq_eq_false_iff_ne, ne_eq, hi, not_false_eq_true, true_and]
    rw [Bool.and_eq_false_iff]
    by_cases hj : q.1 + 1 = i
    · right
      rw [beq_eq_false_iff_ne]
      intro hc
      rw [e] at hc
      obtain ⟨z, hz⟩ := cv_cat.mp hc
      exact lnl_ne hn hj (hz ▸ hw)
    · left
      rw [beq_eq_false_iff_ne]
      exact hj
theorem lok.set2 {ad : Nat → Nat} {nL : Nat} {ls : List AV} {LS' : Array Slot} {i : Nat} {w : Int64} (hn : lnl ls i = true)
    (h : lv_has LS' nL ((i, Value.long w) :: (lvl ad ls).filter (fun q => !(q.1 == i) && (!(q.1 == i + 1) && !(q.1 + 1 == i && q.2.category == 2))))) : lok ad nL ((ls.set i (vL w)).set (i + 1) none) LS' := by
  refine ⟨h.1, h.2.1, fun q hq => ?_⟩
  obtain ⟨u, hu, e⟩ := lvl_mem.mp hq
  have hi1 : q.1 ≠ i + 1 := by
    intro q1
    rw [q1, List.getElem?_set] at hu
    simp at hu
  rw [List.getElem?_set_ne (Ne.symm hi1)] at hu
  by_cases hi : q.1 = i
  · have h1 := h.2.2 (i, Value.long w) List.mem_cons_self
    have h2 : vL w = some u := by
      rw [hi, List.getElem?_set] at hu
      simp at hu
      rw [← hu.2]
    rw [e, ← h2, hi]
    exact h1
  · rw [List.getElem?_set_ne (Ne.symm hi)] at hu
    refine h.2.2 q (List.mem_cons_of_mem _ (List.mem_filter.mpr ⟨lvl_mem.mpr ⟨u, hu, e⟩, ?_⟩))
    simp only [Bool.and_eq_true, Bool.not_eq_true', beq_eq_false_iff_ne, ne_eq, hi, hi1, not_false_eq_true, true_and]
    rw [Bool.and_eq_false_iff]
    by_cases hj : q.1 + 1 = i
    · right
      rw [beq_eq_false_iff_ne]
      intro hc
      rw [e] at hc
      obtain ⟨z, hz⟩ := cv_cat.mp hc
      exact lnl_ne hn hj (hz ▸ hu)
    · left
      rw [beq_eq_false_iff_ne]
      exact hj
abbrev EndT : Type := BH → va_G → (FieldType → ClassId) → (Nat → Nat) → List Frame → Array Value → State → State → Prop
/-- the heap at the start, what is known of the base, the end -/
abbrev TT : Type := GH × (BH → (Nat → Nat) → State → Prop) × EndT
def AW (M : MI) (T : TT) (kn : Nat × Nat) (g : GH) (pc : Nat) (ls st : List AV) : Prop :=
  ∀ (p : Program) (l : Launch) (e : Env) (s : State) (m : MethodId) (args : Array Value) (below : List Frame) (meth : Method) (c : Code) (B : BH) (D : va_G) (cid : FieldType → ClassId) (ad0 ad : Nat → Nat) (H : Heap) (locs : List Loc) (LS : Array Slot),
    MC M p s m args meth c → KN B D cid ad s → T.2.1 B ad0 s → Ext ad0 T.1 ad g → Rp B D cid ad g H → (∀ q ∈ locs, B.1 ≤ q.base) → lok ad M.2.2.1 ls LS → (∀ v ∈ ls, vok g v) → (∀ v ∈ st, vok g v) →
    W p l e M.2.2.2.2 s m args below meth c H locs kn.1 kn.2 (T.2.2 B D cid ad0 below args s) (F0 m pc LS (st.map (cv ad)))
section AROWS
variable {M : MI} {T : TT} {kn : Nat × Nat} {g : GH} {pc : Nat} {ls st : List AV}
theorem okc {g : GH} {v : AV} {st : List AV} (hv : vok g v) (h : ∀ v ∈ st, vok g v) : ∀ x ∈ v :: st, vok g x := fun x hx => by
  rcases List.mem_cons.mp hx with rfl | hx
  · exact hv
  · exact h x hx
theorem okt {g : GH} {v : AV} {st : List AV} (h : ∀ x ∈ v :: st, vok g x) : ∀ v ∈ st, vok g v := fun x hx => h x (List.mem_cons_of_mem _ hx)
theorem okh {g : GH} {v : AV} {st : List AV} (h : ∀ x ∈ v :: st, vok g x) : vok g v := h v List.mem_cons_self
theorem okset {g : GH} {v : AV} {ls : List AV} {i : Nat} (hv : vok g v) (h : ∀ v ∈ ls, vok g v) : ∀ x ∈ ls.set i v, vok g x := fun x hx => by
  rcases List.mem_or_eq_of_mem_set hx with hx | rfl
  · exact h x hx
  · exact hv
theorem okat {g : GH} {ls : List AV} (h : ∀ v ∈ ls, vok g v) {i : Nat} {v : AV} (hi : ls[i]? = some v) : vok g v := h v (List.mem_of_getElem? hi)
/-- what may be used anywhere: the heap's ints are in range -/
theorem AW.zr (h : (∀ a k, zr (g.2.1 a k)) → AW M T kn g pc ls st) : AW M T kn g pc ls st := by
  intro p l e s m args below meth c B D cid ad0 ad H locs LS mc hK hX hE hR hL hl h1 h2
  exact h hR.2.2.2.2.2.1 p l e s m args below meth c B D cid ad0 ad H locs LS mc hK hX hE hR hL hl h1 h2
theorem AW.ok (h : (∀ v ∈ ls, vok g v) → (∀ v ∈ st, vok g v) → AW M T kn g pc ls st) : AW M T kn g pc ls st := by
  intro p l e s m args below meth c B D cid ad0 ad H locs LS mc hK hX hE hR hL hl h1 h2
  exact h h1 h2 p l e s m args below meth c B D cid ad0 ad H locs LS mc hK hX hE hR hL hl h1 h2
theorem AW.loc {ls' : List AV} (h : AW M T kn g pc ls' st) (hs : ∀ (i : Nat) v, ls'[i]? = some (some v) → ls[i]? = some (some v)) : AW M T kn g pc ls st := by
  intro p l e s m args below meth c B D cid ad0 ad H locs LS mc hK hX hE hR hL hl h1 h2
  refine h p l e s m args below meth c B D cid ad0 ad H locs LS mc hK hX hE hR hL ⟨hl.1, hl.2.1, fun q hq => ?_⟩ (fun v hv => ?_) h2
  · obtain ⟨v, hv, e⟩ := lvl_mem.mp hq
    rw [e]; exact hl.at (hs _ _ hv)
  · cases v with
    | none => trivial
    | some w =>
      obtain ⟨i, hi⟩ := List.getElem?_of_mem hv
      exact h1 _ (List.mem_of_getElem? (hs i w hi))
theorem AW.widen {k n : Nat} (h1 : kn.1 ≤ k) (h2 : kn.2 ≤ n) (h : AW M T (k, n) g pc ls st) : AW M T kn g pc ls st := by
  intro p l e s m args below meth c B D cid ad0 ad H locs LS mc hK hX hE hR hL hl h3 h4
  exact W.widen h1 h2 (h p l e s m args below meth c B D cid ad0 ad H locs LS mc hK hX hE hR hL hl h3 h4)
theorem a_iconst {n z : Int} (pc2 : Nat) (hd : decode M.2.1 pc = .ok (.iconst n, 1)) (hz : n = z) (hr : zr z) (hp : pc + 1 = pc2) (k : AW M T kn g pc2 ls (vI z :: st)) : AW M T kn g pc ls st := by
  intro p l e s m args below meth c B D cid ad0 ad H locs LS mc hK hX hE hR hL hl h1 h2
  subst hp; subst hz
  exact lv_iconst mc.1 mc.2.1 hd rfl (k p l e s m args below meth c B D cid ad0 ad H locs LS mc hK hX hE hR hL hl h1 (okc hr h2))
theorem a_bipush {n z : Int} (pc2 : Nat) (hd : decode M.2.1 pc = .ok (.bipush n, 2)) (hz : (Int8.ofInt n).toInt32 = Int32.ofInt z) (hr : zr z) (hp : pc + 2 = pc2) (k : AW M T kn g pc2 ls (vI z :: st)) : AW M T kn g pc ls st := by
  intro p l e s m args below meth c B D cid ad0 ad H locs LS mc hK hX hE hR hL hl h1 h2
  subst hp
  exact lv_bipush mc.1 mc.2.1 hd hz (k p l e s m args below meth c B D cid ad0 ad H locs LS mc hK hX hE hR hL hl h1 (okc hr h2))
theorem a_sipush {n z : Int} (pc2 : Nat) (hd : decode M.2.1 pc = .ok (.sipush n, 3)) (hz : (Int16.ofInt n).toInt32 = Int32.ofInt z) (hr : zr z) (hp : pc + 3 = pc2) (k : AW M T kn g pc2 ls (vI z :: st)) : AW M T kn g pc ls st := by
  intro p l e s m args below meth c B D cid ad0 ad H locs LS mc hK hX hE hR hL hl h1 h2
  subst hp
  exact lv_sipush mc.1 mc.2.1 hd hz (k p l e s m args below meth c B D cid ad0 ad H locs LS mc hK hX hE hR hL hl h1 (okc hr h2))
theorem a_ldc {index : Nat} {z : Int} (pc2 : Nat) (hd : decode M.2.1 pc = .ok (.ldc index, 2)) (hw : Cond.constant M.1.cls index (Int32.ofInt z) ∈ tb) (hr : zr z) (hp : pc + 2 = pc2) (k : AW M T kn g pc2 ls (vI z :: st)) : AW M T kn g pc ls st := by
  intro p l e s m args below meth c B D cid ad0 ad H locs LS mc hK hX hE hR hL hl h1 h2
  subst hp
  exact lv_ldc mc.1 mc.2.1 mc.2.2.2.2.1 (mc.2.2.2.2.2.1 _ hw) hd (k p l e s m args below meth c B D cid ad0 ad H locs LS mc hK hX hE hR hL hl h1 (okc hr h2))
theorem a_ldcw {index : Nat} {z : Int} (pc2 : Nat) (hd : decode M.2.1 pc = .ok (.ldc_w index, 3)) (hw : Cond.constant M.1.cls index (Int32.ofInt z) ∈ tb) (hr : zr z) (hp : pc + 3 = pc2) (k : AW M T kn g pc2 ls (vI z :: st)) : AW M T kn g pc ls st := by
  intro p l e s m args below meth c B D cid ad0 ad H locs LS mc hK hX hE hR hL hl h1 h2
  subst hp
  exact lv_ldcw mc.1 mc.2.1 mc.2.2.2.2.1 (mc.2.2.2.2.2.1 _ hw) hd (k p l e s m args below meth c B D cid ad0 ad H locs LS mc hK hX hE hR hL hl h1 (okc hr h2))
theorem a_ldc2 {index : Nat} {w : Int64} (pc2 : Nat) (hd : decode M.2.1 pc = .ok (.ldc2_w index, 3)) (hw : Cond.constantLong M.1.cls index w ∈ tb) (hp : pc + 3 = pc2) (k : AW M T kn g pc2 ls (vL w :: st)) : AW M T kn g pc ls st := by
  intro p l e s m args below meth c B D cid ad0 ad H locs LS mc hK hX hE hR hL hl h1 h2
  subst hp
  exact lv_ldc2 mc.1 mc.2.1 mc.2.2.2.2.1 (mc.2.2.2.2.2.1 _ hw) hd (k p l e s m args below meth c B D cid ad0 ad H locs LS mc hK hX hE hR hL hl h1 (okc trivial h2))
theorem a_lconst {n : Fin 2} {w : Int64} (pc2 : Nat) (hd : decode M.2.1 pc = .ok (.lconst n, 1)) (hw : Int64.ofNat (n : Nat) = w) (hp : pc + 1 = pc2) (k : AW M T kn g pc2 ls (vL w :: st)) : AW M T kn g pc ls st := by
  intro p l e s m args below meth c B D cid ad0 ad H locs LS mc hK hX hE hR hL hl h1 h2
  subst hp
  exact lv_lconst mc.1 mc.2.1 hd hw (k p l e s m args below meth c B D cid ad0 ad H locs LS mc hK hX hE hR hL hl h1 (okc trivial h2))
theorem a_null (pc2 : Nat) (hd : decode M.2.1 pc = .ok (.aconst_null, 1)) (hp : pc + 1 = pc2) (k : AW M T kn g pc2 ls (vR none :: st)) : AW M T kn g pc ls st := by
  intro p l e s m args below meth c B D cid ad0 ad H locs LS mc hK hX hE hR hL hl h1 h2
  subst hp
  exact lv_null mc.1 mc.2.1 hd (k p l e s m args below meth c B D cid ad0 ad H locs LS mc hK hX hE hR hL hl h1 (okc trivial h2))
theorem a_iload_n {i : Fin 4} {x : Int} (pc2 : Nat) (hd : decode M.2.1 pc = .ok (.iload_n i, 1)) (hi : ls[(i : Nat)]? = some (vI x)) (hp : pc + 1 = pc2) (k : AW M T kn g pc2 ls (vI x :: st)) : AW M T kn g pc ls st := by
  intro p l e s m args below meth c B D cid ad0 ad H locs LS mc hK hX hE hR hL hl h1 h2
  subst hp
  exact lv_iload_n mc.1 mc.2.1 hd rfl (hl.at hi) (k p l e s m args below meth c B D cid ad0 ad H locs LS mc hK hX hE hR hL hl h1 (okc (okat h1 hi) h2))
theorem a_iload {i : Nat} {x : Int} (pc2 : Nat) (hd : decode M.2.1 pc = .ok (.iload i, 2)) (hi : ls[i]? = some (vI x)) (hp : pc + 2 = pc2) (k : AW M T kn g pc2 ls (vI x :: st)) : AW M T kn g pc ls st := by
  intro p l e s m args below meth c B D cid ad0 ad H locs LS mc hK hX hE hR hL hl h1 h2
  subst hp
  exact lv_iload mc.1 mc.2.1 hd (hl.at hi) (k p l e s m args below meth c B D cid ad0 ad H locs LS mc hK hX hE hR hL hl h1 (okc (okat h1 hi) h2))
theorem a_lload_n {i : Fin 4} {x : Int64} (pc2 : Nat) (hd : decode M.2.1 pc = .ok (.lload_n i, 1)) (hi : ls[(i : Nat)]? = some (vL x)) (hp : pc + 1 = pc2) (k : AW M T kn g pc2 ls (vL x :: st)) : AW M T kn g pc ls st := by
  intro p l e s m args below meth c B D cid ad0 ad H locs LS mc hK hX hE hR hL hl h1 h2
  subst hp
  exact lv_lload_n mc.1 mc.2.1 hd rfl (hl.at hi) (k p l e s m args below meth c B D cid ad0 ad H locs LS mc hK hX hE hR hL hl h1 (okc trivial h2))
theorem a_lload {i : Nat} {x : Int64} (pc2 : Nat) (hd : decode M.2.1 pc = .ok (.lload i, 2)) (hi : ls[i]? = some (vL x)) (hp : pc + 2 = pc2) (k : AW M T kn g pc2 ls (vL x :: st)) : AW M T kn g pc ls st := by
  intro p l e s m args below meth c B D cid ad0 ad H locs LS mc hK hX hE hR hL hl h1 h2
  subst hp
  exact lv_lload mc.1 mc.2.1 hd (hl.at hi) (k p l e s m args below meth c B D cid ad0 ad H locs LS mc hK hX hE hR hL hl h1 (okc trivial h2))
theorem a_aload_n {i : Fin 4} {r : Option Nat} (pc2 : Nat) (hd : decode M.2.1 pc = .ok (.aload_n i, 1)) (hi : ls[(i : Nat)]? = some (vR r)) (hp : pc + 1 = pc2) (k : AW M T kn g pc2 ls (vR r :: st)) : AW M T kn g pc ls st := by
  intro p l e s m args below meth c B D cid ad0 ad H locs LS mc hK hX hE hR hL hl h1 h2
  subst hp
  have hk := k p l e s m args below meth c B D cid ad0 ad H locs LS mc hK hX hE hR hL hl h1 (okc (okat h1 hi) h2)
  cases r with
  | none => exact lv_aload_nN mc.1 mc.2.1 hd rfl (hl.at hi) hk
  | some a => exact lv_aload_n mc.1 mc.2.1 hd rfl (hl.at hi) hk
theorem a_aload {i : Nat} {r : Option Nat} (pc2 : Nat) (hd : decode M.2.1 pc = .ok (.aload i, 2)) (hi : ls[i]? = some (vR r)) (hp : pc + 2 = pc2) (k : AW M T kn g pc2 ls (vR r :: st)) : AW M T kn g pc ls st := by
  intro p l e s m args below meth c B D cid ad0 ad H locs LS mc hK hX hE hR hL hl h1 h2
  subst hp
  have hk := k p l e s m args below meth c B D cid ad0 ad H locs LS mc hK hX hE hR hL hl h1 (okc (okat h1 hi) h2)
  cases r with
  | none => exact lv_aloadN mc.1 mc.2.1 hd (hl.at hi) hk
  | some a => exact lv_aload mc.1 mc.2.1 hd (hl.at hi) hk
theorem a_istore_n {i : Fin 4} {x : Int} (pc2 : Nat) (hd : decode M.2.1 pc = .ok (.istore_n i, 1)) (hn : (i : Nat) < M.2.2.1) (hl2 : lnl ls i = true) (hp : pc + 1 = pc2) (k : AW M T kn g pc2 (ls.set i (vI x)) st) : AW M T kn g pc ls (vI x :: st) := by
  intro p l e s m args below meth c B D cid ad0 ad H locs LS mc hK hX hE hR hL hl h1 h2
  subst hp
  exact lv_istore_n mc.1 mc.2.1 hd rfl hl hn rfl (fun LS' hl' => k p l e s m args below meth c B D cid ad0 ad H locs LS' mc hK hX hE hR hL (lok.set rfl hl2 hl') (okset (okh h2) h1) (okt h2))
theorem a_istore {i : Nat} {x : Int} (pc2 : Nat) (hd : decode M.2.1 pc = .ok (.istore i, 2)) (hn : i < M.2.2.1) (hl2 : lnl ls i = true) (hp : pc + 2 = pc2) (k : AW M T kn g pc2 (ls.set i (vI x)) st) : AW M T kn g pc ls (vI x :: st) := by
  intro p l e s m args below meth c B D cid ad0 ad H locs LS mc hK hX hE hR hL hl h1 h2
  subst hp
  exact lv_istore mc.1 mc.2.1 hd hl hn rfl (fun LS' hl' => k p l e s m args below meth c B D cid ad0 ad H locs LS' mc hK hX hE hR hL (lok.set rfl hl2 hl') (okset (okh h2) h1) (okt h2))
theorem a_lstore_n {i : Fin 4} {x : Int64} (pc2 : Nat) (hd : decode M.2.1 pc = .ok (.lstore_n i, 1)) (hn : (i : Nat) + 1 < M.2.2.1) (hl2 : lnl ls i = true) (hp : pc + 1 = pc2) (k : AW M T kn g pc2 ((ls.set i (vL x)).set (i + 1) none) st) : AW M T kn g pc ls (vL x :: st) := by
  intro p l e s m args below meth c B D cid ad0 ad H locs LS mc hK hX hE hR hL hl h1 h2
  subst hp
  exact lv_lstore_n mc.1 mc.2.1 hd rfl hl hn rfl (fun LS' hl' => k p l e s m args below meth c B D cid ad0 ad H locs LS' mc hK hX hE hR hL (lok.set2 hl2 hl') (okset trivial (okset trivial h1)) (okt h2))
theorem a_lstore {i : Nat} {x : Int64} (pc2 : Nat) (hd : decode M.2.1 pc = .ok (.lstore i, 2)) (hn : i + 1 < M.2.2.1) (hl2 : lnl ls i = true) (hp : pc + 2 = pc2) (k : AW M T kn g pc2 ((ls.set i (vL x)).set (i + 1) none) st) : AW M T kn g pc ls (vL x :: st) := by
  intro p l e s m args below meth c B D cid ad0 ad H locs LS mc hK hX hE hR hL hl h1 h2
  subst hp
  exact lv_lstore mc.1 mc.2.1 hd hl hn rfl (fun LS' hl' => k p l e s m args below meth c B D cid ad0 ad H locs LS' mc hK hX hE hR hL (lok.set2 hl2 hl') (okset trivial (okset trivial h1)) (okt h2))
theorem a_astore_n {i : Fin 4} {r : Option Nat} (pc2 : Nat) (hd : decode M.2.1 pc = .ok (.astore_n i, 1)) (hn : (i : Nat) < M.2.2.1) (hl2 : lnl ls i = true) (hp : pc + 1 = pc2) (k : AW M T kn g pc2 (ls.set i (vR r)) st) : AW M T kn g pc ls (vR r :: st) := by
  intro p l e s m args below meth c B D cid ad0 ad H locs LS mc hK hX hE hR hL hl h1 h2
  subst hp
  cases r with
  | none => exact lv_astore_nN mc.1 mc.2.1 hd rfl hl hn rfl (fun LS' hl' => k p l e s m args below meth c B D cid ad0 ad H locs LS' mc hK hX hE hR hL (lok.set rfl hl2 hl') (okset trivial h1) (okt h2))
  | some a => exact lv_astore_n mc.1 mc.2.1 hd rfl hl hn rfl (fun LS' hl' => k p l e s m args below meth c B D cid ad0 ad H locs LS' mc hK hX hE hR hL (lok.set rfl hl2 hl') (okset (okh h2) h1) (okt h2))
theorem a_astore {i : Nat} {r : Option Nat} (pc2 : Nat) (hd : decode M.2.1 pc = .ok (.astore i, 2)) (hn : i < M.2.2.1) (hl2 : lnl ls i = true) (hp : pc + 2 = pc2) (k : AW M T kn g pc2 (ls.set i (vR r)) st) : AW M T kn g pc ls (vR r :: st) := by
  intro p l e s m args below meth c B D cid ad0 ad H locs LS mc hK hX hE hR hL hl h1 h2
  subst hp
  cases r with
  | none => exact lv_astoreN mc.1 mc.2.1 hd hl hn rfl (fun LS' hl' => k p l e s m args below meth c B D cid ad0 ad H locs LS' mc hK hX hE hR hL (lok.set rfl hl2 hl') (okset trivial h1) (okt h2))
  | some a => exact lv_astore mc.1 mc.2.1 hd hl hn rfl (fun LS' hl' => k p l e s m args below meth c B D cid ad0 ad H locs LS' mc hK hX hE hR hL (lok.set rfl hl2 hl') (okset (okh h2) h1) (okt h2))
theorem lvl_k {ad : Nat → Nat} {ls : List AV} {i : Nat} {v : Int ⊕ (Int64 ⊕ Option Nat)} (h : ls[i]? = some (some v)) : ∃ k : Nat, (lvl ad ls)[k]? = some (i, cv ad (some v)) :=
  List.getElem?_of_mem (lvl_mem.mpr ⟨v, h, rfl⟩)
theorem a_iinc {i : Nat} {n x : Int} (pc2 : Nat) (hd : decode M.2.1 pc = .ok (.iinc i n, 3)) (hi : ls[i]? = some (vI x)) (hz : zr (x + n)) (hn : i < M.2.2.1) (hl2 : lnl ls i = true) (hp : pc + 3 = pc2) (k : AW M T kn g pc2 (ls.set i (vI (x + n))) st) : AW M T kn g pc ls st := by
  intro p l e s m args below meth c B D cid ad0 ad H locs LS mc hK hX hE hR hL hl h1 h2
  subst hp
  obtain ⟨kk, hk⟩ := lvl_k (ad := ad) hi
  exact lv_iinc mc.1 mc.2.1 hd hl hk (Int32.ofInt_add x n).symm hn rfl (fun LS' hl' => k p l e s m args below meth c B D cid ad0 ad H locs LS' mc hK hX hE hR hL (lok.set rfl hl2 hl') (okset hz h1) h2)
theorem a_goto {off : Int} (tgt : Nat) (hd : decode M.2.1 pc = .ok (.goto off, 3)) (ht : (pc : Int) + off = (tgt : Int)) (k : AW M T kn g tgt ls st) : AW M T kn g pc ls st := by
  intro p l e s m args below meth c B D cid ad0 ad H locs LS mc hK hX hE hR hL hl h1 h2
  exact lv_goto mc.1 mc.2.1 hd ht (k p l e s m args below meth c B D cid ad0 ad H locs LS mc hK hX hE hR hL hl h1 h2)
theorem a_iadd {x y : Int} (pc2 : Nat) (hd : decode M.2.1 pc = .ok (.iadd, 1)) (hz : zr (x + y)) (hp : pc + 1 = pc2) (k : AW M T kn g pc2 ls (vI (x + y) :: st)) : AW M T kn g pc ls (vI y :: vI x :: st) := by
  intro p l e s m args below meth c B D cid ad0 ad H locs LS mc hK hX hE hR hL hl h1 h2
  subst hp
  have hk := k p l e s m args below meth c B D cid ad0 ad H locs LS mc hK hX hE hR hL hl h1 (okc hz (okt (okt h2)))
  refine lv_iadd mc.1 mc.2.1 hd ?_
  rw [← Int32.ofInt_add]; exact hk
theorem a_isub {x y : Int} (pc2 : Nat) (hd : decode M.2.1 pc = .ok (.isub, 1)) (hz : zr (x - y)) (hp : pc + 1 = pc2) (k : AW M T kn g pc2 ls (vI (x - y) :: st)) : AW M T kn g pc ls (vI y :: vI x :: st) := by
  intro p l e s m args below meth c B D cid ad0 ad H locs LS mc hK hX hE hR hL hl h1 h2
  subst hp
  have hk := k p l e s m args below meth c B D cid ad0 ad H locs LS mc hK hX hE hR hL hl h1 (okc hz (okt (okt h2)))
  refine lv_isub mc.1 mc.2.1 hd ?_
  rw [← Int32.ofInt_sub]; exact hk
theorem a_imul {x y : Int} (pc2 : Nat) (hd : decode M.2.1 pc = .ok (.imul, 1)) (hz : zr (x * y)) (hp : pc + 1 = pc2) (k : AW M T kn g pc2 ls (vI (x * y) :: st)) : AW M T kn g pc ls (vI y :: vI x :: st) := by
  intro p l e s m args below meth c B D cid ad0 ad H locs LS mc hK hX hE hR hL hl h1 h2
  subst hp
  have hk := k p l e s m args below meth c B D cid ad0 ad H locs LS mc hK hX hE hR hL hl h1 (okc hz (okt (okt h2)))
  refine lv_imul mc.1 mc.2.1 hd ?_
  rw [← Int32.ofInt_mul]; exact hk
/-- any int operation, by its value -/
theorem z_of {x : Int32} {z : Int} (h : x.toInt = z) : x = Int32.ofInt z := by rw [← h, Int32.ofInt_toInt]
theorem zdiv {x y : Int} (hx : zr x) (hy : zr y) (h0 : 0 ≤ x) (h1 : 0 < y) : Int32.ofInt x / Int32.ofInt y = Int32.ofInt (x / y) := by
  apply z_of
  rw [Int32.toInt_div_of_ne_right _ _ (fun h => by
    have h2 := congrArg Int32.toInt h
    rw [zr_toInt hy] at h2
    have h3 : (-1 : Int32).toInt = -1 := by decide
    omega), zr_toInt hx, zr_toInt hy, Int.tdiv_eq_ediv_of_nonneg h0]
theorem zdiv_le {x y : Int} (h0 : 0 ≤ x) (h1 : 0 < y) : 0 ≤ x / y ∧ x / y ≤ x := ⟨Int.ediv_nonneg h0 (by omega), Int.ediv_le_self _ h0⟩
theorem zne0 {y : Int} (hy : zr y) (h : y ≠ 0) : ¬ Int32.ofInt y = 0 := fun q => h ((zi_eq hy zr_0).mp q)
theorem a_idiv {x y : Int} (pc2 : Nat) (hd : decode M.2.1 pc = .ok (.idiv, 1)) (h0 : 0 ≤ x) (h1 : 0 < y) (hp : pc + 1 = pc2) (k : AW M T kn g pc2 ls (vI (x / y) :: st)) : AW M T kn g pc ls (vI y :: vI x :: st) := by
  intro p l e s m args below meth c B D cid ad0 ad H locs LS mc hK hX hE hR hL hl h3 h2
  subst hp
  have hy : zr y := okh h2
  have hx : zr x := okh (okt h2)
  have hk := k p l e s m args below meth c B D cid ad0 ad H locs LS mc hK hX hE hR hL hl h3 (okc (show zr (x / y) from ⟨by have := (zdiv_le h0 h1).1; omega, by have := (zdiv_le h0 h1).2; have := hx.2; omega⟩) (okt (okt h2)))
  refine lv_idiv mc.1 mc.2.1 hd (zne0 hy (by omega)) ?_
  rw [zdiv hx hy h0 h1]; exact hk
theorem a_irem {x y : Int} (pc2 : Nat) (hd : decode M.2.1 pc = .ok (.irem, 1)) (h0 : 0 ≤ x) (h1 : 0 < y) (hp : pc + 1 = pc2) (k : AW M T kn g pc2 ls (vI (x % y) :: st)) : AW M T kn g pc ls (vI y :: vI x :: st) := by
  intro p l e s m args below meth c B D cid ad0 ad H locs LS mc hK hX hE hR hL hl h3 h2
  subst hp
  have hy : zr y := okh h2
  have hx : zr x := okh (okt h2)
  have hb1 := Int.emod_nonneg x (show y ≠ 0 by omega)
  have hb2 := Int.emod_lt_of_pos x h1
  have hk := k p l e s m args below meth c B D cid ad0 ad H locs LS mc hK hX hE hR hL hl h3 (okc (show zr (x % y) from ⟨by omega, by have := hy.2; omega⟩) (okt (okt h2)))
  refine lv_irem mc.1 mc.2.1 hd (zne0 hy (by omega)) ?_
  rw [zdiv hx hy h0 h1, ← Int32.ofInt_mul, ← Int32.ofInt_sub, show x - x / y * y = x % y by rw [Int.emod_def, Int.mul_comm]]
  exact hk
/-- iand, ior, ixor, shifts by a value that is shown to be theirs -/
theorem a_iand {x y : Int} (z : Int) (pc2 : Nat) (hd : decode M.2.1 pc = .ok (.iand, 1)) (hz : zr x → zr y → (Int32.ofInt x &&& Int32.ofInt y) = Int32.ofInt z ∧ zr z) (hp : pc + 1 = pc2) (k : AW M T kn g pc2 ls (vI z :: st)) : AW M T kn g pc ls (vI y :: vI x :: st) := by
  intro p l e s m args below meth c B D cid ad0 ad H locs LS mc hK hX hE hR hL hl h3 h2
  subst hp
  have h5 := hz (okh (okt h2)) (okh h2)
  have hk := k p l e s m args below meth c B D cid ad0 ad H locs LS mc hK hX hE hR hL hl h3 (okc h5.2 (okt (okt h2)))
  refine lv_iand mc.1 mc.2.1 hd ?_
  rw [h5.1]; exact hk
theorem a_ior {x y : Int} (z : Int) (pc2 : Nat) (hd : decode M.2.1 pc = .ok (.ior, 1)) (hz : zr x → zr y → (Int32.ofInt x ||| Int32.ofInt y) = Int32.ofInt z ∧ zr z) (hp : pc + 1 = pc2) (k : AW M T kn g pc2 ls (vI z :: st)) : AW M T kn g pc ls (vI y :: vI x :: st) := by
  intro p l e s m args below meth c B D cid ad0 ad H locs LS mc hK hX hE hR hL hl h3 h2
  subst hp
  have h5 := hz (okh (okt h2)) (okh h2)
  have hk := k p l e s m args below meth c B D cid ad0 ad H locs LS mc hK hX hE hR hL hl h3 (okc h5.2 (okt (okt h2)))
  refine lv_ior mc.1 mc.2.1 hd ?_
  rw [h5.1]; exact hk
theorem a_ixor {x y : Int} (z : Int) (pc2 : Nat) (hd : decode M.2.1 pc = .ok (.ixor, 1)) (hz : zr x → zr y → (Int32.ofInt x ^^^ Int32.ofInt y) = Int32.ofInt z ∧ zr z) (hp : pc + 1 = pc2) (k : AW M T kn g pc2 ls (vI z :: st)) : AW M T kn g pc ls (vI y :: vI x :: st) := by
  intro p l e s m args below meth c B D cid ad0 ad H locs LS mc hK hX hE hR hL hl h3 h2
  subst hp
  have h5 := hz (okh (okt h2)) (okh h2)
  have hk := k p l e s m args below meth c B D cid ad0 ad H locs LS mc hK hX hE hR hL hl h3 (okc h5.2 (okt (okt h2)))
  refine lv_ixor mc.1 mc.2.1 hd ?_
  rw [h5.1]; exact hk
theorem a_ishl {x y : Int} (z : Int) (pc2 : Nat) (hd : decode M.2.1 pc = .ok (.ishl, 1)) (hz : zr x → zr y → (Int32.ofInt x <<< (Int32.ofInt y &&& 31)) = Int32.ofInt z ∧ zr z) (hp : pc + 1 = pc2) (k : AW M T kn g pc2 ls (vI z :: st)) : AW M T kn g pc ls (vI y :: vI x :: st) := by
  intro p l e s m args below meth c B D cid ad0 ad H locs LS mc hK hX hE hR hL hl h3 h2
  subst hp
  have h5 := hz (okh (okt h2)) (okh h2)
  have hk := k p l e s m args below meth c B D cid ad0 ad H locs LS mc hK hX hE hR hL hl h3 (okc h5.2 (okt (okt h2)))
  refine lv_ishl mc.1 mc.2.1 hd ?_
  rw [h5.1]; exact hk
theorem a_ishr {x y : Int} (z : Int) (pc2 : Nat) (hd : decode M.2.1 pc = .ok (.ishr, 1)) (hz : zr x → zr y → (Int32.ofInt x >>> (Int32.ofInt y &&& 31)) = Int32.ofInt z ∧ zr z) (hp : pc + 1 = pc2) (k : AW M T kn g pc2 ls (vI z :: st)) : AW M T kn g pc ls (vI y :: vI x :: st) := by
  intro p l e s m args below meth c B D cid ad0 ad H locs LS mc hK hX hE hR hL hl h3 h2
  subst hp
  have h5 := hz (okh (okt h2)) (okh h2)
  have hk := k p l e s m args below meth c B D cid ad0 ad H locs LS mc hK hX hE hR hL hl h3 (okc h5.2 (okt (okt h2)))
  refine lv_ishr mc.1 mc.2.1 hd ?_
  rw [h5.1]; exact hk
theorem a_iushr {x y : Int} (z : Int) (pc2 : Nat) (hd : decode M.2.1 pc = .ok (.iushr, 1)) (hz : zr x → zr y → ((Int32.ofInt x).toUInt32 >>> ((Int32.ofInt y).toUInt32 &&& Int32.toUInt32 31)).toInt32 = Int32.ofInt z ∧ zr z) (hp : pc + 1 = pc2) (k : AW M T kn g pc2 ls (vI z :: st)) : AW M T kn g pc ls (vI y :: vI x :: st) := by
  intro p l e s m args below meth c B D cid ad0 ad H locs LS mc hK hX hE hR hL hl h3 h2
  subst hp
  have h5 := hz (okh (okt h2)) (okh h2)
  exact lv_iushr mc.1 mc.2.1 hd h5.1 (k p l e s m args below meth c B D cid ad0 ad H locs LS mc hK hX hE hR hL hl h3 (okc h5.2 (okt (okt h2))))
theorem a_i2b {x : Int} (z : Int) (pc2 : Nat) (hd : decode M.2.1 pc = .ok (.i2b, 1)) (hz : (Int32.ofInt x).toInt8.toInt32 = Int32.ofInt z ∧ zr z) (hp : pc + 1 = pc2) (k : AW M T kn g pc2 ls (vI z :: st)) : AW M T kn g pc ls (vI x :: st) := by
  intro p l e s m args below meth c B D cid ad0 ad H locs LS mc hK hX hE hR hL hl h3 h2
  subst hp
  exact lv_i2b mc.1 mc.2.1 hd hz.1 (k p l e s m args below meth c B D cid ad0 ad H locs LS mc hK hX hE hR hL hl h3 (okc hz.2 (okt h2)))
theorem a_i2c {x : Int} (pc2 : Nat) (hd : decode M.2.1 pc = .ok (.i2c, 1)) (h0 : 0 ≤ x) (h1 : x < 65536) (hp : pc + 1 = pc2) (k : AW M T kn g pc2 ls (vI x :: st)) : AW M T kn g pc ls (vI x :: st) := by
  intro p l e s m args below meth c B D cid ad0 ad H locs LS mc hK hX hE hR hL hl h3 h2
  subst hp
  refine lv_i2c mc.1 mc.2.1 hd ?_ (k p l e s m args below meth c B D cid ad0 ad H locs LS mc hK hX hE hR hL hl h3 h2)
  obtain ⟨n, rfl⟩ := Int.eq_ofNat_of_zero_le h0
  have e : Int32.ofInt (n : Int) = nI n := Int32.ofInt_eq_ofNat
  rw [e, pk_char, pk_tn (by omega), Nat.mod_eq_of_lt (by omega)]
theorem a_i2l {x : Int} {w : Int64} (pc2 : Nat) (hd : decode M.2.1 pc = .ok (.i2l, 1)) (hw : (Int32.ofInt x).toInt64 = w) (hp : pc + 1 = pc2) (k : AW M T kn g pc2 ls (vL w :: st)) : AW M T kn g pc ls (vI x :: st) := by
  intro p l e s m args below meth c B D cid ad0 ad H locs LS mc hK hX hE hR hL hl h3 h2
  subst hp
  exact lv_i2l mc.1 mc.2.1 hd hw (k p l e s m args below meth c B D cid ad0 ad H locs LS mc hK hX hE hR hL hl h3 (okc trivial (okt h2)))
theorem a_l2i {x : Int64} (pc2 : Nat) (hd : decode M.2.1 pc = .ok (.l2i, 1)) (hp : pc + 1 = pc2) (k : AW M T kn g pc2 ls (vI x.toInt32.toInt :: st)) : AW M T kn g pc ls (vL x :: st) := by
  intro p l e s m args below meth c B D cid ad0 ad H locs LS mc hK hX hE hR hL hl h3 h2
  subst hp
  exact lv_l2i mc.1 mc.2.1 hd (Int32.ofInt_toInt _).symm (k p l e s m args below meth c B D cid ad0 ad H locs LS mc hK hX hE hR hL hl h3 (okc (zr_32 _) (okt h2)))
theorem a_ladd {x y : Int64} (pc2 : Nat) (hd : decode M.2.1 pc = .ok (.ladd, 1)) (hp : pc + 1 = pc2) (k : AW M T kn g pc2 ls (vL (x + y) :: st)) : AW M T kn g pc ls (vL y :: vL x :: st) := by
  intro p l e s m args below meth c B D cid ad0 ad H locs LS mc hK hX hE hR hL hl h3 h2
  subst hp
  exact lv_ladd mc.1 mc.2.1 hd (k p l e s m args below meth c B D cid ad0 ad H locs LS mc hK hX hE hR hL hl h3 (okc trivial (okt (okt h2))))
theorem a_lsub {x y : Int64} (pc2 : Nat) (hd : decode M.2.1 pc = .ok (.lsub, 1)) (hp : pc + 1 = pc2) (k : AW M T kn g pc2 ls (vL (x - y) :: st)) : AW M T kn g pc ls (vL y :: vL x :: st) := by
  intro p l e s m args below meth c B D cid ad0 ad H locs LS mc hK hX hE hR hL hl h3 h2
  subst hp
  exact lv_lsub mc.1 mc.2.1 hd (k p l e s m args below meth c B D cid ad0 ad H locs LS mc hK hX hE hR hL hl h3 (okc trivial (okt (okt h2))))
theorem a_land {x y : Int64} (pc2 : Nat) (hd : decode M.2.1 pc = .ok (.land, 1)) (hp : pc + 1 = pc2) (k : AW M T kn g pc2 ls (vL (x &&& y) :: st)) : AW M T kn g pc ls (vL y :: vL x :: st) := by
  intro p l e s m args below meth c B D cid ad0 ad H locs LS mc hK hX hE hR hL hl h3 h2
  subst hp
  exact lv_land mc.1 mc.2.1 hd (k p l e s m args below meth c B D cid ad0 ad H locs LS mc hK hX hE hR hL hl h3 (okc trivial (okt (okt h2))))
theorem a_lor {x y : Int64} (pc2 : Nat) (hd : decode M.2.1 pc = .ok (.lor, 1)) (hp : pc + 1 = pc2) (k : AW M T kn g pc2 ls (vL (x ||| y) :: st)) : AW M T kn g pc ls (vL y :: vL x :: st) := by
  intro p l e s m args below meth c B D cid ad0 ad H locs LS mc hK hX hE hR hL hl h3 h2
  subst hp
  exact lv_lor mc.1 mc.2.1 hd (k p l e s m args below meth c B D cid ad0 ad H locs LS mc hK hX hE hR hL hl h3 (okc trivial (okt (okt h2))))
theorem a_lxor {x y : Int64} (pc2 : Nat) (hd : decode M.2.1 pc = .ok (.lxor, 1)) (hp : pc + 1 = pc2) (k : AW M T kn g pc2 ls (vL (x ^^^ y) :: st)) : AW M T kn g pc ls (vL y :: vL x :: st) := by
  intro p l e s m args below meth c B D cid ad0 ad H locs LS mc hK hX hE hR hL hl h3 h2
  subst hp
  exact lv_lxor mc.1 mc.2.1 hd (k p l e s m args below meth c B D cid ad0 ad H locs LS mc hK hX hE hR hL hl h3 (okc trivial (okt (okt h2))))
theorem a_lushr {x w : Int64} {y : Int} (pc2 : Nat) (hd : decode M.2.1 pc = .ok (.lushr, 1)) (hw : (x.toUInt64 >>> ((Int32.ofInt y).toInt64.toUInt64 &&& Int64.toUInt64 63)).toInt64 = w) (hp : pc + 1 = pc2) (k : AW M T kn g pc2 ls (vL w :: st)) : AW M T kn g pc ls (vI y :: vL x :: st) := by
  intro p l e s m args below meth c B D cid ad0 ad H locs LS mc hK hX hE hR hL hl h3 h2
  subst hp
  exact lv_lushr mc.1 mc.2.1 hd hw (k p l e s m args below meth c B D cid ad0 ad H locs LS mc hK hX hE hR hL hl h3 (okc trivial (okt (okt h2))))
theorem a_lshl {x w : Int64} {y : Int} (pc2 : Nat) (hd : decode M.2.1 pc = .ok (.lshl, 1)) (hw : x <<< ((Int32.ofInt y).toInt64 &&& 63) = w) (hp : pc + 1 = pc2) (k : AW M T kn g pc2 ls (vL w :: st)) : AW M T kn g pc ls (vI y :: vL x :: st) := by
  intro p l e s m args below meth c B D cid ad0 ad H locs LS mc hK hX hE hR hL hl h3 h2
  subst hp
  exact lv_lshl mc.1 mc.2.1 hd hw (k p l e s m args below meth c B D cid ad0 ad H locs LS mc hK hX hE hR hL hl h3 (okc trivial (okt (okt h2))))
theorem a_lshr {x w : Int64} {y : Int} (pc2 : Nat) (hd : decode M.2.1 pc = .ok (.lshr, 1)) (hw : x >>> ((Int32.ofInt y).toInt64 &&& 63) = w) (hp : pc + 1 = pc2) (k : AW M T kn g pc2 ls (vL w :: st)) : AW M T kn g pc ls (vI y :: vL x :: st) := by
  intro p l e s m args below meth c B D cid ad0 ad H locs LS mc hK hX hE hR hL hl h3 h2
  subst hp
  exact lv_lshr mc.1 mc.2.1 hd hw (k p l e s m args below meth c B D cid ad0 ad H locs LS mc hK hX hE hR hL hl h3 (okc trivial (okt (okt h2))))
def lcm (x y : Int64) : Int := if x > y then 1 else if x = y then 0 else -1
theorem a_lcmp {x y : Int64} (pc2 : Nat) (hd : decode M.2.1 pc = .ok (.lcmp, 1)) (hp : pc + 1 = pc2) (k : AW M T kn g pc2 ls (vI (lcm x y) :: st)) : AW M T kn g pc ls (vL y :: vL x :: st) := by
  intro p l e s m args below meth c B D cid ad0 ad H locs LS mc hK hX hE hR hL hl h3 h2
  subst hp
  have hz : zr (lcm x y) := by unfold lcm zr; split <;> (try split) <;> decide
  have hk := k p l e s m args below meth c B D cid ad0 ad H locs LS mc hK hX hE hR hL hl h3 (okc hz (okt (okt h2)))
  refine W.lcmp mc.1 mc.2.1 hd ?_
  have e9 : lg_cmp x y = Int32.ofInt (lcm x y) := by unfold lg_cmp lcm; split <;> (try split) <;> rfl
  rw [e9]; exact hk
theorem a_dup {v : AV} (pc2 : Nat) (hd : decode M.2.1 pc = .ok (.dup, 1)) (hv : ∀ w, v ≠ vL w) (hp : pc + 1 = pc2) (k : AW M T kn g pc2 ls (v :: v :: st)) : AW M T kn g pc ls (v :: st) := by
  intro p l e s m args below meth c B D cid ad0 ad H locs LS mc hK hX hE hR hL hl h3 h2
  subst hp
  exact lv_dup mc.1 mc.2.1 hd (cv_one hv) (k p l e s m args below meth c B D cid ad0 ad H locs LS mc hK hX hE hR hL hl h3 (okc (okh h2) h2))
theorem a_pop {v : AV} (pc2 : Nat) (hd : decode M.2.1 pc = .ok (.pop, 1)) (hv : ∀ w, v ≠ vL w) (hp : pc + 1 = pc2) (k : AW M T kn g pc2 ls st) : AW M T kn g pc ls (v :: st) := by
  intro p l e s m args below meth c B D cid ad0 ad H locs LS mc hK hX hE hR hL hl h3 h2
  subst hp
  exact lv_pop mc.1 mc.2.1 hd (cv_one hv) (k p l e s m args below meth c B D cid ad0 ad H locs LS mc hK hX hE hR hL hl h3 (okt h2))
theorem a_dup_x1 {v u : AV} (pc2 : Nat) (hd : decode M.2.1 pc = .ok (.dup_x1, 1)) (hv : ∀ w, v ≠ vL w) (hu : ∀ w, u ≠ vL w) (hp : pc + 1 = pc2) (k : AW M T kn g pc2 ls (v :: u :: v :: st)) : AW M T kn g pc ls (v :: u :: st) := by
  intro p l e s m args below meth c B D cid ad0 ad H locs LS mc hK hX hE hR hL hl h3 h2
  subst hp
  exact lv_dup_x1 mc.1 mc.2.1 hd (cv_one hv) (cv_one hu) (k p l e s m args below meth c B D cid ad0 ad H locs LS mc hK hX hE hR hL hl h3 (okc (okh h2) (okc (okh (okt h2)) (okc (okh h2) (okt (okt h2))))))
theorem a_dup2 {v u : AV} (pc2 : Nat) (hd : decode M.2.1 pc = .ok (.dup2, 1)) (hv : ∀ w, v ≠ vL w) (hu : ∀ w, u ≠ vL w) (hp : pc + 1 = pc2) (k : AW M T kn g pc2 ls (v :: u :: v :: u :: st)) : AW M T kn g pc ls (v :: u :: st) := by
  intro p l e s m args below meth c B D cid ad0 ad H locs LS mc hK hX hE hR hL hl h3 h2
  subst hp
  exact lv_dup2_11 mc.1 mc.2.1 hd (cv_one hv) (cv_one hu) (k p l e s m args below meth c B D cid ad0 ad H locs LS mc hK hX hE hR hL hl h3 (okc (okh h2) (okc (okh (okt h2)) h2)))
end AROWS
end
section
section ABR
variable {M : MI} {T : TT} {kn : Nat × Nat} {g : GH} {pc : Nat} {ls st : List AV}
theorem a_icmp_eq {x y : Int} {off : Int} (tgt pc2 : Nat) (hd : decode M.2.1 pc = .ok (.if_icmp .eq off, 3)) (ht : (pc : Int) + off = (tgt : Int)) (hp : pc + 3 = pc2) (kt : x = y → AW M T kn g tgt ls st) (kf : x ≠ y → AW M T kn g pc2 ls st) : AW M T kn g pc ls (vI y :: vI x :: st) := by
  intro p l e s m args below meth c B D cid ad0 ad H locs LS mc hK hX hE hR hL hl h1 h2
  subst hp
  have hy : zr y := okh h2
  have hx : zr x := okh (okt h2)
  have q := zi_eq hx hy
  exact lv_icmp_eq mc.1 mc.2.1 hd ht (fun h => kt (q.mp h) p l e s m args below meth c B D cid ad0 ad H locs LS mc hK hX hE hR hL hl h1 (okt (okt h2))) (fun h => kf (fun h' => h (q.mpr h')) p l e s m args below meth c B D cid ad0 ad H locs LS mc hK hX hE hR hL hl h1 (okt (okt h2)))
theorem a_if_eq {x : Int} {off : Int} (tgt pc2 : Nat) (hd : decode M.2.1 pc = .ok (.ifCond .eq off, 3)) (ht : (pc : Int) + off = (tgt : Int)) (hp : pc + 3 = pc2) (kt : x = 0 → AW M T kn g tgt ls st) (kf : x ≠ 0 → AW M T kn g pc2 ls st) : AW M T kn g pc ls (vI x :: st) := by
  intro p l e s m args below meth c B D cid ad0 ad H locs LS mc hK hX hE hR hL hl h1 h2
  subst hp
  have hx : zr x := okh h2
  have q := zi_eq hx zr_0
  exact lv_if_eq mc.1 mc.2.1 hd ht (fun h => kt (q.mp h) p l e s m args below meth c B D cid ad0 ad H locs LS mc hK hX hE hR hL hl h1 (okt h2)) (fun h => kf (fun h' => h (q.mpr h')) p l e s m args below meth c B D cid ad0 ad H locs LS mc hK hX hE hR hL hl h1 (okt h2))
theorem a_icmp_ne {x y : Int} {off : Int} (tgt pc2 : Nat) (hd : decode M.2.1 pc = .ok (.if_icmp .ne off, 3)) (ht : (pc : Int) + off = (tgt : Int)) (hp : pc + 3 = pc2) (kt : x ≠ y → AW M T kn g tgt ls st) (kf : x = y → AW M T kn g pc2 ls st) : AW M T kn g pc ls (vI y :: vI x :: st) := by
  intro p l e s m args below meth c B D cid ad0 ad H locs LS mc hK hX hE hR hL hl h1 h2
  subst hp
  have hy : zr y := okh h2
  have hx : zr x := okh (okt h2)
  have q := zi_eq hx hy
  exact lv_icmp_ne mc.1 mc.2.1 hd ht (fun h => kt (fun h' => h (q.mpr h')) p l e s m args below meth c B D cid ad0 ad H locs LS mc hK hX hE hR hL hl h1 (okt (okt h2))) (fun h => kf (q.mp h) p l e s m args below meth c B D cid ad0 ad H locs LS mc hK hX hE hR hL hl h1 (okt (okt h2)))
theorem a_if_ne {x : Int} {off : Int} (tgt pc2 : Nat) (hd : decode M.2.1 pc = .ok (.ifCond .ne off, 3)) (ht : (pc : Int) + off = (tgt : Int)) (hp : pc + 3 = pc2) (kt : x ≠ 0 → AW M T kn g tgt ls st) (kf : x = 0 → AW M T kn g pc2 ls st) : AW M T kn g pc ls (vI x :: st) := by
  intro p l e s m args below meth c B D cid ad0 ad H locs LS mc hK hX hE hR hL hl h1 h2
  subst hp
  have hx : zr x := okh h2
  have q := zi_eq hx zr_0
  exact lv_if_ne mc.1 mc.2.1 hd ht (fun h => kt (fun h' => h (q.mpr h')) p l e s m args below meth c B D cid ad0 ad H locs LS mc hK hX hE hR hL hl h1 (okt h2)) (fun h => kf (q.mp h) p l e s m args below meth c B D cid ad0 ad H locs LS mc hK hX hE hR hL hl h1 (okt h2))
theorem a_icmp_lt {x y : Int} {off : Int} (tgt pc2 : Nat) (hd : decode M.2.1 pc = .ok (.if_icmp .lt off, 3)) (ht : (pc : Int) + off = (tgt : Int)) (hp : pc + 3 = pc2) (kt : x < y → AW M T kn g tgt ls st) (kf : y ≤ x → AW M T kn g pc2 ls st) : AW M T kn g pc ls (vI y :: vI x :: st) := by
  intro p l e s m args below meth c B D cid ad0 ad H locs LS mc hK hX hE hR hL hl h1 h2
  subst hp
  have hy : zr y := okh h2
  have hx : zr x := okh (okt h2)
  have q := zi_lt hx hy
  exact lv_icmp_lt mc.1 mc.2.1 hd ht (fun h => kt (q.mp h) p l e s m args below meth c B D cid ad0 ad H locs LS mc hK hX hE hR hL hl h1 (okt (okt h2))) (fun h => kf (Int.not_lt.mp (fun h' => h (q.mpr h'))) p l e s m args below meth c B D cid ad0 ad H locs LS mc hK hX hE hR hL hl h1 (okt (okt h2)))
theorem a_if_lt {x : Int} {off : Int} (tgt pc2 : Nat) (hd : decode M.2.1 pc = .ok (.ifCond .lt off, 3)) (ht : (pc : Int) + off = (tgt : Int)) (hp : pc + 3 = pc2) (kt : x < 0 → AW M T kn g tgt ls st) (kf : 0 ≤ x → AW M T kn g pc2 ls st) : AW M T kn g pc ls (vI x :: st) := by
  intro p l e s m args below meth c B D cid ad0 ad H locs LS mc hK hX hE hR hL hl h1 h2
  subst hp
  have hx : zr x := okh h2
  have q := zi_lt hx zr_0
  exact lv_if_lt mc.1 mc.2.1 hd ht (fun h => kt (q.mp h) p l e s m args below meth c B D cid ad0 ad H locs LS mc hK hX hE hR hL hl h1 (okt h2)) (fun h => kf (Int.not_lt.mp (fun h' => h (q.mpr h'))) p l e s m args below meth c B D cid ad0 ad H locs LS mc hK hX hE hR hL hl h1 (okt h2))
theorem a_icmp_ge {x y : Int} {off : Int} (tgt pc2 : Nat) (hd : decode M.2.1 pc = .ok (.if_icmp .ge off, 3)) (ht : (pc : Int) + off = (tgt : Int)) (hp : pc + 3 = pc2) (kt : y ≤ x → AW M T kn g tgt ls st) (kf : x < y → AW M T kn g pc2 ls st) : AW M T kn g pc ls (vI y :: vI x :: st) := by
  intro p l e s m args below meth c B D cid ad0 ad H locs LS mc hK hX hE hR hL hl h1 h2
  subst hp
  have hy : zr y := okh h2
  have hx : zr x := okh (okt h2)
  have q := zi_le hy hx
  exact lv_icmp_ge mc.1 mc.2.1 hd ht (fun h => kt (q.mp h) p l e s m args below meth c B D cid ad0 ad H locs LS mc hK hX hE hR hL hl h1 (okt (okt h2))) (fun h => kf (Int.not_le.mp (fun h' => h (q.mpr h'))) p l e s m args below meth c B D cid ad0 ad H locs LS mc hK hX hE hR hL hl h1 (okt (okt h2)))
theorem a_if_ge {x : Int} {off : Int} (tgt pc2 : Nat) (hd : decode M.2.1 pc = .ok (.ifCond .ge off, 3)) (ht : (pc : Int) + off = (tgt : Int)) (hp : pc + 3 = pc2) (kt : 0 ≤ x → AW M T kn g tgt ls st) (kf : x < 0 → AW M T kn g pc2 ls st) : AW M T kn g pc ls (vI x :: st) := by
  intro p l e s m args below meth c B D cid ad0 ad H locs LS mc hK hX hE hR hL hl h1 h2
  subst hp
  have hx : zr x := okh h2
  have q := zi_le zr_0 hx
  exact lv_if_ge mc.1 mc.2.1 hd ht (fun h => kt (q.mp h) p l e s m args below meth c B D cid ad0 ad H locs LS mc hK hX hE hR hL hl h1 (okt h2)) (fun h => kf (Int.not_le.mp (fun h' => h (q.mpr h'))) p l e s m args below meth c B D cid ad0 ad H locs LS mc hK hX hE hR hL hl h1 (okt h2))
theorem a_icmp_gt {x y : Int} {off : Int} (tgt pc2 : Nat) (hd : decode M.2.1 pc = .ok (.if_icmp .gt off, 3)) (ht : (pc : Int) + off = (tgt : Int)) (hp : pc + 3 = pc2) (kt : y < x → AW M T kn g tgt ls st) (kf : x ≤ y → AW M T kn g pc2 ls st) : AW M T kn g pc ls (vI y :: vI x :: st) := by
  intro p l e s m args below meth c B D cid ad0 ad H locs LS mc hK hX hE hR hL hl h1 h2
  subst hp
  have hy : zr y := okh h2
  have hx : zr x := okh (okt h2)
  have q := zi_lt hy hx
  exact lv_icmp_gt mc.1 mc.2.1 hd ht (fun h => kt (q.mp h) p l e s m args below meth c B D cid ad0 ad H locs LS mc hK hX hE hR hL hl h1 (okt (okt h2))) (fun h => kf (Int.not_lt.mp (fun h' => h (q.mpr h'))) p l e s m args below meth c B D cid ad0 ad H locs LS mc hK hX hE hR hL hl h1 (okt (okt h2)))
theorem a_if_gt {x : Int} {off : Int} (tgt pc2 : Nat) (hd : decode M.2.1 pc = .ok (.ifCond .gt off, 3)) (ht : (pc : Int) + off = (tgt : Int)) (hp : pc + 3 = pc2) (kt : 0 < x → AW M T kn g tgt ls st) (kf : x ≤ 0 → AW M T kn g pc2 ls st) : AW M T kn g pc ls (vI x :: st) := by
  intro p l e s m args below meth c B D cid ad0 ad H locs LS mc hK hX hE hR hL hl h1 h2
  subst hp
  have hx : zr x := okh h2
  have q := zi_lt zr_0 hx
  exact lv_if_gt mc.1 mc.2.1 hd ht (fun h => kt (q.mp h) p l e s m args below meth c B D cid ad0 ad H locs LS mc hK hX hE hR hL hl h1 (okt h2)) (fun h => kf (Int.not_lt.mp (fun h' => h (q.mpr h'))) p l e s m args below meth c B D cid ad0 ad H locs LS mc hK hX hE hR hL hl h1 (okt h2))
theorem a_icmp_le {x y : Int} {off : Int} (tgt pc2 : Nat) (hd : decode M.2.1 pc = .ok (.if_icmp .le off, 3)) (ht : (pc : Int) + off = (tgt : Int)) (hp : pc + 3 = pc2) (kt : x ≤ y → AW M T kn g tgt ls st) (kf : y < x → AW M T kn g pc2 ls st) : AW M T kn g pc ls (vI y :: vI x :: st) := by
  intro p l e s m args below meth c B D cid ad0 ad H locs LS mc hK hX hE hR hL hl h1 h2
  subst hp
  have hy : zr y := okh h2
  have hx : zr x := okh (okt h2)
  have q := zi_le hx hy
  exact lv_icmp_le mc.1 mc.2.1 hd ht (fun h => kt (q.mp h) p l e s m args below meth c B D cid ad0 ad H locs LS mc hK hX hE hR hL hl h1 (okt (okt h2))) (fun h => kf (Int.not_le.mp (fun h' => h (q.mpr h'))) p l e s m args below meth c B D cid ad0 ad H locs LS mc hK hX hE hR hL hl h1 (okt (okt h2)))
theorem a_if_le {x : Int} {off : Int} (tgt pc2 : Nat) (hd : decode M.2.1 pc = .ok (.ifCond .le off, 3)) (ht : (pc : Int) + off = (tgt : Int)) (hp : pc + 3 = pc2) (kt : x ≤ 0 → AW M T kn g tgt ls st) (kf : 0 < x → AW M T kn g pc2 ls st) : AW M T kn g pc ls (vI x :: st) := by
  intro p l e s m args below meth c B D cid ad0 ad H locs LS mc hK hX hE hR hL hl h1 h2
  subst hp
  have hx : zr x := okh h2
  have q := zi_le hx zr_0
  exact lv_if_le mc.1 mc.2.1 hd ht (fun h => kt (q.mp h) p l e s m args below meth c B D cid ad0 ad H locs LS mc hK hX hE hR hL hl h1 (okt h2)) (fun h => kf (Int.not_le.mp (fun h' => h (q.mpr h'))) p l e s m args below meth c B D cid ad0 ad H locs LS mc hK hX hE hR hL hl h1 (okt h2))
theorem a_ifnull {r : Option Nat} {off : Int} (tgt pc2 : Nat) (hd : decode M.2.1 pc = .ok (.ifnull off, 3)) (ht : (pc : Int) + off = (tgt : Int)) (hp : pc + 3 = pc2) (kn0 : r = none → AW M T kn g tgt ls st) (ks : ∀ a, r = some a → AW M T kn g pc2 ls st) : AW M T kn g pc ls (vR r :: st) := by
  intro p l e s m args below meth c B D cid ad0 ad H locs LS mc hK hX hE hR hL hl h1 h2
  subst hp
  cases r with
  | none => exact lv_ifnullN mc.1 mc.2.1 hd ht (kn0 rfl p l e s m args below meth c B D cid ad0 ad H locs LS mc hK hX hE hR hL hl h1 (okt h2))
  | some a => exact lv_ifnull mc.1 mc.2.1 hd (ks a rfl p l e s m args below meth c B D cid ad0 ad H locs LS mc hK hX hE hR hL hl h1 (okt h2))
theorem a_ifnonnull {r : Option Nat} {off : Int} (tgt pc2 : Nat) (hd : decode M.2.1 pc = .ok (.ifnonnull off, 3)) (ht : (pc : Int) + off = (tgt : Int)) (hp : pc + 3 = pc2) (kn0 : r = none → AW M T kn g pc2 ls st) (ks : ∀ a, r = some a → AW M T kn g tgt ls st) : AW M T kn g pc ls (vR r :: st) := by
  intro p l e s m args below meth c B D cid ad0 ad H locs LS mc hK hX hE hR hL hl h1 h2
  subst hp
  cases r with
  | none => exact lv_ifnonnullN mc.1 mc.2.1 hd (kn0 rfl p l e s m args below meth c B D cid ad0 ad H locs LS mc hK hX hE hR hL hl h1 (okt h2))
  | some a => exact lv_ifnonnull mc.1 mc.2.1 hd ht (ks a rfl p l e s m args below meth c B D cid ad0 ad H locs LS mc hK hX hE hR hL hl h1 (okt h2))
end ABR
end
section
/-! ===== fields and arrays ===== -/
def fdn (ci k : Nat) : String × String × String × Bool := match vwCl[ci]? with
  | some r => r.2.1 k
  | none => ("", "", "", false)
def fN (ci : Nat) : Nat := match vwCl[ci]? with
  | some r => r.2.2
  | none => 0
/-- the field k of class ci, linked at index of own's pool -/
def FL (own : String) (index ci k : Nat) : Prop := k < fN ci ∧ Cond.fieldLink own index (fdn ci k).1 (fdn ci k).2.1 (fdn ci k).2.2.1 ∈ tb
def tI (ty : FieldType) : Bool := match ty with
  | .int => true | .boolean => true | .byte => true | _ => false
def tRf (ty : FieldType) : Bool := match ty with
  | .object _ => true | .array _ => true | _ => false
theorem fv_I {ty : FieldType} (h : tI ty = true) (ad : Nat → Nat) (g : GH) (a k : Nat) : fv ty ad g a k = .int (Int32.ofInt (g.2.1 a k)) := by cases ty <;> first | rfl | (simp [tI] at h; done)
theorem fv_R {ty : FieldType} (h : tRf ty = true) (ad : Nat → Nat) (g : GH) (a k : Nat) : fv ty ad g a k = va_rf ((g.2.2.2 a k).map ad) := by cases ty <;> first | rfl | (simp [tRf] at h; done)
theorem cl_in_0 : ∀ w ∈ u_ws RX0 TX0 2, w ∈ tb := by decide +kernel
theorem cl_in_1 : ∀ w ∈ u_ws RX1 TX1 1, w ∈ tb := by decide +kernel
theorem cl_in_2 : ∀ w ∈ u_ws RX2 TX2 5, w ∈ tb := by decide +kernel
theorem cl_in_3 : ∀ w ∈ u_ws RX3 TX3 8, w ∈ tb := by decide +kernel
theorem cl_in_4 : ∀ w ∈ u_ws RX4 TX4 1, w ∈ tb := by decide +kernel
theorem cl_in_5 : ∀ w ∈ u_ws RX5 TX5 13, w ∈ tb := by decide +kernel
theorem cl_in_6 : ∀ w ∈ u_ws RX6 TX6 3, w ∈ tb := by decide +kernel
theorem cl_in_7 : ∀ w ∈ u_ws RX7 TX7 2, w ∈ tb := by decide +kernel
theorem cl_in_8 : ∀ w ∈ u_ws RX8 TX8 7, w ∈ tb := by decide +kernel
theorem cl_in_9 : ∀ w ∈ u_ws RX9 TX9 10, w ∈ tb := by decide +kernel
theorem cl_in_10 : ∀ w ∈ u_ws RX10 TX10 8, w ∈ tb := by decide +kernel
theorem cl_in_11 : ∀ w ∈ u_ws RX11 TX11 12, w ∈ tb := by decide +kernel
theorem cl_in_12 : ∀ w ∈ u_ws RX12 TX12 39, w ∈ tb := by decide +kernel
theorem cl_all {ci : Nat} {r : vw_C} (h : vwCl[ci]? = some r) : (∀ w ∈ u_ws r.1 r.2.1 r.2.2, w ∈ tb) ∧ (∀ k, k < r.2.2 → parseFieldDescriptor (r.2.1 k).2.2.1 = some (tyc ci k)) ∧ (∀ a, a < r.2.2 → ∀ b, b < r.2.2 → a ≠ b → (r.2.1 a).2.1 ≠ (r.2.1 b).2.1) := by
  match ci, h with
  | 0, h => cases h; exact ⟨cl_in_0, tyX0_ok, nmX0⟩
  | 1, h => cases h; exact ⟨cl_in_1, tyX1_ok, nmX1⟩
  | 2, h => cases h; exact ⟨cl_in_2, tyX2_ok, nmX2⟩
  | 3, h => cases h; exact ⟨cl_in_3, tyX3_ok, nmX3⟩
  | 4, h => cases h; exact ⟨cl_in_4, tyX4_ok, nmX4⟩
  | 5, h => cases h; exact ⟨cl_in_5, tyX5_ok, nmX5⟩
  | 6, h => cases h; exact ⟨cl_in_6, tyX6_ok, nmX6⟩
  | 7, h => cases h; exact ⟨cl_in_7, tyX7_ok, nmX7⟩
  | 8, h => cases h; exact ⟨cl_in_8, tyX8_ok, nmX8⟩
  | 9, h => cases h; exact ⟨cl_in_9, tyX9_ok, nmX9⟩
  | 10, h => cases h; exact ⟨cl_in_10, tyX10_ok, nmX10⟩
  | 11, h => cases h; exact ⟨cl_in_11, tyX11_ok, nmX11⟩
  | 12, h => cases h; exact ⟨cl_in_12, tyX12_ok, nmX12⟩
  | n + 13, h => simp [vwCl] at h
theorem fd_of {ci : Nat} {r : vw_C} (h : vwCl[ci]? = some r) (k : Nat) : fdn ci k = r.2.1 k ∧ fN ci = r.2.2 := by simp [fdn, fN, h]
section AFLD
variable {M : MI} {T : TT} {kn : Nat × Nat} {g : GH} {pc : Nat} {ls st : List AV}
/-- a field is read -/
theorem get_core {p : Program} {l : Launch} {e : Env} {s : State} {m : MethodId} {args : Array Value} {below : List Frame} {meth : Method} {c : Code} {B : BH} {D : va_G} {cid : FieldType → ClassId} {ad : Nat → Nat} {H : Heap} {locs : List Loc} {LS : Array Slot} {R : Room} {Q : State → Prop} {cells slots : Nat}
    (mc : MC M p s m args meth c) (hK : KN B D cid ad s) (hR : Rp B D cid ad g H) {a ci k index : Nat} (hs : g.1 a = some (Sum.inl ci)) (hf : FL M.1.cls index ci k) (hd : decode M.2.1 pc = .ok (.getfield index, 3)) {rest : List Value}
    (kk : W p l e R s m args below meth c H locs cells slots Q (F0 m (pc + 3) LS (fv (tyc ci k) ad g a k :: rest))) : W p l e R s m args below meth c H locs cells slots Q (F0 m pc LS (.ref (ad a) :: rest)) := by
  obtain ⟨r, h1, cell, q1, q2, q3, q4⟩ := hR.2.2.2.2.1 a _ hs
  have hc := cl_all h1
  obtain ⟨e1, e2⟩ := fd_of h1 k
  obtain ⟨hk, hw⟩ := hf
  rw [e2] at hk
  rw [e1] at hw
  obtain ⟨hS, hfc, kC, hkC, hkind⟩ := hK.1.1 ci _ h1
  obtain ⟨cf, kf, fi, f, hi, hsl⟩ := hS k hk
  refine W.getf mc.1 mc.2.1 mc.2.2.2.2.1 (mc.2.2.2.2.2.1 _ hw) hi (u_facts hfc hkC (u_lays mc.2.2.2.2.2.1 hc.1 hk) hi).1 q1 (by rw [q3]; exact fun h => by cases h) (v := fv (tyc ci k) ad g a k) ?_ rfl rfl hd kk
  rw [hsl, q4 k hk]
theorem a_getI {a ci k index : Nat} (pc2 : Nat) (hd : decode M.2.1 pc = .ok (.getfield index, 3)) (hf : FL M.1.cls index ci k) (hs : g.1 a = some (Sum.inl ci)) (ht : tI (tyc ci k) = true) (hp : pc + 3 = pc2) (kk : AW M T kn g pc2 ls (vI (g.2.1 a k) :: st)) : AW M T kn g pc ls (vA a :: st) := by
  intro p l e s m args below meth c B D cid ad0 ad H locs LS mc hK hX hE hR hL hl h1 h2
  subst hp
  refine get_core mc hK hR hs hf hd ?_
  rw [fv_I ht]
  exact kk p l e s m args below meth c B D cid ad0 ad H locs LS mc hK hX hE hR hL hl h1 (okc (hR.2.2.2.2.2.1 a k) (okt h2))
theorem a_getL {a ci k index : Nat} (pc2 : Nat) (hd : decode M.2.1 pc = .ok (.getfield index, 3)) (hf : FL M.1.cls index ci k) (hs : g.1 a = some (Sum.inl ci)) (ht : tyc ci k = .long) (hp : pc + 3 = pc2) (kk : AW M T kn g pc2 ls (vL (g.2.2.1 a k) :: st)) : AW M T kn g pc ls (vA a :: st) := by
  intro p l e s m args below meth c B D cid ad0 ad H locs LS mc hK hX hE hR hL hl h1 h2
  subst hp
  refine get_core mc hK hR hs hf hd ?_
  rw [ht]
  exact kk p l e s m args below meth c B D cid ad0 ad H locs LS mc hK hX hE hR hL hl h1 (okc trivial (okt h2))
theorem vok_r {B : BH} {D : va_G} {cid : FieldType → ClassId} {ad : Nat → Nat} {H : Heap} (hR : Rp B D cid ad g H) {a k : Nat} : vok g (vR (g.2.2.2 a k)) := by
  cases e : g.2.2.2 a k with
  | none => trivial
  | some b => exact hR.2.2.2.2.2.2 a k b e
theorem a_getR {a ci k index : Nat} {r : Option Nat} (pc2 : Nat) (hd : decode M.2.1 pc = .ok (.getfield index, 3)) (hf : FL M.1.cls index ci k) (hs : g.1 a = some (Sum.inl ci)) (ht : tRf (tyc ci k) = true) (hr : g.2.2.2 a k = r) (hp : pc + 3 = pc2) (kk : AW M T kn g pc2 ls (vR r :: st)) : AW M T kn g pc ls (vA a :: st) := by
  intro p l e s m args below meth c B D cid ad0 ad H locs LS mc hK hX hE hR hL hl h1 h2
  subst hp; subst hr
  refine get_core mc hK hR hs hf hd ?_
  rw [fv_R ht, ← cv_rf]
  exact kk p l e s m args below meth c B D cid ad0 ad H locs LS mc hK hX hE hR hL hl h1 (okc (vok_r hR) (okt h2))
/-- a field is written: not final, or by the class's own constructor -/
theorem put_core {p : Program} {l : Launch} {e : Env} {s : State} {m : MethodId} {args : Array Value} {below : List Frame} {meth : Method} {c : Code} {B : BH} {D : va_G} {cid : FieldType → ClassId} {ad : Nat → Nat} {H : Heap} {locs : List Loc} {LS : Array Slot} {R : Room} {Q : State → Prop} {cells slots : Nat}
    (mc : MC M p s m args meth c) (hK : KN B D cid ad s) (hR : Rp B D cid ad g H) {a ci k index : Nat} (hs : g.1 a = some (Sum.inl ci)) (hf : FL M.1.cls index ci k) (hfin : (fdn ci k).2.2.2 = false ∨ ((fdn ci k).2.2.2 = true ∧ M.1.name = "<init>" ∧ (fdn ci k).1 = M.1.cls)) (hd : decode M.2.1 pc = .ok (.putfield index, 3)) {v : Value} (hn : narrow (tyc ci k) v = v) (hv : fits (tyc ci k) v = true) {rest : List Value} (hL : ∀ q ∈ locs, B.1 ≤ q.base)
    (kk : ∀ (H' : Heap) (locs' : List Loc), (∀ q ∈ locs', B.1 ≤ q.base) → H'.size = H.size → (∀ q : Nat, q ≠ ad a → H'[q]? = H[q]?) → (∀ V' : Nat → Value, V' k = v → (∀ j, j ≠ k → V' j = fv (tyc ci j) ad g a j) → ∃ r : vw_C, vwCl[ci]? = some r ∧ t_OB (ad a) (D.1 ci) r.2.2 (D.2 ci) H' V') →
      W p l e R s m args below meth c H' locs' cells slots Q (F0 m (pc + 3) LS rest)) : W p l e R s m args below meth c H locs cells slots Q (F0 m pc LS (v :: .ref (ad a) :: rest)) := by
  have hba : B.1 ≤ ad a := hR.1 a (by rw [hs]; simp)
  obtain ⟨r, h1, cell, q1, q2, q3, q4⟩ := hR.2.2.2.2.1 a _ hs
  have hc := cl_all h1
  obtain ⟨e1, e2⟩ := fd_of h1 k
  obtain ⟨hk, hw⟩ := hf
  rw [e2] at hk
  rw [e1] at hw hfin
  have hts := mc.2.2.2.2.2.1
  have hap := va_apart (own := M.1.cls) hts hc.1 (tyc ci) hc.2.1 hc.2.2 hK.1 (show vwCl[ci]? = some (r.1, r.2.1, r.2.2) from h1)
  obtain ⟨hS, hfc, kC, hkC, hkind⟩ := hK.1.1 ci _ h1
  obtain ⟨cf, kf, fi, f, hi, hsl⟩ := hS k hk
  have hst := (u_facts hfc hkC (u_lays hts hc.1 hk) hi).1
  have hlay := hts _ (hc.1 _ (u_in_lay hk))
  unfold u_lay at hlay
  have fin : ∀ H' : Heap, H'[ad a]? = some (cell.setSlot f.slot v) → H'.size = H.size → (∀ q : Nat, q ≠ ad a → H'[q]? = H[q]?) → W p l e R s m args below meth c H' (locs ++ [⟨ad a, f.slot⟩]) cells slots Q (F0 m (pc + 3) LS rest) := by
    intro H' z1 z2 z3
    refine kk H' _ (fun q hq => ?_) z2 z3 (fun V' hV hV2 => ⟨r, h1, ?_⟩)
    · rcases List.mem_append.mp hq with h | h
      · exact hL q h
      · rw [List.mem_singleton.mp h]; exact hba
    · rw [hsl] at z1
      refine t_OB.to (V := updV (fun j => fv (tyc ci j) ad g a j) k v) ⟨_, z1, q2, q3, t_set q4 hap hk v⟩ (fun j _ => ?_)
      unfold updV
      by_cases hj : j = k
      · rw [if_pos hj, hj, hV]
      · rw [if_neg hj, hV2 j hj]
  rcases hfin with hfin | ⟨hfin, hin, hdecl⟩
  · rw [if_neg (by rw [hfin]; decide)] at hlay
    have h6 := u_store hfc hkC hkind hlay hi (hc.2.1 k hk) hn hv
    exact W.putK mc.1 mc.2.1 (f := f) ⟨mc.2.2.2.2.1, hts _ hw, ⟨_, _, _, hi⟩, hst⟩ (by rw [q2]; exact h6) q1 q3 (by rw [hsl]; exact k2_hasslot (q4 k hk)) rfl rfl hd fin
  · rw [if_pos hfin] at hlay
    have hcf : m.cls = cf := by
      obtain ⟨_, _, c', _, _, _, -, -, hf', -, -, -, hown2, -⟩ := Cond.laysFinal_spec hlay
      have e1 : c' = cf := by have := hi.symm.trans hf'; simp at this; exact this.1.symm
      rw [hdecl] at hown2
      rw [← e1]; exact Option.some.inj (mc.2.2.2.2.1.symm.trans hown2)
    have h6 := u_fits hfc hkC hkind (Or.inr hlay) hi (hc.2.1 k hk) hn hv
    exact W.putFinK mc.1 mc.2.1 mc.2.2.2.2.1 (hts _ hw) hi hst hcf (mc.2.2.2.2.2.2.2.trans hin) (by rw [q2]; exact h6) q1 q3 (by rw [hsl]; exact k2_hasslot (q4 k hk)) rfl rfl hd fin
def pOK (M : MI) (ci k : Nat) : Prop := (fdn ci k).2.2.2 = false ∨ ((fdn ci k).2.2.2 = true ∧ M.1.name = "<init>" ∧ (fdn ci k).1 = M.1.cls)
theorem zr_u2 {g : GH} {a k : Nat} {x : Int} (h : ∀ a k, zr (g.2.1 a k)) (hx : zr x) : ∀ a' k', zr ((gI g a k x).2.1 a' k') := by
  intro a' k'
  show zr (u2 g.2.1 a k x a' k')
  unfold u2
  split
  · exact hx
  · exact h a' k'
theorem clo_u2 {g : GH} {a k : Nat} {r : Option Nat} (h : clo g) (hx : vok g (vR r)) : clo (gR g a k r) := by
  intro a' k' b hb
  have hb : u2 g.2.2.2 a k r a' k' = some b := hb
  unfold u2 at hb
  split at hb
  · subst hb; exact hx
  · exact h a' k' b hb
theorem vok_sh {g g' : GH} (h : g'.1 = g.1) {v : AV} (hv : vok g v) : vok g' v := by
  rcases v with _ | z | w | _ | a
  · trivial
  · exact hv
  · trivial
  · trivial
  · rcases hv with hv | hv
    · exact Or.inl (by rw [h]; exact hv)
    · exact Or.inr hv
theorem a_putI {a ci k index : Nat} {x : Int} (pc2 : Nat) (hd : decode M.2.1 pc = .ok (.putfield index, 3)) (hf : FL M.1.cls index ci k) (hfin : pOK M ci k) (hs : g.1 a = some (Sum.inl ci)) (ht : tyc ci k = .int ∨ (tyc ci k = .boolean ∧ (x = 0 ∨ x = 1))) (hp : pc + 3 = pc2) (kk : AW M T kn (gI g a k x) pc2 ls st) : AW M T kn g pc ls (vI x :: vA a :: st) := by
  intro p l e s m args below meth c B D cid ad0 ad H locs LS mc hK hX hE hR hL hl h1 h2
  subst hp
  have htI : tI (tyc ci k) = true := by rcases ht with ht | ⟨ht, -⟩ <;> rw [ht] <;> rfl
  refine put_core mc hK hR hs hf hfin hd (v := .int (Int32.ofInt x)) ?_ ?_ hL (fun H' locs' hL' z1 z2 z3 => kk p l e s m args below meth c B D cid ad0 ad H' locs' LS mc hK hX (hE.sh rfl) (Rp.write hR (g' := gI g a k x) (k := k) rfl (by rw [hs]; simp) (fun ty a' k' h => fv_gI_ne h) (zr_u2 hR.2.2.2.2.2.1 (okh h2)) hR.2.2.2.2.2.2 z1 z2 ?_) hL' hl h1 (okt (okt h2)))
  · rcases ht with ht | ⟨ht, hx | hx⟩ <;> rw [ht] <;> first | rfl | (rw [hx]; rfl)
  · rcases ht with ht | ⟨ht, hx | hx⟩ <;> rw [ht] <;> first | rfl | (rw [hx]; rfl)
  · intro sh hsh
    cases hs.symm.trans hsh
    exact z3 _ (by rw [fv_I htI]; show _ = Value.int (Int32.ofInt x); exact congrArg (fun z => Value.int (Int32.ofInt z)) u2_s) (fun j hj => fv_gI_ne (Or.inr hj))
theorem a_putL {a ci k index : Nat} {x : Int64} (pc2 : Nat) (hd : decode M.2.1 pc = .ok (.putfield index, 3)) (hf : FL M.1.cls index ci k) (hfin : pOK M ci k) (hs : g.1 a = some (Sum.inl ci)) (ht : tyc ci k = .long) (hp : pc + 3 = pc2) (kk : AW M T kn (gL g a k x) pc2 ls st) : AW M T kn g pc ls (vL x :: vA a :: st) := by
  intro p l e s m args below meth c B D cid ad0 ad H locs LS mc hK hX hE hR hL hl h1 h2
  subst hp
  refine put_core mc hK hR hs hf hfin hd (v := .long x) (by rw [ht]; rfl) (by rw [ht]; rfl) hL (fun H' locs' hL' z1 z2 z3 => kk p l e s m args below meth c B D cid ad0 ad H' locs' LS mc hK hX (hE.sh rfl) (Rp.write hR (g' := gL g a k x) (k := k) rfl (by rw [hs]; simp) (fun ty a' k' h => fv_gL_ne h) hR.2.2.2.2.2.1 hR.2.2.2.2.2.2 z1 z2 ?_) hL' hl h1 (okt (okt h2)))
  intro sh hsh
  cases hs.symm.trans hsh
  exact z3 _ (by rw [ht]; show Value.long (u2 g.2.2.1 a k x a k) = _; rw [u2_s]) (fun j hj => fv_gL_ne (Or.inr hj))
theorem a_putR {a ci k index : Nat} {r : Option Nat} (pc2 : Nat) (hd : decode M.2.1 pc = .ok (.putfield index, 3)) (hf : FL M.1.cls index ci k) (hfin : pOK M ci k) (hs : g.1 a = some (Sum.inl ci)) (ht : tRf (tyc ci k) = true) (hp : pc + 3 = pc2) (kk : AW M T kn (gR g a k r) pc2 ls st) : AW M T kn g pc ls (vR r :: vA a :: st) := by
  intro p l e s m args below meth c B D cid ad0 ad H locs LS mc hK hX hE hR hL hl h1 h2
  subst hp
  have hv : cv ad (vR r) = va_rf (r.map ad) := cv_rf ad r
  show W p l e _ s m args below meth c H locs _ _ _ (F0 m pc LS (cv ad (vR r) :: .ref (ad a) :: st.map (cv ad)))
  refine put_core mc hK hR hs hf hfin hd (v := cv ad (vR r)) ?_ ?_ hL (fun H' locs' hL' z1 z2 z3 => kk p l e s m args below meth c B D cid ad0 ad H' locs' LS mc hK hX (hE.sh rfl) (Rp.write hR (g' := gR g a k r) (k := k) rfl (by rw [hs]; simp) (fun ty a' k' h => fv_gR_ne h) hR.2.2.2.2.2.1 (clo_u2 hR.2.2.2.2.2.2 (okh h2)) z1 z2 ?_) hL' hl h1 (okt (okt h2)))
  · cases e9 : tyc ci k <;> first | (rw [e9] at ht; simp [tRf] at ht; done) | (cases r <;> rfl)
  · cases e9 : tyc ci k <;> first | (rw [e9] at ht; simp [tRf] at ht; done) | (cases r <;> rfl)
  · intro sh hsh
    cases hs.symm.trans hsh
    exact z3 _ (by rw [fv_R ht, hv]; show va_rf ((u2 g.2.2.2 a k r a k).map ad) = _; rw [u2_s]) (fun j hj => fv_gR_ne (Or.inr hj))
end AFLD
end
section
/-! ===== arrays, new cells ===== -/
theorem zi_cl {i : Int} (hi : zr i) : (Int32.ofInt i).toNatClampNeg = i.toNat := by
  show (Int32.ofInt i).toInt.toNat = _
  rw [zr_toInt hi]
theorem zi_in {i : Int} {n : Nat} (hi : zr i) (h0 : 0 ≤ i) (h1 : i < n) : ¬ (Int32.ofInt i < 0 ∨ n ≤ (Int32.ofInt i).toNatClampNeg) := by
  rw [zi_cl hi]
  rintro (h | h)
  · have := (zi_lt hi zr_0).mp h; omega
  · omega
theorem arr_mem {B : BH} {D : va_G} {cid : FieldType → ClassId} {ad : Nat → Nat} {g : GH} {H : Heap} (hR : Rp B D cid ad g H) {a n : Nat} {ty : FieldType} (hs : g.1 a = some (Sum.inr (ty, n))) : ty ∈ arrTys ∧ H[ad a]? = some (arrV (cid ty) n (fun k => fv ty ad g a k)) := hR.2.2.2.2.1 a _ hs
section AARR
variable {M : MI} {T : TT} {kn : Nat × Nat} {g : GH} {pc : Nat} {ls st : List AV}
theorem a_iald {a n : Nat} {i : Int} (pc2 : Nat) (hd : decode M.2.1 pc = .ok (.iaload, 1)) (hs : g.1 a = some (Sum.inr (.int, n))) (h0 : 0 ≤ i) (hi : i < n) (hp : pc + 1 = pc2) (kk : AW M T kn g pc2 ls (vI (g.2.1 a i.toNat) :: st)) : AW M T kn g pc ls (vI i :: vA a :: st) := by
  intro p l e s m args below meth c B D cid ad0 ad H locs LS mc hK hX hE hR hL hl h1 h2
  subst hp
  have hz : zr i := okh h2
  obtain ⟨m1, m2⟩ := arr_mem hR hs
  exact W.iald (v := .int (Int32.ofInt (g.2.1 a i.toNat))) mc.1 mc.2.1 m2 ((hK.2.1 _ m1).1 n _) (fun q => by cases q) (by rw [arrV_size]; exact zi_in hz h0 hi) (by rw [zi_cl hz, arrV_read _ _ (by omega)]; rfl) rfl rfl hd (kk p l e s m args below meth c B D cid ad0 ad H locs LS mc hK hX hE hR hL hl h1 (okc (hR.2.2.2.2.2.1 a _) (okt (okt h2))))
theorem a_bald {a n : Nat} {i : Int} (pc2 : Nat) (hd : decode M.2.1 pc = .ok (.baload, 1)) (hs : g.1 a = some (Sum.inr (.byte, n))) (h0 : 0 ≤ i) (hi : i < n) (hp : pc + 1 = pc2) (kk : AW M T kn g pc2 ls (vI (g.2.1 a i.toNat) :: st)) : AW M T kn g pc ls (vI i :: vA a :: st) := by
  intro p l e s m args below meth c B D cid ad0 ad H locs LS mc hK hX hE hR hL hl h1 h2
  subst hp
  have hz : zr i := okh h2
  obtain ⟨m1, m2⟩ := arr_mem hR hs
  exact W.bald (v := .int (Int32.ofInt (g.2.1 a i.toNat))) mc.1 mc.2.1 m2 ((hK.2.1 _ m1).1 n _) (fun q => by cases q) (by rw [arrV_size]; exact zi_in hz h0 hi) (by rw [zi_cl hz, arrV_read _ _ (by omega)]; rfl) rfl rfl hd (kk p l e s m args below meth c B D cid ad0 ad H locs LS mc hK hX hE hR hL hl h1 (okc (hR.2.2.2.2.2.1 a _) (okt (okt h2))))
theorem a_zald {a n : Nat} {i : Int} (pc2 : Nat) (hd : decode M.2.1 pc = .ok (.baload, 1)) (hs : g.1 a = some (Sum.inr (.boolean, n))) (h0 : 0 ≤ i) (hi : i < n) (hp : pc + 1 = pc2) (kk : AW M T kn g pc2 ls (vI (g.2.1 a i.toNat) :: st)) : AW M T kn g pc ls (vI i :: vA a :: st) := by
  intro p l e s m args below meth c B D cid ad0 ad H locs LS mc hK hX hE hR hL hl h1 h2
  subst hp
  have hz : zr i := okh h2
  obtain ⟨m1, m2⟩ := arr_mem hR hs
  exact W.zald (v := .int (Int32.ofInt (g.2.1 a i.toNat))) mc.1 mc.2.1 m2 ((hK.2.1 _ m1).1 n _) (fun q => by cases q) (by rw [arrV_size]; exact zi_in hz h0 hi) (by rw [zi_cl hz, arrV_read _ _ (by omega)]; rfl) rfl rfl hd (kk p l e s m args below meth c B D cid ad0 ad H locs LS mc hK hX hE hR hL hl h1 (okc (hR.2.2.2.2.2.1 a _) (okt (okt h2))))
theorem a_lald {a n : Nat} {i : Int} (pc2 : Nat) (hd : decode M.2.1 pc = .ok (.laload, 1)) (hs : g.1 a = some (Sum.inr (.long, n))) (h0 : 0 ≤ i) (hi : i < n) (hp : pc + 1 = pc2) (kk : AW M T kn g pc2 ls (vL (g.2.2.1 a i.toNat) :: st)) : AW M T kn g pc ls (vI i :: vA a :: st) := by
  intro p l e s m args below meth c B D cid ad0 ad H locs LS mc hK hX hE hR hL hl h1 h2
  subst hp
  have hz : zr i := okh h2
  obtain ⟨m1, m2⟩ := arr_mem hR hs
  exact W.lald (v := .long (g.2.2.1 a i.toNat)) mc.1 mc.2.1 m2 ((hK.2.1 _ m1).1 n _) (fun q => by cases q) (by rw [arrV_size]; exact zi_in hz h0 hi) (by rw [zi_cl hz, arrV_read _ _ (by omega)]; rfl) rfl rfl hd (kk p l e s m args below meth c B D cid ad0 ad H locs LS mc hK hX hE hR hL hl h1 (okc trivial (okt (okt h2))))
theorem a_aald {a n : Nat} {i : Int} {ty : FieldType} {r : Option Nat} (pc2 : Nat) (hd : decode M.2.1 pc = .ok (.aaload, 1)) (hs : g.1 a = some (Sum.inr (ty, n))) (ht : tRf ty = true) (h0 : 0 ≤ i) (hi : i < n) (hr : g.2.2.2 a i.toNat = r) (hp : pc + 1 = pc2) (kk : AW M T kn g pc2 ls (vR r :: st)) : AW M T kn g pc ls (vI i :: vA a :: st) := by
  intro p l e s m args below meth c B D cid ad0 ad H locs LS mc hK hX hE hR hL hl h1 h2
  subst hp; subst hr
  have hz : zr i := okh h2
  obtain ⟨m1, m2⟩ := arr_mem hR hs
  refine W.aald (v := cv ad (vR (g.2.2.2 a i.toNat))) mc.1 mc.2.1 m2 ((hK.2.1 _ m1).1 n _) (by cases ty <;> first | rfl | (simp [tRf] at ht; done)) (fun q => by cases q) (by rw [arrV_size]; exact zi_in hz h0 hi) ?_ rfl rfl hd (kk p l e s m args below meth c B D cid ad0 ad H locs LS mc hK hX hE hR hL hl h1 (okc (vok_r hR) (okt (okt h2))))
  rw [zi_cl hz, arrV_read _ _ (by omega), fv_R ht, cv_rf]
theorem a_alen {a n : Nat} {ty : FieldType} (pc2 : Nat) (hd : decode M.2.1 pc = .ok (.arraylength, 1)) (hs : g.1 a = some (Sum.inr (ty, n))) (hn : n < 2147483648) (hp : pc + 1 = pc2) (kk : AW M T kn g pc2 ls (vI (n : Int) :: st)) : AW M T kn g pc ls (vA a :: st) := by
  intro p l e s m args below meth c B D cid ad0 ad H locs LS mc hK hX hE hR hL hl h1 h2
  subst hp
  obtain ⟨m1, m2⟩ := arr_mem hR hs
  exact W.alen (n := Int32.ofInt (n : Int)) mc.1 mc.2.1 m2 ((hK.2.1 _ m1).1 n _) (by rw [arrV_size]; exact Int32.ofInt_eq_ofNat.symm) rfl rfl hd (kk p l e s m args below meth c B D cid ad0 ad H locs LS mc hK hX hE hR hL hl h1 (okc (show zr (n : Int) from ⟨by omega, by omega⟩) (okt h2)))
theorem locs_one {B : BH} {locs : List Loc} {q : Loc} (hL : ∀ q ∈ locs, B.1 ≤ q.base) (hq : B.1 ≤ q.base) : ∀ x ∈ locs ++ [q], B.1 ≤ x.base := fun x hx => by
  rcases List.mem_append.mp hx with h | h
  · exact hL x h
  · rw [List.mem_singleton.mp h]; exact hq
theorem arr_write {B : BH} {D : va_G} {cid : FieldType → ClassId} {ad : Nat → Nat} {g g' : GH} {H H' : Heap} (hR : Rp B D cid ad g H) {a n k : Nat} {ty : FieldType} {v : Value} (hs : g.1 a = some (Sum.inr (ty, n))) (hsh : g'.1 = g.1)
    (hsm : ∀ ty a' k', a' ≠ a ∨ k' ≠ k → fv ty ad g' a' k' = fv ty ad g a' k') (hz : ∀ a k, zr (g'.2.1 a k)) (hc : clo g') (hv : fv ty ad g' a k = v) (e1 : H'[ad a]? = some ((arrV (cid ty) n (fun k => fv ty ad g a k)).setSlot k v)) (hsz : H'.size = H.size) (ho : ∀ q : Nat, q ≠ ad a → H'[q]? = H[q]?) : Rp B D cid ad g' H' := by
  refine hR.write hsh (by rw [hs]; simp) hsm hz hc hsz ho (fun sh h => ?_)
  cases hs.symm.trans h
  refine ⟨(arr_mem hR hs).1, ?_⟩
  rw [e1, arrV_store]
  congr 2
  funext j
  unfold updV
  by_cases hj : j = k
  · rw [if_pos hj, hj, hv]
  · rw [if_neg hj, hsm ty a j (Or.inr hj)]
theorem a_iast {a n : Nat} {i x : Int} (pc2 : Nat) (hd : decode M.2.1 pc = .ok (.iastore, 1)) (hs : g.1 a = some (Sum.inr (.int, n))) (h0 : 0 ≤ i) (hi : i < n) (hp : pc + 1 = pc2) (kk : AW M T kn (gI g a i.toNat x) pc2 ls st) : AW M T kn g pc ls (vI x :: vI i :: vA a :: st) := by
  intro p l e s m args below meth c B D cid ad0 ad H locs LS mc hK hX hE hR hL hl h1 h2
  subst hp
  have hz : zr i := okh (okt h2)
  obtain ⟨m1, m2⟩ := arr_mem hR hs
  refine W.iast mc.1 mc.2.1 m2 ((hK.2.1 _ m1).1 n _) (fun q => by cases q) (by rw [arrV_size]; exact zi_in hz h0 hi) rfl rfl hd (fun H' z1 z2 z3 => ?_)
  rw [zi_cl hz] at z1 ⊢
  exact kk p l e s m args below meth c B D cid ad0 ad H' _ LS mc hK hX (hE.sh rfl) (arr_write hR (g' := gI g a i.toNat x) hs rfl (fun ty a' k' h => fv_gI_ne h) (zr_u2 hR.2.2.2.2.2.1 (okh h2)) hR.2.2.2.2.2.2 (by show Value.int (Int32.ofInt (u2 g.2.1 a i.toNat x a i.toNat)) = _; rw [u2_s]) z1 z2 z3) (locs_one hL (hR.1 a (by rw [hs]; simp))) hl h1 (okt (okt (okt h2)))
theorem a_bast {a n : Nat} {i x : Int} (pc2 : Nat) (hd : decode M.2.1 pc = .ok (.bastore, 1)) (hs : g.1 a = some (Sum.inr (.byte, n))) (h0 : 0 ≤ i) (hi : i < n) (hx : (Int32.ofInt x).toInt8.toInt32 = Int32.ofInt x) (hp : pc + 1 = pc2) (kk : AW M T kn (gI g a i.toNat x) pc2 ls st) : AW M T kn g pc ls (vI x :: vI i :: vA a :: st) := by
  intro p l e s m args below meth c B D cid ad0 ad H locs LS mc hK hX hE hR hL hl h1 h2
  subst hp
  have hz : zr i := okh (okt h2)
  obtain ⟨m1, m2⟩ := arr_mem hR hs
  refine W.bast mc.1 mc.2.1 m2 ((hK.2.1 _ m1).1 n _) (fun q => by cases q) (by rw [arrV_size]; exact zi_in hz h0 hi) rfl rfl hd (fun H' z1 z2 z3 => ?_)
  rw [zi_cl hz] at z1 ⊢
  have z1 : H'[ad a]? = some ((arrV (cid .byte) n (fun k => fv .byte ad g a k)).setSlot i.toNat (.int (Int32.ofInt x))) := by rw [z1]; show some (Cell.setSlot _ _ (Value.int _)) = _; rw [hx]
  exact kk p l e s m args below meth c B D cid ad0 ad H' _ LS mc hK hX (hE.sh rfl) (arr_write hR (g' := gI g a i.toNat x) hs rfl (fun ty a' k' h => fv_gI_ne h) (zr_u2 hR.2.2.2.2.2.1 (okh h2)) hR.2.2.2.2.2.2 (by show Value.int (Int32.ofInt (u2 g.2.1 a i.toNat x a i.toNat)) = _; rw [u2_s]) z1 z2 z3) (locs_one hL (hR.1 a (by rw [hs]; simp))) hl h1 (okt (okt (okt h2)))
theorem a_zast {a n : Nat} {i x : Int} (pc2 : Nat) (hd : decode M.2.1 pc = .ok (.bastore, 1)) (hs : g.1 a = some (Sum.inr (.boolean, n))) (h0 : 0 ≤ i) (hi : i < n) (hx : x = 0 ∨ x = 1) (hp : pc + 1 = pc2) (kk : AW M T kn (gI g a i.toNat x) pc2 ls st) : AW M T kn g pc ls (vI x :: vI i :: vA a :: st) := by
  intro p l e s m args below meth c B D cid ad0 ad H locs LS mc hK hX hE hR hL hl h1 h2
  subst hp
  have hz : zr i := okh (okt h2)
  obtain ⟨m1, m2⟩ := arr_mem hR hs
  refine W.zast mc.1 mc.2.1 m2 ((hK.2.1 _ m1).1 n _) (fun q => by cases q) (by rw [arrV_size]; exact zi_in hz h0 hi) rfl rfl hd (fun H' z1 z2 z3 => ?_)
  rw [zi_cl hz] at z1 ⊢
  have z1 : H'[ad a]? = some ((arrV (cid .boolean) n (fun k => fv .boolean ad g a k)).setSlot i.toNat (.int (Int32.ofInt x))) := by
    rw [z1]; rcases hx with rfl | rfl <;> rfl
  exact kk p l e s m args below meth c B D cid ad0 ad H' _ LS mc hK hX (hE.sh rfl) (arr_write hR (g' := gI g a i.toNat x) hs rfl (fun ty a' k' h => fv_gI_ne h) (zr_u2 hR.2.2.2.2.2.1 (okh h2)) hR.2.2.2.2.2.2 (by show Value.int (Int32.ofInt (u2 g.2.1 a i.toNat x a i.toNat)) = _; rw [u2_s]) z1 z2 z3) (locs_one hL (hR.1 a (by rw [hs]; simp))) hl h1 (okt (okt (okt h2)))
theorem a_last {a n : Nat} {i : Int} {x : Int64} (pc2 : Nat) (hd : decode M.2.1 pc = .ok (.lastore, 1)) (hs : g.1 a = some (Sum.inr (.long, n))) (h0 : 0 ≤ i) (hi : i < n) (hp : pc + 1 = pc2) (kk : AW M T kn (gL g a i.toNat x) pc2 ls st) : AW M T kn g pc ls (vL x :: vI i :: vA a :: st) := by
  intro p l e s m args below meth c B D cid ad0 ad H locs LS mc hK hX hE hR hL hl h1 h2
  subst hp
  have hz : zr i := okh (okt h2)
  obtain ⟨m1, m2⟩ := arr_mem hR hs
  refine W.last mc.1 mc.2.1 m2 ((hK.2.1 _ m1).1 n _) (fun q => by cases q) (by rw [arrV_size]; exact zi_in hz h0 hi) rfl rfl hd (fun H' z1 z2 z3 => ?_)
  rw [zi_cl hz] at z1 ⊢
  exact kk p l e s m args below meth c B D cid ad0 ad H' _ LS mc hK hX (hE.sh rfl) (arr_write hR (g' := gL g a i.toNat x) hs rfl (fun ty a' k' h => fv_gL_ne h) hR.2.2.2.2.2.1 hR.2.2.2.2.2.2 (by show Value.long (u2 g.2.2.1 a i.toNat x a i.toNat) = _; rw [u2_s]) z1 z2 z3) (locs_one hL (hR.1 a (by rw [hs]; simp))) hl h1 (okt (okt (okt h2)))
/-- the class by its number -/
def clN (ci : Nat) : String := match vwCl[ci]? with
  | some r => r.1
  | none => ""
theorem a_aast {a n b ci : Nat} {i : Int} (pc2 : Nat) (hd : decode M.2.1 pc = .ok (.aastore, 1)) (hs : g.1 a = some (Sum.inr (.object (clN ci), n))) (hb : g.1 b = some (Sum.inl ci)) (h0 : 0 ≤ i) (hi : i < n) (hp : pc + 1 = pc2) (kk : AW M T kn (gR g a i.toNat (some b)) pc2 ls st) : AW M T kn g pc ls (vA b :: vI i :: vA a :: st) := by
  intro p l e s m args below meth c B D cid ad0 ad H locs LS mc hK hX hE hR hL hl h1 h2
  subst hp
  have hz : zr i := okh (okt h2)
  obtain ⟨m1, m2⟩ := arr_mem hR hs
  obtain ⟨r, hr, cellV, g1, g2, g3, -⟩ := hR.2.2.2.2.1 b _ hb
  have hcl : clN ci = r.1 := by simp [clN, hr]
  have hcls := (hK.1.1 ci r hr).2
  obtain ⟨kA, comp, k1, k2, k3, -⟩ := (hK.2.1 _ m1).2
  rw [hcl] at k3
  have hcomp : comp = D.1 ci := Option.some.inj (k3.symm.trans hcls.1)
  subst hcomp
  obtain ⟨kC, hkC, -⟩ := hcls.2
  have hz2 := zi_in hz h0 hi
  refine W.aast mc.1 mc.2.1 m2 (fun q h => by cases h) (fun h => by cases h) k1 k2 rfl hkC ⟨fun q => hz2 (Or.inl q), by rw [arrV_size]; exact Nat.not_le.mp fun q => hz2 (Or.inr q)⟩ g1 (fun q h => by rw [g3] at h; cases h) (by rw [g2]; exact hkC) (by rw [g2]; exact va_assign hcls) rfl rfl hd fun H' z1 z2 z3 => ?_
  rw [zi_cl hz] at z1 ⊢
  exact kk p l e s m args below meth c B D cid ad0 ad H' _ LS mc hK hX (hE.sh rfl) (arr_write hR (g' := gR g a i.toNat (some b)) hs rfl (fun ty a' k' h => fv_gR_ne h) hR.2.2.2.2.2.1 (clo_u2 hR.2.2.2.2.2.2 (okh h2)) (by show va_rf ((u2 g.2.2.2 a i.toNat (some b) a i.toNat).map ad) = _; rw [u2_s]; rfl) z1 z2 z3) (locs_one hL (hR.1 a (by rw [hs]; simp))) hl h1 (okt (okt (okt h2)))
/-! new cells -/
def NW (own : String) (index ci : Nat) : Prop := Cond.classLink own index (clN ci) ∈ tb ∧ Cond.instantiable (clN ci) (fN ci) ∈ tb ∧ Cond.initialized (clN ci) ∈ tb
def tOK (ty : FieldType) : Bool := tI ty || tRf ty || (match ty with | .long => true | _ => false)
theorem tOK_all {ci : Nat} {r : vw_C} (h : vwCl[ci]? = some r) : ∀ k, k < r.2.2 → tOK (tyc ci k) = true := by
  match ci, h with
  | 0, h => cases h; decide
  | 1, h => cases h; decide
  | 2, h => cases h; decide
  | 3, h => cases h; decide
  | 4, h => cases h; decide
  | 5, h => cases h; decide
  | 6, h => cases h; decide
  | 7, h => cases h; decide
  | 8, h => cases h; decide
  | 9, h => cases h; decide
  | 10, h => cases h; decide
  | 11, h => cases h; decide
  | 12, h => cases h; decide
  | n + 13, h => simp [vwCl] at h
theorem fv_new {ty : FieldType} (ht : tOK ty = true) (ad : Nat → Nat) (g : GH) (a : Nat) (sh : Sh) (k : Nat) : fv ty ad (gN g a sh) a k = defaultValue ty := by
  have h1 : (gN g a sh).2.1 a k = 0 := by show u1 g.2.1 a _ a k = _; rw [u1_s]
  have h2 : (gN g a sh).2.2.1 a k = 0 := by show u1 g.2.2.1 a _ a k = _; rw [u1_s]
  have h3 : (gN g a sh).2.2.2 a k = none := by show u1 g.2.2.2 a _ a k = _; rw [u1_s]
  cases ty <;> first | (simp [tOK, tI, tRf] at ht; done) | (simp only [fv, h1, h2, h3]; rfl)
theorem lok_ext {ad ad' : Nat → Nat} {g g' : GH} {nL : Nat} {ls : List AV} {LS : Array Slot} (hE : Ext ad g ad' g') (h : lok ad nL ls LS) (h1 : ∀ v ∈ ls, vok g v) : lok ad' nL ls LS := h.re (fun v hv => hE.cv (h1 v hv))
theorem map_ext {ad ad' : Nat → Nat} {g g' : GH} {st : List AV} (hE : Ext ad g ad' g') (h1 : ∀ v ∈ st, vok g v) : st.map (cv ad') = st.map (cv ad) := List.map_congr_left (fun v hv => hE.cv (h1 v hv))
theorem ok_ext {ad ad' : Nat → Nat} {g g' : GH} {st : List AV} (hE : Ext ad g ad' g') (h1 : ∀ v ∈ st, vok g v) : ∀ v ∈ st, vok g' v := fun v hv => hE.vok (h1 v hv)
theorem vok_new {g : GH} {a : Nat} {sh : Sh} : vok (gN g a sh) (vA a) := Or.inl (by show u1 g.1 a (some sh) a ≠ none; rw [u1_s]; simp)
theorem a_new {index ci : Nat} (a pc2 : Nat) (hd : decode M.2.1 pc = .ok (.new index, 3)) (hw : NW M.1.cls index ci) (hci : ci < 13) (ha : g.1 a = none) (hlt : a < 1000000) (hc1 : kn.1 + 1 ≤ M.2.2.2.2.cells) (hc2 : kn.2 + fN ci ≤ M.2.2.2.2.slots) (hp : pc + 3 = pc2)
    (kk : AW M T (kn.1 + 1, kn.2 + fN ci) (gN g a (Sum.inl ci)) pc2 ls (vA a :: st)) : AW M T kn g pc ls st := by
  intro p l e s m args below meth c B D cid ad0 ad H locs LS mc hK hX hE hR hL hl h1 h2
  subst hp
  obtain ⟨r, hr⟩ : ∃ r, vwCl[ci]? = some r := ⟨_, List.getElem?_eq_getElem (show ci < vwCl.length from hci)⟩
  have e1 : clN ci = r.1 := by simp [clN, hr]
  have e2 : fN ci = r.2.2 := by simp [fN, hr]
  obtain ⟨w1, w2, w3⟩ := hw
  rw [e1] at w1 w2 w3
  rw [e2] at w2 hc2 kk
  have hts := mc.2.2.2.2.2.1
  have hKn := hK.1.1 ci _ hr
  have hc := cl_all hr
  refine W.newcK mc.1 mc.2.1 mc.2.2.2.2.1 (hts _ w1) (hts _ w2) (hts _ w3) rfl hd hc1 hc2 hKn.2.1 rfl fun H' kC hkC e9 z1 o1 => ?_
  obtain ⟨hR', hE'⟩ := hR.new (sh := Sum.inl ci) ha hlt (by omega : H.size ≤ H'.size) o1 (q0 := H.size) (Nat.le_refl _) ⟨r, hr, by
    rw [u1_s]
    exact (u_born (tyc ci) hts hc.1 hKn hkC e9 hc.2.1).to (fun k hk => (fv_new (tOK_all hr k hk) _ _ _ _ _).symm)⟩
  have := kk p l e s m args below meth c B D cid ad0 (u1 ad a H.size) H' locs LS mc (hK.ext hE'.2) hX (hE.tr hE') hR' hL (lok_ext hE' hl h1) (ok_ext hE' h1) (okc vok_new (ok_ext hE' h2))
  rw [List.map_cons, map_ext hE' h2] at this
  rw [show cv (u1 ad a H.size) (vA a) = .ref H.size by show Value.ref (u1 ad a H.size a) = _; rw [u1_s]] at this
  exact this
theorem arr_new {B : BH} {D : va_G} {cid : FieldType → ClassId} {ad : Nat → Nat} {g : GH} {H H' : Heap} (hR : Rp B D cid ad g H) {a n : Nat} {ty : FieldType} (hm : ty ∈ arrTys) (ht : tOK ty = true) (ha : g.1 a = none) (hlt : a < 1000000) (e9 : H'[H.size]? = some (arrV (cid ty) n (fun _ => defaultValue ty))) (hsz : H.size ≤ H'.size) (ho : ∀ q : Nat, q < H.size → H'[q]? = H[q]?) :
    Rp B D cid (u1 ad a H.size) (gN g a (Sum.inr (ty, n))) H' ∧ Ext ad g (u1 ad a H.size) (gN g a (Sum.inr (ty, n))) := by
  refine hR.new ha hlt hsz ho (Nat.le_refl _) ⟨hm, ?_⟩
  rw [u1_s, e9]
  congr 2
  funext k
  exact (fv_new ht _ _ _ _ _).symm
theorem a_newa {atype : ArrayType} {n : Int} (ty : FieldType) (a pc2 : Nat) (hd : decode M.2.1 pc = .ok (.newarray atype, 2)) (hty : newarray.typeOf atype = ty) (hw : Cond.arrayClass ty ∈ tb) (hm : ty ∈ arrTys) (ht : tOK ty = true ∧ tRf ty = false) (h0 : 0 ≤ n) (hb : n.toNat * componentBytes ty ≤ 536870912) (ha : g.1 a = none) (hlt : a < 1000000) (hc1 : kn.1 + 1 ≤ M.2.2.2.2.cells) (hc2 : kn.2 + n.toNat ≤ M.2.2.2.2.slots) (hp : pc + 2 = pc2)
    (kk : AW M T (kn.1 + 1, kn.2 + n.toNat) (gN g a (Sum.inr (ty, n.toNat))) pc2 ls (vA a :: st)) : AW M T kn g pc ls (vI n :: st) := by
  intro p l e s m args below meth c B D cid ad0 ad H locs LS mc hK hX hE hR hL hl h1 h2
  subst hp; subst hty
  have hz : zr n := okh h2
  refine va_newaK mc.1 mc.2.1 (mc.2.2.2.2.2.1 _ hw) rfl hd rfl (fun q => by have := (zi_lt hz zr_0).mp q; omega) (zi_cl hz) hb hc1 hc2 rfl fun H' cA e9 z1 o1 hAr hNm => ?_
  have hcA : cA = cid (newarray.typeOf atype) := by
    have h9 := (hK.2.1 _ hm).2
    have h10 : s.vm.findClass ("[" ++ (newarray.typeOf atype).toString) = some (cid (newarray.typeOf atype)) := by
      revert h9
      cases atype <;> exact fun h => h
    exact Option.some.inj (hNm.symm.trans h10)
  subst hcA
  obtain ⟨hR', hE'⟩ := arr_new hR hm ht.1 ha hlt e9 (by omega : H.size ≤ H'.size) o1
  have := kk p l e s m args below meth c B D cid ad0 (u1 ad a H.size) H' locs LS mc (hK.ext hE'.2) hX (hE.tr hE') hR' hL (lok_ext hE' hl h1) (ok_ext hE' h1) (okc vok_new (ok_ext hE' (okt h2)))
  rw [List.map_cons, map_ext hE' (okt h2)] at this
  rw [show cv (u1 ad a H.size) (vA a) = .ref H.size by show Value.ref (u1 ad a H.size a) = _; rw [u1_s]] at this
  exact this
theorem a_anew {index ci : Nat} {n : Int} (a pc2 : Nat) (hd : decode M.2.1 pc = .ok (.anewarray index, 3)) (hw : Cond.classLink M.1.cls index (clN ci) ∈ tb ∧ Cond.arrayOver (.object (clN ci)) ∈ tb) (hm : FieldType.object (clN ci) ∈ arrTys) (h0 : 0 ≤ n) (hb : n.toNat * 4 ≤ 536870912) (ha : g.1 a = none) (hlt : a < 1000000) (hc1 : kn.1 + 1 ≤ M.2.2.2.2.cells) (hc2 : kn.2 + n.toNat ≤ M.2.2.2.2.slots) (hp : pc + 3 = pc2)
    (kk : AW M T (kn.1 + 1, kn.2 + n.toNat) (gN g a (Sum.inr (.object (clN ci), n.toNat))) pc2 ls (vA a :: st)) : AW M T kn g pc ls (vI n :: st) := by
  intro p l e s m args below meth c B D cid ad0 ad H locs LS mc hK hX hE hR hL hl h1 h2
  subst hp
  have hz : zr n := okh h2
  have hcl := zi_cl hz
  refine W.anew mc.1 mc.2.1 mc.2.2.2.2.1 (mc.2.2.2.2.2.1 _ hw.1) (mc.2.2.2.2.2.1 _ hw.2) rfl hd rfl (fun q => by have := (zi_lt hz zr_0).mp q; omega) (by rw [hcl]; exact hb) hc1 (by rw [hcl]; exact hc2) fun cA kA comp f1 f2 f3 f4 => ?_
  obtain ⟨kA', comp', k1, k2, k3, k4⟩ := (hK.2.1 _ hm).2
  have hcA : cA = cid (.object (clN ci)) := Option.some.inj (f1.symm.trans k4)
  subst hcA
  rw [hcl]
  generalize hH1 : H.push ({ cls := cid (.object (clN ci)), slots := Array.replicate n.toNat .null, vm := .none } : Cell) = H1
  have z1 : H1.size = H.size + 1 := by rw [← hH1, Array.size_push]
  have e9 : H1[H.size]? = some (arrV (cid (.object (clN ci))) n.toNat (fun _ => .null)) := by rw [← hH1, Array.getElem?_push_size, ← arrV_new]
  have o1 : ∀ q : Nat, q < H.size → H1[q]? = H[q]? := fun q hq => by rw [← hH1, Array.getElem?_push, if_neg (Nat.ne_of_lt hq)]
  obtain ⟨hR', hE'⟩ := arr_new hR hm rfl ha hlt e9 (by omega : H.size ≤ H1.size) o1
  have := kk p l e s m args below meth c B D cid ad0 (u1 ad a H.size) H1 locs LS mc (hK.ext hE'.2) hX (hE.tr hE') hR' hL (lok_ext hE' hl h1) (ok_ext hE' h1) (okc vok_new (ok_ext hE' (okt h2)))
  rw [List.map_cons, map_ext hE' (okt h2)] at this
  rw [show cv (u1 ad a H.size) (vA a) = .ref H.size by show Value.ref (u1 ad a H.size a) = _; rw [u1_s]] at this
  exact this
end AARR
end
section
/-! ===== a method's end, its contract, calls ===== -/
def rvl (ret : Option FieldType) (v : Value) : Option Value := match ret with
  | none => none
  | some _ => some v
def rst (ret : Option FieldType) (r : AV) (st : List AV) : List AV := match ret with
  | none => st
  | some _ => r :: st
def QE (M : MI) (B : BH) (D : va_G) (cid : FieldType → ClassId) (ad : Nat → Nat) (g : GH) (post : AV → GH → Prop) : Array Value → State → Outcome → State → Prop := fun _ _ o t =>
  ∃ (r : AV) (g' : GH) (ad' : Nat → Nat), o = .returned (rvl M.2.2.2.1 (cv ad' r)) ∧ post r g' ∧ vok g' r ∧ Ext ad g ad' g' ∧ Rp B D cid ad' g' t.heap
def tE (M : MI) (g : GH) (post : AV → GH → Prop) : TT := (g, fun _ _ _ => True, fun B D cid ad0 below args s => MQ below (QE M B D cid ad0 g post) args s M.2.2.2.2.cells M.2.2.2.2.slots (fun q => B.1 ≤ q))
/-- the method M, from the heap g with the arguments avs, returns with post -/
def AMet (M : MI) (g : GH) (avs : List AV) (post : AV → GH → Prop) : Prop :=
  ∀ (l : Launch) (B : BH) (D : va_G) (cid : FieldType → ClassId) (ad : Nat → Nat), (∀ v ∈ avs, vok g v) →
    Met l M.1 (Cond.code M.1 M.2.1 M.2.2.1 M.2.2.2.1 :: tb) M.2.2.2.2 (va_Pc (avs.map (cv ad)) (fun U => Rp B D cid ad g U.heap ∧ KN B D cid ad U)) (QE M B D cid ad g post) M.2.2.2.2.cells M.2.2.2.2.slots (fun q => B.1 ≤ q)
def lent : List AV → List AV
  | [] => []
  | some (Sum.inr (Sum.inl w)) :: vs => vL w :: none :: lent vs
  | v :: vs => v :: lent vs
theorem lent_len (ad : Nat → Nat) : ∀ avs : List AV, (lg_sl (avs.map (cv ad))).length = (lent avs).length
  | [] => rfl
  | none :: vs => by have := lent_len ad vs; simp [lg_sl, lent, cv, Value.category] at this ⊢; omega
  | some (Sum.inl z) :: vs => by have := lent_len ad vs; simp [lg_sl, lent, cv, Value.category] at this ⊢; omega
  | some (Sum.inr (Sum.inl w)) :: vs => by have := lent_len ad vs; simp [lg_sl, lent, cv, Value.category] at this ⊢; omega
  | some (Sum.inr (Sum.inr none)) :: vs => by have := lent_len ad vs; simp [lg_sl, lent, cv, Value.category] at this ⊢; omega
  | some (Sum.inr (Sum.inr (some a))) :: vs => by have := lent_len ad vs; simp [lg_sl, lent, cv, Value.category] at this ⊢; omega
theorem lent_one {v : AV} {vs : List AV} (h : ∀ w, v ≠ vL w) : lent (v :: vs) = v :: lent vs := by
  rcases v with _ | z | w | r
  · rfl
  · rfl
  · exact absurd rfl (h w)
  · rfl
theorem lent_in (ad : Nat → Nat) : ∀ (avs : List AV) (off i : Nat) (v : Int ⊕ (Int64 ⊕ Option Nat)), (lent avs)[i]? = some (some v) → (off + i, cv ad (some v)) ∈ lv_args off (avs.map (cv ad))
  | [], off, i, v, h => by simp [lent] at h
  | u :: vs, off, i, v, h => by
    by_cases hu : ∃ w, u = vL w
    · obtain ⟨w, rfl⟩ := hu
      have e1 : lent (vL w :: vs) = vL w :: none :: lent vs := rfl
      rw [e1] at h
      have e2 : lv_args off ((vL w :: vs).map (cv ad)) = (off, .long w) :: lv_args (off + 2) (vs.map (cv ad)) := rfl
      rw [e2]
      match i, h with
      | 0, h =>
        have h : vL w = some v := Option.some.inj h
        rw [← h]
        exact List.mem_cons_self
      | 1, h => exact absurd (show (none : AV) = some v from Option.some.inj h) (by simp)
      | i + 2, h =>
        have := lent_in ad vs (off + 2) i v h
        rw [show off + (i + 2) = off + 2 + i by omega]
        exact List.mem_cons_of_mem _ this
    · have hu : ∀ w, u ≠ vL w := fun w h => hu ⟨w, h⟩
      rw [lent_one hu] at h
      have hc := cv_one (ad := ad) hu
      have e2 : lv_args off ((u :: vs).map (cv ad)) = (off, cv ad u) :: lv_args (off + 1) (vs.map (cv ad)) := by
        show (off, cv ad u) :: lv_args (if (cv ad u).category = 2 then off + 2 else off + 1) _ = _
        rw [if_neg (by omega)]
      rw [e2]
      match i, h with
      | 0, h =>
        have h : u = some v := Option.some.inj h
        rw [← h]
        exact List.mem_cons_self
      | i + 1, h =>
        have := lent_in ad vs (off + 1) i v h
        rw [show off + (i + 1) = off + 1 + i by omega]
        exact List.mem_cons_of_mem _ this
theorem lent_ok {g : GH} : ∀ (avs : List AV), (∀ v ∈ avs, vok g v) → ∀ v ∈ lent avs, vok g v
  | [], _ => fun v h => by simp [lent] at h
  | u :: vs, h => by
    have ih := lent_ok vs (fun v hv => h v (List.mem_cons_of_mem _ hv))
    by_cases hu : ∃ w, u = vL w
    · obtain ⟨w, rfl⟩ := hu
      show ∀ v ∈ vL w :: none :: lent vs, vok g v
      exact okc trivial (okc trivial ih)
    · rw [lent_one (fun w h => hu ⟨w, h⟩)]
      exact okc (h u List.mem_cons_self) ih
theorem AMet.of {M : MI} {g : GH} {avs : List AV} {post : AV → GH → Prop} (ls : List AV) (hy : plainName M.1.cls = true) (hls : lent avs ++ List.replicate (M.2.2.1 - (lent avs).length) none = ls) (hlen : (lent avs).length ≤ M.2.2.1)
    (h : AW M (tE M g post) (0, 0) g 0 ls []) : AMet M g avs post := by
  intro l B D cid ad hv0
  refine Met.ofW (cc := M.2.1) (maxL := M.2.2.1) (ret := M.2.2.2.1) hy rfl ?_
  intro p e s m args below meth c s₁ BL hml hv
  obtain ⟨rfl, hR, hK⟩ := hv
  have hts := atoms_spec (ws := Cond.code M.1 M.2.1 M.2.2.1 M.2.2.2.1 :: tb) BL.pre
  have hl := lv_entry (avs.map (cv ad)) (n := M.2.2.1) (by rw [lent_len]; exact hlen)
  rw [lg_entry_eq]
  refine h p l e s m _ below meth c B D cid ad ad s.heap [] _ ⟨BL.exec, BL.bytes, BL.returns, hml, findClass_of_methodNamed BL.named, fun w hw => hts w (List.mem_cons_of_mem _ hw), BL.notSynchronized, (name_of_methodNamed BL.named BL.method).1⟩ hK trivial Ext.rf hR (fun q hq => by cases hq) ⟨hl.1, hl.2.1, fun q hq => ?_⟩ ?_ (fun v hv => by cases hv)
  · obtain ⟨v, hv, e9⟩ := lvl_mem.mp hq
    refine hl.2.2 q ?_
    rw [← hls] at hv
    have hlt : q.1 < (lent avs).length := by
      rcases Nat.lt_or_ge q.1 (lent avs).length with h1 | h1
      · exact h1
      · rw [List.getElem?_append_right h1] at hv
        have := List.eq_of_mem_replicate (List.mem_of_getElem? hv)
        cases this
    rw [List.getElem?_append_left hlt] at hv
    have := lent_in ad avs 0 q.1 v hv
    rw [Nat.zero_add, ← e9] at this
    exact this
  · rw [← hls]
    intro v hv
    rcases List.mem_append.mp hv with h1 | h1
    · exact lent_ok avs hv0 v h1
    · rw [List.eq_of_mem_replicate h1]; trivial
theorem AMet.post {M : MI} {g : GH} {avs : List AV} {post post' : AV → GH → Prop} (h : AMet M g avs post) (hp : ∀ r g', vok g' r → (∀ a, g.1 a ≠ none → g'.1 a = g.1 a) → post r g' → post' r g') : AMet M g avs post' := by
  intro l B D cid ad hv
  intro p e ha hc hk s m args below hf happ hP hK
  obtain ⟨n, o, w1, w2, w3, ⟨r, g', ad', q1, q2, q3, q4, q5⟩, q6⟩ := h l B D cid ad hv p e ha hc hk s m args below hf happ hP hK
  exact ⟨n, o, w1, w2, w3, ⟨r, g', ad', q1, hp r g' q3 (fun a ha => (q4.1 a ha).2) q2, q3, q4, q5⟩, q6⟩
section ARET
variable {M : MI} {kn : Nat × Nat} {g g0 : GH} {pc : Nat} {ls st : List AV} {post : AV → GH → Prop}
theorem a_ireturn {z : Int} (hd : decode M.2.1 pc = .ok (.ireturn, 1)) (ht : M.2.2.2.1 = some .int) (hk : kn.1 ≤ M.2.2.2.2.cells ∧ kn.2 ≤ M.2.2.2.2.slots) (hq : post (vI z) g) : AW M (tE M g0 post) kn g pc ls (vI z :: []) := by
  intro p l e s m args below meth c B D cid ad0 ad H locs LS mc hK hX hE hR hL hl h1 h2
  have hlocks : meth.locks = false := mc.2.2.2.2.2.2.1
  refine W.widen hk.1 hk.2 ?_
  exact W.iret (v := Int32.ofInt z) mc.1 mc.2.1 (mc.2.2.1.trans ht) (fun t ht9 hW => ⟨vI z, g, ad, by rw [ht]; rfl, hq, okh h2, hE, by rw [ht9]; exact hR⟩) hL hd
theorem a_zreturn {z : Int} {ty : FieldType} (hd : decode M.2.1 pc = .ok (.ireturn, 1)) (ht : M.2.2.2.1 = some ty) (hn : narrow ty (.int (Int32.ofInt z)) = .int (Int32.ofInt z)) (hk : kn.1 ≤ M.2.2.2.2.cells ∧ kn.2 ≤ M.2.2.2.2.slots) (hq : post (vI z) g) : AW M (tE M g0 post) kn g pc ls (vI z :: []) := by
  intro p l e s m args below meth c B D cid ad0 ad H locs LS mc hK hX hE hR hL hl h1 h2
  have hlocks : meth.locks = false := mc.2.2.2.2.2.2.1
  refine W.widen hk.1 hk.2 ?_
  exact W.zret (v := Int32.ofInt z) mc.1 mc.2.1 (mc.2.2.1.trans ht) hn (fun t ht9 hW => ⟨vI z, g, ad, by rw [ht]; rfl, hq, okh h2, hE, by rw [ht9]; exact hR⟩) hL hd
theorem nar_b {z : Int} (h : z = 0 ∨ z = 1) : narrow .boolean (.int (Int32.ofInt z)) = .int (Int32.ofInt z) := by rcases h with rfl | rfl <;> rfl
theorem a_breturn {z : Int} (hd : decode M.2.1 pc = .ok (.ireturn, 1)) (ht : M.2.2.2.1 = some .boolean) (hz : z = 0 ∨ z = 1) (hk : kn.1 ≤ M.2.2.2.2.cells ∧ kn.2 ≤ M.2.2.2.2.slots) (hq : post (vI z) g) : AW M (tE M g0 post) kn g pc ls (vI z :: []) := a_zreturn hd ht (nar_b hz) hk hq
theorem a_lreturn {w : Int64} (hd : decode M.2.1 pc = .ok (.lreturn, 1)) (ht : M.2.2.2.1 = some .long) (hk : kn.1 ≤ M.2.2.2.2.cells ∧ kn.2 ≤ M.2.2.2.2.slots) (hq : post (vL w) g) : AW M (tE M g0 post) kn g pc ls (vL w :: []) := by
  intro p l e s m args below meth c B D cid ad0 ad H locs LS mc hK hX hE hR hL hl h1 h2
  have hlocks : meth.locks = false := mc.2.2.2.2.2.2.1
  refine W.widen hk.1 hk.2 ?_
  exact W.lret (v := w) mc.1 mc.2.1 (mc.2.2.1.trans ht) (fun t ht9 hW => ⟨vL w, g, ad, by rw [ht]; rfl, hq, okh h2, hE, by rw [ht9]; exact hR⟩) hL hd
theorem a_return (hd : decode M.2.1 pc = .ok (.return_, 1)) (ht : M.2.2.2.1 = none) (hk : kn.1 ≤ M.2.2.2.2.cells ∧ kn.2 ≤ M.2.2.2.2.slots) (hq : post none g) : AW M (tE M g0 post) kn g pc ls [] := by
  intro p l e s m args below meth c B D cid ad0 ad H locs LS mc hK hX hE hR hL hl h1 h2
  have hlocks : meth.locks = false := mc.2.2.2.2.2.2.1
  refine W.widen hk.1 hk.2 ?_
  exact W.vret mc.1 mc.2.1 (mc.2.2.1.trans ht) (fun t ht9 hW => ⟨none, g, ad, by rw [ht]; rfl, hq, trivial, hE, by rw [ht9]; exact hR⟩) hL hd
end ARET
/-! calls: what is fixed of a method -/
def CD (M : MI) (n : Nat) : Prop := Cond.code M.1 M.2.1 M.2.2.1 M.2.2.2.1 ∈ tb ∧ Cond.initialized M.1.cls ∈ tb ∧ (M.1.cls ≠ "java/lang/invoke/MethodHandle" ∧ M.1.cls ≠ "java/lang/invoke/VarHandle" ∧ (parseMethodDescriptor M.1.desc).map (fun d => d.parameters.length) = some n)
def CDS (M : MI) (n : Nat) : Prop := CD M n ∧ Cond.static M.1 ∈ tb
def CDV (M : MI) (n ci : Nat) : Prop := CD M n ∧ Cond.instanceMethod M.1 ∈ tb ∧ Cond.selects M.1.cls M.1 M.1 ∈ tb ∧ clN ci = M.1.cls
def CDI (M : MI) (n : Nat) : Prop := CD M n ∧ Cond.instanceMethod M.1 ∈ tb ∧ M.1.name = "<init>" ∧ M.2.2.2.1 = none
/-- the link of a call: of the class itself, or of a nest mate -/
def LK (own : String) (index : Nat) (M : MI) : Prop := Cond.methodLink own index M.1 ∈ tb
def LN (own : String) (index : Nat) (M : MI) : Prop := Cond.methodLinkNest own index M.1 RX11 ∈ tb
theorem tb_good : ∀ w ∈ tb, goodWord w = true := fun w h => (List.mem_filter.mp h).2
theorem good_tb {c : Cond} (h : c ∈ tb) : GoodIn tb (c :: tb) := fun w hw => by
  rcases List.mem_cons.mp hw with rfl | hw
  · exact ⟨h, good_of_word (tb_good _ h)⟩
  · exact ⟨hw, good_of_word (tb_good _ hw)⟩
def acat (v : AV) : Nat := match v with
  | some (Sum.inr (Sum.inl _)) => 2
  | _ => 1
theorem acat_cv (ad : Nat → Nat) (v : AV) : (cv ad v).category = acat v := by rcases v with _ | z | w | _ | a <;> rfl
def fit (M : MI) (M' : MI) (kn : Nat × Nat) : Prop := M'.2.2.2.2.frames + 1 ≤ M.2.2.2.2.frames ∧ 8 + (M'.2.2.1 + 11) + M'.2.2.2.2.locals ≤ M.2.2.2.2.locals ∧ kn.1 + M'.2.2.2.2.cells ≤ M.2.2.2.2.cells ∧ kn.2 + M'.2.2.2.2.slots ≤ M.2.2.2.2.slots
section ACALL
variable {M : MI} {T : TT} {kn : Nat × Nat} {g : GH} {pc : Nat} {ls st : List AV}
theorem call_fin {p : Program} {l : Launch} {e : Env} {s : State} {m : MethodId} {args : Array Value} {below : List Frame} {meth : Method} {c : Code} {B : BH} {D : va_G} {cid : FieldType → ClassId} {ad0 ad : Nat → Nat} {H : Heap} {locs : List Loc} {LS : Array Slot} {M' : MI} {post : AV → GH → Prop} {a' : Array Value} {st0 : List Value}
    (mc : MC M p s m args meth c) (hK : KN B D cid ad s) (hX : T.2.1 B ad0 s) (hE : Ext ad0 T.1 ad g) (hL : ∀ q ∈ locs, B.1 ≤ q.base) (hl : lok ad M.2.2.1 ls LS) (h1 : ∀ v ∈ ls, vok g v) (h2 : ∀ v ∈ st, vok g v)
    (hrun : va_Run p l e M.2.2.2.2 s m args below meth c H locs kn.1 kn.2 M'.2.2.2.2.cells M'.2.2.2.2.slots (F0 m pc LS st0) (st.map (cv ad)) (QE M' B D cid ad g post a') (fun q => B.1 ≤ q))
    (kk : ∀ r g', vok g' r → post r g' → (∀ a, g.1 a ≠ none → g'.1 a = g.1 a) → AW M T (kn.1 + M'.2.2.2.2.cells, kn.2 + M'.2.2.2.2.slots) g' (pc + 3) ls (rst M'.2.2.2.1 r st)) :
    W p l e M.2.2.2.2 s m args below meth c H locs kn.1 kn.2 (T.2.2 B D cid ad0 below args s) (F0 m pc LS st0) := by
  intro Tm hT X
  obtain ⟨v, st₀, t, T', L, h0, X', hL', e1, e2, ⟨r, g', ad', hv, hp, hvk, hE', hR'⟩, stp⟩ := hrun Tm hT X
  have hv' : v = rvl M'.2.2.2.1 (cv ad' r) := by injection hv
  subst hv'
  have hok : ∀ x ∈ rst M'.2.2.2.1 r st, vok g' x := by
    unfold rst
    split
    · exact ok_ext hE' h2
    · exact okc hvk (ok_ext hE' h2)
  have hk := kk r g' hvk hp (fun a ha => (hE'.1 a ha).2) p l e s m args below meth c B D cid ad0 ad' T'.heap (locs ++ L) LS mc (hK.ext hE'.2) hX (hE.tr hE') (by rw [e1]; exact hR') (fun q hq => by
    rcases List.mem_append.mp hq with h | h
    · exact hL q h
    · exact hL' q h) (lok_ext hE' hl h1) (ok_ext hE' h1) hok
  have hst : (rst M'.2.2.2.1 r st).map (cv ad') = (rvl M'.2.2.2.1 (cv ad' r)).toList ++ st.map (cv ad) := by
    unfold rst rvl
    split
    · exact map_ext hE' h2
    · show cv ad' r :: st.map (cv ad') = _
      rw [map_ext hE' h2]; rfl
  rw [hst] at hk
  obtain ⟨t2, a1, b1⟩ := hk T' rfl X'
  exact ⟨t2, stp t2 a1, b1⟩
theorem pre_of {s : State} {H : Heap} {B : BH} {D : va_G} {cid : FieldType → ClassId} {ad : Nat → Nat} {avs : List AV} (hK : KN B D cid ad s) (hR : Rp B D cid ad g H) : PreS s H (va_Pc (avs.map (cv ad)) (fun U => Rp B D cid ad g U.heap ∧ KN B D cid ad U)) (avs.map (cv ad)) :=
  ⟨fun a U gf mk q => ⟨q.1, q.2.1, KN.same (s := U) (U := U.calling gf mk a) rfl q.2.2⟩, fun U hU hW => ⟨rfl, by rw [hU]; exact hR, hK.warm hW⟩⟩
theorem room_st {m : MethodId} {LS : Array Slot} {rest : List Value} {ad : Nat → Nat} {st : List AV} (h : (st.map acat).sum ≤ 8) : 2 * (F0 m pc LS rest).monitorRoom + ((st.map (cv ad)).map fun v => v.category).sum ≤ 8 := by
  refine lv_room ?_
  rw [List.map_map, show ((fun v : Value => v.category) ∘ cv ad) = acat from funext (fun v => acat_cv ad v)]
  exact h
theorem map_rev (ad : Nat → Nat) (avs st : List AV) : (List.reverseAux avs st).map (cv ad) = (avs.map (cv ad)).reverse ++ st.map (cv ad) := by
  rw [List.reverseAux_eq, List.map_append, List.map_reverse]
theorem ok_rev {avs st : List AV} (h : ∀ v ∈ List.reverseAux avs st, vok g v) : (∀ v ∈ avs, vok g v) ∧ ∀ v ∈ st, vok g v := by
  rw [List.reverseAux_eq] at h
  exact ⟨fun v hv => h v (List.mem_append_left _ (List.mem_reverse.mpr hv)), fun v hv => h v (List.mem_append_right _ hv)⟩
theorem a_callSA {M' : MI} {index n : Nat} {avs stk : List AV} {post : AV → GH → Prop} (pc2 : Nat) (hM : AMet M' g avs post) (hc : CDS M' n) (hlk : LK M.1.cls index M' ∨ LN M.1.cls index M') (hd : decode M.2.1 pc = .ok (.invokestatic index, 3)) (hst : List.reverseAux avs st = stk) (hn : avs.length = n) (hfit : fit M M' kn) (hw : (st.map acat).sum ≤ 8) (hp : pc + 3 = pc2)
    (kk : ∀ r g', vok g' r → post r g' → (∀ a, g.1 a ≠ none → g'.1 a = g.1 a) → AW M T (kn.1 + M'.2.2.2.2.cells, kn.2 + M'.2.2.2.2.slots) g' pc2 ls (rst M'.2.2.2.1 r st)) : AW M T kn g pc ls stk := by
  intro p l e s m args below meth c B D cid ad0 ad H locs LS mc hK hX hE hR hL hl h1 h2
  subst hp; subst hst
  obtain ⟨o1, o2⟩ := ok_rev h2
  have hts := mc.2.2.2.2.2.1
  obtain ⟨⟨c1, c2, c3⟩, c4⟩ := hc
  refine call_fin (a' := (avs.map (cv ad)).toArray) mc hK hX hE hL hl h1 o2 ?_ kk
  rcases hlk with hlk | hlk
  · refine va_runS (n := n) ⟨mc.1, mc.2.1, mc.2.2.2.1, mc.2.2.2.2.1, hts⟩ (hM l B D cid ad o1) ⟨callB_of n hts (good_tb c1) rfl rfl rfl (hts _ c2) (hts _ hlk) c3 ⟨hfit.1, hfit.2.1⟩, hts _ c4⟩ (pre_of hK hR) rfl (by rw [List.length_map]; exact hn) hl.1 (map_rev ad avs st) (room_st hw) hd ⟨hfit.2.2.1, hfit.2.2.2⟩
  · refine va_runSN (n := n) ⟨mc.1, mc.2.1, mc.2.2.2.1, mc.2.2.2.2.1, hts⟩ (hM l B D cid ad o1) ⟨va_cnB n hts (good_tb c1) rfl rfl rfl (va_Nw.of rfl (hts _ hlk)) (hts _ c2) c3 ⟨hfit.1, hfit.2.1⟩, hts _ c4, trivial⟩ (pre_of hK hR) rfl (by rw [List.length_map]; exact hn) hl.1 (map_rev ad avs st) (room_st hw) hd ⟨hfit.2.2.1, hfit.2.2.2⟩
theorem a_callVA {M' : MI} {index n ci b : Nat} {avs stk : List AV} {post : AV → GH → Prop} (pc2 : Nat) (hM : AMet M' g (vA b :: avs) post) (hc : CDV M' n ci) (hlk : LK M.1.cls index M' ∨ LN M.1.cls index M') (hd : decode M.2.1 pc = .ok (.invokevirtual index, 3)) (hst : List.reverseAux (vA b :: avs) st = stk) (hb : g.1 b = some (Sum.inl ci)) (hn : avs.length = n) (hfit : fit M M' kn) (hw : (st.map acat).sum ≤ 8) (hp : pc + 3 = pc2)
    (kk : ∀ r g', vok g' r → post r g' → (∀ a, g.1 a ≠ none → g'.1 a = g.1 a) → AW M T (kn.1 + M'.2.2.2.2.cells, kn.2 + M'.2.2.2.2.slots) g' pc2 ls (rst M'.2.2.2.1 r st)) : AW M T kn g pc ls stk := by
  intro p l e s m args below meth c B D cid ad0 ad H locs LS mc hK hX hE hR hL hl h1 h2
  subst hp; subst hst
  obtain ⟨o1, o2⟩ := ok_rev h2
  have hts := mc.2.2.2.2.2.1
  obtain ⟨⟨c1, c2, c3⟩, c4, c5, c6⟩ := hc
  have hpre := pre_of (avs := vA b :: avs) hK hR
  have hrec : ∃ cellB : Cell, H[ad b]? = some cellB ∧ cellB.vm.isStatics = false ∧ s.vm.findClass M'.1.cls = some cellB.cls := by
    obtain ⟨r, hr, cell, g1, g2, g3, -⟩ := hR.2.2.2.2.1 b _ hb
    refine ⟨cell, g1, by rw [g3]; rfl, ?_⟩
    rw [g2, ← c6]
    have := (hK.1.1 ci r hr).2.1
    rw [show clN ci = r.1 by simp [clN, hr]]
    exact this
  have hstk : (List.reverseAux (vA b :: avs) st).map (cv ad) = (avs.map (cv ad)).reverse ++ .ref (ad b) :: st.map (cv ad) := by
    rw [map_rev]
    show (.ref (ad b) :: avs.map (cv ad)).reverse ++ _ = _
    rw [List.reverse_cons, List.append_assoc]; rfl
  refine call_fin (a' := (Value.ref (ad b) :: avs.map (cv ad)).toArray) mc hK hX hE hL hl h1 o2 ?_ kk
  rcases hlk with hlk | hlk
  · exact va_runV (n := n) (C := M'.1.cls) ⟨mc.1, mc.2.1, mc.2.2.2.1, mc.2.2.2.2.1, hts⟩ (hM l B D cid ad o1) ⟨callB_of n hts (good_tb c1) rfl rfl rfl (hts _ c2) (hts _ hlk) c3 ⟨hfit.1, hfit.2.1⟩, hts _ c4, hts _ c5⟩ ⟨hpre.1, hrec, hpre.2⟩ rfl (by rw [List.length_map]; exact hn) hl.1 hstk (room_st hw) hd ⟨hfit.2.2.1, hfit.2.2.2⟩
  · exact va_runVN (n := n) (C := M'.1.cls) ⟨mc.1, mc.2.1, mc.2.2.2.1, mc.2.2.2.2.1, hts⟩ (hM l B D cid ad o1) ⟨va_cnB n hts (good_tb c1) rfl rfl rfl (va_Nw.of rfl (hts _ hlk)) (hts _ c2) c3 ⟨hfit.1, hfit.2.1⟩, hts _ c4, hts _ c5⟩ ⟨hpre.1, hrec, hpre.2⟩ rfl (by rw [List.length_map]; exact hn) hl.1 hstk (room_st hw) hd ⟨hfit.2.2.1, hfit.2.2.2⟩
theorem a_callIA {M' : MI} {index n b : Nat} {avs stk : List AV} {post : AV → GH → Prop} (pc2 : Nat) (hM : AMet M' g (vA b :: avs) post) (hc : CDI M' n) (hlk : LK M.1.cls index M' ∨ LN M.1.cls index M') (hd : decode M.2.1 pc = .ok (.invokespecial index, 3)) (hst : List.reverseAux (vA b :: avs) st = stk) (hn : avs.length = n) (hfit : fit M M' kn) (hw : (st.map acat).sum ≤ 8) (hp : pc + 3 = pc2)
    (kk : ∀ r g', vok g' r → post r g' → (∀ a, g.1 a ≠ none → g'.1 a = g.1 a) → AW M T (kn.1 + M'.2.2.2.2.cells, kn.2 + M'.2.2.2.2.slots) g' pc2 ls (rst M'.2.2.2.1 r st)) : AW M T kn g pc ls stk := by
  intro p l e s m args below meth c B D cid ad0 ad H locs LS mc hK hX hE hR hL hl h1 h2
  subst hp; subst hst
  obtain ⟨o1, o2⟩ := ok_rev h2
  have hts := mc.2.2.2.2.2.1
  obtain ⟨⟨c1, c2, c3⟩, c4, c5, c6⟩ := hc
  have hpre := pre_of (avs := vA b :: avs) hK hR
  have hstk : (List.reverseAux (vA b :: avs) st).map (cv ad) = (avs.map (cv ad)).reverse ++ .ref (ad b) :: st.map (cv ad) := by
    rw [map_rev]
    show (.ref (ad b) :: avs.map (cv ad)).reverse ++ _ = _
    rw [List.reverse_cons, List.append_assoc]; rfl
  refine call_fin (a' := (Value.ref (ad b) :: avs.map (cv ad)).toArray) mc hK hX hE hL hl h1 o2 ?_ kk
  have hM9 := hM l B D cid ad o1
  have hc9 := c1
  rw [c6] at hM9 hc9
  rcases hlk with hlk | hlk
  · exact va_runI (n := n) ⟨mc.1, mc.2.1, mc.2.2.2.1, mc.2.2.2.2.1, hts⟩ hM9 ⟨callB_of n hts (good_tb hc9) rfl rfl rfl (hts _ c2) (hts _ hlk) c3 ⟨hfit.1, hfit.2.1⟩, c5, hts _ c4⟩ hpre rfl (by rw [List.length_map]; exact hn) hl.1 hstk (room_st hw) hd ⟨hfit.2.2.1, hfit.2.2.2⟩
  · exact va_runIN (n := n) ⟨mc.1, mc.2.1, mc.2.2.2.1, mc.2.2.2.2.1, hts⟩ hM9 ⟨va_cnB n hts (good_tb hc9) rfl rfl rfl (va_Nw.of rfl (hts _ hlk)) (hts _ c2) c3 ⟨hfit.1, hfit.2.1⟩, c5, hts _ c4⟩ hpre rfl (by rw [List.length_map]; exact hn) hl.1 hstk (room_st hw) hd ⟨hfit.2.2.1, hfit.2.2.2⟩
/-- calls of methods that make nothing -/
def fit0 (M : MI) (M' : MI) : Prop := M'.2.2.2.2.frames + 1 ≤ M.2.2.2.2.frames ∧ 8 + (M'.2.2.1 + 11) + M'.2.2.2.2.locals ≤ M.2.2.2.2.locals ∧ M'.2.2.2.2.cells = 0 ∧ M'.2.2.2.2.slots = 0
theorem fit0_fit {M M' : MI} {kn : Nat × Nat} (h : fit0 M M') (hk : kn.1 ≤ M.2.2.2.2.cells ∧ kn.2 ≤ M.2.2.2.2.slots) : fit M M' kn := ⟨h.1, h.2.1, by rw [h.2.2.1]; exact hk.1, by rw [h.2.2.2]; exact hk.2⟩
theorem a_callS {M' : MI} {index n : Nat} {avs stk : List AV} {post : AV → GH → Prop} (pc2 : Nat) (hM : AMet M' g avs post) (hc : CDS M' n) (hlk : LK M.1.cls index M' ∨ LN M.1.cls index M') (hd : decode M.2.1 pc = .ok (.invokestatic index, 3)) (hst : List.reverseAux avs st = stk) (hn : avs.length = n) (hfit : fit0 M M') (hk : kn.1 ≤ M.2.2.2.2.cells ∧ kn.2 ≤ M.2.2.2.2.slots) (hw : (st.map acat).sum ≤ 8) (hp : pc + 3 = pc2)
    (kk : ∀ r g', vok g' r → post r g' → (∀ a, g.1 a ≠ none → g'.1 a = g.1 a) → AW M T kn g' pc2 ls (rst M'.2.2.2.1 r st)) : AW M T kn g pc ls stk :=
  a_callSA pc2 hM hc hlk hd hst hn (fit0_fit hfit hk) hw hp (fun r g' h1 h2 h3 => by rw [hfit.2.2.1, hfit.2.2.2]; exact kk r g' h1 h2 h3)
theorem a_callV {M' : MI} {index n ci b : Nat} {avs stk : List AV} {post : AV → GH → Prop} (pc2 : Nat) (hM : AMet M' g (vA b :: avs) post) (hc : CDV M' n ci) (hlk : LK M.1.cls index M' ∨ LN M.1.cls index M') (hd : decode M.2.1 pc = .ok (.invokevirtual index, 3)) (hst : List.reverseAux (vA b :: avs) st = stk) (hb : g.1 b = some (Sum.inl ci)) (hn : avs.length = n) (hfit : fit0 M M') (hk : kn.1 ≤ M.2.2.2.2.cells ∧ kn.2 ≤ M.2.2.2.2.slots) (hw : (st.map acat).sum ≤ 8) (hp : pc + 3 = pc2)
    (kk : ∀ r g', vok g' r → post r g' → (∀ a, g.1 a ≠ none → g'.1 a = g.1 a) → AW M T kn g' pc2 ls (rst M'.2.2.2.1 r st)) : AW M T kn g pc ls stk :=
  a_callVA pc2 hM hc hlk hd hst hb hn (fit0_fit hfit hk) hw hp (fun r g' h1 h2 h3 => by rw [hfit.2.2.1, hfit.2.2.2]; exact kk r g' h1 h2 h3)
theorem a_objInit {index b : Nat} (pc2 : Nat) (hd : decode M.2.1 pc = .ok (.invokespecial index, 3)) (hw : Cond.methodLink M.1.cls index objectInit ∈ tb ∧ Cond.instanceMethod objectInit ∈ tb ∧ Cond.code objectInit ⟨#[0xb1]⟩ 1 none ∈ tb) (hr : 1 ≤ M.2.2.2.2.frames ∧ 20 ≤ M.2.2.2.2.locals) (hs : (st.map acat).sum ≤ 8) (hp : pc + 3 = pc2) (kk : AW M T kn g pc2 ls st) : AW M T kn g pc ls (vA b :: st) := by
  intro p l e s m args below meth c B D cid ad0 ad H locs LS mc hK hX hE hR hL hl h1 h2
  subst hp
  have hts := mc.2.2.2.2.2.1
  have h9 := room_st (m := m) (LS := LS) (rest := (vA b :: st).map (cv ad)) (pc := pc) (ad := ad) hs
  exact W.objInit mc.1 mc.2.1 mc.2.2.2.2.1 (hts _ hw.1) (hts _ hw.2.1) (hts _ hw.2.2) rfl (by rw [mc.2.2.2.1]; exact hl.1) rfl hd hr.1 (by omega) (kk p l e s m args below meth c B D cid ad0 ad H locs LS mc hK hX hE hR hL hl h1 (okt h2))
end ACALL
end
