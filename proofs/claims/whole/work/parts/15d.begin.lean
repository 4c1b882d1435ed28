/-! ===== what holds at the law's entry ===== -/
theorem in_all {ci : Nat} {r : vw_C} (h : vwCl[ci]? = some r) : Cond.instantiable r.1 r.2.2 ∈ tb := by
  match ci, h with
  | 0, h => cases h; decide +kernel
  | 1, h => cases h; decide +kernel
  | 2, h => cases h; decide +kernel
  | 3, h => cases h; decide +kernel
  | 4, h => cases h; decide +kernel
  | 5, h => cases h; decide +kernel
  | 6, h => cases h; decide +kernel
  | 7, h => cases h; decide +kernel
  | 8, h => cases h; decide +kernel
  | 9, h => cases h; decide +kernel
  | 10, h => cases h; decide +kernel
  | 11, h => cases h; decide +kernel
  | 12, h => cases h; decide +kernel
  | n + 13, h => simp [vwCl] at h
theorem nest_in : ∀ w ∈ nestW, w ∈ lw_tbl := by decide +kernel
theorem nest_on : ∀ w ∈ nestW, w.onTables = true := by decide +kernel
theorem over_in : ∀ ty ∈ overT, Cond.arrayOver ty ∈ lw_tbl := by decide +kernel
theorem arrc_in : ∀ ty ∈ [FieldType.int, .long, .byte, .boolean], Cond.arrayClass ty ∈ lw_tbl := by decide +kernel
theorem strr_in : ∀ q ∈ sIdx, Cond.stringRef RX8 q.1 q.2 ∈ lw_tbl := by decide +kernel
theorem zst_in : Cond.laysStatic "java/lang/String" "COMPACT_STRINGS" "Z" ∈ lw_tbl ∧ Cond.initialized "java/lang/String" ∈ lw_tbl ∧ Cond.laysStatic "jdk/internal/util/Preconditions" "SIOOBE_FORMATTER" "Ljava/util/function/BiFunction;" ∈ lw_tbl ∧ Cond.initialized "jdk/internal/util/Preconditions" ∈ lw_tbl := by decide +kernel
def sTm (i : Nat) : Term := .string RX8 (sIdx.getD i (0, "")).1
theorem cid_of {s : State} {args : Array Value} (hts : ∀ w ∈ lw_tbl, w.before args s = true) (ty : FieldType) : ∃ cA : ClassId, ty ∈ arrTys → ArrOfT s cA ty ∧ va_RA s cA ty := by
  have hp : ∀ ty ∈ [FieldType.int, .long, .byte, .boolean], ∃ cA : ClassId, ArrOfT s cA ty ∧ s.vm.findClass ("[" ++ ty.toString) = some cA := fun ty h => by
    obtain ⟨cA, kA, comp, h1, h2, h3⟩ := Cond.arrayClass_spec (hts _ (arrc_in ty h))
    exact ⟨cA, fun N z => ⟨(fun k h => by cases h), kA, h2, comp, h3⟩, h1⟩
  have ho : ∀ C, FieldType.object C ∈ overT → ∃ cA : ClassId, ArrOfT s cA (.object C) ∧ va_RA s cA (.object C) := fun C h => by
    obtain ⟨comp, cA, kA, h1, -, h2, h3, h4⟩ := Cond.arrayOver_spec (hts _ (over_in _ h))
    exact ⟨cA, fun N z => ⟨(fun k h => by cases h), kA, h2, comp, h3⟩, kA, comp, h2, h3, h1, h4⟩
  by_cases hm : ty ∈ arrTys
  · have hm2 : ty = .int ∨ ty = .long ∨ ty = .byte ∨ ty = .boolean ∨ ty = .array .int ∨ ty = .object RX2 ∨ ty = .object RX5 ∨ ty = .object RX6 ∨ ty = .object RX9 := by simpa [arrTys] using hm
    rcases hm2 with rfl | rfl | rfl | rfl | rfl | rfl | rfl | rfl | rfl
    · obtain ⟨cA, h1, h2⟩ := hp .int (by decide); exact ⟨cA, fun _ => ⟨h1, h2⟩⟩
    · obtain ⟨cA, h1, h2⟩ := hp .long (by decide); exact ⟨cA, fun _ => ⟨h1, h2⟩⟩
    · obtain ⟨cA, h1, h2⟩ := hp .byte (by decide); exact ⟨cA, fun _ => ⟨h1, h2⟩⟩
    · obtain ⟨cA, h1, h2⟩ := hp .boolean (by decide); exact ⟨cA, fun _ => ⟨h1, h2⟩⟩
    · obtain ⟨comp, cA, kA, h1, h2, h3, h4⟩ := mz_over (hts _ (over_in (.array .int) (by decide)))
      exact ⟨cA, fun _ => ⟨fun N z => ⟨(fun k h => by cases h), kA, h2, comp, h3⟩, h4⟩⟩
    · obtain ⟨cA, h⟩ := ho RX2 (by decide); exact ⟨cA, fun _ => h⟩
    · obtain ⟨cA, h⟩ := ho RX5 (by decide); exact ⟨cA, fun _ => h⟩
    · obtain ⟨cA, h⟩ := ho RX6 (by decide); exact ⟨cA, fun _ => h⟩
    · obtain ⟨cA, h⟩ := ho RX9 (by decide); exact ⟨cA, fun _ => h⟩
  · exact ⟨0, fun h => absurd h hm⟩
/-- what the premises say of the constants -/
def nFl : List Cond := flatC (Jvm.Cond.and given_1 narrow_1)
theorem fl_ex : ∀ i : Nat, i < 5 → Cond.exactly (sTm i) "java/lang/String" ∈ nFl := by decide +kernel
theorem fl_co : ∀ i : Nat, i < 5 → Cond.eq (.field (sTm i) "java/lang/String" "coder" "B") (.int 0) ∈ nFl := by decide +kernel
theorem fl_ar : ∀ i : Nat, i < 5 → Cond.arrayOf (.field (sTm i) "java/lang/String" "value" "[B") .byte ∈ nFl := by decide +kernel
theorem fl_le : ∀ i : Nat, i < 5 → Cond.eq (.length (.field (sTm i) "java/lang/String" "value" "[B")) (.int (Int32.ofNat (sLen.getD i 0))) ∈ nFl := by decide +kernel
theorem fl_el : ∀ i : Nat, i < 5 → ∀ j : Nat, j < sLen.getD i 0 → Cond.eq (.elem (.field (sTm i) "java/lang/String" "value" "[B") (.int (Int32.ofNat j))) (.int ((sByt.getD i []).getD j 0)) ∈ nFl := by decide +kernel
theorem fl_ne : ∀ i : Nat, i < 5 → ∀ j : Nat, j < 5 → i ≠ j → (Cond.not (Cond.eq (sTm i) (sTm j))) ∈ nFl ∨ (Cond.not (Cond.eq (sTm j) (sTm i))) ∈ nFl := by decide +kernel
theorem fl_z : Cond.eq (.static "java/lang/String" "COMPACT_STRINGS" "Z") (.int 1) ∈ nFl ∧ Cond.isRef (.static "jdk/internal/util/Preconditions" "SIOOBE_FORMATTER" "Ljava/util/function/BiFunction;") ∈ nFl := by decide +kernel
theorem sk_of {s : State} {args : Array Value} (b : Nat) (hts : ∀ w ∈ lw_tbl, w.before args s = true) (hgv : (Jvm.Cond.and given_1 narrow_1).before args s = true) : ∃ ad : Nat → Nat, ad 1000300 = b ∧ SK (s.heap.size, s.heap) ad s := by
  have hs : ∀ w ∈ nFl, w.before args s = true := flat_of_before _ hgv
  have hA : ∀ a : Nat, a < s.heap.size → ¬ (fun q : Nat => s.heap.size ≤ q) a := fun a h => Nat.not_le.mpr h
  obtain ⟨adK, adV, hS, hT⟩ := vk_Sof (N := 5) (tm := sTm) (len := sLen) (byt := sByt) (A := fun q => s.heap.size ≤ q) (by decide +kernel) (fun i hi => hs _ (fl_ex i hi)) (fun i hi => hs _ (fl_co i hi)) (fun i hi => hs _ (fl_ar i hi)) (fun i hi => hs _ (fl_le i hi)) (fun i hi j hj => hs _ (fl_el i hi j hj)) (fun i j hi hj h => (fl_ne i hi j hj h).imp (hs _) (hs _)) hA
  obtain ⟨t, hq⟩ : ∃ t : Nat, va_Z "jdk/internal/util/Preconditions" "SIOOBE_FORMATTER" "Ljava/util/function/BiFunction;" .null (fun q => s.heap.size ≤ q) s s.heap ∨ va_Z "jdk/internal/util/Preconditions" "SIOOBE_FORMATTER" "Ljava/util/function/BiFunction;" (.ref t) (fun q => s.heap.size ≤ q) s s.heap := by
    rcases va_Zqof (A := fun q => s.heap.size ≤ q) (hts _ zst_in.2.2.1) (hts _ zst_in.2.2.2) (hs _ fl_z.2) hA with h | ⟨t, h⟩
    · exact ⟨0, Or.inl h⟩
    · exact ⟨t, Or.inr h⟩
  refine ⟨fun a => if a < 1000100 then adK (a - 1000000) else if a < 1000200 then adV (a - 1000100) else if a = 1000200 then t else b, by simp, adK, adV, hS, fun k hk => ⟨?_, ?_⟩, fun k i x hk => ?_, va_Zof (hts _ zst_in.1) (hts _ zst_in.2.1) (va_eqt (hs _ fl_z.1)) hA, ?_⟩
  · show (if 1000000 + k < 1000100 then adK (1000000 + k - 1000000) else _) = adK k
    rw [if_pos (by omega), show 1000000 + k - 1000000 = k by omega]
  · show (if 1000100 + k < 1000100 then _ else if 1000100 + k < 1000200 then adV (1000100 + k - 1000100) else _) = adV k
    rw [if_neg (by omega), if_pos (by omega), show 1000100 + k - 1000100 = k by omega]
  · have hk5 : k < 5 := (List.getElem?_eq_some_iff.mp hk).1
    have he : sTm k = .string RX8 i := by unfold sTm; rw [List.getD_eq_getElem?_getD, hk]; rfl
    have h1 := hT k hk5
    rw [he] at h1
    exact vk_R.of (hts _ (strr_in _ (List.mem_of_getElem? hk))) h1
  · exact hq
