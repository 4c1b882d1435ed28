/-- the rows at 13: an array of six, 14 .. 19 -/
def gma (g : GH) : Nat → GH
  | 0 => gN g 13 (Sum.inr (.array .int, 6))
  | i + 1 => gR (gN (gma g i) (14 + i) (Sum.inr (.int, 6))) 13 i (some (14 + i))
theorem gma_sh {g : GH} : ∀ i, (gma g i).1 13 = some (Sum.inr (.array .int, 6)) ∧ ∀ a, a ≠ 13 → (a < 14 ∨ 14 + i ≤ a) → (gma g i).1 a = g.1 a
  | 0 => ⟨show u1 g.1 13 _ 13 = _ from u1_s, fun a h _ => show u1 g.1 13 _ a = _ from u1_n h⟩
  | i + 1 => by
    obtain ⟨h1, h2⟩ := gma_sh (g := g) i
    exact ⟨show u1 (gma g i).1 (14 + i) _ 13 = _ from (u1_n (by omega)).trans h1, fun a x y => show u1 (gma g i).1 (14 + i) _ a = _ from (u1_n (by omega)).trans (h2 a x (by omega))⟩
theorem mz_rp {B : BH} {D : va_G} {cid : FieldType → ClassId} {ad : Nat → Nat} {g : GH} {T : State} (hR : Rp B D cid ad g T.heap) (h13 : g.1 13 = none) (hf : ∀ i, i < 6 → g.1 (14 + i) = none) : ∀ i, i ≤ 6 → ∃ ad', Rp B D cid ad' (gma g i) (mz T (cid (.array .int)) (cid .int) i).heap ∧ Ext ad g ad' (gma g i) ∧ ad' 13 = T.heap.size
  | 0, _ => by
    have hp : (mz T (cid (.array .int)) (cid .int) 0).heap = T.heap.push (mzO (cid (.array .int)) T.heap.size 0) := rfl
    have e9 : (mz T (cid (.array .int)) (cid .int) 0).heap[T.heap.size]? = some (arrV (cid (.array .int)) 6 (fun _ => defaultValue (.array .int))) := by rw [hp, Array.getElem?_push_size, mzO_0, ← arrV_new]; rfl
    obtain ⟨a1, a2⟩ := arr_new hR (H' := (mz T (cid (.array .int)) (cid .int) 0).heap) (a := 13) (n := 6) (ty := .array .int) (by decide) rfl h13 (by decide) e9 (by rw [(mz_f T _ _ 0).1]; omega) (fun q hq => by rw [hp, Array.getElem?_push, if_neg (Nat.ne_of_lt hq)])
    exact ⟨_, a1, a2, u1_s⟩
  | i + 1, hi => by
    obtain ⟨ad1, r1, x1, e1⟩ := mz_rp hR h13 hf i (by omega)
    obtain ⟨f1, f2, f3, f4⟩ := mz_f T (cid (.array .int)) (cid .int) i
    have g1 := gma_sh (g := g) i
    generalize hS : mz T (cid (.array .int)) (cid .int) i = S at r1 f1 f2 f3 f4
    have hp : (S.pushCell (mzI (cid .int))).heap = S.heap.push (mzI (cid .int)) := rfl
    have e9 : (S.pushCell (mzI (cid .int))).heap[S.heap.size]? = some (arrV (cid .int) 6 (fun _ => defaultValue .int)) := by
      rw [hp, Array.getElem?_push_size]
      show some (mzI (cid .int)) = _
      unfold mzI
      rw [← arrV_new]; rfl
    obtain ⟨r2, x2⟩ := arr_new r1 (H' := (S.pushCell (mzI (cid .int))).heap) (a := 14 + i) (n := 6) (ty := .int) (by decide) rfl ((g1.2 (14 + i) (by omega) (by omega)).trans (hf i (by omega))) (by omega) e9 (by rw [hp, Array.size_push]; omega) (fun q hq => by rw [hp, Array.getElem?_push, if_neg (Nat.ne_of_lt hq)])
    have hs : (gN (gma g i) (14 + i) (Sum.inr (.int, 6))).1 13 = some (Sum.inr (.array .int, 6)) := (u1_n (by omega)).trans g1.1
    have e13 : u1 ad1 (14 + i) S.heap.size 13 = T.heap.size := (u1_n (by omega)).trans e1
    have hlt0 : T.heap.size < S.heap.size := by rw [f1]; omega
    have c1 := (arr_mem r2 hs).2
    rw [e13] at c1
    have c2 : (S.pushCell (mzI (cid .int))).heap[T.heap.size]? = some (mzO (cid (.array .int)) T.heap.size i) := by rw [State.heap_pushCell_of_lt (h := hlt0)]; exact f2
    have ec := Option.some.inj (c1.symm.trans c2)
    refine ⟨u1 ad1 (14 + i) S.heap.size, ?_, x1.tr (x2.sh rfl), e13⟩
    have hz : (mz T (cid (.array .int)) (cid .int) (i + 1)).heap = ((S.pushCell (mzI (cid .int))).setCell T.heap.size (mzO (cid (.array .int)) T.heap.size (i + 1))).heap := by rw [← hS]; rfl
    rw [hz]
    refine arr_write r2 (g' := gma g (i + 1)) (k := i) (v := .ref (u1 ad1 (14 + i) S.heap.size (14 + i))) hs rfl (fun ty a' k' h => fv_gR_ne h) r2.2.2.2.2.2.1 (clo_u2 r2.2.2.2.2.2.2 (show vok _ (vA (14 + i)) from Or.inl (by rw [show (gN (gma g i) (14 + i) (Sum.inr (.int, 6))).1 (14 + i) = some (Sum.inr (.int, 6)) from u1_s]; simp))) ?_ ?_ ?_ ?_
    · show va_rf ((u2 _ 13 i (some (14 + i)) 13 i).map _) = _
      rw [u2_s]; rfl
    · rw [e13, ec, u1_s, f1, mzO_set _ _ (by omega)]
      exact State.heap_setCell_self c2
    · simp [State.setCell]
    · intro q hq
      rw [e13] at hq
      exact State.heap_setCell_other (Ne.symm hq)
section AMULTI
variable {M : MI} {T : TT} {kn : Nat × Nat} {g : GH} {pc : Nat} {ls st : List AV}
theorem a_multi {index : Nat} (pc2 : Nat) (hd : decode M.2.1 pc = .ok (.multianewarray index 2, 4)) (hw : Cond.classLink M.1.cls index "[[I" ∈ tb ∧ Cond.arrayClass .int ∈ tb) (h13 : g.1 13 = none) (hf : ∀ i, i < 6 → g.1 (14 + i) = none) (hc1 : kn.1 + 7 ≤ M.2.2.2.2.cells) (hc2 : kn.2 + 42 ≤ M.2.2.2.2.slots) (hp : pc + 4 = pc2)
    (kk : AW M T (kn.1 + 7, kn.2 + 42) (gma g 6) pc2 ls (vA 13 :: st)) : AW M T kn g pc ls (vI 6 :: vI 6 :: st) := by
  intro p l e s m args below meth c B D cid ad0 ad H locs LS mc hK hX hE hR hL hl h1 h2
  subst hp
  intro U hU X
  subst hU
  have hts := mc.2.2.2.2.2.1
  obtain ⟨vm₁, cA, comp, q1, q2, XF, step⟩ := mz_step X mc.1 mc.2.2.2.2.1 (hts _ hw.1) (hK.2.2.1.2 (.array .int) (by decide)) (hts _ hw.2) (g := F0 m pc LS (Value.int 6 :: Value.int 6 :: st.map (cv ad))) rfl (by rw [mc.2.1]; exact hd) rfl hc1 hc2
  have ha : cA = cid (.array .int) := Option.some.inj (q1.symm.trans (hK.2.1 (.array .int) (by decide)).2)
  have hb : comp = cid .int := Option.some.inj (q2.symm.trans (hK.2.1 .int (by decide)).2)
  subst ha; subst hb
  obtain ⟨ad', r', x', e'⟩ := mz_rp (T := U.setVm vm₁) hR h13 hf 6 (Nat.le_refl _)
  have ok2 : ∀ v ∈ st, vok g v := okt (okt h2)
  have hk := kk p l e s m args below meth c B D cid ad0 ad' (mz (U.setVm vm₁) (cid (.array .int)) (cid .int) 6).heap (locs ++ (List.range 6).map fun j => ⟨U.heap.size, j⟩) LS mc (hK.ext x'.2) hX (hE.tr x') r' (fun q hq => by
    rcases List.mem_append.mp hq with h | h
    · exact hL q h
    · obtain ⟨j, -, rfl⟩ := List.mem_map.mp h
      have := hR.2.2.2.1
      exact this) (lok_ext x' hl h1) (ok_ext x' h1) (okc (show vok _ (vA 13) from Or.inl (by rw [(gma_sh (g := g) 6).1]; simp)) (ok_ext x' ok2))
  rw [List.map_cons, map_ext x' ok2, show cv ad' (vA 13) = .ref U.heap.size by show Value.ref (ad' 13) = _; rw [e']; rfl] at hk
  obtain ⟨t, a1, b1⟩ := hk _ rfl XF
  exact ⟨t, step t a1, b1⟩
end AMULTI
