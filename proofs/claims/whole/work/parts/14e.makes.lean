theorem wyB_k {g : GH} (h8 : g.1 8 = some (Sum.inl 10)) : (wyB g).1 8 = some (Sum.inl 10) ∧ ((wyB g).2.2.2 8 4 = some 13 ∧ (wyB g).1 13 = some (Sum.inr (.array .int, 6))) ∧ ∀ j, j < 6 → (wyB g).1 (14 + j) = some (Sum.inr (.int, 6)) ∧ (wyB g).2.2.2 13 j = some (14 + j) := by
  have a1 := gma_sh (g := (gR (gN (gR (gN (gR (gN (gR (gN g 9 (Sum.inr (.int, 20))) 8 0 (some 9)) 10 (Sum.inr (.int, 20))) 8 1 (some 10)) 11 (Sum.inr (.int, 20))) 8 2 (some 11)) 12 (Sum.inr (.int, 20))) 8 3 (some 12))) 6
  have a2 := gma_f (g := (gR (gN (gR (gN (gR (gN (gR (gN g 9 (Sum.inr (.int, 20))) 8 0 (some 9)) 10 (Sum.inr (.int, 20))) 8 1 (some 10)) 11 (Sum.inr (.int, 20))) 8 2 (some 11)) 12 (Sum.inr (.int, 20))) 8 3 (some 12))) 6 (Nat.le_refl _)
  generalize hx : gma (gR (gN (gR (gN (gR (gN (gR (gN g 9 (Sum.inr (.int, 20))) 8 0 (some 9)) 10 (Sum.inr (.int, 20))) 8 1 (some 10)) 11 (Sum.inr (.int, 20))) 8 2 (some 11)) 12 (Sum.inr (.int, 20))) 8 3 (some 12)) 6 = X at a1 a2
  have hw : wyB g = gI (gR (gN (gR (gN (gR X 8 4 (some 13)) 20 (Sum.inr (.int, 6))) 8 5 (some 20)) 21 (Sum.inr (.int, 6))) 8 6 (some 21)) 8 7 0 := by unfold wyB; rw [hx]
  rw [hw]
  have e8 : X.1 8 = some (Sum.inl 10) := (a1.2 8 (by decide) (by decide)).trans h8
  refine ⟨e8, ⟨rfl, a1.1⟩, fun j hj => ?_⟩
  have q := a2.1 j hj
  refine ⟨?_, ?_⟩
  · show u1 (u1 X.1 20 _) 21 _ (14 + j) = _
    rw [u1_n (by omega), u1_n (by omega)]; exact q.1
  · exact q.2
set_option maxHeartbeats 4000000 in
set_option maxRecDepth 100000 in
theorem c10_init (g : GH) (h8 : g.1 8 = some (Sum.inl 10)) (hf : ∀ a, 9 ≤ a → a ≤ 21 → g.1 a = none) : AMet mX10_init g [vA 8] (fun _ g' => g' = wyN g 6) := by
  refine AMet.of [vA 8, none] (by decide) rfl (Nat.le_of_ble_eq_true rfl) ?_
  have sh4 : ∀ a, 13 ≤ a → (gR (gN (gR (gN (gR (gN (gR (gN g 9 (Sum.inr (.int, 20))) 8 0 (some 9)) 10 (Sum.inr (.int, 20))) 8 1 (some 10)) 11 (Sum.inr (.int, 20))) 8 2 (some 11)) 12 (Sum.inr (.int, 20))) 8 3 (some 12)).1 a = g.1 a := fun a h => (u1_n (by omega)).trans ((u1_n (by omega)).trans ((u1_n (by omega)).trans (u1_n (by omega))))
  have hm8 : (gma (gR (gN (gR (gN (gR (gN (gR (gN g 9 (Sum.inr (.int, 20))) 8 0 (some 9)) 10 (Sum.inr (.int, 20))) 8 1 (some 10)) 11 (Sum.inr (.int, 20))) 8 2 (some 11)) 12 (Sum.inr (.int, 20))) 8 3 (some 12)) 6).1 8 = some (Sum.inl 10) := ((gma_sh (g := (gR (gN (gR (gN (gR (gN (gR (gN g 9 (Sum.inr (.int, 20))) 8 0 (some 9)) 10 (Sum.inr (.int, 20))) 8 1 (some 10)) 11 (Sum.inr (.int, 20))) 8 2 (some 11)) 12 (Sum.inr (.int, 20))) 8 3 (some 12))) 6).2 8 (by decide) (by decide)).trans h8
  have hK : (wyB g).1 8 = some (Sum.inl 10) ∧ ((wyB g).2.2.2 8 4 = some 13 ∧ (wyB g).1 13 = some (Sum.inr (.array .int, 6))) ∧ ∀ j, j < 6 → (wyB g).1 (14 + j) = some (Sum.inr (.int, 6)) ∧ (wyB g).2.2.2 13 j = some (14 + j) := wyB_k h8
  refine a_aload_n 1 dX10_init_0 rfl rfl ?_
  refine a_objInit 4 dX10_init_1 oiX10_3 ⟨by decide, by decide⟩ (Nat.le_of_ble_eq_true rfl) rfl ?_
  refine a_aload_n 5 dX10_init_4 rfl rfl ?_
  refine a_bipush (z := 20) 7 dX10_init_5 rfl (zrl rfl) rfl ?_
  refine a_newa .int (9) 9 dX10_init_7 rfl ac_int (by decide) ⟨rfl, rfl⟩ (by decide) (by decide) (hf 9 (by decide) (by decide)) (by decide) (by decide) (by decide) rfl ?_
  skip
  refine a_putR 12 dX10_init_9 fX10_9 (Or.inr ⟨rfl, rfl, rfl⟩) h8 rfl rfl ?_
  refine a_aload_n 13 dX10_init_12 rfl rfl ?_
  refine a_bipush (z := 20) 15 dX10_init_13 rfl (zrl rfl) rfl ?_
  refine a_newa .int (10) 17 dX10_init_15 rfl ac_int (by decide) ⟨rfl, rfl⟩ (by decide) (by decide) (hf 10 (by decide) (by decide)) (by decide) (by decide) (by decide) rfl ?_
  skip
  refine a_putR 20 dX10_init_17 fX10_15 (Or.inr ⟨rfl, rfl, rfl⟩) h8 rfl rfl ?_
  refine a_aload_n 21 dX10_init_20 rfl rfl ?_
  refine a_bipush (z := 20) 23 dX10_init_21 rfl (zrl rfl) rfl ?_
  refine a_newa .int (11) 25 dX10_init_23 rfl ac_int (by decide) ⟨rfl, rfl⟩ (by decide) (by decide) (hf 11 (by decide) (by decide)) (by decide) (by decide) (by decide) rfl ?_
  skip
  refine a_putR 28 dX10_init_25 fX10_18 (Or.inr ⟨rfl, rfl, rfl⟩) h8 rfl rfl ?_
  refine a_aload_n 29 dX10_init_28 rfl rfl ?_
  refine a_bipush (z := 20) 31 dX10_init_29 rfl (zrl rfl) rfl ?_
  refine a_newa .int (12) 33 dX10_init_31 rfl ac_int (by decide) ⟨rfl, rfl⟩ (by decide) (by decide) (hf 12 (by decide) (by decide)) (by decide) (by decide) (by decide) rfl ?_
  skip
  refine a_putR 36 dX10_init_33 fX10_21 (Or.inr ⟨rfl, rfl, rfl⟩) h8 rfl rfl ?_
  refine a_aload_n 37 dX10_init_36 rfl rfl ?_
  refine a_bipush (z := 6) 39 dX10_init_37 rfl (zrl rfl) rfl ?_
  refine a_bipush (z := 6) 41 dX10_init_39 rfl (zrl rfl) rfl ?_
  refine a_multi 45 dX10_init_41 ⟨tb_in (List.mem_of_getElem? (i := 94) (by decide +kernel)) rfl, ac_int⟩ (hf 13 (by decide) (by decide)) (fun i hi => (sh4 (14 + i) (by omega)).trans (hf (14 + i) (by omega) (by omega))) (by decide) (by decide) rfl ?_
  skip
  refine a_putR 48 dX10_init_45 fX10_26 (Or.inr ⟨rfl, rfl, rfl⟩) hm8 rfl rfl ?_
  refine a_aload_n 49 dX10_init_48 rfl rfl ?_
  refine a_bipush (z := 6) 51 dX10_init_49 rfl (zrl rfl) rfl ?_
  refine a_newa .int (20) 53 dX10_init_51 rfl ac_int (by decide) ⟨rfl, rfl⟩ (by decide) (by decide) ((gma_sh (g := (gR (gN (gR (gN (gR (gN (gR (gN g 9 (Sum.inr (.int, 20))) 8 0 (some 9)) 10 (Sum.inr (.int, 20))) 8 1 (some 10)) 11 (Sum.inr (.int, 20))) 8 2 (some 11)) 12 (Sum.inr (.int, 20))) 8 3 (some 12))) 6).2 20 (by decide) (by decide) |>.trans (hf 20 (by decide) (by decide))) (by decide) (by decide) (by decide) rfl ?_
  skip
  refine a_putR 56 dX10_init_53 fX10_29 (Or.inr ⟨rfl, rfl, rfl⟩) hm8 rfl rfl ?_
  refine a_aload_n 57 dX10_init_56 rfl rfl ?_
  refine a_bipush (z := 6) 59 dX10_init_57 rfl (zrl rfl) rfl ?_
  refine a_newa .int (21) 61 dX10_init_59 rfl ac_int (by decide) ⟨rfl, rfl⟩ (by decide) (by decide) ((gma_sh (g := (gR (gN (gR (gN (gR (gN (gR (gN g 9 (Sum.inr (.int, 20))) 8 0 (some 9)) 10 (Sum.inr (.int, 20))) 8 1 (some 10)) 11 (Sum.inr (.int, 20))) 8 2 (some 11)) 12 (Sum.inr (.int, 20))) 8 3 (some 12))) 6).2 21 (by decide) (by decide) |>.trans (hf 21 (by decide) (by decide))) (by decide) (by decide) (by decide) rfl ?_
  skip
  refine a_putR 64 dX10_init_61 fX10_32 (Or.inr ⟨rfl, rfl, rfl⟩) hm8 rfl rfl ?_
  refine a_aload_n 65 dX10_init_64 rfl rfl ?_
  refine a_iconst (z := 0) 66 dX10_init_65 rfl (zrl rfl) rfl ?_
  refine a_putI 69 dX10_init_66 fX10_35 (Or.inl rfl) hm8 (Or.inl rfl) rfl ?_
  refine a_iconst (z := 0) 70 dX10_init_69 rfl (zrl rfl) rfl ?_
  refine a_istore_n 71 dX10_init_70 (by decide) rfl rfl ?_
  refine AW.loop (α := Nat) (fun p => 6 - p) (fun p => p ≤ 6) (fun p => wyN g p) (fun p => [vA 8, vI (p : Int)]) (fun p => []) ?_ 0 ?_
  · rintro r hr6 ih71
    try dsimp only at hI ih ⊢
    try dsimp only at hr6 ih71 ⊢
    have hk : (wyN g r).1 8 = some (Sum.inl 10) ∧ ((wyN g r).2.2.2 8 4 = some 13 ∧ (wyN g r).1 13 = some (Sum.inr (.array .int, 6))) ∧ ∀ j, j < 6 → (wyN g r).1 (14 + j) = some (Sum.inr (.int, 6)) ∧ (wyN g r).2.2.2 13 j = some (14 + j) := by rw [(wyN_k (g := g) r).1, (wyN_k (g := g) r).2]; exact hK
    refine a_iload_n 72 dX10_init_71 rfl rfl ?_
    refine a_bipush (z := 6) 74 dX10_init_72 rfl (zrl rfl) rfl ?_
    refine a_icmp_ge 94 77 dX10_init_74 (by decide) rfl (fun c74 => ?_) (fun c74 => ?_)
    · skip
      refine a_return dX10_init_94 rfl ⟨by decide, by decide⟩ ?_
      have e : r = 6 := by omega
      subst e
      rfl
    · skip
      have hr : r < 6 := by omega
      refine a_aload_n 78 dX10_init_77 rfl rfl ?_
      refine a_getR 81 dX10_init_78 fX10_26 hk.1 rfl hk.2.1.1 rfl ?_
      refine a_iload_n 82 dX10_init_81 rfl rfl ?_
      refine a_aald 83 dX10_init_82 hk.2.1.2 rfl (by omega) (by omega) (hk.2.2 r hr).2 rfl ?_
      refine a_bipush (z := (-9)) 85 dX10_init_83 rfl (zrl rfl) rfl ?_
      refine a_callS 88 (j_fill _ _ (a := 14 + r) (n := 6) (hk.2.2 r hr).1 (by decide)) cdJ7_fill_53178 lX10_39 dX10_init_85 rfl rfl ⟨by decide, by decide, rfl, rfl⟩ ⟨by decide, by decide⟩ (Nat.le_of_ble_eq_true rfl) rfl ?_
      rintro _ _ - rfl -
      refine a_iinc 91 dX10_init_88 rfl (by unfold zr; omega) (by decide) rfl rfl ?_
      refine a_goto 71 dX10_init_91 (by decide) ?_
      exact ih71 (r + 1) (by omega) (by omega)
  · omega
