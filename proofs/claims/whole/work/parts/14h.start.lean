/-! ===== just made, class and reference stand as one ===== -/
theorem h_mlo {g : GH} {a : Nat} (h : a < 1000) : (H_m g).1 a = g.1 a := by
  simp only [H_m, gR, gN, u1]; repeat rw [if_neg (by omega)]
theorem h_alo {g : GH} {a : Nat} (h : 56 ≤ a) : (H_a g).1 a = g.1 a := by
  simp only [H_a, gR, gN, u1]; repeat rw [if_neg (by omega)]
theorem h_blo {g : GH} {a : Nat} (h : 56 ≤ a) : (H_b g).1 a = g.1 a := by
  refine Eq.trans ?_ (h_alo h)
  simp only [H_b, gR, gN, gI, u1]; repeat rw [if_neg (by omega)]
theorem h_clo {g : GH} {a : Nat} (h : 56 ≤ a) : (H_c g).1 a = g.1 a := by
  refine Eq.trans ?_ (h_blo h)
  simp only [H_c, gR, gN, gL, u1]; repeat rw [if_neg (by omega)]
theorem h_dlo {g : GH} {a : Nat} (h : 56 ≤ a) : (H_d g).1 a = g.1 a := by
  show (wyN (gN (H_c g) 8 (Sum.inl 10)) 6).1 a = _
  rw [(wyN_k (g := gN (H_c g) 8 (Sum.inl 10)) 6).1]
  unfold wyB
  have e : ∀ X : GH, (gma X 6).1 a = X.1 a := fun X => (gma_sh (g := X) 6).2 a (by omega) (by omega)
  refine Eq.trans ?_ (h_clo h)
  show u1 (u1 (gma _ 6).1 20 _) 21 _ a = _
  rw [u1_n (by omega), u1_n (by omega), e]
  simp only [gR, gN, u1]; repeat rw [if_neg (by omega)]
theorem h_elo {g : GH} {a : Nat} (h : 56 ≤ a) : (H_e g).1 a = g.1 a := by
  refine Eq.trans ?_ (h_dlo h)
  simp only [H_e, gR, gN, gI, u1]; repeat rw [if_neg (by omega)]
theorem h_flo {g : GH} {a : Nat} (h : 56 ≤ a) : (H_f g).1 a = g.1 a := by
  refine Eq.trans ?_ (h_elo h)
  simp only [H_f, gR, gN, gI, u1]; repeat rw [if_neg (by omega)]
theorem h_glo {g : GH} {a : Nat} (h : 56 ≤ a) : (H_g g).1 a = g.1 a := by
  refine Eq.trans ?_ (h_flo h)
  exact ((bkN_sh (g := gN (H_f g) 28 (Sum.inl 7)) (b := 28) (show u1 (H_f g).1 28 _ 28 = _ from u1_s) 12).2.2.2 a (by omega)).trans (show u1 _ _ _ a = _ from u1_n (by omega))
theorem h_hlo {g : GH} {a : Nat} (h : 56 ≤ a) : (H_h g).1 a = g.1 a := by
  refine Eq.trans ?_ (h_glo h)
  exact ((bkN_sh (g := gN (H_g g) 42 (Sum.inl 7)) (b := 42) (show u1 (H_g g).1 42 _ 42 = _ from u1_s) 12).2.2.2 a (by omega)).trans (show u1 _ _ _ a = _ from u1_n (by omega))
theorem fr_0 {a : Nat} (h : 56 ≤ a) (h2 : a < 1000) : g03.1 a = none := by
  show (H_m g02).1 a = none
  rw [h_mlo h2]
  show u1 (H_h g01).1 1000 _ a = none
  rw [u1_n (by omega), h_hlo h]
  show u1 g00.1 1 _ a = none
  rw [u1_n (by omega)]; rfl
set_option maxRecDepth 100000 in
theorem mr_0 : MR g03 := by
  refine ⟨rfl, fun k n h => ?_⟩
  unfold mLen at h
  split at h <;> first | (cases h; exact ⟨rfl, rfl⟩) | cases h
set_option maxRecDepth 100000 in
theorem ints_0 : g03.2.1 1000 3 = 0 ∧ g03.2.1 1000 7 = 0 ∧ g03.2.1 1000 13 = 0 ∧ g03.2.1 1000 15 = 0 ∧ g03.2.1 1000 29 = 0 ∧ g03.2.1 1000 35 = 0 := ⟨rfl, rfl, rfl, rfl, rfl, rfl⟩
set_option maxRecDepth 100000 in
theorem land_0 : ∀ k, g03.2.1 1002 k = 0 ∧ g03.2.1 2 k = 0 := fun k => ⟨rfl, rfl⟩
theorem road_0 : ∀ k, k < 36 → g03.2.1 1020 k = -9 := fun k hk => gF_i hk
set_option maxRecDepth 100000 in
theorem roads_0 : ∀ a b, a < 6 → b < 6 → g03.2.1 (14 + a) b = -9 := by
  intro a b ha hb
  have h1 : a = 0 ∨ a = 1 ∨ a = 2 ∨ a = 3 ∨ a = 4 ∨ a = 5 := by omega
  have h2 : b = 0 ∨ b = 1 ∨ b = 2 ∨ b = 3 ∨ b = 4 ∨ b = 5 := by omega
  rcases h1 with rfl | rfl | rfl | rfl | rfl | rfl <;> rcases h2 with rfl | rfl | rfl | rfl | rfl | rfl <;> rfl
set_option maxRecDepth 100000 in
theorem co_0 : CO g03 := ⟨⟨rfl, rfl, rfl, rfl, rfl, rfl, rfl, rfl, rfl⟩, rfl, rfl, rfl, rfl⟩
set_option maxRecDepth 100000 in
theorem cws_0 : CWs g03 := by
  refine ⟨rfl, ⟨rfl, rfl, rfl, rfl, rfl, rfl, rfl⟩, ⟨rfl, rfl, rfl, rfl, rfl, rfl, rfl⟩, fun a ha => ?_⟩
  have h1 : a = 0 ∨ a = 1 ∨ a = 2 ∨ a = 3 ∨ a = 4 ∨ a = 5 := by omega
  rcases h1 with rfl | rfl | rfl | rfl | rfl | rfl <;> exact ⟨rfl, rfl⟩
set_option maxRecDepth 100000 in
theorem cgs_0 : CGs g03 := ⟨rfl, ⟨rfl, rfl, rfl, rfl⟩, rfl, rfl, rfl⟩
set_option maxRecDepth 100000 in
theorem txs_0 : TXs g03 ∧ g03.2.1 26 1 = 0 ∧ g03.2.2.1 7 0 = g03.2.2.1 1000 1 ∧ g03.2.1 1 10 = 0 ∧ g03.2.1 1 11 = 0 ∧ g03.2.1 8 7 = 0 ∧ g03.2.1 28 1 = 0 ∧ g03.2.1 5 1 = 0 := ⟨⟨rfl, rfl, rfl⟩, rfl, rfl, rfl, rfl, rfl, rfl, rfl⟩
set_option maxRecDepth 100000 in
theorem cmk_0 : g03.1 5 = some (Sum.inl 0) ∧ g03.2.2.2 5 0 = some 6 ∧ g03.1 6 = some (Sum.inr (.object RX5, 40)) := ⟨rfl, rfl, rfl⟩
set_option maxRecDepth 100000 in
theorem bk_0 : BK g03 28 29 (fun i => 28 + 2 + i) := by
  refine ⟨rfl, rfl, rfl, fun i hi => ?_⟩
  have h1 : i = 0 ∨ i = 1 ∨ i = 2 ∨ i = 3 ∨ i = 4 ∨ i = 5 ∨ i = 6 ∨ i = 7 ∨ i = 8 ∨ i = 9 ∨ i = 10 ∨ i = 11 := by omega
  rcases h1 with rfl | rfl | rfl | rfl | rfl | rfl | rfl | rfl | rfl | rfl | rfl | rfl <;> exact ⟨rfl, rfl⟩
set_option maxRecDepth 100000 in
theorem bk_1 : BK g03 42 43 (fun i => 42 + 2 + i) := by
  refine ⟨rfl, rfl, rfl, fun i hi => ?_⟩
  have h1 : i = 0 ∨ i = 1 ∨ i = 2 ∨ i = 3 ∨ i = 4 ∨ i = 5 ∨ i = 6 ∨ i = 7 ∨ i = 8 ∨ i = 9 ∨ i = 10 ∨ i = 11 := by omega
  rcases h1 with rfl | rfl | rfl | rfl | rfl | rfl | rfl | rfl | rfl | rfl | rfl | rfl <;> exact ⟨rfl, rfl⟩
set_option maxRecDepth 100000 in
theorem bk_2 : g03.2.2.2 1 8 = some 28 ∧ g03.2.2.2 1 9 = some (70 - 28) := ⟨rfl, rfl⟩
theorem cpl_0 : CPL g03 := by
  obtain ⟨e3, e7, e13, e15, e29, e35⟩ := ints_0
  obtain ⟨t1, t2, t3, t4, t5, t6, t7, t8⟩ := txs_0
  refine ⟨⟨mr_0, ?_, ?_, ?_, ?_, ?_, ?_, ?_, ?_, ?_⟩, ⟨co_0, fun t _ => by rw [(land_0 t).1, (land_0 t).2]⟩, ⟨⟨by rw [t4, e3], fun i hi => ?_⟩, ⟨by rw [t5, e7], fun i hi => ?_⟩⟩, ⟨⟨cmk_0.1, cmk_0.2.1, cmk_0.2.2, by rw [t8, e13], fun m hm => ?_⟩, cws_0, ⟨by rw [t6, e15], fun s hs => ?_, fun a b ha hb => by rw [roads_0 a b ha hb, road_0 _ (by omega)]⟩, cgs_0⟩, ⟨⟨t1, ?_⟩, t3, ⟨fun i _ h => fr_0 (by omega) (by omega), fun i _ h => fr_0 (by omega) (by omega), fun m _ h => ⟨fr_0 (by omega) (by omega), fr_0 (by omega) (by omega), fr_0 (by omega) (by omega), fr_0 (by omega) (by omega), fr_0 (by omega) (by omega)⟩⟩⟩, 28, ⟨Or.inl rfl, bk_2, bk_0, bk_1⟩, ⟨by rw [t7, e35], fun i hi => ?_⟩⟩
  · unfold MVc; rw [e3, e7, e13, e15, e29, e35]; omega
  · intro i hi; rw [e3] at hi; omega
  · intro i hi; rw [e7] at hi; omega
  · intro m h0 hm; rw [e13] at hm; omega
  · intro i hi; rw [e15] at hi; omega
  · intro k hk; exact Or.inl (road_0 k hk)
  · intro k hk; rw [(land_0 k).1]; omega
  · intro k hk; rw [e29] at hk; omega
  · intro i hi; rw [e35] at hi; omega
  · rw [e3] at hi; omega
  · rw [e7] at hi; omega
  · rw [e13] at hm; omega
  · rw [e15] at hs; omega
  · rw [e29]
    refine ⟨by omega, t2, fun k a b => by omega, fun k hk => ?_⟩
    unfold tx; rw [e29, if_neg (by omega)]
  · rw [e35] at hi; omega
