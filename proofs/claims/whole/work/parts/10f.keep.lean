theorem HK.MV {h h' : Nat → Nat → Int} (q : HK h h') (hV : MV h) : MV h' := by
  have e1 : ∀ k, k = 3 ∨ k = 7 ∨ k = 13 ∨ k = 15 ∨ k = 29 ∨ k = 35 → h' 1000 k = h 1000 k := fun k hk => q.cnt hk
  have e2 : ∀ a k, a = 1002 ∨ (1004 ≤ a ∧ a ≤ 1020) ∨ a = 1028 → h' a k = h a k := fun a k hk => by rw [q.row hk]
  have e3 : ∀ k, k < 120 → h' 1037 k = h 1037 k := fun k hk => q 1037 k (by decide) (by unfold scr; omega)
  obtain ⟨h1, h2, h3, h4, h5, h6, h7, h8, h9⟩ := hV
  have k3 := e1 3 (by omega); have k7 := e1 7 (by omega); have k13 := e1 13 (by omega); have k15 := e1 15 (by omega); have k29 := e1 29 (by omega); have k35 := e1 35 (by omega)
  refine ⟨?_, ?_, ?_, ?_, ?_, ?_, ?_, ?_, ?_⟩
  · unfold MVc at h1 ⊢; rw [k3, k7, k13, k15, k29, k35]; exact h1
  · intro i hi; rw [k3] at hi; rw [e2 1004 i (by omega), e2 1005 i (by omega), e2 1006 i (by omega)]; exact h2 i hi
  · intro i hi; rw [k7] at hi; rw [e2 1008 i (by omega), e2 1009 i (by omega), e2 1010 i (by omega), e2 1011 i (by omega), e2 1012 i (by omega), k3]; exact h3 i hi
  · intro m h0 hm; rw [k13] at hm; simp only [e2 1014 _ (by omega : (1014 = 1002 ∨ (1004 ≤ 1014 ∧ 1014 ≤ 1020) ∨ 1014 = 1028)), k7]; exact h4 m h0 hm
  · intro i hi; rw [k15] at hi; rw [e2 1016 i (by omega), e2 1017 i (by omega), e2 1018 i (by omega), e2 1019 i (by omega)]; exact h5 i hi
  · intro k hk; rw [e2 1020 k (by omega)]; exact h6 k hk
  · intro k hk; rw [e2 1002 k (by omega)]; exact h7 k hk
  · intro k hk; rw [k29] at hk; rw [e2 1028 k (by omega)]; exact h8 k hk
  · intro i hi; rw [k35] at hi
    have hi2 := h9 i hi
    have hb : i < 12 := by have := h1.2.2.2.2.2.2; omega
    unfold rulB at hi2 ⊢
    rw [e3 (10 * i) (by omega), e3 (10 * i + 1) (by omega), e3 (10 * i + 2) (by omega), e3 (10 * i + 3) (by omega), e3 (10 * i + 4) (by omega), e3 (10 * i + 5) (by omega), e3 (10 * i + 6) (by omega), e3 (10 * i + 7) (by omega), e3 (10 * i + 8) (by omega), e3 (10 * i + 9) (by omega)]
    exact hi2
/-- cells of marks, covers, offices, dies are as they were: all below 1000 but the scratch of ways, going, text, books -/
def kpC (a : Nat) : Prop := a = 5 ∨ a = 6 ∨ (100 ≤ a ∧ a < 1000)
theorem CMk.keep {g g' : GH} (hC : CMk g) (h0 : g'.1 = g.1) (hh : HK g.2.1 g'.2.1) (hi : ∀ a k, kpC a → g'.2.1 a k = g.2.1 a k) (hl : ∀ a, kpC a → g'.2.2.1 a = g.2.2.1 a) (hr : ∀ a k, kpC a → g'.2.2.2 a k = g.2.2.2 a k) (hn : g.2.1 1000 13 ≤ 40) : CMk g' := by
  obtain ⟨c1, c2, c3, c4, c5⟩ := hC
  have e13 := hh.cnt (k := 13) (by omega)
  refine ⟨by rw [h0]; exact c1, by rw [hr 5 0 (Or.inl rfl)]; exact c2, by rw [h0]; exact c3, by rw [hi 5 1 (Or.inl rfl), e13]; exact c4, fun m hm => ?_⟩
  rw [e13] at hm
  have hm40 : m < 40 := by omega
  obtain ⟨r0, s, v, dd, t, rr, cc⟩ := c5 m hm
  have k1 : ∀ k, g'.2.1 (100 + m) k = g.2.1 (100 + m) k := fun k => hi _ k (Or.inr (Or.inr (by omega)))
  have k4 : ∀ k, g'.2.1 (400 + m) k = g.2.1 (400 + m) k := fun k => hi _ k (Or.inr (Or.inr (by omega)))
  have e14 : g'.2.1 1014 = g.2.1 1014 := hh.row (by omega)
  refine ⟨by rw [hr 6 m (Or.inr (Or.inl rfl))]; exact r0, ?_, ?_, ?_, ?_, ?_, ?_⟩
  · unfold MKs at s ⊢
    rw [h0, hr (100 + m) 3 (Or.inr (Or.inr (by omega))), hr (200 + m) 0 (Or.inr (Or.inr (by omega))), hr (100 + m) 4 (Or.inr (Or.inr (by omega)))]; exact s
  · unfold MKv at v ⊢; simp only [k1, e14]; exact v
  · intro d hd; rw [hl (300 + m) (Or.inr (Or.inr (by omega))), hh.canB]; exact dd d hd
  · unfold MKt at t ⊢; simp only [k1, e14]; exact t
  · unfold MKr at rr ⊢; rw [hr (100 + m) 8 (Or.inr (Or.inr (by omega))), e14, k1, hh.twn]; exact rr
  · unfold MKc at cc ⊢; rw [k1, hh.canB]; simp only [k4]; exact cc
