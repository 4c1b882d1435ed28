/-- the chain holds n marks M, all with a die -/
def CHn (g : GH) (n : Nat) (M : Nat → Nat) : Prop := n ≤ 10 ∧ g.2.1 22 4 = n ∧ ∀ i, i < n → g.2.2.2 23 i = some (100 + M i) ∧ (M i : Int) < g.2.1 1000 13 ∧ g.2.1 1014 (10 * M i + 2) ≠ -9
def gX (x _ : Nat) : Prop := x = 20 ∨ x = 24
theorem gX_hk {g g' : GH} (h : sameB gX g g') : HK g.2.1 g'.2.1 := fun a k y _ => h.2.2 a k (by unfold gX; omega)
theorem gX_cm {g g' : GH} (h : sameB gX g g') (hC : CMk g) (hn : g.2.1 1000 13 ≤ 40) : CMk g' := hC.keep h.1 (gX_hk h) (fun a k q => h.2.2 a k (by unfold kpC at q; unfold gX; omega)) (fun a _ => by rw [h.lg]) (fun a k _ => by rw [h.2.1]) hn
theorem gX_cg {X : Nat → Nat → Prop} {g g' : GH} (h : sameB X g g') (q : CGs g) : CGs g' := by unfold CGs at q ⊢; rw [h.1, h.2.1]; exact q
theorem CHn.town {g : GH} {n i : Nat} {M : Nat → Nat} (q : CHn g n M) (hC : CMk g) (hi : i < n) : g.2.1 (100 + M i) 11 = twn g.2.1 (M i : Int) := (hC.k (q.2.2 i hi).2.1).2.2.2.2.1.2 (q.2.2 i hi).2.2
/-- days of a mark of the class, first from x on -/
theorem MKd.fd {g : GH} {m : Nat} (h : MKd g m) {x z : Int} (hx : 0 ≤ x) (q : isFd (dB (g.2.2.1 (300 + m))) x z) : z = fdV (canB g.2.1 m) x := by
  refine fdV_eq ?_
  rcases q with ⟨a1, a2, a3, a4⟩ | ⟨a1, a2⟩
  · exact Or.inl ⟨a1, a2, ((h z (by omega)).mp a3).2, fun d b1 b2 b3 => a4 d b1 b2 ((h d (by omega)).mpr ⟨by omega, b3⟩)⟩
  · exact Or.inr ⟨a1, fun d b1 b2 b3 => a2 d b1 b2 ((h d (by omega)).mpr ⟨b2, b3⟩)⟩
theorem gX13 {g g' : GH} (h : sameB gX g g') : g'.2.1 1000 13 = g.2.1 1000 13 := h.2.2 1000 13 (by unfold gX; omega)
theorem CWv.gX {g g' : GH} (h : sameB gX g g') (q : CWv g.2.1) : CWv g'.2.1 := by
  have e : ∀ a k, a ≠ 20 → a ≠ 24 → g'.2.1 a k = g.2.1 a k := fun a k h1 h2 => h.2.2 a k (by unfold Jvm.Pilot.@@N@@.gX; omega)
  refine ⟨by rw [e 8 7 (by decide) (by decide), e 1000 15 (by decide) (by decide)]; exact q.1, fun s hs => ?_, fun a b ha hb => by rw [e (14 + a) b (by omega) (by omega), e 1020 _ (by decide) (by decide)]; exact q.2.2 a b ha hb⟩
  rw [e 1000 15 (by decide) (by decide)] at hs
  rw [e 9 s (by decide) (by decide), e 10 s (by decide) (by decide), e 11 s (by decide) (by decide), e 12 s (by decide) (by decide), e 1016 s (by decide) (by decide), e 1017 s (by decide) (by decide), e 1018 s (by decide) (by decide), e 1019 s (by decide) (by decide)]
  exact q.2.1 s hs
