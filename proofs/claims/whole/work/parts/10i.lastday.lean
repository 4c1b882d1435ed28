def lX2 (x _ : Nat) : Prop := x = 21
theorem lX2_hk {g g' : GH} (h : sameB lX2 g g') : HK g.2.1 g'.2.1 := fun a k y _ => h.2.2 a k (by unfold lX2; omega)
theorem lX2_cm {g g' : GH} (h : sameB lX2 g g') (hC : CMk g) (hn : g.2.1 1000 13 ≤ 40) : CMk g' := hC.keep h.1 (lX2_hk h) (fun a k q => h.2.2 a k (by unfold kpC at q; unfold lX2; omega)) (fun a _ => by rw [h.lg]) (fun a k _ => by rw [h.2.1]) hn
theorem lX213 {g g' : GH} (h : sameB lX2 g g') : g'.2.1 1000 13 = g.2.1 1000 13 := h.2.2 1000 13 (by unfold lX2; omega)
theorem CWv.lX2 {g g' : GH} (h : sameB lX2 g g') (q : CWv g.2.1) : CWv g'.2.1 := by
  have e : ∀ a k, a ≠ 21 → g'.2.1 a k = g.2.1 a k := fun a k h1 => h.2.2 a k (by unfold Jvm.Pilot.@@N@@.lX2; omega)
  refine ⟨by rw [e 8 7 (by decide), e 1000 15 (by decide)]; exact q.1, fun s hs => ?_, fun a b ha hb => by rw [e (14 + a) b (by omega), e 1020 _ (by decide)]; exact q.2.2 a b ha hb⟩
  rw [e 1000 15 (by decide)] at hs
  rw [e 9 s (by decide), e 10 s (by decide), e 11 s (by decide), e 12 s (by decide), e 1016 s (by decide), e 1017 s (by decide), e 1018 s (by decide), e 1019 s (by decide)]
  exact q.2.1 s hs
/-- till says what the next mark lets be of mark k -/
def tlB (h : Nat → Nat → Int) (w : Nat → Int) (n k : Nat) (till : Int) : Prop := till ≤ 999 ∧ ∀ x : Int, 0 ≤ x → x ≤ 999 → (okD h w n k x ↔ canB h (w k) x ∧ x ≤ till)
theorem tlB.ld {h : Nat → Nat → Int} {w : Nat → Int} {n k : Nat} {till z : Int} (hk : k < n) (q : tlB h w n k till) (hz : 0 ≤ z ∧ z ≤ till) (hc : canB h (w k) z) (hn : ∀ y, z < y → y ≤ till → ¬ canB h (w k) y) : z = lastJ h w n (n - 1 - k) := by
  rw [lastJ_eq hk]
  have := q.1
  refine ldV_eq ⟨by omega, (q.2 z (by omega) (by omega)).mpr ⟨hc, hz.2⟩, fun d h1 h2 h3 => ?_⟩
  have := (q.2 d (by omega) h2).mp h3
  exact hn d h1 this.2 this.1
