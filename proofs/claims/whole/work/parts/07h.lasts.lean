theorem soonV_is {h : Nat → Nat → Int} (hV : MV h) {a b : Nat} {d : Int} (hd : 0 ≤ d) : isSoon h a d b (soonV h a d b) := by
  have hex : ∃ z, isSoon h a d b z := by
    by_cases q : ∃ t : Nat, ∃ n, pth h n a d b (t : Int) ∧ (t : Int) ≤ 999
    · obtain ⟨k, ⟨n, hk, h9⟩, hl⟩ := pk_least _ q
      refine ⟨k, by omega, Or.inr ⟨n, hk⟩, fun m t hp ht => Classical.byContradiction fun z => ?_⟩
      have := pth_le hV.2.2.2.2.1 hV.2.2.2.2.2.1 hp
      exact hl t.toNat (by omega) ⟨m, by rw [Int.toNat_of_nonneg (by omega)]; exact hp, by omega⟩
    · refine ⟨1000, Int.le_refl _, Or.inl rfl, fun m t hp ht => absurd ⟨t.toNat, m, ?_, ?_⟩ q⟩
      · have := pth_le hV.2.2.2.2.1 hV.2.2.2.2.2.1 hp
        rw [Int.toNat_of_nonneg (by omega)]; exact hp
      · omega
  obtain ⟨z, hz⟩ := hex
  rw [← soonV_eq hz]; exact hz
theorem isFd_ex {P : Int → Prop} : ∀ (n : Nat) (x : Int), x + n = 1000 → ∃ z, isFd P x z
  | 0, x, hx => ⟨1000, Or.inr ⟨rfl, fun d h1 h2 => by omega⟩⟩
  | n + 1, x, hx => by
    by_cases q : P x
    · exact ⟨x, Or.inl ⟨Int.le_refl _, by omega, q, fun d h1 h2 => by omega⟩⟩
    · obtain ⟨z, hz⟩ := isFd_ex (P := P) n (x + 1) (by omega)
      refine ⟨z, ?_⟩
      rcases hz with ⟨a1, a2, a3, a4⟩ | ⟨a1, a2⟩
      · refine Or.inl ⟨by omega, a2, a3, fun d h1 h2 => ?_⟩
        by_cases e : d = x
        · rw [e]; exact q
        · exact a4 d (by omega) h2
      · refine Or.inr ⟨a1, fun d h1 h2 => ?_⟩
        by_cases e : d = x
        · rw [e]; exact q
        · exact a2 d (by omega) h2
theorem fdV_is {P : Int → Prop} {x : Int} (hx : x ≤ 1000) : isFd P x (fdV P x) := by
  obtain ⟨z, hz⟩ := isFd_ex (P := P) (1000 - x).toNat x (by omega)
  rw [← fdV_eq hz]; exact hz
/-- the last day -/
def isLd (P : Int → Prop) (z : Int) : Prop := (0 ≤ z ∧ z ≤ 999) ∧ P z ∧ ∀ d, z < d → d ≤ 999 → ¬ P d
theorem isLd.uniq {P : Int → Prop} {z w : Int} (h1 : isLd P z) (h2 : isLd P w) : z = w := by
  rcases Int.lt_trichotomy z w with h | h | h
  · exact absurd h2.2.1 (h1.2.2 w h h2.1.2)
  · exact h
  · exact absurd h1.2.1 (h2.2.2 z h h1.1.2)
noncomputable def ldV (P : Int → Prop) : Int := @Classical.epsilon Int ⟨0⟩ (isLd P)
theorem ldV_eq {P : Int → Prop} {z : Int} (hz : isLd P z) : z = ldV P := hz.uniq (@Classical.epsilon_spec_aux Int ⟨0⟩ (isLd P) ⟨z, hz⟩)
noncomputable def lastJ (h : Nat → Nat → Int) (w : Nat → Int) (n : Nat) : Nat → Int
  | 0 => ldV (canB h (w (n - 1)))
  | j + 1 => ldV (fun x => canB h (w (n - 2 - j)) x ∧ soonV h (twn h (w (n - 2 - j))).toNat x (twn h (w (n - 1 - j))).toNat ≤ lastJ h w n j)
def okD (h : Nat → Nat → Int) (w : Nat → Int) (n k : Nat) (x : Int) : Prop := canB h (w k) x ∧ (k + 1 = n ∨ soonV h (twn h (w k)).toNat x (twn h (w (k + 1))).toNat ≤ lastJ h w n (n - 1 - (k + 1)))
theorem lastJ_eq {h : Nat → Nat → Int} {w : Nat → Int} {n k : Nat} (hk : k < n) : lastJ h w n (n - 1 - k) = ldV (okD h w n k) := by
  by_cases e : k + 1 = n
  · rw [show n - 1 - k = 0 by omega]
    show ldV _ = _
    rw [show n - 1 = k by omega]
    congr 1; funext x; unfold okD; exact propext ⟨fun z => ⟨z, Or.inl e⟩, fun z => z.1⟩
  · rw [show n - 1 - k = (n - 1 - (k + 1)) + 1 by omega]
    show ldV _ = _
    rw [show n - 2 - (n - 1 - (k + 1)) = k by omega, show n - 1 - (n - 1 - (k + 1)) = k + 1 by omega]
    congr 1; funext x; unfold okD; exact propext ⟨fun z => ⟨z.1, Or.inr z.2⟩, fun z => ⟨z.1, z.2.resolve_left e⟩⟩
theorem HK.lastJ {h h' : Nat → Nat → Int} (q : HK h h') : lastJ h' = lastJ h := by
  funext w n j
  induction j with
  | zero => unfold Jvm.Pilot.@@N@@.lastJ; rw [q.canB]
  | succ j ih => unfold Jvm.Pilot.@@N@@.lastJ; rw [q.canB, q.soonV, q.twn, ih]
/-- a going: its first days -/
noncomputable def fsV (h : Nat → Nat → Int) (w : Nat → Int) (k : Nat) : Int := (gst h w 0 (k + 1)).2.1
theorem going_at {h : Nat → Nat → Int} {w : Nat → Int} {n : Nat} (hg : (gst h w 0 n).2.2 = -9) : ∀ k, k < n → (gst h w 0 k).2.2 = -9 ∧ gst h w 0 (k + 1) = (twn h (w k), fdV (canB h (w k)) (if (gst h w 0 k).1 = -9 then 0 else soonV h (gst h w 0 k).1.toNat (gst h w 0 k).2.1 (twn h (w k)).toNat), -9) ∧ fdV (canB h (w k)) (if (gst h w 0 k).1 = -9 then 0 else soonV h (gst h w 0 k).1.toNat (gst h w 0 k).2.1 (twn h (w k)).toNat) ≤ 999 := by
  intro k hk
  have h0 : (gst h w 0 k).2.2 = -9 := Classical.byContradiction fun z => by
    have := gst_end (n := n) z (by omega)
    rw [this] at hg; exact z hg
  have hz : (0 : Int) / 2 ^ k % 2 = 0 := by simp
  have h1 : ¬ 999 < fdV (canB h (w k)) (if (gst h w 0 k).1 = -9 then 0 else soonV h (gst h w 0 k).1.toNat (gst h w 0 k).2.1 (twn h (w k)).toNat) := fun z => by
    have e := gst_bar h0 hz z
    have := gst_end (h := h) (w := w) (L := 0) (i := k + 1) (n := n) (by rw [e]; dsimp only; omega) (by omega)
    rw [this, e] at hg; dsimp only at hg; omega
  exact ⟨h0, gst_go h0 hz (by omega), by omega⟩
theorem going_ok {h : Nat → Nat → Int} {w : Nat → Int} {n : Nat} (hV : MV h) (ht : ∀ k, k < n → 0 ≤ twn h (w k) ∧ twn h (w k) ≤ 5) (hg : (gst h w 0 n).2.2 = -9) : ∀ k, k < n → (0 ≤ fsV h w k ∧ fsV h w k ≤ 999) ∧ canB h (w k) (fsV h w k) ∧ (k + 1 < n → soonV h (twn h (w k)).toNat (fsV h w k) (twn h (w (k + 1))).toNat ≤ fsV h w (k + 1)) := by
  have hs : ∀ (a b : Nat) (d : Int), a < 6 → b < 6 → 0 ≤ d → d ≤ 999 → isSoon h a d b (soonV h a d b) := fun a b d _ _ hd _ => soonV_is hV hd
  have hs0 : ∀ (a b : Nat) (d : Int), a < 6 → b < 6 → 0 ≤ d → d ≤ 999 → 0 ≤ soonV h a d b := fun a b d _ _ hd _ => (soon_b hV hd (soonV_is hV hd)).1
  have key : ∀ k, k < n → (0 ≤ fsV h w k ∧ fsV h w k ≤ 999) ∧ canB h (w k) (fsV h w k) := by
    intro k
    induction k with
    | zero =>
      intro hk
      have h1 := going_at hg 0 hk
      have e : fsV h w 0 = fdV (canB h (w 0)) 0 := by
        unfold fsV; rw [h1.2.1]; show fdV _ (if (-9 : Int) = -9 then 0 else _) = _; rw [if_pos rfl]
      have h2 : fdV (canB h (w 0)) 0 ≤ 999 := by
        have := h1.2.2; rw [show (gst h w 0 0).1 = -9 from rfl, if_pos rfl] at this; exact this
      have h3 := fdV_is (P := canB h (w 0)) (x := 0) (by decide)
      rw [e]
      rcases h3 with ⟨a1, a2, a3, -⟩ | ⟨a1, -⟩
      · exact ⟨⟨a1, a2⟩, a3⟩
      · omega
    | succ k ih =>
      intro hk
      have ih := ih (by omega)
      have h0 := going_at hg k (by omega)
      have h1 := going_at hg (k + 1) hk
      have t1 := ht k (by omega)
      have t2 := ht (k + 1) hk
      have e : fsV h w (k + 1) = fdV (canB h (w (k + 1))) (soonV h (twn h (w k)).toNat (fsV h w k) (twn h (w (k + 1))).toNat) := by
        unfold fsV; rw [h1.2.1]; dsimp only; rw [h0.2.1]; dsimp only; rw [if_neg (by omega)]
      have h2 : fdV (canB h (w (k + 1))) (soonV h (twn h (w k)).toNat (fsV h w k) (twn h (w (k + 1))).toNat) ≤ 999 := by
        have := h1.2.2; rw [h0.2.1] at this; dsimp only at this; rw [if_neg (by omega)] at this
        have e2 : fsV h w k = fdV (canB h (w k)) (if (gst h w 0 k).1 = -9 then 0 else soonV h (gst h w 0 k).1.toNat (gst h w 0 k).2.1 (twn h (w k)).toNat) := by unfold fsV; rw [h0.2.1]
        rw [e2]; exact this
      have hsn := hs (twn h (w k)).toNat (twn h (w (k + 1))).toNat (fsV h w k) (by omega) (by omega) ih.1.1 ih.1.2
      have hsn0 := hs0 (twn h (w k)).toNat (twn h (w (k + 1))).toNat (fsV h w k) (by omega) (by omega) ih.1.1 ih.1.2
      have h3 := fdV_is (P := canB h (w (k + 1))) (x := soonV h (twn h (w k)).toNat (fsV h w k) (twn h (w (k + 1))).toNat) hsn.1
      rw [e]
      rcases h3 with ⟨a1, a2, a3, -⟩ | ⟨a1, -⟩
      · exact ⟨⟨by omega, a2⟩, a3⟩
      · omega
  intro k hk
  refine ⟨(key k hk).1, (key k hk).2, fun hk1 => ?_⟩
  have h0 := going_at hg k hk
  have h1 := going_at hg (k + 1) hk1
  have t1 := ht k hk
  have t2 := ht (k + 1) hk1
  have e : fsV h w (k + 1) = fdV (canB h (w (k + 1))) (soonV h (twn h (w k)).toNat (fsV h w k) (twn h (w (k + 1))).toNat) := by
    unfold fsV; rw [h1.2.1]; dsimp only; rw [h0.2.1]; dsimp only; rw [if_neg (by omega)]
  have ih := (key k hk).1
  have hsn := hs (twn h (w k)).toNat (twn h (w (k + 1))).toNat (fsV h w k) (by omega) (by omega) ih.1 ih.2
  have h3 := fdV_is (P := canB h (w (k + 1))) (x := soonV h (twn h (w k)).toNat (fsV h w k) (twn h (w (k + 1))).toNat) hsn.1
  have h4 := (key (k + 1) hk1).1
  rw [e] at h4 ⊢
  rcases h3 with ⟨a1, a2, a3, -⟩ | ⟨a1, -⟩
  · exact a1
  · omega
