theorem pth_cons {h : Nat → Nat → Int} {n a c b : Nat} {x y t : Int} (q : stp h a x c y) (p : pth h n c y b t) : pth h (n + 1) a x b t := by
  have := pth_app (n := 1) (show pth h 1 a x c y from ⟨a, x, ⟨rfl, rfl⟩, q⟩) p
  rw [show n + 1 = 1 + n by omega]; exact this
theorem pth_front {h : Nat → Nat → Int} {n a b : Nat} {x t : Int} (p : pth h (n + 1) a x b t) : ∃ c y, stp h a x c y ∧ pth h n c y b t := by
  obtain ⟨C, U, e1, e2, e3, e4, e5⟩ := pth_seq p
  have s0 := e5 0 (by omega)
  rw [e1, e2] at s0
  have p1 := seq_pth e5 1 n (by omega)
  rw [show 1 + n = n + 1 by omega, e3, e4] at p1
  exact ⟨_, _, s0, p1⟩
/-- what stands in the row while it is drawn back from b on the day d -/
def bkB (h : Nat → Nat → Int) (b : Nat) (d : Int) (S : Nat → Int) : Prop := (∀ k, k < 6 → -1 ≤ S k ∧ S k ≤ 999) ∧ (∀ k, k < 6 → S k = -1 ∨ ∃ n t, pth h n k (S k) b t ∧ t ≤ d) ∧ d ≤ S b
def bkR (h : Nat → Nat → Int) (b : Nat) (d : Int) (S : Nat → Int) (r : Nat) : Prop := ∀ n, n ≤ r → ∀ k x t, k < 6 → 0 ≤ x → pth h n k x b t → t ≤ d → x ≤ S k
theorem bkR.next {h : Nat → Nat → Int} (hs : MVs h) (hr : MVr h) {b : Nat} {d : Int} {S S' : Nat → Int} {r : Nat} (hd : d ≤ S' b) (w : bkR h b d S r) (hx : ∀ u v x y, stp h u x v y → 0 ≤ x → y ≤ S v → x ≤ S' u) : bkR h b d S' (r + 1) := by
  intro n hn k x t hk h0 p ht
  match n, p with
  | 0, p => rw [p.1, p.2]; omega
  | n + 1, p =>
    obtain ⟨c, y, q1, q2⟩ := pth_front p
    have := stpT_le hs hr q1
    have := w n (by omega) c y t q1.2.1 (by omega) q2 ht
    exact hx k c x y q1 h0 this
theorem bkR.all {h : Nat → Nat → Int} (hs : MVs h) (hr : MVr h) {b : Nat} {d : Int} {S : Nat → Int} (w : bkR h b d S 6) {n k : Nat} {x t : Int} (hk : k < 6) (h0 : 0 ≤ x) (p : pth h n k x b t) (ht : t ≤ d) : x ≤ S k := by
  obtain ⟨m, t'', h1, h2, h3⟩ := pth_short hs hr n hk p
  exact w m (by omega) k x t'' hk h0 h2 (by omega)
theorem bk_closed {h : Nat → Nat → Int} (hs : MVs h) (hr : MVr h) {b : Nat} {d : Int} {S : Nat → Int} (hd : d ≤ S b) (w : ∀ u v x y, stp h u x v y → 0 ≤ x → y ≤ S v → x ≤ S u) : ∀ (n k : Nat) (x t : Int), 0 ≤ x → pth h n k x b t → t ≤ d → x ≤ S k
  | 0, k, x, t, _, p, ht => by rw [p.1, p.2]; omega
  | n + 1, k, x, t, h0, p, ht => by
    obtain ⟨c, y, q1, q2⟩ := pth_front p
    have := stpT_le hs hr q1
    exact w k c x y q1 h0 (bk_closed hs hr hd w n c y t (by omega) q2 ht)
/-- z is the last day in k from which one comes to b by the day d; -1: none -/
def isLt (h : Nat → Nat → Int) (b : Nat) (d : Int) (k : Nat) (z : Int) : Prop := (-1 ≤ z ∧ z ≤ 999) ∧ (z = -1 ∨ ∃ n t, pth h n k z b t ∧ t ≤ d) ∧ ∀ n x t, 0 ≤ x → pth h n k x b t → t ≤ d → x ≤ z
theorem isLt.soon {h : Nat → Nat → Int} (hV : MV h) {b k : Nat} {d z x : Int} (q : isLt h b d k z) (hx : 0 ≤ x) (hd : d ≤ 999) : soonV h k x b ≤ d ↔ x ≤ z := by
  have hso := soonV_is hV (a := k) (b := b) (d := x) hx
  obtain ⟨q0, q1, q2⟩ := q
  constructor
  · intro y
    rcases hso.2.1 with w | ⟨n, w⟩
    · omega
    · exact q2 n x _ hx w y
  · intro y
    rcases q1 with w | ⟨n, t, w1, w2⟩
    · omega
    · obtain ⟨s', w3, w4⟩ := pth_mono w1 y
      have := hso.2.2 n s' w3 (by omega)
      omega
theorem bkB.upd {h : Nat → Nat → Int} {b v : Nat} {d z : Int} {S S' : Nat → Int} (q : bkB h b d S) (hv : v < 6) (hp : ∃ n t, pth h n v z b t ∧ t ≤ d) (h9 : z ≤ 999) (hz : S v < z) (e1 : S' v = z) (e2 : ∀ k, k ≠ v → S' k = S k) : bkB h b d S' := by
  obtain ⟨q1, q2, q3⟩ := q
  refine ⟨fun k hk => ?_, fun k hk => ?_, ?_⟩
  · by_cases e : k = v
    · subst e; rw [e1]; have := q1 k hk; omega
    · rw [e2 k e]; exact q1 k hk
  · by_cases e : k = v
    · subst e; rw [e1]; exact Or.inr hp
    · rw [e2 k e]; exact q2 k hk
  · by_cases e : b = v
    · subst e; rw [e1]; omega
    · rw [e2 b e]; exact q3
