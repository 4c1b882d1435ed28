theorem php : ∀ (n : Nat) (f : Nat → Nat), (∀ i, i ≤ n → f i < n) → ∃ i j, i < j ∧ j ≤ n ∧ f i = f j
  | 0, f, h => absurd (h 0 (Nat.le_refl _)) (Nat.not_lt_zero _)
  | n + 1, f, h => by
    by_cases q : ∃ i, i ≤ n ∧ f i = f (n + 1)
    · obtain ⟨i, h1, h2⟩ := q
      exact ⟨i, n + 1, by omega, Nat.le_refl _, h2⟩
    · have hne : ∀ i, i ≤ n → f i ≠ f (n + 1) := fun i hi z => q ⟨i, hi, z⟩
      have hl := h (n + 1) (Nat.le_refl _)
      obtain ⟨i, j, h1, h2, h3⟩ := php n (fun i => if f (n + 1) < f i then f i - 1 else f i) (fun i hi => by
        have a1 := hne i hi
        have a2 := h i (by omega)
        try dsimp only
        split <;> omega)
      have b1 := hne i (by omega)
      have b2 := hne j h2
      try dsimp only at h3
      refine ⟨i, j, h1, by omega, ?_⟩
      split at h3 <;> split at h3 <;> omega
/-- from one place to a later one of the same path -/
theorem pth_seq {h : Nat → Nat → Int} {n a b : Nat} {t t' : Int} (q : pth h n a t b t') : ∃ (C : Nat → Nat) (U : Nat → Int), C 0 = a ∧ U 0 = t ∧ C n = b ∧ U n = t' ∧ ∀ i, i < n → stp h (C i) (U i) (C (i + 1)) (U (i + 1)) := by
  induction n generalizing b t' with
  | zero => exact ⟨fun _ => a, fun _ => t, rfl, rfl, q.1, q.2, fun i hi => absurd hi (Nat.not_lt_zero _)⟩
  | succ n ih =>
    obtain ⟨c, u, q1, q2⟩ := q
    obtain ⟨C, U, e1, e2, e3, e4, e5⟩ := ih q1
    refine ⟨fun i => if i = n + 1 then b else C i, fun i => if i = n + 1 then t' else U i, ?_, ?_, ?_, ?_, fun i hi => ?_⟩
    · dsimp only; rw [if_neg (by omega)]; exact e1
    · dsimp only; rw [if_neg (by omega)]; exact e2
    · exact if_pos rfl
    · exact if_pos rfl
    · dsimp only
      rw [if_neg (by omega), if_neg (by omega)]
      by_cases e : i = n
      · rw [if_pos (by omega), if_pos (by omega), e, e3, e4]; exact q2
      · rw [if_neg (by omega), if_neg (by omega)]; exact e5 i (by omega)
theorem seq_pth {h : Nat → Nat → Int} {C : Nat → Nat} {U : Nat → Int} {n : Nat} (hs : ∀ i, i < n → stp h (C i) (U i) (C (i + 1)) (U (i + 1))) (i : Nat) : ∀ k, i + k ≤ n → pth h k (C i) (U i) (C (i + k)) (U (i + k))
  | 0, _ => ⟨rfl, rfl⟩
  | k + 1, hk => ⟨C (i + k), U (i + k), seq_pth hs i k (by omega), hs (i + k) (by omega)⟩
/-- a long path has a shorter one beside it that is no later -/
theorem pth_short1 {h : Nat → Nat → Int} (hs : MVs h) (hr : MVr h) {n a b : Nat} {t t' : Int} (ha : a < 6) (hn : 6 ≤ n) (q : pth h n a t b t') : ∃ m t'', m < n ∧ pth h m a t b t'' ∧ t'' ≤ t' := by
  obtain ⟨C, U, e1, e2, e3, e4, e5⟩ := pth_seq q
  have hC : ∀ i, i ≤ 6 → C i < 6 := fun i hi => by
    by_cases z : i = 0
    · rw [z, e1]; exact ha
    · have := (e5 (i - 1) (by omega)).2.1
      rw [show i - 1 + 1 = i by omega] at this; exact this
  obtain ⟨i, j, h1, h2, h3⟩ := php 6 C hC
  have p1 := seq_pth e5 0 i (by omega)
  rw [Nat.zero_add, e1, e2] at p1
  have p2 := seq_pth e5 i (j - i) (by omega)
  rw [show i + (j - i) = j by omega] at p2
  have p3 := seq_pth e5 j (n - j) (by omega)
  rw [show j + (n - j) = n by omega, e3, e4, ← h3] at p3
  obtain ⟨t'', p4, p5⟩ := pth_mono p3 (pth_le hs hr p2)
  exact ⟨i + (n - j), t'', by omega, pth_app p1 p4, p5⟩
theorem pth_short {h : Nat → Nat → Int} (hs : MVs h) (hr : MVr h) : ∀ (n : Nat) {a b : Nat} {t t' : Int}, a < 6 → pth h n a t b t' → ∃ m t'', m ≤ 5 ∧ pth h m a t b t'' ∧ t'' ≤ t' := by
  intro n
  induction n using Nat.strongRecOn with
  | _ n ih =>
    intro a b t t' ha q
    by_cases hn : n ≤ 5
    · exact ⟨n, t', hn, q, Int.le_refl _⟩
    · obtain ⟨m, t'', h1, h2, h3⟩ := pth_short1 hs hr ha (by omega) q
      obtain ⟨k, u, h4, h5, h6⟩ := ih m h1 ha h2
      exact ⟨k, u, h4, h5, by omega⟩
/-- what stands in the row while it spreads -/
def spB (h : Nat → Nat → Int) (a : Nat) (d : Int) (S : Nat → Int) : Prop := (∀ k, k < 6 → 0 ≤ S k ∧ S k ≤ 1000) ∧ (∀ k, k < 6 → S k = 1000 ∨ ∃ n, pth h n a d k (S k)) ∧ S a ≤ d
/-- all ways of r steps are seen -/
def spR (h : Nat → Nat → Int) (a : Nat) (d : Int) (S : Nat → Int) (r : Nat) : Prop := ∀ n, n ≤ r → ∀ b t, pth h n a d b t → t ≤ 999 → S b ≤ t
theorem spB.end6 {h : Nat → Nat → Int} (hs : MVs h) (hr : MVr h) {a : Nat} {d : Int} {S : Nat → Int} (ha : a < 6) (q : spB h a d S) (w : spR h a d S 6) {b : Nat} (hb : b < 6) : isSoon h a d b (S b) := by
  refine ⟨(q.1 b hb).2, q.2.1 b hb, fun n t p ht => ?_⟩
  obtain ⟨m, t'', h1, h2, h3⟩ := pth_short hs hr n ha p
  have := w m (by omega) b t'' h2 (by omega)
  omega
theorem spB.endC {h : Nat → Nat → Int} (hs : MVs h) (hr : MVr h) {a : Nat} {d : Int} {S : Nat → Int} (ha : a < 6) (q : spB h a d S) (w : ∀ u v t', stp h u (S u) v t' → t' ≤ 999 → S v ≤ t') {b : Nat} (hb : b < 6) : isSoon h a d b (S b) :=
  ⟨(q.1 b hb).2, q.2.1 b hb, fun n t p ht => closed_le hs hr ha q.2.2 w n b t p ht⟩
/-- one round more -/
theorem spR.next {h : Nat → Nat → Int} (hs : MVs h) (hr : MVr h) {a : Nat} {d : Int} {S S' : Nat → Int} {r : Nat} (ha : S' a ≤ d) (w : spR h a d S r) (hx : ∀ u v t', stp h u (S u) v t' → t' ≤ 999 → S' v ≤ t') : spR h a d S' (r + 1) := by
  intro n hn b t p ht
  match n, p with
  | 0, p => rw [← p.1, ← p.2]; exact ha
  | n + 1, ⟨c, u, q1, q2⟩ =>
    have h1 := stpT_le hs hr q2
    have h2 := w n (by omega) c u q1 (by omega)
    obtain ⟨s', h3, h4⟩ := stp_mono q2 h2
    have := hx c b s' h3 (by omega)
    omega
