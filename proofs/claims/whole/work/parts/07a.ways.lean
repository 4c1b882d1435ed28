/-! ===== ways: steps, paths, the soonest day ===== -/
def stp (h : Nat → Nat → Int) (a : Nat) (t : Int) (b : Nat) (t' : Int) : Prop := a < 6 ∧ b < 6 ∧ ((h 1020 (6 * a + b) ≠ -9 ∧ t' = t + h 1020 (6 * a + b)) ∨ ∃ s : Nat, (s : Int) < h 1000 15 ∧ h 1016 s = a ∧ h 1017 s = b ∧ h 1019 s ≠ -9 ∧ t ≤ h 1018 s ∧ t' = h 1019 s)
/-- n steps -/
def pth (h : Nat → Nat → Int) : Nat → Nat → Int → Nat → Int → Prop
  | 0, a, t, b, t' => a = b ∧ t = t'
  | n + 1, a, t, b, t' => ∃ (c : Nat) (u : Int), pth h n a t c u ∧ stp h c u b t'
/-- z is the soonest day in b, from a on the day d on; 1000: none -/
def isSoon (h : Nat → Nat → Int) (a : Nat) (d : Int) (b : Nat) (z : Int) : Prop := z ≤ 1000 ∧ (z = 1000 ∨ ∃ n, pth h n a d b z) ∧ ∀ n t, pth h n a d b t → t ≤ 999 → z ≤ t
theorem isSoon.uniq {h : Nat → Nat → Int} {a b : Nat} {d z w : Int} (h1 : isSoon h a d b z) (h2 : isSoon h a d b w) : z = w := by
  obtain ⟨a1, a2, a3⟩ := h1
  obtain ⟨b1, b2, b3⟩ := h2
  rcases a2 with a2 | ⟨n, a2⟩ <;> rcases b2 with b2 | ⟨m, b2⟩
  · omega
  · by_cases q : w ≤ 999
    · have := a3 m w b2 q; omega
    · omega
  · by_cases q : z ≤ 999
    · have := b3 n z a2 q; omega
    · omega
  · by_cases q : w ≤ 999
    · have := a3 m w b2 q
      have := b3 n z a2 (by omega)
      omega
    · by_cases q2 : z ≤ 999
      · have := b3 n z a2 q2; omega
      · omega
noncomputable def soonV (h : Nat → Nat → Int) (a : Nat) (d : Int) (b : Nat) : Int := @Classical.epsilon Int ⟨0⟩ (isSoon h a d b)
theorem soonV_eq {h : Nat → Nat → Int} {a b : Nat} {d z : Int} (hz : isSoon h a d b z) : z = soonV h a d b := hz.uniq (@Classical.epsilon_spec_aux Int ⟨0⟩ (isSoon h a d b) ⟨z, hz⟩)
theorem stpT_le {h : Nat → Nat → Int} (hs : MVs h) (hr : MVr h) {a b : Nat} {t t' : Int} (q : stp h a t b t') : t ≤ t' := by
  obtain ⟨ha, hb, ⟨q1, q2⟩ | ⟨s, q1, q2, q3, q4, q5, q6⟩⟩ := q
  · have := hr (6 * a + b) (by omega); omega
  · have := hs s q1; omega
theorem stp_mono {h : Nat → Nat → Int} {a b : Nat} {t t' s : Int} (q : stp h a t b t') (hst : s ≤ t) : ∃ s', stp h a s b s' ∧ s' ≤ t' := by
  obtain ⟨ha, hb, ⟨q1, q2⟩ | ⟨z, q1, q2, q3, q4, q5, q6⟩⟩ := q
  · exact ⟨s + h 1020 (6 * a + b), ⟨ha, hb, Or.inl ⟨q1, rfl⟩⟩, by omega⟩
  · exact ⟨t', ⟨ha, hb, Or.inr ⟨z, q1, q2, q3, q4, by omega, q6⟩⟩, Int.le_refl _⟩
theorem pth_le {h : Nat → Nat → Int} (hs : MVs h) (hr : MVr h) : ∀ {n a b : Nat} {t t' : Int}, pth h n a t b t' → t ≤ t'
  | 0, _, _, _, _, q => by rw [q.2]; exact Int.le_refl _
  | n + 1, _, _, _, _, ⟨c, u, q1, q2⟩ => Int.le_trans (pth_le hs hr q1) (stpT_le hs hr q2)
theorem pth_mono {h : Nat → Nat → Int} : ∀ {n a b : Nat} {t t' s : Int}, pth h n a t b t' → s ≤ t → ∃ s', pth h n a s b s' ∧ s' ≤ t'
  | 0, _, _, _, _, s, q, hst => ⟨s, ⟨q.1, rfl⟩, by rw [← q.2]; exact hst⟩
  | n + 1, _, _, _, _, s, ⟨c, u, q1, q2⟩, hst => by
    obtain ⟨u', h1, h2⟩ := pth_mono q1 hst
    obtain ⟨s', h3, h4⟩ := stp_mono q2 h2
    exact ⟨s', ⟨c, u', h1, h3⟩, h4⟩
theorem pth_app {h : Nat → Nat → Int} {n a b : Nat} {t t' : Int} (q : pth h n a t b t') : ∀ {m c : Nat} {t'' : Int}, pth h m b t' c t'' → pth h (n + m) a t c t''
  | 0, _, _, z => by obtain ⟨rfl, rfl⟩ := z; exact q
  | m + 1, _, _, ⟨d, u, z1, z2⟩ => ⟨d, u, pth_app q z1, z2⟩
/-- closed under steps: nothing comes sooner -/
theorem closed_le {h : Nat → Nat → Int} {S : Nat → Int} {a : Nat} {d : Int} (hs : MVs h) (hr : MVr h) (ha : a < 6) (h0 : S a ≤ d) (hc : ∀ u w t', stp h u (S u) w t' → t' ≤ 999 → S w ≤ t') : ∀ (n b : Nat) (t : Int), pth h n a d b t → t ≤ 999 → S b ≤ t
  | 0, b, t, q, _ => by rw [← q.1, ← q.2]; exact h0
  | n + 1, b, t, ⟨c, u, q1, q2⟩, ht => by
    have hu := stpT_le hs hr q2
    have h1 := closed_le hs hr ha h0 hc n c u q1 (by omega)
    obtain ⟨s', h2, h3⟩ := stp_mono q2 h1
    have := hc c b s' h2 (by omega)
    omega
/-! the reference's way: town by town -/
def dkB (h : Nat → Nat → Int) (f : Nat) (d : Int) (S Dn : Nat → Int) : Prop := (∀ k, k < 6 → 0 ≤ S k ∧ S k ≤ 1000) ∧ (∀ k, k < 6 → S k = 1000 ∨ ∃ n, pth h n f d k (S k)) ∧ S f ≤ d ∧ (∀ k, k < 6 → Dn k = 0 ∨ Dn k = 1)
/-- between two rounds -/
def dkI (h : Nat → Nat → Int) (f : Nat) (d : Int) (S Dn : Nat → Int) : Prop := dkB h f d S Dn ∧ (∀ u w t', u < 6 → Dn u = 1 → stp h u (S u) w t' → S w ≤ t') ∧ ∀ u w, u < 6 → w < 6 → Dn u = 1 → Dn w = 0 → S u ≤ S w
/-- while a is looked at -/
def dkA (h : Nat → Nat → Int) (f : Nat) (d : Int) (S Dn : Nat → Int) (a : Nat) : Prop := dkB h f d S Dn ∧ (∀ u w t', u < 6 → u ≠ a → Dn u = 1 → stp h u (S u) w t' → S w ≤ t') ∧ (∀ u w, u < 6 → w < 6 → Dn u = 1 → Dn w = 0 → S u ≤ S w) ∧ (a < 6 ∧ Dn a = 1) ∧ ∀ u, u < 6 → Dn u = 1 → S u ≤ S a
theorem dkA.start {h : Nat → Nat → Int} {f a : Nat} {d : Int} {S Dn : Nat → Int} (q : dkI h f d S Dn) (ha : a < 6) (h0 : Dn a = 0) (hm : ∀ k, k < 6 → Dn k = 0 → S a ≤ S k) : dkA h f d S (u1 Dn a 1) a := by
  obtain ⟨⟨q1, q2, q3, q4⟩, q5, q6⟩ := q
  have e : ∀ k, k ≠ a → u1 Dn a 1 k = Dn k := fun k hk => u1_n hk
  refine ⟨⟨q1, q2, q3, fun k hk => ?_⟩, fun u w t' hu hua hd => ?_, fun u w hu hw hd hn => ?_, ⟨ha, u1_s⟩, fun u hu hd => ?_⟩
  · by_cases z : k = a
    · rw [z, u1_s]; right; rfl
    · rw [e k z]; exact q4 k hk
  · rw [e u hua] at hd; exact q5 u w t' hu hd
  · by_cases z : w = a
    · rw [z, u1_s] at hn; omega
    · rw [e w z] at hn
      by_cases y : u = a
      · rw [y]; exact hm w hw hn
      · rw [e u y] at hd; exact q6 u w hu hw hd hn
  · by_cases y : u = a
    · rw [y]; exact Int.le_refl _
    · rw [e u y] at hd; exact q6 u a hu ha hd h0
theorem dkA.relax {h : Nat → Nat → Int} (hs : MVs h) (hr : MVr h) {f a w : Nat} {d c : Int} {S Dn : Nat → Int} (q : dkA h f d S Dn a) (hst : stp h a (S a) w c) (hc : c < S w) : dkA h f d (u1 S w c) Dn a ∧ u1 S w c a = S a ∧ ∀ k, u1 S w c k ≤ S k := by
  obtain ⟨⟨q1, q2, q3, q4⟩, q5, q6, ⟨ha, qa⟩, q7⟩ := q
  have hw : w < 6 := hst.2.1
  have hac := stpT_le hs hr hst
  have hwn : Dn w = 0 := by
    rcases q4 w hw with z | z
    · exact z
    · have := q7 w hw z; omega
  have hne : ∀ u, Dn u = 1 → u ≠ w := fun u hu z => by rw [z] at hu; omega
  have e : ∀ k, k ≠ w → u1 S w c k = S k := fun k hk => u1_n hk
  have hle : ∀ k, u1 S w c k ≤ S k := fun k => by
    by_cases z : k = w
    · rw [z, u1_s]; omega
    · rw [e k z]; exact Int.le_refl _
  have hea := e a (hne a qa)
  have hpa : S a = 1000 ∨ ∃ n, pth h n f d a (S a) := q2 a ha
  refine ⟨⟨⟨fun k hk => ?_, fun k hk => ?_, Int.le_trans (hle f) q3, q4⟩, fun u v t' hu hua hd hs' => ?_, fun u v hu hv hd hn => ?_, ⟨ha, qa⟩, fun u hu hd => ?_⟩, hea, hle⟩
  · by_cases z : k = w
    · rw [z, u1_s]; have := q1 w hw; have := q1 a ha; omega
    · rw [e k z]; exact q1 k hk
  · by_cases z : k = w
    · rw [z, u1_s]; right
      rcases hpa with y | ⟨n, y⟩
      · have := q1 w hw; omega
      · exact ⟨n + 1, a, S a, y, hst⟩
    · rw [e k z]; exact q2 k hk
  · rw [e u (hne u hd)] at hs'
    exact Int.le_trans (hle v) (q5 u v t' hu hua hd hs')
  · rw [e u (hne u hd)]
    by_cases z : v = w
    · rw [z, u1_s]; have := q7 u hu hd; omega
    · rw [e v z]; exact q6 u v hu hv hd hn
  · rw [hea, e u (hne u hd)]; exact q7 u hu hd
theorem dkA.done {h : Nat → Nat → Int} {f a : Nat} {d : Int} {S Dn : Nat → Int} (q : dkA h f d S Dn a) (hr : ∀ k, k < 6 → h 1020 (6 * a + k) ≠ -9 → S k ≤ S a + h 1020 (6 * a + k)) (hs : ∀ s : Nat, (s : Int) < h 1000 15 → h 1016 s = a → h 1019 s ≠ -9 → S a ≤ h 1018 s → S (h 1017 s).toNat ≤ h 1019 s) : dkI h f d S Dn := by
  obtain ⟨q1, q5, q6, q7, q8⟩ := q
  refine ⟨q1, fun u w t' hu hd hst => ?_, q6⟩
  by_cases z : u = a
  · subst z
    obtain ⟨z1, z2, ⟨z3, z4⟩ | ⟨s, z3, z4, z5, z6, z7, z8⟩⟩ := hst
    · rw [z4]; exact hr w z2 z3
    · have := hs s z3 z4 z6 z7
      rw [z5] at this
      rw [z8]; exact this
  · exact q5 u w t' hu z hd hst
theorem dkI.end {h : Nat → Nat → Int} (hs : MVs h) (hr : MVr h) {f b : Nat} {d : Int} {S Dn : Nat → Int} (hf : f < 6) (hb : b < 6) (q : dkI h f d S Dn) (ha : ∀ k, k < 6 → Dn k = 1) : isSoon h f d b (S b) := by
  obtain ⟨⟨q1, q2, q3, q4⟩, q5, q6⟩ := q
  exact ⟨(q1 b hb).2, q2 b hb, fun n t => closed_le hs hr hf q3 (fun u w t' z _ => q5 u w t' z.1 (ha u z.1) z) n b t⟩
theorem dkI.start {h : Nat → Nat → Int} {f : Nat} {d : Int} {S Dn : Nat → Int} (hd : 0 ≤ d ∧ d ≤ 999) (hf : f < 6) (h1 : ∀ k, k < 6 → S k = if k = f then d else 1000) (h2 : ∀ k, k < 6 → Dn k = 0) : dkI h f d S Dn := by
  refine ⟨⟨fun k hk => ?_, fun k hk => ?_, ?_, fun k hk => Or.inl (h2 k hk)⟩, fun u w t' hu hd => ?_, fun u w hu hw hd => ?_⟩
  · rw [h1 k hk]; split <;> omega
  · rw [h1 k hk]; split
    · rename_i z; right; exact ⟨0, z.symm, rfl⟩
    · left; rfl
  · rw [h1 f hf, if_pos rfl]; exact Int.le_refl _
  · have := h2 u hu; omega
  · have := h2 u hu; omega
theorem cnt_all {P : Int → Prop} : ∀ {n : Nat}, cnt P n = n → ∀ k : Nat, k < n → P k
  | 0, _, k, hk => by omega
  | n + 1, h, k, hk => by
    have h1 := cnt_le P n
    have h2 : cnt P n + ci (P n) = (n + 1 : Nat) := h
    have h3 := ci_01 (P n)
    by_cases e : k = n
    · subst e
      exact Classical.byContradiction fun q => by rw [ci_f q] at h2; omega
    · exact cnt_all (n := n) (by omega) k (by omega)
theorem cnt_some {P : Int → Prop} {n : Nat} (h : cnt P n < n) : ∃ k : Nat, k < n ∧ ¬ P k := by
  refine Classical.byContradiction fun q => ?_
  have h1 : ∀ k : Nat, k < n → P k := fun k hk => Classical.byContradiction fun z => q ⟨k, hk, z⟩
  have h2 : ∀ m : Nat, m ≤ n → cnt P m = m := by
    intro m
    induction m with
    | zero => intro _; rfl
    | succ m ih => intro hm; show cnt P m + ci (P m) = _; rw [ih (by omega), ci_t (h1 m (by omega))]; rfl
  have := h2 n (Nat.le_refl n)
  omega
theorem cnt_congr {P Q : Int → Prop} : ∀ {n : Nat}, (∀ k : Nat, k < n → (P k ↔ Q k)) → cnt P n = cnt Q n
  | 0, _ => rfl
  | n + 1, h => by
    show cnt P n + ci (P n) = cnt Q n + ci (Q n)
    rw [cnt_congr (n := n) (fun k hk => h k (by omega)), propext (h n (by omega))]
theorem cnt_upd {D : Nat → Int} {a : Nat} (h0 : D a ≠ 1) : ∀ {n : Nat}, a < n → cnt (fun k => u1 D a 1 k.toNat = 1) n = cnt (fun k => D k.toNat = 1) n + 1
  | 0, h => by omega
  | n + 1, h => by
    show cnt _ n + ci (u1 D a 1 (n : Int).toNat = 1) = cnt _ n + ci (D (n : Int).toNat = 1) + 1
    rw [Int.toNat_natCast]
    by_cases e : a = n
    · subst e
      rw [cnt_congr (Q := fun k => D k.toNat = 1) (fun k hk => by rw [Int.toNat_natCast, u1_n (by omega)])]
      rw [ci_t u1_s, ci_f h0]
      omega
    · rw [cnt_upd h0 (n := n) (by omega)]
      rw [u1_n (fun z => e z.symm)]
      omega
