theorem gL_n {g : GH} {a k a' k' : Nat} {w : Int64} (h : a' ≠ a ∨ k' ≠ k) : (gL g a k w).2.2.1 a' k' = g.2.2.1 a' k' := u2_n h
theorem gL_s {g : GH} {a k : Nat} {w : Int64} : (gL g a k w).2.2.1 a k = w := u2_s
section MVK
variable {h h' : Nat → Nat → Int}
theorem MVc.k (e : ∀ a k, a = 1000 ∧ (k = 3 ∨ k = 7 ∨ k = 13 ∨ k = 15 ∨ k = 29 ∨ k = 35) → h' a k = h a k) (q : MVc h) : MVc h' := by
  unfold MVc at q ⊢; rw [e 1000 3 (by omega), e 1000 7 (by omega), e 1000 13 (by omega), e 1000 15 (by omega), e 1000 29 (by omega), e 1000 35 (by omega)]; exact q
theorem MVo.k (e : ∀ a k, (a = 1000 ∧ k = 3) ∨ (1004 ≤ a ∧ a ≤ 1006) → h' a k = h a k) (q : MVo h) : MVo h' := fun i hi => by
  rw [e 1000 3 (by omega)] at hi; rw [e 1004 i (by omega), e 1005 i (by omega), e 1006 i (by omega)]; exact q i hi
theorem MVd.k (e : ∀ a k, (a = 1000 ∧ (k = 7 ∨ k = 3)) ∨ (1008 ≤ a ∧ a ≤ 1012) → h' a k = h a k) (q : MVd h) : MVd h' := fun i hi => by
  rw [e 1000 7 (by omega)] at hi; rw [e 1008 i (by omega), e 1009 i (by omega), e 1010 i (by omega), e 1011 i (by omega), e 1012 i (by omega), e 1000 3 (by omega)]; exact q i hi
theorem MVm.k (e : ∀ a k, (a = 1000 ∧ (k = 13 ∨ k = 7)) ∨ a = 1014 → h' a k = h a k) (q : MVm h) : MVm h' := fun m h0 hm => by
  rw [e 1000 13 (by omega)] at hm
  have e4 : ∀ k, h' 1014 k = h 1014 k := fun k => e 1014 k (by omega)
  simp only [e4, e 1000 7 (by omega)]; exact q m h0 hm
theorem MVs.k (e : ∀ a k, (a = 1000 ∧ k = 15) ∨ (1016 ≤ a ∧ a ≤ 1019) → h' a k = h a k) (q : MVs h) : MVs h' := fun i hi => by
  rw [e 1000 15 (by omega)] at hi; rw [e 1016 i (by omega), e 1017 i (by omega), e 1018 i (by omega), e 1019 i (by omega)]; exact q i hi
theorem MVr.k (e : ∀ a k, a = 1020 → h' a k = h a k) (q : MVr h) : MVr h' := fun k hk => by rw [e 1020 k rfl]; exact q k hk
theorem MVl.k (e : ∀ a k, a = 1002 → h' a k = h a k) (q : MVl h) : MVl h' := fun k hk => by rw [e 1002 k rfl]; exact q k hk
theorem MVt.k (e : ∀ a k, (a = 1000 ∧ k = 29) ∨ a = 1028 → h' a k = h a k) (q : MVt h) : MVt h' := fun k hk => by rw [e 1000 29 (by omega)] at hk; rw [e 1028 k (by omega)]; exact q k hk
theorem MVu.k (h12 : h 1000 35 ≤ 12) (e : ∀ a k, (a = 1000 ∧ k = 35) ∨ (a = 1037 ∧ k < 120) → h' a k = h a k) (q : MVu h) : MVu h' := fun i hi => by
  rw [e 1000 35 (by omega)] at hi
  have := q i hi
  unfold rulB at this ⊢
  rw [e 1037 (10 * i) (by omega), e 1037 (10 * i + 1) (by omega), e 1037 (10 * i + 2) (by omega), e 1037 (10 * i + 3) (by omega), e 1037 (10 * i + 4) (by omega), e 1037 (10 * i + 5) (by omega), e 1037 (10 * i + 6) (by omega), e 1037 (10 * i + 7) (by omega), e 1037 (10 * i + 8) (by omega), e 1037 (10 * i + 9) (by omega)]
  exact this
end MVK
def a0 (a : Nat) : Prop := a < 0
theorem rlow {A : Nat → Prop} {W : Nat → Nat → Prop} {R Z : Nat → Prop} {g g' : GH} (h : rel A W R Z g g') (hA : ∀ a, 1000 ≤ a → ¬ A a) (hR : ¬ R 1000) (hW : ∀ a k, 1000 ≤ a → W a k → scr a k) (q : CPL g) : MR g' ∧ MV g'.2.1 := ⟨rel.MR h hA hR q.1.1, (rel.hk h hA hW).MV q.1.2⟩
theorem rel.i0 {A : Nat → Prop} {W : Nat → Nat → Prop} {R Z : Nat → Prop} {g g' : GH} (h : rel A W R Z g g') {a k : Nat} (hA : ¬ A a) (hW : ¬ W a k) : (gI g' 1000 0 0).2.1 a k = (if a = 1000 ∧ k = 0 then 0 else g.2.1 a k) := by
  by_cases q : a = 1000 ∧ k = 0
  · rw [if_pos q, q.1, q.2]; exact gI_s
  · rw [if_neg q]; exact (gI_n (by omega)).trans (h.2.1 a k hA hW)
def W_town (a k : Nat) : Prop := a = 2 ∨ a = 1002 ∨ (a = 1000 ∧ k = 0)
def W1_town (a _ : Nat) : Prop := a = 2
set_option maxHeartbeats 1000000 in
theorem J_town {g g1 : GH} {r1 : AV} {t v : Int} (hP : CPL g) (h1 : (fun r g' => (((0 ≤ t ∧ t ≤ 5) ∧ (0 ≤ v ∧ v ≤ 2)) ∧ r = vI (g.2.1 1002 t.toNat) ∧ g' = gI g 2 t.toNat v) ∨ (¬ ((0 ≤ t ∧ t ≤ 5) ∧ (0 ≤ v ∧ v ≤ 2)) ∧ r = vI (-1) ∧ g = g')) r1 g1) : (∃ z, r1 = vI z) ∧ (MR g1 ∧ MV g1.2.1) ∧ ∀ r2 g2, (fun r g' => (((0 ≤ t ∧ t ≤ 5) ∧ (0 ≤ v ∧ v ≤ 2)) ∧ r = vI ((gI g1 1000 0 0).2.1 1002 t.toNat) ∧ g' = gI (gI g1 1000 0 0) 1002 t.toNat v) ∨ (¬ ((0 ≤ t ∧ t ≤ 5) ∧ (0 ≤ v ∧ v ≤ 2)) ∧ r = vI (-1) ∧ g' = gI g1 1000 0 0)) r2 g2 → r1 = r2 ∧ CPL g2 := by
  obtain ⟨⟨hM, hV⟩, ⟨hO, hl⟩, ⟨hof, hdi⟩, ⟨hC, hw, hv, hG⟩, ⟨hT, hTr, hF⟩, bk, hB, hBv⟩ := id hP
  have hcn := hV.1
  unfold MVc at hcn
  rcases h1 with ⟨a1, a2, a3⟩ | ⟨a1, a2, a3⟩
  · have hr1 : rel a0 W1_town a0 a0 g g1 := by rw [a3]; exact rel.rf.wI (Or.inl rfl)
    refine ⟨⟨_, a2⟩, (rlow hr1 (by intro a x; unfold a0; omega) (by unfold a0; omega) (by intro a k x y; unfold W1_town at y; unfold scr; omega) hP), fun r2 g2 h2 => ?_⟩
    rcases h2 with ⟨b1, b2, b3⟩ | ⟨b1, b2, b3⟩
    · have e2 : (gI g1 1000 0 0).2.1 1002 t.toNat = g.2.1 1002 t.toNat := (rel.i0 hr1 (by unfold a0; omega) (by unfold W1_town; omega)).trans (if_neg (by omega))
      refine ⟨a2.trans (by rw [b2, e2]), ?_⟩
      have hr : rel a0 W_town a0 a0 g g2 := by rw [b3]; exact ((hr1.mono (fun _ z => z) (by intro a k z; unfold W1_town at z; unfold W_town; omega) (fun _ z => z) (fun _ z => z)).wI (Or.inl (by unfold W_town; omega))).wI (Or.inl (by unfold W_town; omega))
      refine ⟨⟨rel.MR hr (by intro a x; unfold a0; omega) (by unfold a0; omega) hM, (MVc.k (fun a k x => hr.2.1 a k (by unfold a0; omega) (by unfold W_town; (try unfold scr); omega)) hV.1), (MVo.k (fun a k x => hr.2.1 a k (by unfold a0; omega) (by unfold W_town; (try unfold scr); omega)) hV.2.1), (MVd.k (fun a k x => hr.2.1 a k (by unfold a0; omega) (by unfold W_town; (try unfold scr); omega)) hV.2.2.1), (MVm.k (fun a k x => hr.2.1 a k (by unfold a0; omega) (by unfold W_town; (try unfold scr); omega)) hV.2.2.2.1), (MVs.k (fun a k x => hr.2.1 a k (by unfold a0; omega) (by unfold W_town; (try unfold scr); omega)) hV.2.2.2.2.1), (MVr.k (fun a k x => hr.2.1 a k (by unfold a0; omega) (by unfold W_town; (try unfold scr); omega)) hV.2.2.2.2.2.1), ?_, (MVt.k (fun a k x => hr.2.1 a k (by unfold a0; omega) (by unfold W_town; (try unfold scr); omega)) hV.2.2.2.2.2.2.2.1), (MVu.k (by omega) (fun a k x => hr.2.1 a k (by unfold a0; omega) (by unfold W_town; (try unfold scr); omega)) hV.2.2.2.2.2.2.2.2)⟩, ⟨rel.CO hr (by unfold a0; omega) (Or.inl (by unfold a0; omega)) hO, ?_⟩, ⟨rel.COf hr (by intro a x; unfold a0; omega) (by intro a k x; unfold W_town; (try unfold scr); omega) (by unfold a0; omega) (by omega) hof, rel.CDi hr (by intro a x; unfold a0; omega) (by intro a k x; unfold W_town; (try unfold scr); omega) (by intro a x; unfold a0; omega) (by omega) hdi⟩, ⟨rel.CMk hr (by intro a x; unfold kpC at x; unfold a0; omega) (by intro a k x; unfold kpC at x; unfold W_town; (try unfold scr); omega) (by intro a x; unfold kpC at x; unfold a0; omega) (by intro a x; unfold kpC at x; unfold a0; omega) (by intro a k x y; unfold W_town at y; (try unfold scr at y); unfold scr; omega) (by omega) hC, rel.CWs hr (by intro a x y; unfold a0; omega) (by intro a x y; unfold a0; omega) hw, rel.CWv hr (by intro a x; unfold a0; omega) (by intro a k x; unfold W_town; (try unfold scr); omega) hv, rel.CGs hr (by intro a x y; unfold a0; omega) (by unfold a0; omega) hG⟩, ⟨rel.CT hr (by intro a x; unfold a0; omega) (by intro a k x; unfold W_town; (try unfold scr); omega) (by unfold a0; omega) hT, rel.CTr hr (by unfold a0; omega) (by unfold a0; omega) hTr, rel.FR hr (by intro a x; unfold a0; omega) (by intro k x; unfold W_town; (try unfold scr); omega) hF⟩, bk, rel.CB hr (by intro a x; unfold a0; omega) (by intro a x; unfold a0; omega) hB, rel.CBv hr hB.1 (by intro a x; unfold a0; omega) (by intro a k x; have := hB.1; unfold W_town; (try unfold scr); omega) (by omega) hBv⟩
      · intro k hk
        rw [b3]
        by_cases e : k = t.toNat
        · subst e; rw [gI_s]; exact a1.2
        · rw [gI_n (Or.inr e)]
          rw [show (gI g1 1000 0 0).2.1 1002 k = g.2.1 1002 k from ((rel.i0 hr1 (by unfold a0; omega) (by unfold W1_town; omega)).trans (if_neg (by omega)))]; exact hV.2.2.2.2.2.2.1 k hk
      · intro k hk
        rw [b3, gI_n (Or.inl (by decide)), gI_n (Or.inl (by decide)), a3]
        by_cases e : k = t.toNat
        · subst e; rw [gI_s, gI_s]
        · rw [gI_n (Or.inr e), gI_n (Or.inr e), gI_n (Or.inl (by decide)), gI_n (Or.inl (by decide))]; exact hl k hk
    · exact absurd a1 b1
  · have k1 : kp g g1 := by rw [← a3]; exact rel.rf
    refine ⟨⟨_, a2⟩, (hP.kp k1).m, fun r2 g2 h2 => ?_⟩
    rcases h2 with ⟨b1, b2, b3⟩ | ⟨b1, b2, b3⟩
    · exact absurd b1 a1
    · exact ⟨a2.trans b2.symm, cpl_k0 hP k1 b3⟩
def W_late (a k : Nat) : Prop := a = 12 ∨ a = 1019 ∨ (a = 1000 ∧ k = 0)
def W1_late (a _ : Nat) : Prop := a = 12
set_option maxHeartbeats 1000000 in
theorem J_late {g g1 : GH} {r1 : AV} {s c : Int} (hP : CPL g) (h1 : (fun r g' => (((0 ≤ s ∧ s < g.2.1 1000 15) ∧ (c = -9 ∨ (g.2.1 1018 s.toNat ≤ c ∧ c ≤ 999))) ∧ r = vI (g.2.1 1019 s.toNat) ∧ g' = gI g 12 s.toNat c) ∨ (¬ ((0 ≤ s ∧ s < g.2.1 1000 15) ∧ (c = -9 ∨ (g.2.1 1018 s.toNat ≤ c ∧ c ≤ 999))) ∧ r = vI (-1) ∧ g = g')) r1 g1) : (∃ z, r1 = vI z) ∧ (MR g1 ∧ MV g1.2.1) ∧ ∀ r2 g2, (fun r g' => (((0 ≤ s ∧ s < (gI g1 1000 0 0).2.1 1000 15) ∧ (c = -9 ∨ ((gI g1 1000 0 0).2.1 1018 s.toNat ≤ c ∧ c ≤ 999))) ∧ r = vI ((gI g1 1000 0 0).2.1 1019 s.toNat) ∧ g' = gI (gI g1 1000 0 0) 1019 s.toNat c) ∨ (¬ ((0 ≤ s ∧ s < (gI g1 1000 0 0).2.1 1000 15) ∧ (c = -9 ∨ ((gI g1 1000 0 0).2.1 1018 s.toNat ≤ c ∧ c ≤ 999))) ∧ r = vI (-1) ∧ g' = gI g1 1000 0 0)) r2 g2 → r1 = r2 ∧ CPL g2 := by
  obtain ⟨⟨hM, hV⟩, ⟨hO, hl⟩, ⟨hof, hdi⟩, ⟨hC, hw, hv, hG⟩, ⟨hT, hTr, hF⟩, bk, hB, hBv⟩ := id hP
  have hcn := hV.1
  unfold MVc at hcn
  rcases h1 with ⟨a1, a2, a3⟩ | ⟨a1, a2, a3⟩
  · have hr1 : rel a0 W1_late a0 a0 g g1 := by rw [a3]; exact rel.rf.wI (Or.inl rfl)
    refine ⟨⟨_, a2⟩, (rlow hr1 (by intro a x; unfold a0; omega) (by unfold a0; omega) (by intro a k x y; unfold W1_late at y; unfold scr; omega) hP), fun r2 g2 h2 => ?_⟩
    have e15 := ((rel.i0 hr1 (a := 1000) (k := 15) (by unfold a0; omega) (by unfold W1_late; omega)).trans (if_neg (by omega)))
    have e18 := ((rel.i0 hr1 (a := 1018) (k := s.toNat) (by unfold a0; omega) (by unfold W1_late; omega)).trans (if_neg (by omega)))
    have e19 := ((rel.i0 hr1 (a := 1019) (k := s.toNat) (by unfold a0; omega) (by unfold W1_late; omega)).trans (if_neg (by omega)))
    rw [e15, e18, e19] at h2
    rcases h2 with ⟨b1, b2, b3⟩ | ⟨b1, b2, b3⟩
    · refine ⟨a2.trans b2.symm, ?_⟩
      have hr : rel a0 W_late a0 a0 g g2 := by rw [b3]; exact ((hr1.mono (fun _ z => z) (by intro a k z; unfold W1_late at z; unfold W_late; omega) (fun _ z => z) (fun _ z => z)).wI (Or.inl (by unfold W_late; omega))).wI (Or.inl (by unfold W_late; omega))
      have ei : ∀ k, k ≠ s.toNat → g2.2.1 1019 k = g.2.1 1019 k := fun k e => by rw [b3, gI_n (Or.inr e)]; exact ((rel.i0 hr1 (a := 1019) (k := k) (by unfold a0; omega) (by unfold W1_late; omega)).trans (if_neg (by omega)))
      have es : g2.2.1 1019 s.toNat = c := by rw [b3]; exact gI_s
      have ec : ∀ k, k ≠ s.toNat → g2.2.1 12 k = g.2.1 12 k := fun k e => by rw [b3, gI_n (Or.inl (by decide)), gI_n (Or.inl (by decide)), a3]; exact gI_n (Or.inr e)
      have ecs : g2.2.1 12 s.toNat = c := by rw [b3, gI_n (Or.inl (by decide)), gI_n (Or.inl (by decide)), a3]; exact gI_s
      have eo : ∀ a k, ¬ W_late a k → g2.2.1 a k = g.2.1 a k := fun a k x => hr.2.1 a k (by unfold a0; omega) x
      refine ⟨⟨rel.MR hr (by intro a x; unfold a0; omega) (by unfold a0; omega) hM, (MVc.k (fun a k x => hr.2.1 a k (by unfold a0; omega) (by unfold W_late; (try unfold scr); omega)) hV.1), (MVo.k (fun a k x => hr.2.1 a k (by unfold a0; omega) (by unfold W_late; (try unfold scr); omega)) hV.2.1), (MVd.k (fun a k x => hr.2.1 a k (by unfold a0; omega) (by unfold W_late; (try unfold scr); omega)) hV.2.2.1), (MVm.k (fun a k x => hr.2.1 a k (by unfold a0; omega) (by unfold W_late; (try unfold scr); omega)) hV.2.2.2.1), ?_, (MVr.k (fun a k x => hr.2.1 a k (by unfold a0; omega) (by unfold W_late; (try unfold scr); omega)) hV.2.2.2.2.2.1), (MVl.k (fun a k x => hr.2.1 a k (by unfold a0; omega) (by unfold W_late; (try unfold scr); omega)) hV.2.2.2.2.2.2.1), (MVt.k (fun a k x => hr.2.1 a k (by unfold a0; omega) (by unfold W_late; (try unfold scr); omega)) hV.2.2.2.2.2.2.2.1), (MVu.k (by omega) (fun a k x => hr.2.1 a k (by unfold a0; omega) (by unfold W_late; (try unfold scr); omega)) hV.2.2.2.2.2.2.2.2)⟩, ⟨rel.CO hr (by unfold a0; omega) (Or.inl (by unfold a0; omega)) hO, rel.CL hr (by unfold a0; omega) (by intro k; unfold W_late; (try unfold scr); omega) hl⟩, ⟨rel.COf hr (by intro a x; unfold a0; omega) (by intro a k x; unfold W_late; (try unfold scr); omega) (by unfold a0; omega) (by omega) hof, rel.CDi hr (by intro a x; unfold a0; omega) (by intro a k x; unfold W_late; (try unfold scr); omega) (by intro a x; unfold a0; omega) (by omega) hdi⟩, ⟨rel.CMk hr (by intro a x; unfold kpC at x; unfold a0; omega) (by intro a k x; unfold kpC at x; unfold W_late; (try unfold scr); omega) (by intro a x; unfold kpC at x; unfold a0; omega) (by intro a x; unfold kpC at x; unfold a0; omega) (by intro a k x y; unfold W_late at y; (try unfold scr at y); unfold scr; omega) (by omega) hC, rel.CWs hr (by intro a x y; unfold a0; omega) (by intro a x y; unfold a0; omega) hw, ?_, rel.CGs hr (by intro a x y; unfold a0; omega) (by unfold a0; omega) hG⟩, ⟨rel.CT hr (by intro a x; unfold a0; omega) (by intro a k x; unfold W_late; (try unfold scr); omega) (by unfold a0; omega) hT, rel.CTr hr (by unfold a0; omega) (by unfold a0; omega) hTr, rel.FR hr (by intro a x; unfold a0; omega) (by intro k x; unfold W_late; (try unfold scr); omega) hF⟩, bk, rel.CB hr (by intro a x; unfold a0; omega) (by intro a x; unfold a0; omega) hB, rel.CBv hr hB.1 (by intro a x; unfold a0; omega) (by intro a k x; have := hB.1; unfold W_late; (try unfold scr); omega) (by omega) hBv⟩
      · intro i hi
        rw [eo 1000 15 (by unfold W_late; omega)] at hi
        rw [eo 1016 i (by unfold W_late; omega), eo 1017 i (by unfold W_late; omega), eo 1018 i (by unfold W_late; omega)]
        have q := hV.2.2.2.2.1 i hi
        by_cases e : i = s.toNat
        · subst e; rw [es]; exact ⟨q.1, q.2.1, q.2.2.1, a1.2⟩
        · rw [ei i e]; exact q
      · refine ⟨by rw [eo 8 7 (by unfold W_late; omega), eo 1000 15 (by unfold W_late; omega)]; exact hv.1, fun i hi => ?_, fun a b ha hb => by rw [eo (14 + a) b (by unfold W_late; omega), eo 1020 _ (by unfold W_late; omega)]; exact hv.2.2 a b ha hb⟩
        rw [eo 1000 15 (by unfold W_late; omega)] at hi
        have q := hv.2.1 i hi
        rw [eo 9 i (by unfold W_late; omega), eo 10 i (by unfold W_late; omega), eo 11 i (by unfold W_late; omega), eo 1016 i (by unfold W_late; omega), eo 1017 i (by unfold W_late; omega), eo 1018 i (by unfold W_late; omega)]
        by_cases e : i = s.toNat
        · subst e; rw [es, ecs]; exact ⟨q.1, q.2.1, q.2.2.1, rfl⟩
        · rw [ei i e, ec i e]; exact q
    · exact absurd a1 b1
  · have k1 : kp g g1 := by rw [← a3]; exact rel.rf
    refine ⟨⟨_, a2⟩, (hP.kp k1).m, fun r2 g2 h2 => ?_⟩
    have hk := k1.t0
    rw [hk.cnt (k := 15) (by omega), hk.row (a := 1018) (by omega)] at h2
    rcases h2 with ⟨b1, b2, b3⟩ | ⟨b1, b2, b3⟩
    · exact absurd (b1) a1
    · exact ⟨a2.trans b2.symm, cpl_k0 hP k1 b3⟩
def W_road (a k : Nat) : Prop := (14 ≤ a ∧ a ≤ 19) ∨ a = 1020 ∨ (a = 1000 ∧ k = 0)
def W1_road (a _ : Nat) : Prop := 14 ≤ a ∧ a ≤ 19
set_option maxHeartbeats 1000000 in
theorem J_road {g g1 : GH} {r1 : AV} {a b n : Int} (hP : CPL g) (h1 : (fun r g' => (((0 ≤ a ∧ a ≤ 5) ∧ (0 ≤ b ∧ b ≤ 5) ∧ a ≠ b ∧ (n = -9 ∨ (1 ≤ n ∧ n ≤ 30))) ∧ r = vI (g.2.1 1020 (6 * a + b).toNat) ∧ g' = gI (gI g (14 + a.toNat) b.toNat n) (14 + b.toNat) a.toNat n) ∨ (¬ ((0 ≤ a ∧ a ≤ 5) ∧ (0 ≤ b ∧ b ≤ 5) ∧ a ≠ b ∧ (n = -9 ∨ (1 ≤ n ∧ n ≤ 30))) ∧ r = vI (-1) ∧ g = g')) r1 g1) : (∃ z, r1 = vI z) ∧ (MR g1 ∧ MV g1.2.1) ∧ ∀ r2 g2, (fun r g' => (((0 ≤ a ∧ a ≤ 5) ∧ (0 ≤ b ∧ b ≤ 5) ∧ a ≠ b ∧ (n = -9 ∨ (1 ≤ n ∧ n ≤ 30))) ∧ r = vI ((gI g1 1000 0 0).2.1 1020 (6 * a + b).toNat) ∧ g' = gI (gI (gI g1 1000 0 0) 1020 (6 * a + b).toNat n) 1020 (6 * b + a).toNat n) ∨ (¬ ((0 ≤ a ∧ a ≤ 5) ∧ (0 ≤ b ∧ b ≤ 5) ∧ a ≠ b ∧ (n = -9 ∨ (1 ≤ n ∧ n ≤ 30))) ∧ r = vI (-1) ∧ g' = gI g1 1000 0 0)) r2 g2 → r1 = r2 ∧ CPL g2 := by
  obtain ⟨⟨hM, hV⟩, ⟨hO, hl⟩, ⟨hof, hdi⟩, ⟨hC, hw, hv, hG⟩, ⟨hT, hTr, hF⟩, bk, hB, hBv⟩ := id hP
  have hcn := hV.1
  unfold MVc at hcn
  rcases h1 with ⟨a1, a2, a3⟩ | ⟨a1, a2, a3⟩
  · have hr1 : rel a0 W1_road a0 a0 g g1 := by rw [a3]; exact (rel.rf.wI (Or.inl (by unfold W1_road; omega))).wI (Or.inl (by unfold W1_road; omega))
    refine ⟨⟨_, a2⟩, (rlow hr1 (by intro a x; unfold a0; omega) (by unfold a0; omega) (by intro a k x y; unfold W1_road at y; unfold scr; omega) hP), fun r2 g2 h2 => ?_⟩
    rcases h2 with ⟨b1, b2, b3⟩ | ⟨b1, b2, b3⟩
    · have e20 : ∀ k, (gI g1 1000 0 0).2.1 1020 k = g.2.1 1020 k := fun k => ((rel.i0 hr1 (a := 1020) (k := k) (by unfold a0; omega) (by unfold W1_road; omega)).trans (if_neg (by omega)))
      rw [e20] at b2
      refine ⟨a2.trans b2.symm, ?_⟩
      have hr : rel a0 W_road a0 a0 g g2 := by rw [b3]; exact (((hr1.mono (fun _ z => z) (by intro a k z; unfold W1_road at z; unfold W_road; omega) (fun _ z => z) (fun _ z => z)).wI (Or.inl (by unfold W_road; omega))).wI (Or.inl (by unfold W_road; omega))).wI (Or.inl (by unfold W_road; omega))
      have eo : ∀ a k, ¬ W_road a k → g2.2.1 a k = g.2.1 a k := fun a k x => hr.2.1 a k (by unfold a0; omega) x
      have er : ∀ k, g2.2.1 1020 k = if k = (6 * b + a).toNat ∨ k = (6 * a + b).toNat then n else g.2.1 1020 k := fun k => by
        rw [b3]
        by_cases e1 : k = (6 * b + a).toNat
        · rw [if_pos (Or.inl e1), e1]; exact gI_s
        · rw [gI_n (Or.inr e1)]
          by_cases e2 : k = (6 * a + b).toNat
          · rw [if_pos (Or.inr e2), e2]; exact gI_s
          · rw [if_neg (by omega), gI_n (Or.inr e2)]; exact e20 k
      have ec : ∀ x y, x < 6 → y < 6 → g2.2.1 (14 + x) y = if (x = b.toNat ∧ y = a.toNat) ∨ (x = a.toNat ∧ y = b.toNat) then n else g.2.1 (14 + x) y := fun x y hx hy => by
        rw [b3, gI_n (Or.inl (by omega)), gI_n (Or.inl (by omega)), gI_n (Or.inl (by omega)), a3]
        by_cases e1 : x = b.toNat ∧ y = a.toNat
        · rw [if_pos (Or.inl e1), e1.1, e1.2]; exact gI_s
        · rw [gI_n (by omega)]
          by_cases e2 : x = a.toNat ∧ y = b.toNat
          · rw [if_pos (Or.inr e2), e2.1, e2.2]; exact gI_s
          · rw [if_neg (by omega)]; exact gI_n (by omega)
      refine ⟨⟨rel.MR hr (by intro a x; unfold a0; omega) (by unfold a0; omega) hM, (MVc.k (fun a k x => hr.2.1 a k (by unfold a0; omega) (by unfold W_road; (try unfold scr); omega)) hV.1), (MVo.k (fun a k x => hr.2.1 a k (by unfold a0; omega) (by unfold W_road; (try unfold scr); omega)) hV.2.1), (MVd.k (fun a k x => hr.2.1 a k (by unfold a0; omega) (by unfold W_road; (try unfold scr); omega)) hV.2.2.1), (MVm.k (fun a k x => hr.2.1 a k (by unfold a0; omega) (by unfold W_road; (try unfold scr); omega)) hV.2.2.2.1), (MVs.k (fun a k x => hr.2.1 a k (by unfold a0; omega) (by unfold W_road; (try unfold scr); omega)) hV.2.2.2.2.1), ?_, (MVl.k (fun a k x => hr.2.1 a k (by unfold a0; omega) (by unfold W_road; (try unfold scr); omega)) hV.2.2.2.2.2.2.1), (MVt.k (fun a k x => hr.2.1 a k (by unfold a0; omega) (by unfold W_road; (try unfold scr); omega)) hV.2.2.2.2.2.2.2.1), (MVu.k (by omega) (fun a k x => hr.2.1 a k (by unfold a0; omega) (by unfold W_road; (try unfold scr); omega)) hV.2.2.2.2.2.2.2.2)⟩, ⟨rel.CO hr (by unfold a0; omega) (Or.inl (by unfold a0; omega)) hO, rel.CL hr (by unfold a0; omega) (by intro k; unfold W_road; (try unfold scr); omega) hl⟩, ⟨rel.COf hr (by intro a x; unfold a0; omega) (by intro a k x; unfold W_road; (try unfold scr); omega) (by unfold a0; omega) (by omega) hof, rel.CDi hr (by intro a x; unfold a0; omega) (by intro a k x; unfold W_road; (try unfold scr); omega) (by intro a x; unfold a0; omega) (by omega) hdi⟩, ⟨rel.CMk hr (by intro a x; unfold kpC at x; unfold a0; omega) (by intro a k x; unfold kpC at x; unfold W_road; (try unfold scr); omega) (by intro a x; unfold kpC at x; unfold a0; omega) (by intro a x; unfold kpC at x; unfold a0; omega) (by intro a k x y; unfold W_road at y; (try unfold scr at y); unfold scr; omega) (by omega) hC, rel.CWs hr (by intro a x y; unfold a0; omega) (by intro a x y; unfold a0; omega) hw, ?_, rel.CGs hr (by intro a x y; unfold a0; omega) (by unfold a0; omega) hG⟩, ⟨rel.CT hr (by intro a x; unfold a0; omega) (by intro a k x; unfold W_road; (try unfold scr); omega) (by unfold a0; omega) hT, rel.CTr hr (by unfold a0; omega) (by unfold a0; omega) hTr, rel.FR hr (by intro a x; unfold a0; omega) (by intro k x; unfold W_road; (try unfold scr); omega) hF⟩, bk, rel.CB hr (by intro a x; unfold a0; omega) (by intro a x; unfold a0; omega) hB, rel.CBv hr hB.1 (by intro a x; unfold a0; omega) (by intro a k x; have := hB.1; unfold W_road; (try unfold scr); omega) (by omega) hBv⟩
      · intro k hk
        rw [er k]
        split
        · exact a1.2.2.2
        · exact hV.2.2.2.2.2.1 k hk
      · refine ⟨by rw [eo 8 7 (by unfold W_road; omega), eo 1000 15 (by unfold W_road; omega)]; exact hv.1, fun i hi => ?_, fun x y hx hy => ?_⟩
        · rw [eo 1000 15 (by unfold W_road; omega)] at hi
          rw [eo 9 i (by unfold W_road; omega), eo 10 i (by unfold W_road; omega), eo 11 i (by unfold W_road; omega), eo 12 i (by unfold W_road; omega), eo 1016 i (by unfold W_road; omega), eo 1017 i (by unfold W_road; omega), eo 1018 i (by unfold W_road; omega), eo 1019 i (by unfold W_road; omega)]
          exact hv.2.1 i hi
        · rw [ec x y hx hy, er (6 * x + y)]
          by_cases e : (x = b.toNat ∧ y = a.toNat) ∨ (x = a.toNat ∧ y = b.toNat)
          · rw [if_pos e, if_pos (by omega)]
          · rw [if_neg e, if_neg (by omega)]; exact hv.2.2 x y hx hy
    · exact absurd a1 b1
  · have k1 : kp g g1 := by rw [← a3]; exact rel.rf
    refine ⟨⟨_, a2⟩, (hP.kp k1).m, fun r2 g2 h2 => ?_⟩
    have hk := k1.t0
    rcases h2 with ⟨b1, b2, b3⟩ | ⟨b1, b2, b3⟩
    · exact absurd (b1) a1
    · exact ⟨a2.trans b2.symm, cpl_k0 hP k1 b3⟩
def z_lean (a : Nat) : Prop := a = 7 ∨ a = 1000
def z1_lean (a : Nat) : Prop := a = 7
def W_lean (a k : Nat) : Prop := a = 1000 ∧ k = 0
def wn (a _ : Nat) : Prop := a < 0
set_option maxHeartbeats 1000000 in
theorem J_lean {g g1 : GH} {r1 : AV} {k m : Int} (hP : CPL g) (h1 : (fun r g' => (((0 ≤ k ∧ k ≤ 5) ∧ (0 ≤ m ∧ m < g.2.1 1000 13)) ∧ r = vI (leanV g.2.1 k m) ∧ g' = gL g 7 0 (leanT k (g.2.2.1 7 0))) ∨ (¬ ((0 ≤ k ∧ k ≤ 5) ∧ (0 ≤ m ∧ m < g.2.1 1000 13)) ∧ r = vI (-1) ∧ g = g')) r1 g1) : (∃ z, r1 = vI z) ∧ (MR g1 ∧ MV g1.2.1) ∧ ∀ r2 g2, (fun r g' => (((0 ≤ k ∧ k ≤ 5) ∧ (0 ≤ m ∧ m < (gI g1 1000 0 0).2.1 1000 13)) ∧ r = vI (leanV (gI g1 1000 0 0).2.1 k m) ∧ g' = gL (gI g1 1000 0 0) 1000 1 (leanT k ((gI g1 1000 0 0).2.2.1 1000 1))) ∨ (¬ ((0 ≤ k ∧ k ≤ 5) ∧ (0 ≤ m ∧ m < (gI g1 1000 0 0).2.1 1000 13)) ∧ r = vI (-1) ∧ g' = gI g1 1000 0 0)) r2 g2 → r1 = r2 ∧ CPL g2 := by
  obtain ⟨⟨hM, hV⟩, ⟨hO, hl⟩, ⟨hof, hdi⟩, ⟨hC, hw, hv, hG⟩, ⟨hT, hTr, hF⟩, bk, hB, hBv⟩ := id hP
  have hcn := hV.1
  unfold MVc at hcn
  rcases h1 with ⟨a1, a2, a3⟩ | ⟨a1, a2, a3⟩
  · have hr1 : rel a0 wn a0 z1_lean g g1 := by rw [a3]; exact rel.rf.wL (Or.inl rfl)
    refine ⟨⟨_, a2⟩, (rlow hr1 (by intro a x; unfold a0; omega) (by unfold a0; omega) (by intro a k x y; unfold wn at y; unfold scr; omega) hP), fun r2 g2 h2 => ?_⟩
    have hk : HK g.2.1 (gI g1 1000 0 0).2.1 := by rw [a3]; exact keep_th.hk (fun a k z => z)
    rw [hk.cnt (k := 13) (by omega), hk.leanV] at h2
    rcases h2 with ⟨b1, b2, b3⟩ | ⟨b1, b2, b3⟩
    · refine ⟨a2.trans b2.symm, ?_⟩
      have hr : rel a0 W_lean a0 z_lean g g2 := by rw [b3]; exact ((hr1.mono (fun _ z => z) (by intro a k z; unfold wn at z; omega) (fun _ z => z) (by intro a z; unfold z1_lean at z; unfold z_lean; omega)).wI (Or.inl (by unfold W_lean; omega))).wL (Or.inl (by unfold z_lean; omega))
      refine ⟨⟨rel.MR hr (by intro a x; unfold a0; omega) (by unfold a0; omega) hM, (MVc.k (fun a k x => hr.2.1 a k (by unfold a0; omega) (by unfold W_lean; (try unfold scr); omega)) hV.1), (MVo.k (fun a k x => hr.2.1 a k (by unfold a0; omega) (by unfold W_lean; (try unfold scr); omega)) hV.2.1), (MVd.k (fun a k x => hr.2.1 a k (by unfold a0; omega) (by unfold W_lean; (try unfold scr); omega)) hV.2.2.1), (MVm.k (fun a k x => hr.2.1 a k (by unfold a0; omega) (by unfold W_lean; (try unfold scr); omega)) hV.2.2.2.1), (MVs.k (fun a k x => hr.2.1 a k (by unfold a0; omega) (by unfold W_lean; (try unfold scr); omega)) hV.2.2.2.2.1), (MVr.k (fun a k x => hr.2.1 a k (by unfold a0; omega) (by unfold W_lean; (try unfold scr); omega)) hV.2.2.2.2.2.1), (MVl.k (fun a k x => hr.2.1 a k (by unfold a0; omega) (by unfold W_lean; (try unfold scr); omega)) hV.2.2.2.2.2.2.1), (MVt.k (fun a k x => hr.2.1 a k (by unfold a0; omega) (by unfold W_lean; (try unfold scr); omega)) hV.2.2.2.2.2.2.2.1), (MVu.k (by omega) (fun a k x => hr.2.1 a k (by unfold a0; omega) (by unfold W_lean; (try unfold scr); omega)) hV.2.2.2.2.2.2.2.2)⟩, ⟨rel.CO hr (by unfold a0; omega) (Or.inl (by unfold a0; omega)) hO, rel.CL hr (by unfold a0; omega) (by intro k; unfold W_lean; (try unfold scr); omega) hl⟩, ⟨rel.COf hr (by intro a x; unfold a0; omega) (by intro a k x; unfold W_lean; (try unfold scr); omega) (by unfold a0; omega) (by omega) hof, rel.CDi hr (by intro a x; unfold a0; omega) (by intro a k x; unfold W_lean; (try unfold scr); omega) (by intro a x; unfold a0; omega) (by omega) hdi⟩, ⟨rel.CMk hr (by intro a x; unfold kpC at x; unfold a0; omega) (by intro a k x; unfold kpC at x; unfold W_lean; (try unfold scr); omega) (by intro a x; unfold kpC at x; unfold a0; omega) (by intro a x; unfold kpC at x; unfold z_lean; omega) (by intro a k x y; unfold W_lean at y; (try unfold scr at y); unfold scr; omega) (by omega) hC, rel.CWs hr (by intro a x y; unfold a0; omega) (by intro a x y; unfold a0; omega) hw, rel.CWv hr (by intro a x; unfold a0; omega) (by intro a k x; unfold W_lean; (try unfold scr); omega) hv, rel.CGs hr (by intro a x y; unfold a0; omega) (by unfold a0; omega) hG⟩, ⟨rel.CT hr (by intro a x; unfold a0; omega) (by intro a k x; unfold W_lean; (try unfold scr); omega) (by unfold a0; omega) hT, ?_, rel.FR hr (by intro a x; unfold a0; omega) (by intro k x; unfold W_lean; (try unfold scr); omega) hF⟩, bk, rel.CB hr (by intro a x; unfold a0; omega) (by intro a x; unfold a0; omega) hB, rel.CBv hr hB.1 (by intro a x; unfold a0; omega) (by intro a k x; have := hB.1; unfold W_lean; (try unfold scr); omega) (by omega) hBv⟩
      unfold CTr at hTr ⊢
      have e1 : g1.2.2.1 1000 1 = g.2.2.1 1000 1 := by rw [a3]; exact gL_n (Or.inl (by decide))
      have e2 : g1.2.2.1 7 0 = leanT k (g.2.2.1 7 0) := by rw [a3]; exact gL_s
      rw [b3]
      show u2 g1.2.2.1 1000 1 (leanT k (g1.2.2.1 1000 1)) 7 0 = u2 g1.2.2.1 1000 1 (leanT k (g1.2.2.1 1000 1)) 1000 1
      rw [u2_s, u2_n (Or.inl (by decide)), e1, e2, hTr]
    · exact absurd a1 b1
  · have k1 : kp g g1 := by rw [← a3]; exact rel.rf
    refine ⟨⟨_, a2⟩, (hP.kp k1).m, fun r2 g2 h2 => ?_⟩
    have hk := k1.t0
    rw [hk.cnt (k := 13) (by omega)] at h2
    rcases h2 with ⟨b1, b2, b3⟩ | ⟨b1, b2, b3⟩
    · exact absurd (b1) a1
    · exact ⟨a2.trans b2.symm, cpl_k0 hP k1 b3⟩
