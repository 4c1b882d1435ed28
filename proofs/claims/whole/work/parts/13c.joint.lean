def W_sail (a k : Nat) : Prop := (8 ≤ a ∧ a ≤ 12) ∨ (1016 ≤ a ∧ a ≤ 1019) ∨ (a = 1000 ∧ (k = 0 ∨ k = 15))
def W1_sail (a _ : Nat) : Prop := 8 ≤ a ∧ a ≤ 12
set_option maxHeartbeats 1000000 in
theorem J_sail {g g1 : GH} {r1 : AV} {f k a e : Int} (hP : CPL g) (h1 : (fun r g' => (((0 ≤ f ∧ f ≤ 5) ∧ (0 ≤ k ∧ k ≤ 5) ∧ f ≠ k ∧ (0 ≤ a ∧ a ≤ 999) ∧ (a ≤ e ∧ e ≤ 999)) ∧ g.2.1 1000 15 ≠ 20 ∧ r = vI (g.2.1 1000 15) ∧ g' = gI (gI (gI (gI (gI g 9 (g.2.1 1000 15).toNat f) 10 (g.2.1 1000 15).toNat k) 11 (g.2.1 1000 15).toNat a) 12 (g.2.1 1000 15).toNat e) 8 7 (g.2.1 1000 15 + 1)) ∨ (((0 ≤ f ∧ f ≤ 5) ∧ (0 ≤ k ∧ k ≤ 5) ∧ f ≠ k ∧ (0 ≤ a ∧ a ≤ 999) ∧ (a ≤ e ∧ e ≤ 999)) ∧ g.2.1 1000 15 = 20 ∧ r = vI (-3) ∧ g = g') ∨ (¬ ((0 ≤ f ∧ f ≤ 5) ∧ (0 ≤ k ∧ k ≤ 5) ∧ f ≠ k ∧ (0 ≤ a ∧ a ≤ 999) ∧ (a ≤ e ∧ e ≤ 999)) ∧ r = vI (-1) ∧ g = g')) r1 g1) : (∃ z, r1 = vI z) ∧ (MR g1 ∧ MV g1.2.1) ∧ ∀ r2 g2, (fun r g' => (((0 ≤ f ∧ f ≤ 5) ∧ (0 ≤ k ∧ k ≤ 5) ∧ f ≠ k ∧ (0 ≤ a ∧ a ≤ 999) ∧ (a ≤ e ∧ e ≤ 999)) ∧ (gI g1 1000 0 0).2.1 1000 15 ≠ 20 ∧ r = vI ((gI g1 1000 0 0).2.1 1000 15) ∧ g' = gI (gI (gI (gI (gI (gI g1 1000 0 0) 1016 ((gI g1 1000 0 0).2.1 1000 15).toNat f) 1017 ((gI g1 1000 0 0).2.1 1000 15).toNat k) 1018 ((gI g1 1000 0 0).2.1 1000 15).toNat a) 1019 ((gI g1 1000 0 0).2.1 1000 15).toNat e) 1000 15 ((gI g1 1000 0 0).2.1 1000 15 + 1)) ∨ (((0 ≤ f ∧ f ≤ 5) ∧ (0 ≤ k ∧ k ≤ 5) ∧ f ≠ k ∧ (0 ≤ a ∧ a ≤ 999) ∧ (a ≤ e ∧ e ≤ 999)) ∧ (gI g1 1000 0 0).2.1 1000 15 = 20 ∧ r = vI (-3) ∧ g' = gI g1 1000 0 0) ∨ (¬ ((0 ≤ f ∧ f ≤ 5) ∧ (0 ≤ k ∧ k ≤ 5) ∧ f ≠ k ∧ (0 ≤ a ∧ a ≤ 999) ∧ (a ≤ e ∧ e ≤ 999)) ∧ r = vI (-1) ∧ g' = gI g1 1000 0 0)) r2 g2 → r1 = r2 ∧ CPL g2 := by
  obtain ⟨⟨hM, hV⟩, ⟨hO, hl⟩, ⟨hof, hdi⟩, ⟨hC, hw, hv, hG⟩, ⟨hT, hTr, hF⟩, bk, hB, hBv⟩ := id hP
  have hcn := hV.1
  unfold MVc at hcn
  rcases h1 with ⟨a1, a4, a2, a3⟩ | ⟨a1, a4, a2, a3⟩ | ⟨a1, a2, a3⟩
  · have hr1 : rel a0 W1_sail a0 a0 g g1 := by rw [a3]; exact (((((rel.rf.wI (Or.inl (by unfold W1_sail; omega))).wI (Or.inl (by unfold W1_sail; omega))).wI (Or.inl (by unfold W1_sail; omega))).wI (Or.inl (by unfold W1_sail; omega))).wI (Or.inl (by unfold W1_sail; omega)))
    refine ⟨⟨_, a2⟩, (rlow hr1 (by intro a x; unfold a0; omega) (by unfold a0; omega) (by intro a k x y; unfold W1_sail at y; unfold scr; omega) hP), fun r2 g2 h2 => ?_⟩
    have e15 := ((rel.i0 hr1 (a := 1000) (k := 15) (by unfold a0; omega) (by unfold W1_sail; omega)).trans (if_neg (by omega)))
    rw [e15] at h2
    rcases h2 with ⟨b1, b4, b2, b3⟩ | ⟨b1, b4, b2, b3⟩ | ⟨b1, b2, b3⟩
    · refine ⟨a2.trans b2.symm, ?_⟩
      have hr : rel a0 W_sail a0 a0 g g2 := by rw [b3]; exact (((((((hr1.mono (fun _ z => z) (by intro a k z; unfold W1_sail at z; unfold W_sail; omega) (fun _ z => z) (fun _ z => z)).wI (Or.inl (by unfold W_sail; omega))).wI (Or.inl (by unfold W_sail; omega))).wI (Or.inl (by unfold W_sail; omega))).wI (Or.inl (by unfold W_sail; omega))).wI (Or.inl (by unfold W_sail; omega))).wI (Or.inl (by unfold W_sail; omega)))
      have eo : ∀ a k, ¬ a0 a → ¬ W_sail a k → g2.2.1 a k = g.2.1 a k := fun a k y x => hr.2.1 a k y x
      have eN : g2.2.1 1000 15 = (g.2.1 1000 15) + 1 := by rw [b3]; exact gI_s
      have ne : ∀ {g : GH} {a k : Nat} {z : Int}, (1016 : Nat) ≠ a → True := fun _ => trivial
      have q6 : g2.2.1 1016 (g.2.1 1000 15).toNat = f := by rw [b3, gI_n (Or.inl (by decide)), gI_n (Or.inl (by decide)), gI_n (Or.inl (by decide)), gI_n (Or.inl (by decide))]; exact gI_s
      have q7 : g2.2.1 1017 (g.2.1 1000 15).toNat = k := by rw [b3, gI_n (Or.inl (by decide)), gI_n (Or.inl (by decide)), gI_n (Or.inl (by decide))]; exact gI_s
      have q8 : g2.2.1 1018 (g.2.1 1000 15).toNat = a := by rw [b3, gI_n (Or.inl (by decide)), gI_n (Or.inl (by decide))]; exact gI_s
      have q9 : g2.2.1 1019 (g.2.1 1000 15).toNat = e := by rw [b3, gI_n (Or.inl (by decide))]; exact gI_s
      have ro : ∀ x i, 1016 ≤ x → x ≤ 1019 → i ≠ (g.2.1 1000 15).toNat → g2.2.1 x i = g.2.1 x i := fun x i h1 h2 h3 => by
        rw [b3, gI_n (Or.inl (by omega)), gI_n (Or.inr h3), gI_n (Or.inr h3), gI_n (Or.inr h3), gI_n (Or.inr h3)]
        exact (gI_n (Or.inl (by omega))).trans (hr1.2.1 x i (by unfold a0; omega) (by unfold W1_sail; omega))
      have lo : ∀ x i, x < 1000 → g2.2.1 x i = g1.2.1 x i := fun x i h1 => by
        rw [b3, gI_n (Or.inl (by omega)), gI_n (Or.inl (by omega)), gI_n (Or.inl (by omega)), gI_n (Or.inl (by omega)), gI_n (Or.inl (by omega)), gI_n (Or.inl (by omega))]
      have c8 : g2.2.1 8 7 = (g.2.1 1000 15) + 1 := by rw [lo 8 7 (by decide), a3]; exact gI_s
      have d9 : g2.2.1 9 (g.2.1 1000 15).toNat = f := by rw [lo 9 _ (by decide), a3, gI_n (Or.inl (by decide)), gI_n (Or.inl (by decide)), gI_n (Or.inl (by decide)), gI_n (Or.inl (by decide))]; exact gI_s
      have d10 : g2.2.1 10 (g.2.1 1000 15).toNat = k := by rw [lo 10 _ (by decide), a3, gI_n (Or.inl (by decide)), gI_n (Or.inl (by decide)), gI_n (Or.inl (by decide))]; exact gI_s
      have d11 : g2.2.1 11 (g.2.1 1000 15).toNat = a := by rw [lo 11 _ (by decide), a3, gI_n (Or.inl (by decide)), gI_n (Or.inl (by decide))]; exact gI_s
      have d12 : g2.2.1 12 (g.2.1 1000 15).toNat = e := by rw [lo 12 _ (by decide), a3, gI_n (Or.inl (by decide))]; exact gI_s
      have co : ∀ x i, 9 ≤ x → x ≤ 12 → i ≠ (g.2.1 1000 15).toNat → g2.2.1 x i = g.2.1 x i := fun x i h1 h2 h3 => by
        rw [lo x i (by omega), a3, gI_n (Or.inl (by omega)), gI_n (Or.inr h3), gI_n (Or.inr h3), gI_n (Or.inr h3), gI_n (Or.inr h3)]
      refine ⟨⟨rel.MR hr (by intro a x; unfold a0; omega) (by unfold a0; omega) hM, ?_, (MVo.k (fun a k x => hr.2.1 a k (by unfold a0; omega) (by unfold W_sail; (try unfold scr); omega)) hV.2.1), (MVd.k (fun a k x => hr.2.1 a k (by unfold a0; omega) (by unfold W_sail; (try unfold scr); omega)) hV.2.2.1), (MVm.k (fun a k x => hr.2.1 a k (by unfold a0; omega) (by unfold W_sail; (try unfold scr); omega)) hV.2.2.2.1), ?_, (MVr.k (fun a k x => hr.2.1 a k (by unfold a0; omega) (by unfold W_sail; (try unfold scr); omega)) hV.2.2.2.2.2.1), (MVl.k (fun a k x => hr.2.1 a k (by unfold a0; omega) (by unfold W_sail; (try unfold scr); omega)) hV.2.2.2.2.2.2.1), (MVt.k (fun a k x => hr.2.1 a k (by unfold a0; omega) (by unfold W_sail; (try unfold scr); omega)) hV.2.2.2.2.2.2.2.1), (MVu.k (by omega) (fun a k x => hr.2.1 a k (by unfold a0; omega) (by unfold W_sail; (try unfold scr); omega)) hV.2.2.2.2.2.2.2.2)⟩, ⟨rel.CO hr (by unfold a0; omega) (Or.inl (by unfold a0; omega)) hO, rel.CL hr (by unfold a0; omega) (by intro k; unfold W_sail; (try unfold scr); omega) hl⟩, ⟨rel.COf hr (by intro a x; unfold a0; omega) (by intro a k x; unfold W_sail; (try unfold scr); omega) (by unfold a0; omega) (by omega) hof, rel.CDi hr (by intro a x; unfold a0; omega) (by intro a k x; unfold W_sail; (try unfold scr); omega) (by intro a x; unfold a0; omega) (by omega) hdi⟩, ⟨rel.CMk hr (by intro a x; unfold kpC at x; unfold a0; omega) (by intro a k x; unfold kpC at x; unfold W_sail; (try unfold scr); omega) (by intro a x; unfold kpC at x; unfold a0; omega) (by intro a x; unfold kpC at x; unfold a0; omega) (by intro a k x y; unfold W_sail at y; (try unfold scr at y); unfold scr; omega) (by omega) hC, rel.CWs hr (by intro a x y; unfold a0; omega) (by intro a x y; unfold a0; omega) hw, ?_, rel.CGs hr (by intro a x y; unfold a0; omega) (by unfold a0; omega) hG⟩, ⟨rel.CT hr (by intro a x; unfold a0; omega) (by intro a k x; unfold W_sail; (try unfold scr); omega) (by unfold a0; omega) hT, rel.CTr hr (by unfold a0; omega) (by unfold a0; omega) hTr, rel.FR hr (by intro a x; unfold a0; omega) (by intro k x; unfold W_sail; (try unfold scr); omega) hF⟩, bk, rel.CB hr (by intro a x; unfold a0; omega) (by intro a x; unfold a0; omega) hB, rel.CBv hr hB.1 (by intro a x; unfold a0; omega) (by intro a k x; have := hB.1; unfold W_sail; (try unfold scr); omega) (by omega) hBv⟩
      · unfold MVc
        rw [eo 1000 3 (by unfold a0; omega) (by unfold W_sail; omega), eo 1000 7 (by unfold a0; omega) (by unfold W_sail; omega), eo 1000 13 (by unfold a0; omega) (by unfold W_sail; omega), eo 1000 29 (by unfold a0; omega) (by unfold W_sail; omega), eo 1000 35 (by unfold a0; omega) (by unfold W_sail; omega), eN]; omega
      · intro i hi
        rw [eN] at hi
        by_cases x : i = (g.2.1 1000 15).toNat
        · subst x; rw [q6, q7, q8, q9]; omega
        · rw [ro 1016 i (by omega) (by omega) x, ro 1017 i (by omega) (by omega) x, ro 1018 i (by omega) (by omega) x, ro 1019 i (by omega) (by omega) x]; exact hV.2.2.2.2.1 i (by omega)
      · refine ⟨by rw [c8, eN], fun i hi => ?_, fun x y hx hy => by rw [eo (14 + x) y (by unfold a0; omega) (by unfold W_sail; omega), eo 1020 _ (by unfold a0; omega) (by unfold W_sail; omega)]; exact hv.2.2 x y hx hy⟩
        rw [eN] at hi
        by_cases x : i = (g.2.1 1000 15).toNat
        · subst x; rw [q6, q7, q8, q9, d9, d10, d11, d12]; exact ⟨rfl, rfl, rfl, rfl⟩
        · rw [ro 1016 i (by omega) (by omega) x, ro 1017 i (by omega) (by omega) x, ro 1018 i (by omega) (by omega) x, ro 1019 i (by omega) (by omega) x, co 9 i (by omega) (by omega) x, co 10 i (by omega) (by omega) x, co 11 i (by omega) (by omega) x, co 12 i (by omega) (by omega) x]; exact hv.2.1 i (by omega)
    · exact absurd b4 a4
    · exact absurd a1 b1
  · have k1 : kp g g1 := by rw [← a3]; exact rel.rf
    have hk := k1.t0
    refine ⟨⟨_, a2⟩, (hP.kp k1).m, fun r2 g2 h2 => ?_⟩
    rw [hk.cnt (k := 15) (by omega)] at h2
    rcases h2 with ⟨b1, b4, b2, b3⟩ | ⟨b1, b4, b2, b3⟩ | ⟨b1, b2, b3⟩
    · exfalso; first | exact b4 a4 | omega
    · exact ⟨a2.trans b2.symm, cpl_k0 hP k1 b3⟩
    · exact absurd a1 b1
  · have k1 : kp g g1 := by rw [← a3]; exact rel.rf
    have hk := k1.t0
    refine ⟨⟨_, a2⟩, (hP.kp k1).m, fun r2 g2 h2 => ?_⟩
    skip
    rcases h2 with ⟨b1, b4, b2, b3⟩ | ⟨b1, b4, b2, b3⟩ | ⟨b1, b2, b3⟩
    · exact absurd b1 a1
    · exact absurd b1 a1
    · exact ⟨a2.trans b2.symm, cpl_k0 hP k1 b3⟩
def W_text (a k : Nat) : Prop := (a = 26 ∧ k = 1) ∨ a = 27 ∨ a = 1028 ∨ (a = 1000 ∧ (k = 0 ∨ k = 29))
def W1_text (a k : Nat) : Prop := (a = 26 ∧ k = 1) ∨ a = 27
set_option maxHeartbeats 1000000 in
theorem J_clear {g g1 : GH} {r1 : AV} (hP : CPL g) (h1 : (fun r g' => r = vI (g.2.1 1000 29) ∧ g' = gI g 26 1 0) r1 g1) : (∃ z, r1 = vI z) ∧ (MR g1 ∧ MV g1.2.1) ∧ ∀ r2 g2, (fun r g' => r = vI ((gI g1 1000 0 0).2.1 1000 29) ∧ g' = gI (gI g1 1000 0 0) 1000 29 0) r2 g2 → r1 = r2 ∧ CPL g2 := by
  obtain ⟨⟨hM, hV⟩, ⟨hO, hl⟩, ⟨hof, hdi⟩, ⟨hC, hw, hv, hG⟩, ⟨hT, hTr, hF⟩, bk, hB, hBv⟩ := id hP
  have hcn := hV.1
  unfold MVc at hcn
  obtain ⟨a2, a3⟩ := h1
  have hr1 : rel a0 W1_text a0 a0 g g1 := by rw [a3]; exact rel.rf.wI (Or.inl (by unfold W1_text; omega))
  refine ⟨⟨_, a2⟩, (rlow hr1 (by intro a x; unfold a0; omega) (by unfold a0; omega) (by intro a k x y; unfold W1_text at y; unfold scr; omega) hP), fun r2 g2 h2 => ?_⟩
  obtain ⟨b2, b3⟩ := h2
  rw [((rel.i0 hr1 (a := 1000) (k := 29) (by unfold a0; omega) (by unfold W1_text; omega)).trans (if_neg (by omega)))] at b2
  refine ⟨a2.trans b2.symm, ?_⟩
  have hr : rel a0 W_text a0 a0 g g2 := by rw [b3]; exact (((hr1.mono (fun _ z => z) (by intro a k z; unfold W1_text at z; unfold W_text; omega) (fun _ z => z) (fun _ z => z)).wI (Or.inl (by unfold W_text; omega))).wI (Or.inl (by unfold W_text; omega)))
  have eo : ∀ a k, ¬ a0 a → ¬ W_text a k → g2.2.1 a k = g.2.1 a k := fun a k y x => hr.2.1 a k y x
  have e29 : g2.2.1 1000 29 = 0 := by rw [b3]; exact gI_s
  have e26 : g2.2.1 26 1 = 0 := by rw [b3, gI_n (Or.inl (by decide)), gI_n (Or.inl (by decide)), a3]; exact gI_s
  refine ⟨⟨rel.MR hr (by intro a x; unfold a0; omega) (by unfold a0; omega) hM, ?_, (MVo.k (fun a k x => hr.2.1 a k (by unfold a0; omega) (by unfold W_text; (try unfold scr); omega)) hV.2.1), (MVd.k (fun a k x => hr.2.1 a k (by unfold a0; omega) (by unfold W_text; (try unfold scr); omega)) hV.2.2.1), (MVm.k (fun a k x => hr.2.1 a k (by unfold a0; omega) (by unfold W_text; (try unfold scr); omega)) hV.2.2.2.1), (MVs.k (fun a k x => hr.2.1 a k (by unfold a0; omega) (by unfold W_text; (try unfold scr); omega)) hV.2.2.2.2.1), (MVr.k (fun a k x => hr.2.1 a k (by unfold a0; omega) (by unfold W_text; (try unfold scr); omega)) hV.2.2.2.2.2.1), (MVl.k (fun a k x => hr.2.1 a k (by unfold a0; omega) (by unfold W_text; (try unfold scr); omega)) hV.2.2.2.2.2.2.1), ?_, (MVu.k (by omega) (fun a k x => hr.2.1 a k (by unfold a0; omega) (by unfold W_text; (try unfold scr); omega)) hV.2.2.2.2.2.2.2.2)⟩, ⟨rel.CO hr (by unfold a0; omega) (Or.inl (by unfold a0; omega)) hO, rel.CL hr (by unfold a0; omega) (by intro k; unfold W_text; (try unfold scr); omega) hl⟩, ⟨rel.COf hr (by intro a x; unfold a0; omega) (by intro a k x; unfold W_text; (try unfold scr); omega) (by unfold a0; omega) (by omega) hof, rel.CDi hr (by intro a x; unfold a0; omega) (by intro a k x; unfold W_text; (try unfold scr); omega) (by intro a x; unfold a0; omega) (by omega) hdi⟩, ⟨rel.CMk hr (by intro a x; unfold kpC at x; unfold a0; omega) (by intro a k x; unfold kpC at x; unfold W_text; (try unfold scr); omega) (by intro a x; unfold kpC at x; unfold a0; omega) (by intro a x; unfold kpC at x; unfold a0; omega) (by intro a k x y; unfold W_text at y; (try unfold scr at y); unfold scr; omega) (by omega) hC, rel.CWs hr (by intro a x y; unfold a0; omega) (by intro a x y; unfold a0; omega) hw, rel.CWv hr (by intro a x; unfold a0; omega) (by intro a k x; unfold W_text; (try unfold scr); omega) hv, rel.CGs hr (by intro a x y; unfold a0; omega) (by unfold a0; omega) hG⟩, ⟨?_, rel.CTr hr (by unfold a0; omega) (by unfold a0; omega) hTr, rel.FR hr (by intro a x; unfold a0; omega) (by intro k x; unfold W_text; (try unfold scr); omega) hF⟩, bk, rel.CB hr (by intro a x; unfold a0; omega) (by intro a x; unfold a0; omega) hB, rel.CBv hr hB.1 (by intro a x; unfold a0; omega) (by intro a k x; have := hB.1; unfold W_text; (try unfold scr); omega) (by omega) hBv⟩
  · unfold MVc
    rw [eo 1000 3 (by unfold a0; omega) (by unfold W_text; omega), eo 1000 7 (by unfold a0; omega) (by unfold W_text; omega), eo 1000 13 (by unfold a0; omega) (by unfold W_text; omega), eo 1000 15 (by unfold a0; omega) (by unfold W_text; omega), eo 1000 35 (by unfold a0; omega) (by unfold W_text; omega), e29]; omega
  · intro k hk; rw [e29] at hk; omega
  · refine ⟨?_, ?_⟩
    · have := hT.1
      unfold TXs at this ⊢
      rw [hr.1 26 (by unfold a0; omega), hr.1 27 (by unfold a0; omega), hr.2.2.1 26 0 (by unfold a0; omega) (by unfold a0; omega)]; exact this
    · rw [e29]
      refine ⟨by omega, e26, fun k a b => by omega, fun k hk => ?_⟩
      unfold tx; rw [e29, if_neg (by omega)]
set_option maxHeartbeats 1000000 in
theorem J_type {g g1 : GH} {r1 : AV} {n : Int} {v : Int64} (hP : CPL g) (h1 : (fun r g' => ((1 ≤ n ∧ n ≤ 8) ∧ g.2.1 1000 29 + n ≤ 600 ∧ r = vI (g.2.1 1000 29 + n) ∧ sameB xA g g' ∧ g'.2.1 26 1 = g.2.1 1000 29 + n ∧ ∀ k : Nat, g'.2.1 27 k = if g.2.1 1000 29 ≤ k ∧ (k : Int) < g.2.1 1000 29 + n then sg (byt v (n - 1 - (k - g.2.1 1000 29))) else g.2.1 27 k) ∨ ((1 ≤ n ∧ n ≤ 8) ∧ 600 < g.2.1 1000 29 + n ∧ r = vI (-3) ∧ g = g') ∨ (¬ (1 ≤ n ∧ n ≤ 8) ∧ r = vI (-1) ∧ g = g')) r1 g1) : (∃ z, r1 = vI z) ∧ (MR g1 ∧ MV g1.2.1) ∧ ∀ r2 g2, (fun r g' => ((1 ≤ n ∧ n ≤ 8) ∧ (gI g1 1000 0 0).2.1 1000 29 + n ≤ 600 ∧ r = vI ((gI g1 1000 0 0).2.1 1000 29 + n) ∧ g' = ((gI g1 1000 0 0).1, typed v n ((gI g1 1000 0 0).2.1 1000 29) n (gI g1 1000 0 0).2.1, (gI g1 1000 0 0).2.2)) ∨ ((1 ≤ n ∧ n ≤ 8) ∧ 600 < (gI g1 1000 0 0).2.1 1000 29 + n ∧ r = vI (-3) ∧ g' = gI g1 1000 0 0) ∨ (¬ (1 ≤ n ∧ n ≤ 8) ∧ r = vI (-1) ∧ g' = gI g1 1000 0 0)) r2 g2 → r1 = r2 ∧ CPL g2 := by
  obtain ⟨⟨hM, hV⟩, ⟨hO, hl⟩, ⟨hof, hdi⟩, ⟨hC, hw, hv, hG⟩, ⟨hT, hTr, hF⟩, bk, hB, hBv⟩ := id hP
  have hcn := hV.1
  unfold MVc at hcn
  rcases h1 with ⟨a1, a4, a2, a3⟩ | ⟨a1, a4, a2, a3⟩ | ⟨a1, a2, a3⟩
  · obtain ⟨s1, c1, c2⟩ := a3
    have hr1 : rel a0 W1_text a0 a0 g g1 := rel.of s1 (by intro a k z; unfold xA at z; unfold W1_text; omega)
    refine ⟨⟨_, a2⟩, (rlow hr1 (by intro a x; unfold a0; omega) (by unfold a0; omega) (by intro a k x y; unfold W1_text at y; unfold scr; omega) hP), fun r2 g2 h2 => ?_⟩
    rw [((rel.i0 hr1 (a := 1000) (k := 29) (by unfold a0; omega) (by unfold W1_text; omega)).trans (if_neg (by omega)))] at h2
    rcases h2 with ⟨b1, b4, b2, b3⟩ | ⟨b1, b4, b2, b3⟩ | ⟨b1, b2, b3⟩
    · refine ⟨a2.trans b2.symm, ?_⟩
      have i2 : ∀ x i, g2.2.1 x i = typed v n (g.2.1 1000 29) n (gI g1 1000 0 0).2.1 x i := fun x i => by rw [b3]
      have hr : rel a0 W_text a0 a0 g g2 := by
        refine ⟨fun a x => by rw [b3]; exact hr1.1 a x, fun a k x y => ?_, fun a k x y => by rw [b3]; exact hr1.2.2.1 a k x y, fun a x y => by rw [b3]; exact hr1.2.2.2 a x y⟩
        rw [i2]
        unfold typed
        unfold W_text at y
        rw [if_neg (by omega), if_neg (by omega)]
        exact (gI_n (by omega)).trans (hr1.2.1 a k x (by unfold W1_text; omega))
      have eo : ∀ a k, ¬ a0 a → ¬ W_text a k → g2.2.1 a k = g.2.1 a k := fun a k y x => hr.2.1 a k y x
      have e29 : g2.2.1 1000 29 = (g.2.1 1000 29) + n := by rw [i2]; unfold typed; rw [if_neg (by omega), if_pos ⟨rfl, rfl⟩]
      have e28 : ∀ i : Nat, g2.2.1 1028 i = if (g.2.1 1000 29) ≤ i ∧ (i : Int) < (g.2.1 1000 29) + n then byt v (n - 1 - (i - (g.2.1 1000 29))) else g.2.1 1028 i := fun i => by
        rw [i2]; unfold typed
        by_cases y : (g.2.1 1000 29) ≤ i ∧ (i : Int) < (g.2.1 1000 29) + n
        · rw [if_pos ⟨rfl, y.1, y.2⟩, if_pos y]
        · rw [if_neg (fun z => y ⟨z.2.1, z.2.2⟩), if_neg (by omega), if_neg y]
          exact (gI_n (Or.inl (by decide))).trans (hr1.2.1 _ _ (by unfold a0; omega) (by unfold W1_text; omega))
      have lo : ∀ x i, x < 1000 → g2.2.1 x i = g1.2.1 x i := fun x i h1 => by
        rw [i2]; unfold typed
        rw [if_neg (by omega), if_neg (by omega)]
        exact gI_n (Or.inl (by omega))
      have hbt : ∀ i : Nat, (i : Int) < (g.2.1 1000 29) + n → 0 ≤ g2.2.1 1028 i ∧ g2.2.1 1028 i ≤ 255 := fun i hi => by
        rw [e28 i]
        by_cases y : (g.2.1 1000 29) ≤ i ∧ (i : Int) < (g.2.1 1000 29) + n
        · rw [if_pos y]; exact byt_b (by omega) (by omega)
        · rw [if_neg y]; exact hV.2.2.2.2.2.2.2.1 i (by omega)
      refine ⟨⟨rel.MR hr (by intro a x; unfold a0; omega) (by unfold a0; omega) hM, ?_, (MVo.k (fun a k x => hr.2.1 a k (by unfold a0; omega) (by unfold W_text; (try unfold scr); omega)) hV.2.1), (MVd.k (fun a k x => hr.2.1 a k (by unfold a0; omega) (by unfold W_text; (try unfold scr); omega)) hV.2.2.1), (MVm.k (fun a k x => hr.2.1 a k (by unfold a0; omega) (by unfold W_text; (try unfold scr); omega)) hV.2.2.2.1), (MVs.k (fun a k x => hr.2.1 a k (by unfold a0; omega) (by unfold W_text; (try unfold scr); omega)) hV.2.2.2.2.1), (MVr.k (fun a k x => hr.2.1 a k (by unfold a0; omega) (by unfold W_text; (try unfold scr); omega)) hV.2.2.2.2.2.1), (MVl.k (fun a k x => hr.2.1 a k (by unfold a0; omega) (by unfold W_text; (try unfold scr); omega)) hV.2.2.2.2.2.2.1), ?_, (MVu.k (by omega) (fun a k x => hr.2.1 a k (by unfold a0; omega) (by unfold W_text; (try unfold scr); omega)) hV.2.2.2.2.2.2.2.2)⟩, ⟨rel.CO hr (by unfold a0; omega) (Or.inl (by unfold a0; omega)) hO, rel.CL hr (by unfold a0; omega) (by intro k; unfold W_text; (try unfold scr); omega) hl⟩, ⟨rel.COf hr (by intro a x; unfold a0; omega) (by intro a k x; unfold W_text; (try unfold scr); omega) (by unfold a0; omega) (by omega) hof, rel.CDi hr (by intro a x; unfold a0; omega) (by intro a k x; unfold W_text; (try unfold scr); omega) (by intro a x; unfold a0; omega) (by omega) hdi⟩, ⟨rel.CMk hr (by intro a x; unfold kpC at x; unfold a0; omega) (by intro a k x; unfold kpC at x; unfold W_text; (try unfold scr); omega) (by intro a x; unfold kpC at x; unfold a0; omega) (by intro a x; unfold kpC at x; unfold a0; omega) (by intro a k x y; unfold W_text at y; (try unfold scr at y); unfold scr; omega) (by omega) hC, rel.CWs hr (by intro a x y; unfold a0; omega) (by intro a x y; unfold a0; omega) hw, rel.CWv hr (by intro a x; unfold a0; omega) (by intro a k x; unfold W_text; (try unfold scr); omega) hv, rel.CGs hr (by intro a x y; unfold a0; omega) (by unfold a0; omega) hG⟩, ⟨?_, rel.CTr hr (by unfold a0; omega) (by unfold a0; omega) hTr, rel.FR hr (by intro a x; unfold a0; omega) (by intro k x; unfold W_text; (try unfold scr); omega) hF⟩, bk, rel.CB hr (by intro a x; unfold a0; omega) (by intro a x; unfold a0; omega) hB, rel.CBv hr hB.1 (by intro a x; unfold a0; omega) (by intro a k x; have := hB.1; unfold W_text; (try unfold scr); omega) (by omega) hBv⟩
      · unfold MVc
        rw [eo 1000 3 (by unfold a0; omega) (by unfold W_text; omega), eo 1000 7 (by unfold a0; omega) (by unfold W_text; omega), eo 1000 13 (by unfold a0; omega) (by unfold W_text; omega), eo 1000 15 (by unfold a0; omega) (by unfold W_text; omega), eo 1000 35 (by unfold a0; omega) (by unfold W_text; omega), e29]; omega
      · intro i hi; rw [e29] at hi; exact hbt i hi
      · refine ⟨?_, ?_⟩
        · have := hT.1
          unfold TXs at this ⊢
          rw [hr.1 26 (by unfold a0; omega), hr.1 27 (by unfold a0; omega), hr.2.2.1 26 0 (by unfold a0; omega) (by unfold a0; omega)]; exact this
        · rw [e29]
          refine ⟨by omega, by rw [lo 26 1 (by decide)]; exact c1, fun k x y => ?_, fun k hk => ?_⟩
          · have ex : tx g2.2.1 k = g2.2.1 1028 k.toNat := by unfold tx; rw [e29, if_pos y]
            rw [ex]
            refine ⟨hbt k.toNat (by omega), ?_⟩
            rw [lo 27 _ (by decide), c2 k.toNat, e28 k.toNat]
            by_cases z : (g.2.1 1000 29) ≤ (k.toNat : Int) ∧ (k.toNat : Int) < (g.2.1 1000 29) + n
            · rw [if_pos z, if_pos z]
            · rw [if_neg z, if_neg z]
              have q := (hT.2.2.2.1 k x (by omega)).2
              have q2 : tx g.2.1 k = g.2.1 1028 k.toNat := by unfold tx; rw [if_pos (by omega)]
              rw [q, q2]
          · unfold tx; rw [e29, if_neg (by omega)]
    · exfalso; omega
    · exact absurd a1 b1
  · have k1 : kp g g1 := by rw [← a3]; exact rel.rf
    have hk := k1.t0
    refine ⟨⟨_, a2⟩, (hP.kp k1).m, fun r2 g2 h2 => ?_⟩
    rw [hk.cnt (k := 29) (by omega)] at h2
    rcases h2 with ⟨b1, b4, b2, b3⟩ | ⟨b1, b4, b2, b3⟩ | ⟨b1, b2, b3⟩
    · exfalso; first | exact b4 a4 | omega
    · exact ⟨a2.trans b2.symm, cpl_k0 hP k1 b3⟩
    · exact absurd a1 b1
  · have k1 : kp g g1 := by rw [← a3]; exact rel.rf
    have hk := k1.t0
    refine ⟨⟨_, a2⟩, (hP.kp k1).m, fun r2 g2 h2 => ?_⟩
    rw [hk.cnt (k := 29) (by omega)] at h2
    rcases h2 with ⟨b1, b4, b2, b3⟩ | ⟨b1, b4, b2, b3⟩ | ⟨b1, b2, b3⟩
    · exact absurd b1 a1
    · exact absurd b1 a1
    · exact ⟨a2.trans b2.symm, cpl_k0 hP k1 b3⟩
theorem MK_keep {g g' : GH} {m : Nat} (ks : ∀ a, a = 100 + m ∨ a = 200 + m ∨ a = 300 + m ∨ a = 400 + m → g'.1 a = g.1 a) (ki : ∀ a k, a = 100 + m ∨ a = 400 + m → g'.2.1 a k = g.2.1 a k) (kr : ∀ a k, a = 100 + m ∨ a = 200 + m → g'.2.2.2 a k = g.2.2.2 a k) (kl : g'.2.2.1 (300 + m) = g.2.2.1 (300 + m)) (e14 : ∀ j, j < 10 → g'.2.1 1014 (10 * m + j) = g.2.1 1014 (10 * m + j)) (ecan : canB g'.2.1 m = canB g.2.1 m) (etw : g.2.1 1014 (10 * m + 2) ≠ -9 → twn g'.2.1 m = twn g.2.1 m) (q : MK g m) : MK g' m := by
  obtain ⟨s, v, dd, t, rr, cc⟩ := q
  have k1 : ∀ k, g'.2.1 (100 + m) k = g.2.1 (100 + m) k := fun k => ki _ k (by omega)
  have k4 : ∀ k, g'.2.1 (400 + m) k = g.2.1 (400 + m) k := fun k => ki _ k (by omega)
  refine ⟨?_, ?_, ?_, ?_, ?_, ?_⟩
  · unfold MKs at s ⊢
    rw [ks _ (Or.inl rfl), ks _ (Or.inr (Or.inl rfl)), ks _ (Or.inr (Or.inr (Or.inl rfl))), ks _ (Or.inr (Or.inr (Or.inr rfl))), kr (100 + m) 3 (Or.inl rfl), kr (200 + m) 0 (Or.inr rfl), kr (100 + m) 4 (Or.inl rfl)]; exact s
  · unfold MKv at v ⊢
    have e0 := e14 0 (by decide)
    rw [Nat.add_zero] at e0
    rw [k1, k1, k1, k1, k1, k1, k1, e0, e14 1 (by decide), e14 9 (by decide), e14 8 (by decide), e14 2 (by decide), e14 3 (by decide), e14 4 (by decide)]; exact v
  · intro d hd; rw [kl, ecan]; exact dd d hd
  · refine ⟨by rw [k1]; exact t.1, fun i hi => ?_⟩
    rw [k1, Nat.add_assoc, e14 (5 + i) (by omega), ← Nat.add_assoc]; exact t.2 i hi
  · refine ⟨?_, fun h => ?_⟩
    · rw [kr (100 + m) 8 (Or.inl rfl), e14 2 (by decide)]; exact rr.1
    · rw [e14 2 (by decide)] at h
      rw [k1, etw h]; exact rr.2 h
  · refine ⟨by rw [k1, ecan]; exact cc.1, fun i hi => ?_⟩
    rw [ecan, k4]; exact cc.2 i hi
/-- marks look at dies and offices that stand -/
theorem canB_fine {h h' : Nat → Nat → Int} (hV : MV h) {m : Nat} (hm : (m : Int) < h 1000 13) (e14 : ∀ j, j < 10 → h' 1014 (10 * m + j) = h 1014 (10 * m + j)) (e8 : ∀ a (i : Nat), 1008 ≤ a → a ≤ 1012 → (i : Int) < h 1000 7 → h' a i = h a i) (e4 : ∀ a (i : Nat), 1004 ≤ a → a ≤ 1006 → (i : Int) < h 1000 3 → h' a i = h a i) : canB h' m = canB h m ∧ (h 1014 (10 * m + 2) ≠ -9 → twn h' m = twn h m) := by
  have x : ∀ j : Nat, j < 10 → h' 1014 (10 * (m : Int) + j).toNat = h 1014 (10 * (m : Int) + j).toNat := fun j hj => by
    rw [show (10 * (m : Int) + j).toNat = 10 * m + j by omega]; exact e14 j hj
  have q := hV.2.2.2.1 m (by omega) hm
  have hd : h 1014 (10 * (m : Int) + 2).toNat = -9 ∨ (0 ≤ h 1014 (10 * (m : Int) + 2).toNat ∧ h 1014 (10 * (m : Int) + 2).toNat < h 1000 7) := q.2.2.1
  have x2 := x 2 (by decide); have x3 := x 3 (by decide); have x4 := x 4 (by decide); have x5 := x 5 (by decide); have x6 := x 6 (by decide); have x7 := x 7 (by decide)
  have c2 : ((2 : Nat) : Int) = 2 := rfl
  have f : h 1014 (10 * (m : Int) + 2).toNat ≠ -9 → ∀ a, 1008 ≤ a → a ≤ 1012 → h' a (h 1014 (10 * (m : Int) + 2).toNat).toNat = h a (h 1014 (10 * (m : Int) + 2).toNat).toNat := fun z a h1 h2 => e8 a _ h1 h2 (by have := hd.resolve_left z; omega)
  have f2 : h 1014 (10 * (m : Int) + 2).toNat ≠ -9 → ∀ a, 1004 ≤ a → a ≤ 1006 → h' a (h 1008 (h 1014 (10 * (m : Int) + 2).toNat).toNat).toNat = h a (h 1008 (h 1014 (10 * (m : Int) + 2).toNat).toNat).toNat := fun z a h1 h2 => e4 a _ h1 h2 (by
    have y := hd.resolve_left z
    have := (hV.2.2.1 (h 1014 (10 * (m : Int) + 2).toNat).toNat (by omega)).1
    omega)
  refine ⟨?_, fun z => ?_⟩
  · funext d
    unfold canB datB
    have ed : (h' 1014 (10 * (m : Int) + 2).toNat = -9 ∨ dieB h' (h' 1014 (10 * (m : Int) + 2).toNat).toNat (h' 1014 (10 * (m : Int) + 3).toNat) (h' 1014 (10 * (m : Int) + 4).toNat) d) = (h 1014 (10 * (m : Int) + 2).toNat = -9 ∨ dieB h (h 1014 (10 * (m : Int) + 2).toNat).toNat (h 1014 (10 * (m : Int) + 3).toNat) (h 1014 (10 * (m : Int) + 4).toNat) d) := by
      rw [show h' 1014 (10 * (m : Int) + 2).toNat = h 1014 (10 * (m : Int) + 2).toNat from x2, show h' 1014 (10 * (m : Int) + 3).toNat = h 1014 (10 * (m : Int) + 3).toNat from x3, show h' 1014 (10 * (m : Int) + 4).toNat = h 1014 (10 * (m : Int) + 4).toNat from x4]
      by_cases z : h 1014 (10 * (m : Int) + 2).toNat = -9
      · exact propext ⟨fun _ => Or.inl z, fun _ => Or.inl z⟩
      · unfold dieB
        rw [f z 1008 (by omega) (by omega), f z 1009 (by omega) (by omega), f z 1010 (by omega) (by omega), f z 1011 (by omega) (by omega), f z 1012 (by omega) (by omega), f2 z 1005 (by omega) (by omega), f2 z 1006 (by omega) (by omega)]
    rw [show h' 1014 (10 * (m : Int) + 5).toNat = h 1014 (10 * (m : Int) + 5).toNat from x5, show h' 1014 (10 * (m : Int) + 6).toNat = h 1014 (10 * (m : Int) + 6).toNat from x6, show h' 1014 (10 * (m : Int) + 7).toNat = h 1014 (10 * (m : Int) + 7).toNat from x7, ed]
  · have z2 : h 1014 (10 * (m : Int) + 2).toNat ≠ -9 := by rw [show (10 * (m : Int) + 2).toNat = 10 * m + 2 by omega]; exact z
    unfold twn
    rw [show h' 1014 (10 * (m : Int) + 2).toNat = h 1014 (10 * (m : Int) + 2).toNat from x2, f z2 1008 (by omega) (by omega), f2 z2 1004 (by omega) (by omega)]
