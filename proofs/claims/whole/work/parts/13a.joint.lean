theorem HK.isOfB {h h' : Nat → Nat → Int} (q : HK h h') : isOfB h' = isOfB h := by
  funext c d m; unfold Jvm.Pilot.@@N@@.isOfB; rw [q.row (a := 1014) (by omega)]
theorem HK.mailB {h h' : Nat → Nat → Int} (q : HK h h') : mailB h' = mailB h := by
  funext a b D; unfold Jvm.Pilot.@@N@@.mailB pairB; rw [q.cnt (k := 13) (by omega), q.isOfB, q.row (a := 1014) (by omega), q.canB]
theorem HK.isHp {h h' : Nat → Nat → Int} (q : HK h h') : isHp h' = isHp h := by
  funext D c z; unfold Jvm.Pilot.@@N@@.isHp RR; rw [q.mailB]
theorem HK.mnyV {h h' : Nat → Nat → Int} (q : HK h h') : mnyV h' = mnyV h := by
  funext e D; unfold Jvm.Pilot.@@N@@.mnyV mnyN mnyS hsD hsE; rw [q.cnt (k := 13) (by omega), q.isOfB, q.row (a := 1014) (by omega), q.canB]
theorem HK.mostV {h h' : Nat → Nat → Int} (q : HK h h') : mostV h' = mostV h := by
  funext m i f
  induction f with
  | zero => rfl
  | succ f ih =>
    unfold Jvm.Pilot.@@N@@.mostV fgC; rw [ih, q.canB]
theorem HK.lkS {h h' : Nat → Nat → Int} (q : HK h h') : lkS h' = lkS h := by
  funext c D j
  induction j with
  | zero => rfl
  | succ j ih =>
    have e : lkP h' = lkP h := by
      funext c D m i
      unfold lkP; rw [q.isOfB, q.row (a := 1014) (by omega), q.mostV, q.canB]
    unfold Jvm.Pilot.@@N@@.lkS; rw [ih, q.mostV, e]
theorem HK.leanV {h h' : Nat → Nat → Int} (q : HK h h') : leanV h' = leanV h := by
  funext k m; unfold Jvm.Pilot.@@N@@.leanV lean1 lean0; rw [q.row (a := 1014) (by omega)]
theorem HK.goesR {h h' : Nat → Nat → Int} (q : HK h h') : goesR h' = goesR h := by
  funext c D L; unfold Jvm.Pilot.@@N@@.goesR; rw [q.WS, q.gst, q.wk]
theorem HK.barsR {h h' : Nat → Nat → Int} (q : HK h h') : barsR h' = barsR h := by
  funext c D; unfold Jvm.Pilot.@@N@@.barsR; rw [q.WS, q.gst, q.wk]
theorem HK.fsV {h h' : Nat → Nat → Int} (q : HK h h') : fsV h' = fsV h := by
  funext w k; unfold Jvm.Pilot.@@N@@.fsV; rw [q.gst]
theorem HK.whenR {h h' : Nat → Nat → Int} (q : HK h h') : whenR h' = whenR h := by
  funext c D i l; unfold Jvm.Pilot.@@N@@.whenR; rw [q.WS, q.gst, q.wk, q.lastJ, q.fsV]
theorem HK.fewR {h h' : Nat → Nat → Int} (q : HK h h') : fewR h' = fewR h := by
  funext c D k; unfold Jvm.Pilot.@@N@@.fewR gB; rw [q.WS, q.gst, q.wk]
theorem kp.t0 {g g1 : GH} (h : kp g g1) : HK g.2.1 (gI g1 1000 0 0).2.1 := (show kp g (gI g1 1000 0 0) from rel.tr h kp.th).hk
theorem cpl_k0 {g g1 g2 : GH} (hP : CPL g) (h : kp g g1) (e : g2 = gI g1 1000 0 0) : CPL g2 := by rw [e]; exact hP.kp (rel.tr h kp.th)
theorem cpl_k1 {g g1 g2 : GH} (hP : CPL g) (h : kp g g1) (e : Keep (gI g1 1000 0 0) g2) : CPL g2 := hP.kp (rel.tr (rel.tr h kp.th) (kp.keep e))
theorem CPL.m {g : GH} (h : CPL g) : MR g ∧ MV g.2.1 := h.1
set_option maxHeartbeats 1000000 in
theorem J_about {g g1 : GH} {r1 : AV} {m w : Int} (hP : CPL g) (h1 : (fun r g' => (((0 ≤ m ∧ m < g.2.1 1000 13) ∧ (0 ≤ w ∧ w ≤ 4)) ∧ r = vI (g.2.1 1014 (if w < 3 then 10 * m + w else if w = 3 then 10 * m + 8 else 10 * m + 9).toNat) ∧ g = g') ∨ (¬ ((0 ≤ m ∧ m < g.2.1 1000 13) ∧ (0 ≤ w ∧ w ≤ 4)) ∧ r = vI (-1) ∧ g = g')) r1 g1) : (∃ z, r1 = vI z) ∧ (MR g1 ∧ MV g1.2.1) ∧ ∀ r2 g2, (fun r g' => (((0 ≤ m ∧ m < (gI g1 1000 0 0).2.1 1000 13) ∧ (0 ≤ w ∧ w ≤ 4)) ∧ r = vI ((gI g1 1000 0 0).2.1 1014 (if w < 3 then 10 * m + w else if w = 3 then 10 * m + 8 else 10 * m + 9).toNat) ∧ g' = gI g1 1000 0 0) ∨ (¬ ((0 ≤ m ∧ m < (gI g1 1000 0 0).2.1 1000 13) ∧ (0 ≤ w ∧ w ≤ 4)) ∧ r = vI (-1) ∧ g' = gI g1 1000 0 0)) r2 g2 → r1 = r2 ∧ CPL g2 := by
  have k1 : kp g g1 := by rcases h1 with ⟨a1, a2, a3⟩ | ⟨a1, a2, a3⟩ <;> first | exact a3 | (rw [← a3]; exact rel.rf)
  have hk := k1.t0
  refine ⟨?_, (hP.kp k1).m, fun r2 g2 h2 => ?_⟩
  · rcases h1 with ⟨a1, a2, a3⟩ | ⟨a1, a2, a3⟩ <;> exact ⟨_, a2⟩
  · rcases h2 with ⟨b1, b2, b3⟩ | ⟨b1, b2, b3⟩
    · rw [hk.cnt (k := 13) (by omega)] at b1; rw [hk.row (a := 1014) (by omega)] at b2
      rcases h1 with ⟨a1, a2, a3⟩ | ⟨a1, a2, a3⟩
      · exact ⟨a2.trans b2.symm, cpl_k0 hP k1 b3⟩
      · exact absurd b1 a1
    · rw [hk.cnt (k := 13) (by omega)] at b1
      rcases h1 with ⟨a1, a2, a3⟩ | ⟨a1, a2, a3⟩
      · exact absurd a1 b1
      · exact ⟨a2.trans b2.symm, cpl_k0 hP k1 b3⟩
set_option maxHeartbeats 1000000 in
theorem J_span {g g1 : GH} {r1 : AV} {m w : Int} (hP : CPL g) (h1 : (fun r g' => (((0 ≤ m ∧ m < g.2.1 1000 13) ∧ (0 ≤ w ∧ w ≤ 2)) ∧ r = vI (if w = 0 then cnt (canB g.2.1 m) 1000 else sv w (canB g.2.1 m) 1000) ∧ g = g') ∨ (¬ ((0 ≤ m ∧ m < g.2.1 1000 13) ∧ (0 ≤ w ∧ w ≤ 2)) ∧ r = vI (-1) ∧ g = g')) r1 g1) : (∃ z, r1 = vI z) ∧ (MR g1 ∧ MV g1.2.1) ∧ ∀ r2 g2, (fun r g' => (((0 ≤ m ∧ m < (gI g1 1000 0 0).2.1 1000 13) ∧ (0 ≤ w ∧ w ≤ 2)) ∧ r = vI (if w = 0 then cnt (canB (gI g1 1000 0 0).2.1 m) 1000 else sv w (canB (gI g1 1000 0 0).2.1 m) 1000) ∧ g' = gI g1 1000 0 0) ∨ (¬ ((0 ≤ m ∧ m < (gI g1 1000 0 0).2.1 1000 13) ∧ (0 ≤ w ∧ w ≤ 2)) ∧ r = vI (-1) ∧ g' = gI g1 1000 0 0)) r2 g2 → r1 = r2 ∧ CPL g2 := by
  have k1 : kp g g1 := by rcases h1 with ⟨a1, a2, a3⟩ | ⟨a1, a2, a3⟩ <;> first | exact a3 | (rw [← a3]; exact rel.rf)
  have hk := k1.t0
  refine ⟨?_, (hP.kp k1).m, fun r2 g2 h2 => ?_⟩
  · rcases h1 with ⟨a1, a2, a3⟩ | ⟨a1, a2, a3⟩ <;> exact ⟨_, a2⟩
  · rcases h2 with ⟨b1, b2, b3⟩ | ⟨b1, b2, b3⟩
    · rw [hk.cnt (k := 13) (by omega)] at b1; rw [hk.canB] at b2
      rcases h1 with ⟨a1, a2, a3⟩ | ⟨a1, a2, a3⟩
      · exact ⟨a2.trans b2.symm, cpl_k0 hP k1 b3⟩
      · exact absurd b1 a1
    · rw [hk.cnt (k := 13) (by omega)] at b1
      rcases h1 with ⟨a1, a2, a3⟩ | ⟨a1, a2, a3⟩
      · exact absurd a1 b1
      · exact ⟨a2.trans b2.symm, cpl_k0 hP k1 b3⟩
set_option maxHeartbeats 1000000 in
theorem J_marks {g g1 : GH} {r1 : AV} {c d : Int} (hP : CPL g) (h1 : (fun r g' => (((0 ≤ c ∧ c ≤ 7) ∧ (0 ≤ d ∧ d ≤ 999)) ∧ r = vI (cnt (isOfB g.2.1 c d) (g.2.1 1000 13).toNat) ∧ g = g') ∨ (¬ ((0 ≤ c ∧ c ≤ 7) ∧ (0 ≤ d ∧ d ≤ 999)) ∧ r = vI (-1) ∧ g = g')) r1 g1) : (∃ z, r1 = vI z) ∧ (MR g1 ∧ MV g1.2.1) ∧ ∀ r2 g2, (fun r g' => (((0 ≤ c ∧ c ≤ 7) ∧ (0 ≤ d ∧ d ≤ 999)) ∧ r = vI (cnt (isOfB (gI g1 1000 0 0).2.1 c d) ((gI g1 1000 0 0).2.1 1000 13).toNat) ∧ g' = gI g1 1000 0 0) ∨ (¬ ((0 ≤ c ∧ c ≤ 7) ∧ (0 ≤ d ∧ d ≤ 999)) ∧ r = vI (-1) ∧ g' = gI g1 1000 0 0)) r2 g2 → r1 = r2 ∧ CPL g2 := by
  have k1 : kp g g1 := by rcases h1 with ⟨a1, a2, a3⟩ | ⟨a1, a2, a3⟩ <;> first | exact a3 | (rw [← a3]; exact rel.rf)
  have hk := k1.t0
  refine ⟨?_, (hP.kp k1).m, fun r2 g2 h2 => ?_⟩
  · rcases h1 with ⟨a1, a2, a3⟩ | ⟨a1, a2, a3⟩ <;> exact ⟨_, a2⟩
  · rcases h2 with ⟨b1, b2, b3⟩ | ⟨b1, b2, b3⟩
    · rw [hk.cnt (k := 13) (by omega), hk.isOfB] at b2
      rcases h1 with ⟨a1, a2, a3⟩ | ⟨a1, a2, a3⟩
      · exact ⟨a2.trans b2.symm, cpl_k0 hP k1 b3⟩
      · exact absurd b1 a1
    · skip
      rcases h1 with ⟨a1, a2, a3⟩ | ⟨a1, a2, a3⟩
      · exact absurd a1 b1
      · exact ⟨a2.trans b2.symm, cpl_k0 hP k1 b3⟩
set_option maxHeartbeats 1000000 in
theorem J_look {g g1 : GH} {r1 : AV} {c d : Int} (hP : CPL g) (h1 : (fun r g' => (((0 ≤ c ∧ c ≤ 7) ∧ (0 ≤ d ∧ d ≤ 999)) ∧ r = vI ((lkS g.2.1 c d (3 * (g.2.1 1000 13).toNat)).1) ∧ g = g') ∨ (¬ ((0 ≤ c ∧ c ≤ 7) ∧ (0 ≤ d ∧ d ≤ 999)) ∧ r = vI (-1) ∧ g = g')) r1 g1) : (∃ z, r1 = vI z) ∧ (MR g1 ∧ MV g1.2.1) ∧ ∀ r2 g2, (fun r g' => (((0 ≤ c ∧ c ≤ 7) ∧ (0 ≤ d ∧ d ≤ 999)) ∧ r = vI (lkS (gI g1 1000 0 0).2.1 c d (3 * ((gI g1 1000 0 0).2.1 1000 13).toNat)).1 ∧ g' = gI g1 1000 0 0) ∨ (¬ ((0 ≤ c ∧ c ≤ 7) ∧ (0 ≤ d ∧ d ≤ 999)) ∧ r = vI (-1) ∧ g' = gI g1 1000 0 0)) r2 g2 → r1 = r2 ∧ CPL g2 := by
  have k1 : kp g g1 := by rcases h1 with ⟨a1, a2, a3⟩ | ⟨a1, a2, a3⟩ <;> first | exact a3 | (rw [← a3]; exact rel.rf)
  have hk := k1.t0
  refine ⟨?_, (hP.kp k1).m, fun r2 g2 h2 => ?_⟩
  · rcases h1 with ⟨a1, a2, a3⟩ | ⟨a1, a2, a3⟩ <;> exact ⟨_, a2⟩
  · rcases h2 with ⟨b1, b2, b3⟩ | ⟨b1, b2, b3⟩
    · rw [hk.cnt (k := 13) (by omega), hk.lkS] at b2
      rcases h1 with ⟨a1, a2, a3⟩ | ⟨a1, a2, a3⟩
      · exact ⟨a2.trans b2.symm, cpl_k0 hP k1 b3⟩
      · exact absurd b1 a1
    · skip
      rcases h1 with ⟨a1, a2, a3⟩ | ⟨a1, a2, a3⟩
      · exact absurd a1 b1
      · exact ⟨a2.trans b2.symm, cpl_k0 hP k1 b3⟩
set_option maxHeartbeats 1000000 in
theorem J_mail {g g1 : GH} {r1 : AV} {a b d : Int} (hP : CPL g) (h1 : (fun r g' => (((0 ≤ a ∧ a ≤ 7) ∧ (0 ≤ b ∧ b ≤ 7) ∧ a ≠ b ∧ (0 ≤ d ∧ d ≤ 999)) ∧ r = vI (ci (mailB g.2.1 a b d)) ∧ g = g') ∨ (¬ ((0 ≤ a ∧ a ≤ 7) ∧ (0 ≤ b ∧ b ≤ 7) ∧ a ≠ b ∧ (0 ≤ d ∧ d ≤ 999)) ∧ r = vI (-1) ∧ g = g')) r1 g1) : (∃ z, r1 = vI z) ∧ (MR g1 ∧ MV g1.2.1) ∧ ∀ r2 g2, (fun r g' => (((0 ≤ a ∧ a ≤ 7) ∧ (0 ≤ b ∧ b ≤ 7) ∧ a ≠ b ∧ (0 ≤ d ∧ d ≤ 999)) ∧ r = vI (ci (mailB (gI g1 1000 0 0).2.1 a b d)) ∧ g' = gI g1 1000 0 0) ∨ (¬ ((0 ≤ a ∧ a ≤ 7) ∧ (0 ≤ b ∧ b ≤ 7) ∧ a ≠ b ∧ (0 ≤ d ∧ d ≤ 999)) ∧ r = vI (-1) ∧ g' = gI g1 1000 0 0)) r2 g2 → r1 = r2 ∧ CPL g2 := by
  have k1 : kp g g1 := by rcases h1 with ⟨a1, a2, a3⟩ | ⟨a1, a2, a3⟩ <;> first | exact a3 | (rw [← a3]; exact rel.rf)
  have hk := k1.t0
  refine ⟨?_, (hP.kp k1).m, fun r2 g2 h2 => ?_⟩
  · rcases h1 with ⟨a1, a2, a3⟩ | ⟨a1, a2, a3⟩ <;> exact ⟨_, a2⟩
  · rcases h2 with ⟨b1, b2, b3⟩ | ⟨b1, b2, b3⟩
    · rw [hk.mailB] at b2
      rcases h1 with ⟨a1, a2, a3⟩ | ⟨a1, a2, a3⟩
      · exact ⟨a2.trans b2.symm, cpl_k0 hP k1 b3⟩
      · exact absurd b1 a1
    · skip
      rcases h1 with ⟨a1, a2, a3⟩ | ⟨a1, a2, a3⟩
      · exact absurd a1 b1
      · exact ⟨a2.trans b2.symm, cpl_k0 hP k1 b3⟩
set_option maxHeartbeats 1000000 in
theorem J_many {g g1 : GH} {r1 : AV} {e d : Int} (hP : CPL g) (h1 : (fun r g' => (((0 ≤ e ∧ e < g.2.1 1000 7) ∧ (0 ≤ d ∧ d ≤ 999)) ∧ r = vI (mnyV g.2.1 e d) ∧ g = g') ∨ (¬ ((0 ≤ e ∧ e < g.2.1 1000 7) ∧ (0 ≤ d ∧ d ≤ 999)) ∧ r = vI (-1) ∧ g = g')) r1 g1) : (∃ z, r1 = vI z) ∧ (MR g1 ∧ MV g1.2.1) ∧ ∀ r2 g2, (fun r g' => (((0 ≤ e ∧ e < (gI g1 1000 0 0).2.1 1000 7) ∧ (0 ≤ d ∧ d ≤ 999)) ∧ r = vI (mnyV (gI g1 1000 0 0).2.1 e d) ∧ Keep (gI g1 1000 0 0) g') ∨ (¬ ((0 ≤ e ∧ e < (gI g1 1000 0 0).2.1 1000 7) ∧ (0 ≤ d ∧ d ≤ 999)) ∧ r = vI (-1) ∧ g' = gI g1 1000 0 0)) r2 g2 → r1 = r2 ∧ CPL g2 := by
  have k1 : kp g g1 := by rcases h1 with ⟨a1, a2, a3⟩ | ⟨a1, a2, a3⟩ <;> first | exact a3 | (rw [← a3]; exact rel.rf)
  have hk := k1.t0
  refine ⟨?_, (hP.kp k1).m, fun r2 g2 h2 => ?_⟩
  · rcases h1 with ⟨a1, a2, a3⟩ | ⟨a1, a2, a3⟩ <;> exact ⟨_, a2⟩
  · rcases h2 with ⟨b1, b2, b3⟩ | ⟨b1, b2, b3⟩
    · rw [hk.cnt (k := 7) (by omega)] at b1; rw [hk.mnyV] at b2
      rcases h1 with ⟨a1, a2, a3⟩ | ⟨a1, a2, a3⟩
      · exact ⟨a2.trans b2.symm, cpl_k1 hP k1 b3⟩
      · exact absurd b1 a1
    · rw [hk.cnt (k := 7) (by omega)] at b1
      rcases h1 with ⟨a1, a2, a3⟩ | ⟨a1, a2, a3⟩
      · exact absurd a1 b1
      · exact ⟨a2.trans b2.symm, cpl_k0 hP k1 b3⟩
set_option maxHeartbeats 1000000 in
theorem J_soonest {g g1 : GH} {r1 : AV} {f d t : Int} (hP : CPL g) (h1 : (fun r g' => (((0 ≤ f ∧ f ≤ 5) ∧ (0 ≤ d ∧ d ≤ 999) ∧ (0 ≤ t ∧ t ≤ 5)) ∧ r = vI (if 999 < soonV g.2.1 f.toNat d t.toNat then -9 else soonV g.2.1 f.toNat d t.toNat) ∧ kp g g') ∨ (¬ ((0 ≤ f ∧ f ≤ 5) ∧ (0 ≤ d ∧ d ≤ 999) ∧ (0 ≤ t ∧ t ≤ 5)) ∧ r = vI (-1) ∧ g = g')) r1 g1) : (∃ z, r1 = vI z) ∧ (MR g1 ∧ MV g1.2.1) ∧ ∀ r2 g2, (fun r g' => (((0 ≤ f ∧ f ≤ 5) ∧ (0 ≤ d ∧ d ≤ 999) ∧ (0 ≤ t ∧ t ≤ 5)) ∧ r = vI (if 999 < soonV (gI g1 1000 0 0).2.1 f.toNat d t.toNat then -9 else soonV (gI g1 1000 0 0).2.1 f.toNat d t.toNat) ∧ Keep (gI g1 1000 0 0) g') ∨ (¬ ((0 ≤ f ∧ f ≤ 5) ∧ (0 ≤ d ∧ d ≤ 999) ∧ (0 ≤ t ∧ t ≤ 5)) ∧ r = vI (-1) ∧ g' = gI g1 1000 0 0)) r2 g2 → r1 = r2 ∧ CPL g2 := by
  have k1 : kp g g1 := by rcases h1 with ⟨a1, a2, a3⟩ | ⟨a1, a2, a3⟩ <;> first | exact a3 | (rw [← a3]; exact rel.rf)
  have hk := k1.t0
  refine ⟨?_, (hP.kp k1).m, fun r2 g2 h2 => ?_⟩
  · rcases h1 with ⟨a1, a2, a3⟩ | ⟨a1, a2, a3⟩ <;> exact ⟨_, a2⟩
  · rcases h2 with ⟨b1, b2, b3⟩ | ⟨b1, b2, b3⟩
    · rw [hk.soonV] at b2
      rcases h1 with ⟨a1, a2, a3⟩ | ⟨a1, a2, a3⟩
      · exact ⟨a2.trans b2.symm, cpl_k1 hP k1 b3⟩
      · exact absurd b1 a1
    · skip
      rcases h1 with ⟨a1, a2, a3⟩ | ⟨a1, a2, a3⟩
      · exact absurd a1 b1
      · exact ⟨a2.trans b2.symm, cpl_k0 hP k1 b3⟩
set_option maxHeartbeats 1000000 in
theorem J_can {g g1 : GH} {r1 : AV} {m d : Int} (hP : CPL g) (h1 : (fun r g' => (((0 ≤ m ∧ m < g.2.1 1000 13) ∧ (0 ≤ d ∧ d ≤ 999)) ∧ r = vI (ci (canB g.2.1 m d)) ∧ g = g') ∨ (¬ ((0 ≤ m ∧ m < g.2.1 1000 13) ∧ (0 ≤ d ∧ d ≤ 999)) ∧ r = vI (-1) ∧ g = g')) r1 g1) : (∃ z, r1 = vI z) ∧ (MR g1 ∧ MV g1.2.1) ∧ ∀ r2 g2, (fun r g' => (((0 ≤ m ∧ m < (gI g1 1000 0 0).2.1 1000 13) ∧ (0 ≤ d ∧ d ≤ 999)) ∧ (∃ b, r = vI b ∧ isb b (canB (gI g1 1000 0 0).2.1 m d)) ∧ g' = gI g1 1000 0 0) ∨ (¬ ((0 ≤ m ∧ m < (gI g1 1000 0 0).2.1 1000 13) ∧ (0 ≤ d ∧ d ≤ 999)) ∧ r = vI (-1) ∧ g' = gI g1 1000 0 0)) r2 g2 → r1 = r2 ∧ CPL g2 := by
  have k1 : kp g g1 := by rcases h1 with ⟨a1, a2, a3⟩ | ⟨a1, a2, a3⟩ <;> first | exact a3 | (rw [← a3]; exact rel.rf)
  have hk := k1.t0
  refine ⟨?_, (hP.kp k1).m, fun r2 g2 h2 => ?_⟩
  · rcases h1 with ⟨a1, a2, a3⟩ | ⟨a1, a2, a3⟩ <;> exact ⟨_, a2⟩
  · rcases h2 with ⟨b1, b2, b3⟩ | ⟨b1, b2, b3⟩
    · rw [hk.cnt (k := 13) (by omega)] at b1; obtain ⟨b, rfl, b2⟩ := b2; rw [hk.canB] at b2; have b2 : vI b = vI (ci (canB g.2.1 m d)) := congrArg vI (ci_isb b2)
      rcases h1 with ⟨a1, a2, a3⟩ | ⟨a1, a2, a3⟩
      · exact ⟨a2.trans b2.symm, cpl_k0 hP k1 b3⟩
      · exact absurd b1 a1
    · rw [hk.cnt (k := 13) (by omega)] at b1
      rcases h1 with ⟨a1, a2, a3⟩ | ⟨a1, a2, a3⟩
      · exact absurd a1 b1
      · exact ⟨a2.trans b2.symm, cpl_k0 hP k1 b3⟩
set_option maxHeartbeats 1000000 in
theorem J_heap {g g1 : GH} {r1 : AV} {c d : Int} (hP : CPL g) (h1 : (fun r g' => (((0 ≤ c ∧ c ≤ 7) ∧ (0 ≤ d ∧ d ≤ 999)) ∧ (∃ z : Nat, r = vI (z : Int) ∧ isHp g.2.1 d c z) ∧ g = g') ∨ (¬ ((0 ≤ c ∧ c ≤ 7) ∧ (0 ≤ d ∧ d ≤ 999)) ∧ r = vI (-1) ∧ g = g')) r1 g1) : (∃ z, r1 = vI z) ∧ (MR g1 ∧ MV g1.2.1) ∧ ∀ r2 g2, (fun r g' => (((0 ≤ c ∧ c ≤ 7) ∧ (0 ≤ d ∧ d ≤ 999)) ∧ (∃ z : Nat, r = vI (z : Int) ∧ isHp (gI g1 1000 0 0).2.1 d c z) ∧ g' = gI g1 1000 0 0) ∨ (¬ ((0 ≤ c ∧ c ≤ 7) ∧ (0 ≤ d ∧ d ≤ 999)) ∧ r = vI (-1) ∧ g' = gI g1 1000 0 0)) r2 g2 → r1 = r2 ∧ CPL g2 := by
  have k1 : kp g g1 := by rcases h1 with ⟨a1, a2, a3⟩ | ⟨a1, a2, a3⟩ <;> (rw [← a3]; exact rel.rf)
  have hk := k1.t0
  refine ⟨?_, (hP.kp k1).m, fun r2 g2 h2 => ?_⟩
  · rcases h1 with ⟨a1, ⟨z, a2, _⟩, a3⟩ | ⟨a1, a2, a3⟩ <;> exact ⟨_, a2⟩
  · rw [hk.isHp] at h2
    rcases h2 with ⟨b1, ⟨y, b2, b4⟩, b3⟩ | ⟨b1, b2, b3⟩
    · rcases h1 with ⟨a1, ⟨z, a2, a4⟩, a3⟩ | ⟨a1, a2, a3⟩
      · exact ⟨a2.trans (by rw [b2, a4.un b4]), cpl_k0 hP k1 b3⟩
      · exact absurd b1 a1
    · rcases h1 with ⟨a1, a2, a3⟩ | ⟨a1, a2, a3⟩
      · exact absurd a1 b1
      · exact ⟨a2.trans b2.symm, cpl_k0 hP k1 b3⟩
set_option maxHeartbeats 1000000 in
theorem J_owed {g g1 : GH} {r1 : AV} {f t d w k : Int} (hP : CPL g) (h1 : (fun r g' => (((0 ≤ f ∧ f ≤ 2) ∧ (0 ≤ t ∧ t ≤ 2) ∧ (0 ≤ d ∧ d ≤ 999) ∧ (1 ≤ w ∧ w ≤ 2000) ∧ (0 ≤ k ∧ k ≤ 3)) ∧ r = vI (if (rOf g.2.1 f t d) = -9 then -9 else owedV g.2.1 (rOf g.2.1 f t d) w k) ∧ g = g') ∨ (¬ ((0 ≤ f ∧ f ≤ 2) ∧ (0 ≤ t ∧ t ≤ 2) ∧ (0 ≤ d ∧ d ≤ 999) ∧ (1 ≤ w ∧ w ≤ 2000) ∧ (0 ≤ k ∧ k ≤ 3)) ∧ r = vI (-1) ∧ g = g')) r1 g1) : (∃ z, r1 = vI z) ∧ (MR g1 ∧ MV g1.2.1) ∧ ∀ r2 g2, (fun r g' => (((0 ≤ f ∧ f ≤ 2) ∧ (0 ≤ t ∧ t ≤ 2) ∧ (0 ≤ d ∧ d ≤ 999) ∧ (1 ≤ w ∧ w ≤ 2000) ∧ (0 ≤ k ∧ k ≤ 3)) ∧ r = vI (if rOf (gI g1 1000 0 0).2.1 f t d = -9 then -9 else owedV (gI g1 1000 0 0).2.1 (rOf (gI g1 1000 0 0).2.1 f t d) w k) ∧ g' = gI g1 1000 0 0) ∨ (¬ ((0 ≤ f ∧ f ≤ 2) ∧ (0 ≤ t ∧ t ≤ 2) ∧ (0 ≤ d ∧ d ≤ 999) ∧ (1 ≤ w ∧ w ≤ 2000) ∧ (0 ≤ k ∧ k ≤ 3)) ∧ r = vI (-1) ∧ g' = gI g1 1000 0 0)) r2 g2 → r1 = r2 ∧ CPL g2 := by
  have k1 : kp g g1 := by rcases h1 with ⟨a1, a2, a3⟩ | ⟨a1, a2, a3⟩ <;> first | exact a3 | (rw [← a3]; exact rel.rf)
  have hk := k1.t0
  refine ⟨?_, (hP.kp k1).m, fun r2 g2 h2 => ?_⟩
  · rcases h1 with ⟨a1, a2, a3⟩ | ⟨a1, a2, a3⟩ <;> exact ⟨_, a2⟩
  · rcases h2 with ⟨b1, b2, b3⟩ | ⟨b1, b2, b3⟩
    · have r37 : (gI g1 1000 0 0).2.1 1037 = g.2.1 1037 := (by have e : g1 = g := (by rcases h1 with ⟨_, _, q⟩ | ⟨_, _, q⟩ <;> exact q.symm); rw [e]; exact funext fun k => gI_n (Or.inl (by decide)))
      unfold owedV oBy rOf ruM at b2; rw [r37, hk.cnt (k := 35) (by omega)] at b2
      rcases h1 with ⟨a1, a2, a3⟩ | ⟨a1, a2, a3⟩
      · exact ⟨a2.trans b2.symm, cpl_k0 hP k1 b3⟩
      · exact absurd b1 a1
    · skip
      rcases h1 with ⟨a1, a2, a3⟩ | ⟨a1, a2, a3⟩
      · exact absurd a1 b1
      · exact ⟨a2.trans b2.symm, cpl_k0 hP k1 b3⟩
set_option maxHeartbeats 1000000 in
theorem J_weights {g g1 : GH} {r1 : AV} {f t d s k : Int} (hP : CPL g) (h1 : (fun r g' => (((0 ≤ f ∧ f ≤ 2) ∧ (0 ≤ t ∧ t ≤ 2) ∧ (0 ≤ d ∧ d ≤ 999) ∧ (0 ≤ s ∧ s ≤ 2000000) ∧ (0 ≤ k ∧ k ≤ 2)) ∧ r = vI (wgtV g.2.1 (rOf g.2.1 f t d) s k) ∧ g = g') ∨ (¬ ((0 ≤ f ∧ f ≤ 2) ∧ (0 ≤ t ∧ t ≤ 2) ∧ (0 ≤ d ∧ d ≤ 999) ∧ (0 ≤ s ∧ s ≤ 2000000) ∧ (0 ≤ k ∧ k ≤ 2)) ∧ r = vI (-1) ∧ g = g')) r1 g1) : (∃ z, r1 = vI z) ∧ (MR g1 ∧ MV g1.2.1) ∧ ∀ r2 g2, (fun r g' => (((0 ≤ f ∧ f ≤ 2) ∧ (0 ≤ t ∧ t ≤ 2) ∧ (0 ≤ d ∧ d ≤ 999) ∧ (0 ≤ s ∧ s ≤ 2000000) ∧ (0 ≤ k ∧ k ≤ 2)) ∧ r = vI (wgtV (gI g1 1000 0 0).2.1 (rOf (gI g1 1000 0 0).2.1 f t d) s k) ∧ g' = gI g1 1000 0 0) ∨ (¬ ((0 ≤ f ∧ f ≤ 2) ∧ (0 ≤ t ∧ t ≤ 2) ∧ (0 ≤ d ∧ d ≤ 999) ∧ (0 ≤ s ∧ s ≤ 2000000) ∧ (0 ≤ k ∧ k ≤ 2)) ∧ r = vI (-1) ∧ g' = gI g1 1000 0 0)) r2 g2 → r1 = r2 ∧ CPL g2 := by
  have k1 : kp g g1 := by rcases h1 with ⟨a1, a2, a3⟩ | ⟨a1, a2, a3⟩ <;> first | exact a3 | (rw [← a3]; exact rel.rf)
  have hk := k1.t0
  refine ⟨?_, (hP.kp k1).m, fun r2 g2 h2 => ?_⟩
  · rcases h1 with ⟨a1, a2, a3⟩ | ⟨a1, a2, a3⟩ <;> exact ⟨_, a2⟩
  · rcases h2 with ⟨b1, b2, b3⟩ | ⟨b1, b2, b3⟩
    · have r37 : (gI g1 1000 0 0).2.1 1037 = g.2.1 1037 := (by have e : g1 = g := (by rcases h1 with ⟨_, _, q⟩ | ⟨_, _, q⟩ <;> exact q.symm); rw [e]; exact funext fun k => gI_n (Or.inl (by decide)))
      unfold wgtV wP oBy rOf ruM at b2; rw [r37, hk.cnt (k := 35) (by omega)] at b2
      rcases h1 with ⟨a1, a2, a3⟩ | ⟨a1, a2, a3⟩
      · exact ⟨a2.trans b2.symm, cpl_k0 hP k1 b3⟩
      · exact absurd b1 a1
    · skip
      rcases h1 with ⟨a1, a2, a3⟩ | ⟨a1, a2, a3⟩
      · exact absurd a1 b1
      · exact ⟨a2.trans b2.symm, cpl_k0 hP k1 b3⟩
set_option maxHeartbeats 1000000 in
theorem J_goes {g g1 : GH} {r1 : AV} {c D L : Int} (hP : CPL g) (h1 : (fun r g' => r = vI (goesR g.2.1 c D L) ∧ kp g g') r1 g1) : (∃ z, r1 = vI z) ∧ (MR g1 ∧ MV g1.2.1) ∧ ∀ r2 g2, (fun r g' => r = vI (goesR (gI g1 1000 0 0).2.1 c D L) ∧ Keep (gI g1 1000 0 0) g') r2 g2 → r1 = r2 ∧ CPL g2 := by
  obtain ⟨a1, k1⟩ := h1
  have hk := k1.t0
  refine ⟨⟨_, a1⟩, (hP.kp k1).m, fun r2 g2 h2 => ?_⟩
  obtain ⟨b1, b2⟩ := h2
  rw [hk.goesR] at b1
  exact ⟨a1.trans b1.symm, cpl_k1 hP k1 b2⟩
set_option maxHeartbeats 1000000 in
theorem J_bars {g g1 : GH} {r1 : AV} {c D : Int} (hP : CPL g) (h1 : (fun r g' => r = vI (barsR g.2.1 c D) ∧ kp g g') r1 g1) : (∃ z, r1 = vI z) ∧ (MR g1 ∧ MV g1.2.1) ∧ ∀ r2 g2, (fun r g' => r = vI (barsR (gI g1 1000 0 0).2.1 c D) ∧ Keep (gI g1 1000 0 0) g') r2 g2 → r1 = r2 ∧ CPL g2 := by
  obtain ⟨a1, k1⟩ := h1
  have hk := k1.t0
  refine ⟨⟨_, a1⟩, (hP.kp k1).m, fun r2 g2 h2 => ?_⟩
  obtain ⟨b1, b2⟩ := h2
  rw [hk.barsR] at b1
  exact ⟨a1.trans b1.symm, cpl_k1 hP k1 b2⟩
set_option maxHeartbeats 1000000 in
theorem J_when {g g1 : GH} {r1 : AV} {c D i l : Int} (hP : CPL g) (h1 : (fun r g' => r = vI (whenR g.2.1 c D i l) ∧ kp g g') r1 g1) : (∃ z, r1 = vI z) ∧ (MR g1 ∧ MV g1.2.1) ∧ ∀ r2 g2, (fun r g' => r = vI (whenR (gI g1 1000 0 0).2.1 c D i l) ∧ Keep (gI g1 1000 0 0) g') r2 g2 → r1 = r2 ∧ CPL g2 := by
  obtain ⟨a1, k1⟩ := h1
  have hk := k1.t0
  refine ⟨⟨_, a1⟩, (hP.kp k1).m, fun r2 g2 h2 => ?_⟩
  obtain ⟨b1, b2⟩ := h2
  rw [hk.whenR] at b1
  exact ⟨a1.trans b1.symm, cpl_k1 hP k1 b2⟩
set_option maxHeartbeats 1000000 in
theorem J_fewest {g g1 : GH} {r1 : AV} {c D k : Int} (hP : CPL g) (h1 : (fun r g' => r = vI (fewR g.2.1 c D k) ∧ kp g g') r1 g1) : (∃ z, r1 = vI z) ∧ (MR g1 ∧ MV g1.2.1) ∧ ∀ r2 g2, (fun r g' => r = vI (fewR (gI g1 1000 0 0).2.1 c D k) ∧ Keep (gI g1 1000 0 0) g') r2 g2 → r1 = r2 ∧ CPL g2 := by
  obtain ⟨a1, k1⟩ := h1
  have hk := k1.t0
  refine ⟨⟨_, a1⟩, (hP.kp k1).m, fun r2 g2 h2 => ?_⟩
  obtain ⟨b1, b2⟩ := h2
  rw [hk.fewR] at b1
  exact ⟨a1.trans b1.symm, cpl_k1 hP k1 b2⟩
set_option maxHeartbeats 1000000 in
theorem J_count {g g1 : GH} {r1 : AV} {w : Int} (hP : CPL g) (h1 : (fun r g' => r = vI (if w = 0 then g.2.1 1000 3 else if w = 1 then g.2.1 1000 7 else if w = 2 then g.2.1 1000 13 else if w = 3 then g.2.1 1000 15 else if w = 4 then g.2.1 1000 35 else if w = 5 then g.2.1 1000 29 else if w = 6 then cnt (fun s => g.2.1 1019 s.toNat = -9) (g.2.1 1000 15).toNat else -1) ∧ g = g') r1 g1) : (∃ z, r1 = vI z) ∧ (MR g1 ∧ MV g1.2.1) ∧ ∀ r2 g2, (fun r g' => r = vI (if w = 0 then (gI g1 1000 0 0).2.1 1000 3 else if w = 1 then (gI g1 1000 0 0).2.1 1000 7 else if w = 2 then (gI g1 1000 0 0).2.1 1000 13 else if w = 3 then (gI g1 1000 0 0).2.1 1000 15 else if w = 4 then (gI g1 1000 0 0).2.1 1000 35 else if w = 5 then (gI g1 1000 0 0).2.1 1000 29 else if w = 6 then cnt (fun s => (gI g1 1000 0 0).2.1 1019 s.toNat = -9) ((gI g1 1000 0 0).2.1 1000 15).toNat else -1) ∧ g' = gI g1 1000 0 0) r2 g2 → r1 = r2 ∧ CPL g2 := by
  obtain ⟨a1, a2⟩ := h1
  have k1 : kp g g1 := by rw [← a2]; exact rel.rf
  have hk := k1.t0
  refine ⟨⟨_, a1⟩, (hP.kp k1).m, fun r2 g2 h2 => ?_⟩
  obtain ⟨b1, b2⟩ := h2
  rw [hk.cnt (k := 3) (by omega), hk.cnt (k := 7) (by omega), hk.cnt (k := 13) (by omega), hk.cnt (k := 15) (by omega), hk.cnt (k := 35) (by omega), hk.cnt (k := 29) (by omega), hk.row (a := 1019) (by omega)] at b1
  exact ⟨a1.trans b1.symm, cpl_k0 hP k1 b2⟩
