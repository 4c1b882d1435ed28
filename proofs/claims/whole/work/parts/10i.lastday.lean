def lX2 (x _ : Nat) : Prop := x = 21
theorem lX2_hk {g g' : GH} (h : sameB lX2 g g') : HK g.2.1 g'.2.1 := fun a k y _ => h.2.2 a k (by unfold lX2; omega)
theorem lX2_cm {g g' : GH} (h : sameB lX2 g g') (hC : CMk g) (hn : g.2.1 1000 13 ≤ 40) : CMk g' := hC.keep h.1 (lX2_hk h) (fun a k q => h.2.2 a k (by unfold kpC at q; unfold lX2; omega)) (fun a _ => by rw [h.lg]) (fun a k _ => by rw [h.2.1]) hn
theorem lX213 {g g' : GH} (h : sameB lX2 g g') : g'.2.1 1000 13 = g.2.1 1000 13 := h.2.2 1000 13 (by unfold lX2; omega)
theorem CWv.lX2 {g g' : GH} (h : sameB lX2 g g') (q : CWv g.2.1) : CWv g'.2.1 := by
  have e : ∀ a k, a ≠ 21 → g'.2.1 a k = g.2.1 a k := fun a k h1 => h.2.2 a k (by unfold Jvm.Pilot.@@N@@.lX2; omega)
  refine ⟨by rw [e 8 7 (by decide), e 1000 15 (by decide)]; exact q.1, fun s hs => ?_, fun a b ha hb => by rw [e (14 + a) b (by omega), e 1020 _ (by decide)]; exact q.2.2 a b ha hb⟩
  rw [e 1000 15 (by decide)] at hs
  rw [e 9 s (by decide), e 10 s (by decide), e 11 s (by decide), e 12 s (by decide), e 1016 s (by decide), e 1017 s (by decide), e 1018 s (by decide), e 1019 s (by decide)]
  exact q.2.1 s hs
/-- till says what the next mark lets be of mark k -/
def tlB (h : Nat → Nat → Int) (w : Nat → Int) (n k : Nat) (till : Int) : Prop := till ≤ 999 ∧ ∀ x : Int, 0 ≤ x → x ≤ 999 → (okD h w n k x ↔ canB h (w k) x ∧ x ≤ till)
theorem tlB.ld {h : Nat → Nat → Int} {w : Nat → Int} {n k : Nat} {till z : Int} (hk : k < n) (q : tlB h w n k till) (hz : 0 ≤ z ∧ z ≤ till) (hc : canB h (w k) z) (hn : ∀ y, z < y → y ≤ till → ¬ canB h (w k) y) : z = lastJ h w n (n - 1 - k) := by
  rw [lastJ_eq hk]
  have := q.1
  refine ldV_eq ⟨by omega, (q.2 z (by omega) (by omega)).mpr ⟨hc, hz.2⟩, fun d h1 h2 h3 => ?_⟩
  have := (q.2 d (by omega) h2).mp h3
  exact hn d h1 this.2 this.1
set_option maxHeartbeats 4000000 in
set_option maxRecDepth 100000 in
theorem c3_lastDayOf (g : GH) (i : Int) {n : Nat} {M : Nat → Nat} (hC : CMk g) (hG : CGs g) (hw : CWs g) (hv : CWv g.2.1) (hV : MV g.2.1) (hch : CHn g n M) (hi : 0 ≤ i ∧ i < n) (hgo : (gst g.2.1 (fun i => (M i : Int)) 0 n).2.2 = -9) (hn : 0 ≤ g.2.1 1000 13 ∧ g.2.1 1000 13 ≤ 40) : AMet mX3_lastDayOf g [vA 22, vI i] (fun r g' => r = vI (lastJ g.2.1 (fun i => (M i : Int)) n (n - 1 - i.toNat)) ∧ sameB lX2 g g') := by
  refine AMet.of [vA 22, vI i, none, none, none] (by decide) rfl (Nat.le_of_ble_eq_true rfl) ?_
  have hn10 := hch.1
  have htb : ∀ j, j < n → 0 ≤ twn g.2.1 (M j : Int) ∧ twn g.2.1 (M j : Int) ≤ 5 := fun j hj => twn_b hV ⟨by omega, (hch.2.2 j hj).2.1⟩ (by rw [show (10 * (M j : Int) + 2).toNat = 10 * M j + 2 by omega]; exact (hch.2.2 j hj).2.2)
  have hgk := going_ok hV (w := (fun i => (M i : Int))) htb hgo
  refine a_sipush (z := 999) 3 dX3_lastDayOf_0 rfl (zrl rfl) rfl ?_
  refine a_istore_n 4 dX3_lastDayOf_3 (by decide) rfl rfl ?_
  refine a_bipush (z := (-9)) 6 dX3_lastDayOf_4 rfl (zrl rfl) rfl ?_
  refine a_istore_n 7 dX3_lastDayOf_6 (by decide) rfl rfl ?_
  refine a_aload_n 8 dX3_lastDayOf_7 rfl rfl ?_
  refine a_getIz ((n : Int)) 11 dX3_lastDayOf_8 fX3_24 (gX_cg (sameB.rf (X := lX2) (g := g)) hG).1 rfl hch.2.1 rfl ?_
  refine a_iconst (z := 1) 12 dX3_lastDayOf_11 rfl (zrl rfl) rfl ?_
  refine a_isub 13 dX3_lastDayOf_12 (by unfold zr; omega) rfl ?_
  refine a_istore 15 dX3_lastDayOf_13 (by decide) rfl rfl ?_
  refine AW.loop (α := GH × Int × Int × Int) (fun p => (p.2.1 + 1).toNat) (fun p => sameB lX2 g p.1 ∧ (i - 1 ≤ p.2.1 ∧ p.2.1 ≤ n - 1) ∧ (0 ≤ p.2.1 → tlB g.2.1 (fun i => (M i : Int)) n p.2.1.toNat p.2.2.1) ∧ ∀ m : Nat, p.2.1 < m → m < n → ((m : Int) = p.2.1 + 1 → p.2.2.2 = (lastJ g.2.1 (fun i => (M i : Int)) n (n - 1 - m))) ∧ fsV g.2.1 (fun i => (M i : Int)) m ≤ (lastJ g.2.1 (fun i => (M i : Int)) n (n - 1 - m))) (fun p => p.1) (fun p => [vA 22, vI i, vI p.2.2.1, vI p.2.2.2, vI p.2.1]) (fun p => []) ?_ (g, (n : Int) - 1, 999, -9) ?_
  · rintro ⟨g2, j, till, last⟩ ⟨h2, hj, htl0, hls⟩ ih15
    try dsimp only at hI ih ⊢
    try dsimp only at h2 hj htl0 hls ih15 ⊢
    have htl := htl0
    refine a_iload 17 dX3_lastDayOf_15 rfl rfl ?_
    refine a_iload_n 18 dX3_lastDayOf_17 rfl rfl ?_
    refine a_icmp_lt 94 21 dX3_lastDayOf_18 (by decide) rfl (fun c18 => ?_) (fun c18 => ?_)
    · skip
      refine a_iload_n 95 dX3_lastDayOf_94 rfl rfl ?_
      refine a_ireturn dX3_lastDayOf_95 rfl ⟨Nat.zero_le _, Nat.zero_le _⟩ ?_
      have e : j = i - 1 := by omega
      have := (hls i.toNat (by omega) (by omega)).1 (by omega)
      exact ⟨congrArg vI this, h2⟩
    · skip
      obtain ⟨k, rfl⟩ : ∃ kk : Nat, j = kk := ⟨j.toNat, by omega⟩
      have hk : k < n := by omega
      have hokf : okD g.2.1 (fun i => (M i : Int)) n k (fsV g.2.1 (fun i => (M i : Int)) k) := by
        refine ⟨(hgk k hk).2.1, ?_⟩
        by_cases e : k + 1 = n
        · exact Or.inl e
        · right
          have z1 := (hgk k hk).2.2 (by omega)
          have z2 := hls (k + 1) (by omega) (by omega)
          exact Int.le_trans z1 z2.2
      have htl : tlB g.2.1 (fun i => (M i : Int)) n k till := htl (by omega)
      refine a_aload_n 22 dX3_lastDayOf_21 rfl rfl ?_
      refine a_getR 25 dX3_lastDayOf_22 fX3_11 (gX_cg h2 hG).1 rfl (gX_cg h2 hG).2.1.2.1 rfl ?_
      refine a_iload 27 dX3_lastDayOf_25 rfl rfl ?_
      refine a_aald 28 dX3_lastDayOf_27 (gX_cg h2 hG).2.2.1 rfl (by omega) (by omega) (h2.rr (hch.2.2 k hk).1) rfl ?_
      refine a_getR 31 dX3_lastDayOf_28 fX3_69 ((lX2_cm h2 hC hn.2).k (m := M k) (by rw [lX213 h2]; exact (hch.2.2 _ hk).2.1)).1.1 rfl ((lX2_cm h2 hC hn.2).k (m := M k) (by rw [lX213 h2]; exact (hch.2.2 _ hk).2.1)).1.2.1 rfl ?_
      refine a_iload_n 32 dX3_lastDayOf_31 rfl rfl ?_
      refine a_callV 35 (c1_lastTill _ _ ((lX2_cm h2 hC hn.2).k (m := M k) (by rw [lX213 h2]; exact (hch.2.2 _ hk).2.1)).1.2.2.1 ((lX2_cm h2 hC hn.2).k (m := M k) (by rw [lX213 h2]; exact (hch.2.2 _ hk).2.1)).1.2.2.2.1 ((lX2_cm h2 hC hn.2).k (m := M k) (by rw [lX213 h2]; exact (hch.2.2 _ hk).2.1)).1.2.2.2.2.1) cdX1_lastTill lX3_79 dX3_lastDayOf_32 rfl ((lX2_cm h2 hC hn.2).k (m := M k) (by rw [lX213 h2]; exact (hch.2.2 _ hk).2.1)).1.2.2.1 rfl ⟨by decide, by decide, rfl, rfl⟩ ⟨Nat.zero_le _, Nat.zero_le _⟩ (Nat.le_of_ble_eq_true rfl) rfl ?_
      rintro _ _ - ⟨z, rfl, rfl, hz⟩ -
      rw [h2.lg] at hz
      have hmd := (hC.k (hch.2.2 k hk).2.1).2.2.1
      have ht9 := htl.1
      rw [if_neg (by omega)] at hz
      have hzz : (0 ≤ z ∧ z ≤ till) ∧ canB g.2.1 (M k : Int) z ∧ ∀ y, z < y → y ≤ till → ¬ canB g.2.1 (M k : Int) y := by
        rcases hz with ⟨q1, q2⟩ | ⟨q1, q2, q3⟩
        · exfalso
          have y1 := (htl.2 (fsV g.2.1 (fun i => (M i : Int)) k) (hgk k hk).1.1 (hgk k hk).1.2).mp hokf
          exact q2 (fsV g.2.1 (fun i => (M i : Int)) k) (hgk k hk).1.1 y1.2 ((hmd _ (hgk k hk).1.1).mpr ⟨(hgk k hk).1.2, y1.1⟩)
        · exact ⟨q1, ((hmd z q1.1).mp q2).2, fun y a b c => q3 y a b ((hmd y (by omega)).mpr ⟨by omega, c⟩)⟩
      have hzl : z = (lastJ g.2.1 (fun i => (M i : Int)) n (n - 1 - k)) := htl.ld hk hzz.1 hzz.2.1 hzz.2.2
      refine a_istore_n 36 dX3_lastDayOf_35 (by decide) rfl rfl ?_
      refine a_iload_n 37 dX3_lastDayOf_36 rfl rfl ?_
      refine a_bipush (z := (-9)) 39 dX3_lastDayOf_37 rfl (zrl rfl) rfl ?_
      refine a_icmp_eq 47 42 dX3_lastDayOf_39 (by decide) rfl (fun c39 => ?_) (fun c39 => ?_)
      · skip
        refine a_iload_n 48 dX3_lastDayOf_47 rfl rfl ?_
        refine a_ireturn dX3_lastDayOf_48 rfl ⟨Nat.zero_le _, Nat.zero_le _⟩ ?_
        first
        | (exfalso; have := hzz.1; omega)
        | (have e : i.toNat = k := by omega
           rw [e]; exact ⟨congrArg vI hzl, h2⟩)
      · skip
        refine a_iload 44 dX3_lastDayOf_42 rfl rfl ?_
        refine a_if_ne 49 47 dX3_lastDayOf_44 (by decide) rfl (fun c44 => ?_) (fun c44 => ?_)
        · skip
          refine a_aload_n 50 dX3_lastDayOf_49 rfl rfl ?_
          refine a_getR 53 dX3_lastDayOf_50 fX3_37 (gX_cg h2 hG).1 rfl (gX_cg h2 hG).2.1.1 rfl ?_
          refine a_aload_n 54 dX3_lastDayOf_53 rfl rfl ?_
          refine a_getR 57 dX3_lastDayOf_54 fX3_11 (gX_cg h2 hG).1 rfl (gX_cg h2 hG).2.1.2.1 rfl ?_
          refine a_iload 59 dX3_lastDayOf_57 rfl rfl ?_
          refine a_aald 60 dX3_lastDayOf_59 (gX_cg h2 hG).2.2.1 rfl (by omega) (by omega) (h2.rr (hch.2.2 k hk).1) rfl ?_
          refine a_getIz (twn g.2.1 (M k : Int)) 63 dX3_lastDayOf_60 fX3_57 ((lX2_cm h2 hC hn.2).k (m := M k) (by rw [lX213 h2]; exact (hch.2.2 _ hk).2.1)).1.1 rfl ((h2.2.2 _ 11 (by unfold lX2; omega)).trans (hch.town hC hk)) rfl ?_
          refine a_iload_n 64 dX3_lastDayOf_63 rfl rfl ?_
          refine a_callV 67 (c10_drawBackFrom _ _ _ (h := g2.2.1) (fun _ _ _ => rfl) (CWs.keep h2 hw) (hv.lX2 h2) ((lX2_hk h2).MV hV) (htb k hk) (by omega)) cdX10_drawBackFrom lX3_82 dX3_lastDayOf_64 rfl (CWs.keep h2 hw).1 rfl ⟨by decide, by decide, rfl, rfl⟩ ⟨Nat.zero_le _, Nat.zero_le _⟩ (Nat.le_of_ble_eq_true rfl) rfl ?_
          rintro _ g3 - ⟨s3, hlt⟩ -
          have h3 : sameB lX2 g g3 := h2.tr s3
          have hk1 : k - 1 < n := by omega
          have hlt2 := hlt (twn g.2.1 (M (k - 1) : Int)).toNat (by have := htb (k - 1) hk1; omega)
          have hlt3 : isLt g.2.1 (twn g.2.1 (M k : Int)).toNat z (twn g.2.1 (M (k - 1) : Int)).toNat (g3.2.1 21 (twn g.2.1 (M (k - 1) : Int)).toNat) := by
            unfold isLt at hlt2 ⊢
            rw [(lX2_hk h2).pth] at hlt2
            exact hlt2
          refine a_aload_n 68 dX3_lastDayOf_67 rfl rfl ?_
          refine a_getR 71 dX3_lastDayOf_68 fX3_37 (gX_cg h3 hG).1 rfl (gX_cg h3 hG).2.1.1 rfl ?_
          refine a_getR 74 dX3_lastDayOf_71 fX3_85 (CWs.keep h3 hw).1 rfl (CWs.keep h3 hw).2.1.2.2.2.2.2.2 rfl ?_
          refine a_aload_n 75 dX3_lastDayOf_74 rfl rfl ?_
          refine a_getR 78 dX3_lastDayOf_75 fX3_11 (gX_cg h3 hG).1 rfl (gX_cg h3 hG).2.1.2.1 rfl ?_
          refine a_iload 80 dX3_lastDayOf_78 rfl rfl ?_
          refine a_iconst (z := 1) 81 dX3_lastDayOf_80 rfl (zrl rfl) rfl ?_
          refine a_isub 82 dX3_lastDayOf_81 (by unfold zr; omega) rfl ?_
          refine a_aald 83 dX3_lastDayOf_82 (gX_cg h3 hG).2.2.1 rfl (by omega) (by omega) (h3.rr ((congrArg (g.2.2.2 23) (show ((k : Int) - 1).toNat = k - 1 by omega)).trans (hch.2.2 (k - 1) hk1).1)) rfl ?_
          refine a_getIz (twn g.2.1 (M (k - 1) : Int)) 86 dX3_lastDayOf_83 fX3_57 ((lX2_cm h3 hC hn.2).k (m := M (k - 1)) (by rw [lX213 h3]; exact (hch.2.2 _ hk1).2.1)).1.1 rfl ((h3.2.2 _ 11 (by unfold lX2; omega)).trans (hch.town hC hk1)) rfl ?_
          refine a_ialdz (g3.2.1 21 (twn g.2.1 (M (k - 1) : Int)).toNat) 87 dX3_lastDayOf_86 (CWs.keep h3 hw).2.2.1.2.2.2.2.2.2 (htb (k - 1) hk1).1 (by have := htb (k - 1) hk1; omega) rfl rfl ?_
          refine a_istore_n 88 dX3_lastDayOf_87 (by decide) rfl rfl ?_
          refine a_iinc 91 dX3_lastDayOf_88 rfl (by unfold zr; omega) (by decide) rfl rfl ?_
          refine a_goto 15 dX3_lastDayOf_91 (by decide) ?_
          refine ih15 (g3, (k : Int) + -1, g3.2.1 21 (twn g.2.1 (M (k - 1) : Int)).toNat, z) ⟨h3, by dsimp only; omega, fun _ => ⟨hlt3.1.2, fun x h0 h9 => ?_⟩, fun m h1 h2 => ?_⟩ (by dsimp only; omega)
          · dsimp only
            rw [show ((k : Int) + -1).toNat = k - 1 by omega]
            have e1 := hlt3.soon hV h0 (by have := hzz.1; omega)
            unfold okD
            rw [show k - 1 + 1 = k by omega, ← hzl, e1]
            exact ⟨fun q => ⟨q.1, by rcases q.2 with y | y; omega; exact y⟩, fun q => ⟨q.1, Or.inr q.2⟩⟩
          · dsimp only at h1 ⊢
            by_cases e : m = k
            · subst e
              refine ⟨fun _ => hzl, ?_⟩
              have y1 := (htl.2 (fsV g.2.1 (fun i => (M i : Int)) m) (hgk m hk).1.1 (hgk m hk).1.2).mp hokf
              rw [← hzl]
              exact Classical.byContradiction (fun q => hzz.2.2 _ (by omega) y1.2 y1.1)
            · have := hls m (by omega) h2
              exact ⟨fun q => by omega, this.2⟩
        · skip
          refine a_iload_n 48 dX3_lastDayOf_47 rfl rfl ?_
          refine a_ireturn dX3_lastDayOf_48 rfl ⟨Nat.zero_le _, Nat.zero_le _⟩ ?_
          first
          | (exfalso; have := hzz.1; omega)
          | (have e : i.toNat = k := by omega
             rw [e]; exact ⟨congrArg vI hzl, h2⟩)
  · refine ⟨sameB.rf, by dsimp only; omega, fun _ => ⟨Int.le_refl _, fun x h0 h9 => ?_⟩, fun m h1 h2 => by dsimp only at h1; omega⟩
    dsimp only
    rw [show ((n : Int) - 1).toNat = n - 1 by omega]
    exact ⟨fun q => ⟨q.1, h9⟩, fun q => ⟨q.1, Or.inl (by omega)⟩⟩
