theorem AW.cutG {M : MI} {T : TT} {kn : Nat × Nat} {g : GH} {pc : Nat} {ls st : List AV} {J : Nat} {P : Int → GH → Prop} (k : ∀ z g', P z g' → AW M T kn g' J ls (vI z :: st)) (h : (∀ z g', P z g' → AW M T kn g' J ls (vI z :: st)) → AW M T kn g pc ls st) : AW M T kn g pc ls st := h k
def wX (a k : Nat) : Prop := (a = 1000 ∧ k = 23) ∨ a = 1024
def iX (a k : Nat) : Prop := (a = 1000 ∧ k = 27) ∨ a = 1021 ∨ a = 1022 ∨ a = 1025
theorem wX_scr : ∀ a k, wX a k → scr a k := by unfold wX scr; omega
theorem iX_scr : ∀ a k, iX a k → scr a k := by unfold iX scr; omega
/-- the heap behind ways(c, D) -/
def wayB (h : Nat → Nat → Int) (c D : Int) (h' : Nat → Nat → Int) : Prop := h' 1000 23 = (WS h c D).length ∧ ∀ i : Nat, i < (WS h c D).length → h' 1024 i = wk h c D i
/-- town, day, bar behind the first i marks -/
noncomputable def gst (h : Nat → Nat → Int) (w : Nat → Int) (L : Int) : Nat → Int × Int × Int
  | 0 => (-9, 0, -9)
  | i + 1 => if (gst h w L i).2.2 ≠ -9 ∨ L / 2 ^ i % 2 ≠ 0 then gst h w L i else
    if 999 < fdV (canB h (w i)) (if (gst h w L i).1 = -9 then 0 else soonV h (gst h w L i).1.toNat (gst h w L i).2.1 (twn h (w i)).toNat) then ((gst h w L i).1, (gst h w L i).2.1, (i : Int))
    else (twn h (w i), fdV (canB h (w i)) (if (gst h w L i).1 = -9 then 0 else soonV h (gst h w L i).1.toNat (gst h w L i).2.1 (twn h (w i)).toNat), -9)
theorem HK.gst {h h' : Nat → Nat → Int} (q : HK h h') : gst h' = gst h := by
  funext w L i
  induction i with
  | zero => rfl
  | succ i ih => unfold Jvm.Pilot.@@N@@.gst; rw [ih, q.canB, q.soonV, q.twn]
theorem gst_let {h : Nat → Nat → Int} {w : Nat → Int} {L : Int} {i : Nat} (q : L / 2 ^ i % 2 ≠ 0) : gst h w L (i + 1) = gst h w L i := by
  show (if _ then _ else _) = _; rw [if_pos (Or.inr q)]
theorem gst_st {h : Nat → Nat → Int} {w : Nat → Int} {L : Int} {i : Nat} (q : (gst h w L i).2.2 ≠ -9) : gst h w L (i + 1) = gst h w L i := by
  show (if _ then _ else _) = _; rw [if_pos (Or.inl q)]
theorem gst_bar {h : Nat → Nat → Int} {w : Nat → Int} {L : Int} {i : Nat} (q0 : (gst h w L i).2.2 = -9) (q : L / 2 ^ i % 2 = 0) (q1 : 999 < fdV (canB h (w i)) (if (gst h w L i).1 = -9 then 0 else soonV h (gst h w L i).1.toNat (gst h w L i).2.1 (twn h (w i)).toNat)) : gst h w L (i + 1) = ((gst h w L i).1, (gst h w L i).2.1, (i : Int)) := by
  show (if _ then _ else if _ then _ else _) = _; rw [if_neg (by rintro (z | z); exact z q0; exact z q), if_pos q1]
theorem gst_go {h : Nat → Nat → Int} {w : Nat → Int} {L : Int} {i : Nat} (q0 : (gst h w L i).2.2 = -9) (q : L / 2 ^ i % 2 = 0) (q1 : fdV (canB h (w i)) (if (gst h w L i).1 = -9 then 0 else soonV h (gst h w L i).1.toNat (gst h w L i).2.1 (twn h (w i)).toNat) ≤ 999) : gst h w L (i + 1) = (twn h (w i), fdV (canB h (w i)) (if (gst h w L i).1 = -9 then 0 else soonV h (gst h w L i).1.toNat (gst h w L i).2.1 (twn h (w i)).toNat), -9) := by
  show (if _ then _ else if _ then _ else _) = _; rw [if_neg (by rintro (z | z); exact z q0; exact z q), if_neg (by omega)]
theorem gst_end {h : Nat → Nat → Int} {w : Nat → Int} {L : Int} {i n : Nat} (q : (gst h w L i).2.2 ≠ -9) (hn : i ≤ n) : gst h w L n = gst h w L i := by
  induction n with
  | zero => have : i = 0 := by omega
            rw [this]
  | succ n ih =>
    by_cases e : i = n + 1
    · rw [e]
    · have := ih (by omega)
      rw [gst_st (by rw [this]; exact q), this]
/-- the goings' first days, as they are kept -/
def fstB (h : Nat → Nat → Int) (w : Nat → Int) (L : Int) (n : Nat) (F : Nat → Int) : Prop := ∀ j : Nat, j < n → L / 2 ^ j % 2 = 0 → F j = (gst h w L (j + 1)).2.1
set_option maxHeartbeats 4000000 in
set_option maxRecDepth 100000 in
theorem r_soonest (g : GH) (f d t : Int) (hM : MR g) (hV : MV g.2.1) : AMet mX12_soonest g [vA 1000, vI f, vI d, vI t] (fun r g' => (((0 ≤ f ∧ f ≤ 5) ∧ (0 ≤ d ∧ d ≤ 999) ∧ (0 ≤ t ∧ t ≤ 5)) ∧ r = vI (if 999 < soonV (gI g 1000 0 0).2.1 f.toNat d t.toNat then -9 else soonV (gI g 1000 0 0).2.1 f.toNat d t.toNat) ∧ Keep (gI g 1000 0 0) g') ∨ (¬ ((0 ≤ f ∧ f ≤ 5) ∧ (0 ≤ d ∧ d ≤ 999) ∧ (0 ≤ t ∧ t ≤ 5)) ∧ r = vI (-1) ∧ g' = gI g 1000 0 0)) := by
  refine AMet.of [vA 1000, vI f, vI d, vI t, none] (by decide) rfl (Nat.le_of_ble_eq_true rfl) ?_
  refine a_aload_n 1 dX12_soonest_0 rfl rfl ?_
  refine a_iconst (z := 0) 2 dX12_soonest_1 rfl (zrl rfl) rfl ?_
  refine a_putI 5 dX12_soonest_2 fX12_80 (Or.inl rfl) hM.1 (Or.inl rfl) rfl ?_
  have hM : MR (gI g 1000 0 0) := hM
  have hV : MV (gI g 1000 0 0).2.1 := MV_th hV
  have hc := hV.1
  unfold MVc at hc
  generalize gI g 1000 0 0 = g1 at hM hV hc ⊢
  refine a_iload_n 6 dX12_soonest_5 rfl rfl ?_
  refine a_callS 9 (r_isTown _ _) cdX12_isTown lX12_91 dX12_soonest_6 rfl rfl ⟨by decide, by decide, rfl, rfl⟩ ⟨Nat.zero_le _, Nat.zero_le _⟩ (Nat.le_of_ble_eq_true rfl) rfl ?_
  rintro _ _ - ⟨b6, rfl, rfl, h6⟩ -
  refine a_if_eq 26 12 dX12_soonest_9 (by decide) rfl (fun c9 => ?_) (fun c9 => ?_)
  · skip
    refine a_iconst (z := (-1)) 27 dX12_soonest_26 rfl (zrl rfl) rfl ?_
    refine a_ireturn dX12_soonest_27 rfl ⟨Nat.zero_le _, Nat.zero_le _⟩ ?_
    exact Or.inr ⟨by omega, rfl, rfl⟩
  · skip
    refine a_iload_n 13 dX12_soonest_12 rfl rfl ?_
    refine a_callS 16 (r_isDay _ _) cdX12_isDay lX12_95 dX12_soonest_13 rfl rfl ⟨by decide, by decide, rfl, rfl⟩ ⟨Nat.zero_le _, Nat.zero_le _⟩ (Nat.le_of_ble_eq_true rfl) rfl ?_
    rintro _ _ - ⟨b13, rfl, rfl, h13⟩ -
    refine a_if_eq 26 19 dX12_soonest_16 (by decide) rfl (fun c16 => ?_) (fun c16 => ?_)
    · skip
      refine a_iconst (z := (-1)) 27 dX12_soonest_26 rfl (zrl rfl) rfl ?_
      refine a_ireturn dX12_soonest_27 rfl ⟨Nat.zero_le _, Nat.zero_le _⟩ ?_
      exact Or.inr ⟨by omega, rfl, rfl⟩
    · skip
      refine a_iload_n 20 dX12_soonest_19 rfl rfl ?_
      refine a_callS 23 (r_isTown _ _) cdX12_isTown lX12_91 dX12_soonest_20 rfl rfl ⟨by decide, by decide, rfl, rfl⟩ ⟨Nat.zero_le _, Nat.zero_le _⟩ (Nat.le_of_ble_eq_true rfl) rfl ?_
      rintro _ _ - ⟨b20, rfl, rfl, h20⟩ -
      refine a_if_ne 28 26 dX12_soonest_23 (by decide) rfl (fun c23 => ?_) (fun c23 => ?_)
      · skip
        refine a_aload_n 29 dX12_soonest_28 rfl rfl ?_
        refine a_iload_n 30 dX12_soonest_29 rfl rfl ?_
        refine a_iload_n 31 dX12_soonest_30 rfl rfl ?_
        refine a_iload_n 32 dX12_soonest_31 rfl rfl ?_
        refine a_callV 35 (r_soonestOf _ _ _ _ hM hV (by omega) (by omega) (by omega)) cdX12_soonestOf lX12_142 dX12_soonest_32 rfl hM.1 rfl ⟨by decide, by decide, rfl, rfl⟩ ⟨Nat.zero_le _, Nat.zero_le _⟩ (Nat.le_of_ble_eq_true rfl) rfl ?_
        rintro _ g32 - ⟨S32, D32, rfl, e32, hs32⟩ -
        refine a_istore 37 dX12_soonest_35 (by decide) rfl rfl ?_
        refine a_iload 39 dX12_soonest_37 rfl rfl ?_
        refine a_sipush (z := 999) 42 dX12_soonest_39 rfl (zrl rfl) rfl ?_
        refine a_icmp_le 50 45 dX12_soonest_42 (by decide) rfl (fun c42 => ?_) (fun c42 => ?_)
        · skip
          refine a_iload 52 dX12_soonest_50 rfl rfl ?_
          refine a_ireturn dX12_soonest_52 rfl ⟨Nat.zero_le _, Nat.zero_le _⟩ ?_
          exact Or.inl ⟨by omega, congrArg vI (by first | rw [if_pos c42] | rw [if_neg (by omega)]), by rw [e32]; exact (gSD_same _ _ _).mono (by unfold scr; omega)⟩
        · skip
          refine a_bipush (z := (-9)) 47 dX12_soonest_45 rfl (zrl rfl) rfl ?_
          refine a_goto 52 dX12_soonest_47 (by decide) ?_
          refine a_ireturn dX12_soonest_52 rfl ⟨Nat.zero_le _, Nat.zero_le _⟩ ?_
          exact Or.inl ⟨by omega, congrArg vI (by first | rw [if_pos c42] | rw [if_neg (by omega)]), by rw [e32]; exact (gSD_same _ _ _).mono (by unfold scr; omega)⟩
      · skip
        refine a_iconst (z := (-1)) 27 dX12_soonest_26 rfl (zrl rfl) rfl ?_
        refine a_ireturn dX12_soonest_27 rfl ⟨Nat.zero_le _, Nat.zero_le _⟩ ?_
        exact Or.inr ⟨by omega, rfl, rfl⟩
set_option maxHeartbeats 4000000 in
set_option maxRecDepth 100000 in
theorem r_ways (g : GH) (c D : Int) (hM : MR g) (hV : MV g.2.1)  : AMet mX12_ways g [vA 1000, vI c, vI D] (fun r g' => r = vI ((WS g.2.1 c D).length : Int) ∧ sameB wX g g' ∧ wayB g.2.1 c D g'.2.1) := by
  refine AMet.of [vA 1000, vI c, vI D, none] (by decide) rfl (Nat.le_of_ble_eq_true rfl) ?_
  have hc := hV.1
  unfold MVc at hc
  refine a_aload_n 1 dX12_ways_0 rfl rfl ?_
  refine a_iconst (z := 0) 2 dX12_ways_1 rfl (zrl rfl) rfl ?_
  refine a_putI 5 dX12_ways_2 fX12_146 (Or.inl rfl) hM.1 (Or.inl rfl) rfl ?_
  refine a_iconst (z := 0) 6 dX12_ways_5 rfl (zrl rfl) rfl ?_
  refine a_istore_n 7 dX12_ways_6 (by decide) rfl rfl ?_
  refine AW.loop (α := GH × Nat) (fun p => (g.2.1 1000 13).toNat - p.2) (fun p => (p.2 : Int) ≤ g.2.1 1000 13 ∧ sameB wX g p.1 ∧ p.1.2.1 1000 23 = (wl g.2.1 c D p.2).length ∧ ∀ i : Nat, i < (wl g.2.1 c D p.2).length → p.1.2.1 1024 i = (((wl g.2.1 c D p.2)[i]?.getD 0 : Nat) : Int)) (fun p => p.1) (fun p => [vA 1000, vI c, vI D, vI (p.2 : Int)]) (fun p => []) ?_ (gI g 1000 23 0, 0) ?_
  · rintro ⟨g2, m⟩ ⟨hI, hk, h23, hw⟩ ih7
    try dsimp only at hI ih ⊢
    try dsimp only at hI hk h23 hw ih7 ⊢
    have hr14 : g2.2.1 1014 = g.2.1 1014 := (hk.hk wX_scr).row (by omega)
    have hr13 : g2.2.1 1000 13 = g.2.1 1000 13 := (hk.hk wX_scr).cnt (by omega)
    have hle := wl_len (h := g.2.1) (c := c) (D := D) m
    refine a_iload_n 8 dX12_ways_7 rfl rfl ?_
    refine a_aload_n 9 dX12_ways_8 rfl rfl ?_
    refine a_getIz (g.2.1 1000 13) 12 dX12_ways_9 fX12_88 (hk.MR hM).1 rfl hr13 rfl ?_
    refine a_icmp_ge 67 15 dX12_ways_12 (by decide) rfl (fun c12 => ?_) (fun c12 => ?_)
    · skip
      refine a_aload_n 68 dX12_ways_67 rfl rfl ?_
      refine a_getIz (((wl g.2.1 c D m).length : Int)) 71 dX12_ways_68 fX12_146 (hk.MR hM).1 rfl h23 rfl ?_
      refine a_ireturn dX12_ways_71 rfl ⟨Nat.zero_le _, Nat.zero_le _⟩ ?_
      have e : m = (g.2.1 1000 13).toNat := by omega
      subst e
      exact ⟨rfl, hk, h23, fun i hi => hw i hi⟩
    · skip
      refine a_aload_n 16 dX12_ways_15 rfl rfl ?_
      refine a_iload_n 17 dX12_ways_16 rfl rfl ?_
      refine a_iload_n 18 dX12_ways_17 rfl rfl ?_
      refine a_iload_n 19 dX12_ways_18 rfl rfl ?_
      refine a_callV 22 (r_isOf _ _ _ _ (hk.MR hM) (by omega)) cdX12_isOf lX12_136 dX12_ways_19 rfl (hk.MR hM).1 rfl ⟨by decide, by decide, rfl, rfl⟩ ⟨Nat.zero_le _, Nat.zero_le _⟩ (Nat.le_of_ble_eq_true rfl) rfl ?_
      rintro _ _ - ⟨b19, rfl, rfl, h19⟩ -
      rw [hr14] at h19
      refine a_if_eq 61 25 dX12_ways_22 (by decide) rfl (fun c22 => ?_) (fun c22 => ?_)
      · skip
        refine a_iinc 64 dX12_ways_61 rfl (by unfold zr; omega) (by decide) rfl rfl ?_
        refine a_goto 7 dX12_ways_64 (by decide) ?_
        first
        | (refine ih7 (_, m + 1) ⟨by dsimp only; omega, hk, ?_, ?_⟩ (by dsimp only; omega)
           · dsimp only; rw [wl_f (by first | exact fun z => isN h19 c22 z.1 | exact fun z => z.2 c38)]; exact h23
           · dsimp only; rw [wl_f (by first | exact fun z => isN h19 c22 z.1 | exact fun z => z.2 c38)]; exact hw)
        | (have hq : wqB g.2.1 c D m := ⟨isT h19 c22, c38⟩
           refine ih7 (_, m + 1) ⟨by dsimp only; omega, (hk.wr (Or.inr rfl)).wr (Or.inl ⟨rfl, rfl⟩), ?_, fun i hi => ?_⟩ (by dsimp only; omega)
           · dsimp only; rw [wl_t hq, List.length_append]; show u2 _ 1000 23 _ 1000 23 = _; rw [u2_s]; simp
           · dsimp only at hi ⊢
             rw [wl_t hq] at hi ⊢
             rw [List.length_append] at hi
             simp only [List.length_singleton] at hi
             show u2 (u2 g2.2.1 1024 _ _) 1000 23 _ 1024 i = _
             rw [u2_n (Or.inl (by decide))]
             by_cases e : i = (wl g.2.1 c D m).length
             · subst e
               have e2 : (((wl g.2.1 c D m).length : Nat) : Int).toNat = (wl g.2.1 c D m).length := Int.toNat_natCast _
               rw [e2, u2_s, List.getElem?_append_right (Nat.le_refl _)]; simp
             · have e2 : (((wl g.2.1 c D m).length : Nat) : Int).toNat = (wl g.2.1 c D m).length := Int.toNat_natCast _
               rw [e2, u2_n (Or.inr e), List.getElem?_append_left (by omega)]
               exact hw i (by omega))
      · skip
        refine a_aload_n 26 dX12_ways_25 rfl rfl ?_
        refine a_getR 29 dX12_ways_26 fX12_37 (hk.MR hM).1 rfl (mr_14 (hk.MR hM)).1 rfl ?_
        refine a_bipush (z := 10) 31 dX12_ways_29 rfl (zrl rfl) rfl ?_
        refine a_iload_n 32 dX12_ways_31 rfl rfl ?_
        refine a_imul 33 dX12_ways_32 (by unfold zr; omega) rfl ?_
        refine a_iconst (z := 2) 34 dX12_ways_33 rfl (zrl rfl) rfl ?_
        refine a_iadd 35 dX12_ways_34 (by unfold zr; omega) rfl ?_
        refine a_ialdz (g.2.1 1014 (10 * (m : Int) + 2).toNat) 36 dX12_ways_35 (mr_14 (hk.MR hM)).2 (by omega) (by omega) (by rw [hr14]) rfl ?_
        refine a_bipush (z := (-9)) 38 dX12_ways_36 rfl (zrl rfl) rfl ?_
        refine a_icmp_eq 61 41 dX12_ways_38 (by decide) rfl (fun c38 => ?_) (fun c38 => ?_)
        · skip
          refine a_iinc 64 dX12_ways_61 rfl (by unfold zr; omega) (by decide) rfl rfl ?_
          refine a_goto 7 dX12_ways_64 (by decide) ?_
          first
          | (refine ih7 (_, m + 1) ⟨by dsimp only; omega, hk, ?_, ?_⟩ (by dsimp only; omega)
             · dsimp only; rw [wl_f (by first | exact fun z => isN h19 c22 z.1 | exact fun z => z.2 c38)]; exact h23
             · dsimp only; rw [wl_f (by first | exact fun z => isN h19 c22 z.1 | exact fun z => z.2 c38)]; exact hw)
          | (have hq : wqB g.2.1 c D m := ⟨isT h19 c22, c38⟩
             refine ih7 (_, m + 1) ⟨by dsimp only; omega, (hk.wr (Or.inr rfl)).wr (Or.inl ⟨rfl, rfl⟩), ?_, fun i hi => ?_⟩ (by dsimp only; omega)
             · dsimp only; rw [wl_t hq, List.length_append]; show u2 _ 1000 23 _ 1000 23 = _; rw [u2_s]; simp
             · dsimp only at hi ⊢
               rw [wl_t hq] at hi ⊢
               rw [List.length_append] at hi
               simp only [List.length_singleton] at hi
               show u2 (u2 g2.2.1 1024 _ _) 1000 23 _ 1024 i = _
               rw [u2_n (Or.inl (by decide))]
               by_cases e : i = (wl g.2.1 c D m).length
               · subst e
                 have e2 : (((wl g.2.1 c D m).length : Nat) : Int).toNat = (wl g.2.1 c D m).length := Int.toNat_natCast _
                 rw [e2, u2_s, List.getElem?_append_right (Nat.le_refl _)]; simp
               · have e2 : (((wl g.2.1 c D m).length : Nat) : Int).toNat = (wl g.2.1 c D m).length := Int.toNat_natCast _
                 rw [e2, u2_n (Or.inr e), List.getElem?_append_left (by omega)]
                 exact hw i (by omega))
        · skip
          refine a_aload_n 42 dX12_ways_41 rfl rfl ?_
          refine a_getR 45 dX12_ways_42 fX12_62 (hk.MR hM).1 rfl (mr_24 (hk.MR hM)).1 rfl ?_
          refine a_aload_n 46 dX12_ways_45 rfl rfl ?_
          refine a_getIz (((wl g.2.1 c D m).length : Int)) 49 dX12_ways_46 fX12_146 (hk.MR hM).1 rfl h23 rfl ?_
          refine a_iload_n 50 dX12_ways_49 rfl rfl ?_
          refine a_iast 51 dX12_ways_50 (mr_24 (hk.MR hM)).2 (by omega) (by omega) rfl ?_
          refine a_aload_n 52 dX12_ways_51 rfl rfl ?_
          refine a_dup 53 dX12_ways_52 (by intro w h; cases h) rfl ?_
          refine a_getIz (((wl g.2.1 c D m).length : Int)) 56 dX12_ways_53 fX12_146 (hk.MR hM).1 rfl ((gI_n (Or.inl (by decide))).trans h23) rfl ?_
          refine a_iconst (z := 1) 57 dX12_ways_56 rfl (zrl rfl) rfl ?_
          refine a_iadd 58 dX12_ways_57 (by unfold zr; omega) rfl ?_
          refine a_putI 61 dX12_ways_58 fX12_146 (Or.inl rfl) (hk.MR hM).1 (Or.inl rfl) rfl ?_
          refine a_iinc 64 dX12_ways_61 rfl (by unfold zr; omega) (by decide) rfl rfl ?_
          refine a_goto 7 dX12_ways_64 (by decide) ?_
          first
          | (refine ih7 (_, m + 1) ⟨by dsimp only; omega, hk, ?_, ?_⟩ (by dsimp only; omega)
             · dsimp only; rw [wl_f (by first | exact fun z => isN h19 c22 z.1 | exact fun z => z.2 c38)]; exact h23
             · dsimp only; rw [wl_f (by first | exact fun z => isN h19 c22 z.1 | exact fun z => z.2 c38)]; exact hw)
          | (have hq : wqB g.2.1 c D m := ⟨isT h19 c22, c38⟩
             refine ih7 (_, m + 1) ⟨by dsimp only; omega, (hk.wr (Or.inr rfl)).wr (Or.inl ⟨rfl, rfl⟩), ?_, fun i hi => ?_⟩ (by dsimp only; omega)
             · dsimp only; rw [wl_t hq, List.length_append]; show u2 _ 1000 23 _ 1000 23 = _; rw [u2_s]; simp
             · dsimp only at hi ⊢
               rw [wl_t hq] at hi ⊢
               rw [List.length_append] at hi
               simp only [List.length_singleton] at hi
               show u2 (u2 g2.2.1 1024 _ _) 1000 23 _ 1024 i = _
               rw [u2_n (Or.inl (by decide))]
               by_cases e : i = (wl g.2.1 c D m).length
               · subst e
                 have e2 : (((wl g.2.1 c D m).length : Nat) : Int).toNat = (wl g.2.1 c D m).length := Int.toNat_natCast _
                 rw [e2, u2_s, List.getElem?_append_right (Nat.le_refl _)]; simp
               · have e2 : (((wl g.2.1 c D m).length : Nat) : Int).toNat = (wl g.2.1 c D m).length := Int.toNat_natCast _
                 rw [e2, u2_n (Or.inr e), List.getElem?_append_left (by omega)]
                 exact hw i (by omega))
  · exact ⟨by dsimp only; omega, sameB.rf.wr (Or.inl ⟨rfl, rfl⟩), rfl, fun i hi => absurd hi (Nat.not_lt_zero i)⟩
