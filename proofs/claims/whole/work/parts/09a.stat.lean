section SW
variable {M : MI} {T : TT} {kn : Nat × Nat} {g : GH} {pc : Nat} {ls st : List AV}
theorem a_case {x : Int} (k : Int) (h1 : x = k → AW M T kn g pc ls (vI x :: st)) (h2 : x ≠ k → AW M T kn g pc ls (vI x :: st)) : AW M T kn g pc ls (vI x :: st) := by
  by_cases h : x = k
  · exact h1 h
  · exact h2 h
theorem a_tblIn {x dflt lo hi : Int} {offs : Array Int} {len : Nat} (off : Int) (tgt : Nat) (hd : decode M.2.1 pc = .ok (.tableswitch dflt lo hi offs, len)) (h3 : ¬ x < lo) (h4 : ¬ hi < x) (ho : offs[(x - lo).toNat]? = some off) (ht : (pc : Int) + off = (tgt : Int)) (k : AW M T kn g tgt ls st) : AW M T kn g pc ls (vI x :: st) := by
  intro p l e s m args below meth c B D cid ad0 ad H locs LS mc hK hX hE hR hL hl h1 h2
  have q := zr_toInt (okh h2 : zr x)
  exact lv_tableIn mc.1 mc.2.1 hd (by rw [q]; exact h3) (by rw [q]; exact h4) (by rw [q]; exact ho) ht (k p l e s m args below meth c B D cid ad0 ad H locs LS mc hK hX hE hR hL hl h1 (okt h2))
theorem a_tblOut {x dflt lo hi : Int} {offs : Array Int} {len : Nat} (tgt : Nat) (hd : decode M.2.1 pc = .ok (.tableswitch dflt lo hi offs, len)) (h3 : x < lo ∨ hi < x) (ht : (pc : Int) + dflt = (tgt : Int)) (k : AW M T kn g tgt ls st) : AW M T kn g pc ls (vI x :: st) := by
  intro p l e s m args below meth c B D cid ad0 ad H locs LS mc hK hX hE hR hL hl h1 h2
  have q := zr_toInt (okh h2 : zr x)
  exact lv_tableOut mc.1 mc.2.1 hd (by rw [q]; exact h3) ht (k p l e s m args below meth c B D cid ad0 ad H locs LS mc hK hX hE hR hL hl h1 (okt h2))
theorem a_look {x dflt : Int} {ps : Array (Int × Int)} {len : Nat} (off : Int) (tgt : Nat) (hd : decode M.2.1 pc = .ok (.lookupswitch dflt ps, len)) (hp : (ps.toList.zip (ps.toList.drop 1)).all (fun (a, next) => a.1 < next.1) = true) (ho : Op.lookupswitch.offset ps.toList dflt x = off) (ht : (pc : Int) + off = (tgt : Int)) (k : AW M T kn g tgt ls st) : AW M T kn g pc ls (vI x :: st) := by
  intro p l e s m args below meth c B D cid ad0 ad H locs LS mc hK hX hE hR hL hl h1 h2
  have q := zr_toInt (okh h2 : zr x)
  exact lv_lookup mc.1 mc.2.1 hd hp (by rw [q]; exact ho) ht (k p l e s m args below meth c B D cid ad0 ad H locs LS mc hK hX hE hR hL hl h1 (okt h2))
theorem a_max {index : Nat} {x y : Int} (pc2 : Nat) (hlk : LK M.1.cls index mJ9_max_7cf53) (hd : decode M.2.1 pc = .ok (.invokestatic index, 3)) (hfit : fit0 M mJ9_max_7cf53) (hk : kn.1 ≤ M.2.2.2.2.cells ∧ kn.2 ≤ M.2.2.2.2.slots) (hs : (st.map acat).sum ≤ 8) (hp : pc + 3 = pc2) (kk : AW M T kn g pc2 ls (vI (if x < y then y else x) :: st)) : AW M T kn g pc ls (vI y :: vI x :: st) := by
  intro p l e s m args below meth c B D cid ad0 ad H locs LS mc hK hX hE hR hL hl h1 h2
  subst hp
  have hy : zr y := okh h2
  have hx : zr x := okh (okt h2)
  have hts := mc.2.2.2.2.2.1
  have h9 := room_st (m := m) (LS := LS) (rest := st.map (cv ad)) (pc := pc) (ad := ad) hs
  have hl2 : 8 + (2 + 11) + 0 ≤ M.2.2.2.2.locals := hfit.2.1
  have hcd : Cond.code Lib.Math.max.name Lib.Math.max.code 2 (some .int) ∈ tb := by
    have := cdJ9_max_7cf53.1.1
    rw [show Cond.code Lib.Math.max.name Lib.Math.max.code 2 (some .int) = Cond.code mJ9_max_7cf53.1 mJ9_max_7cf53.2.1 mJ9_max_7cf53.2.2.1 mJ9_max_7cf53.2.2.2.1 from by rw [show mJ9_max_7cf53.2.1 = Lib.Math.max.code by decide +kernel]; rfl]
    exact this
  refine va_mmax mc.1 mc.2.1 (by rw [mc.2.2.2.1]; exact hl.1.symm) mc.2.2.2.2.1 (hts _ hlk) (hts _ cdJ9_max_7cf53.2) (hts _ cdJ9_max_7cf53.1.2.1) (hts _ hcd) (by have := hfit.1; omega) (by omega) hk.1 hk.2 hd ?_
  have e9 : (if Int32.ofInt x < Int32.ofInt y then Int32.ofInt y else Int32.ofInt x) = Int32.ofInt (if x < y then y else x) := by
    by_cases q : x < y
    · rw [if_pos q, if_pos ((zi_lt hx hy).mpr q)]
    · rw [if_neg q, if_neg (fun z => q ((zi_lt hx hy).mp z))]
  rw [e9]
  exact kk p l e s m args below meth c B D cid ad0 ad H locs LS mc hK hX hE hR hL hl h1 (okc (by show zr _; split <;> assumption) (okt (okt h2)))
theorem a_min {index : Nat} {x y : Int} (pc2 : Nat) (hlk : LK M.1.cls index mJ9_min_7cf53) (hd : decode M.2.1 pc = .ok (.invokestatic index, 3)) (hfit : fit0 M mJ9_min_7cf53) (hk : kn.1 ≤ M.2.2.2.2.cells ∧ kn.2 ≤ M.2.2.2.2.slots) (hs : (st.map acat).sum ≤ 8) (hp : pc + 3 = pc2) (kk : AW M T kn g pc2 ls (vI (if y < x then y else x) :: st)) : AW M T kn g pc ls (vI y :: vI x :: st) := by
  intro p l e s m args below meth c B D cid ad0 ad H locs LS mc hK hX hE hR hL hl h1 h2
  subst hp
  have hy : zr y := okh h2
  have hx : zr x := okh (okt h2)
  have hts := mc.2.2.2.2.2.1
  have h9 := room_st (m := m) (LS := LS) (rest := st.map (cv ad)) (pc := pc) (ad := ad) hs
  have hl2 : 8 + (2 + 11) + 0 ≤ M.2.2.2.2.locals := hfit.2.1
  have hcd : Cond.code Lib.Math.min.name Lib.Math.min.code 2 (some .int) ∈ tb := by
    have := cdJ9_min_7cf53.1.1
    rw [show Cond.code Lib.Math.min.name Lib.Math.min.code 2 (some .int) = Cond.code mJ9_min_7cf53.1 mJ9_min_7cf53.2.1 mJ9_min_7cf53.2.2.1 mJ9_min_7cf53.2.2.2.1 from by rw [show mJ9_min_7cf53.2.1 = Lib.Math.min.code by decide +kernel]; rfl]
    exact this
  refine va_mmin mc.1 mc.2.1 (by rw [mc.2.2.2.1]; exact hl.1.symm) mc.2.2.2.2.1 (hts _ hlk) (hts _ cdJ9_min_7cf53.2) (hts _ cdJ9_min_7cf53.1.2.1) (hts _ hcd) (by have := hfit.1; omega) (by omega) hk.1 hk.2 hd ?_
  have e9 : (if Int32.ofInt y < Int32.ofInt x then Int32.ofInt y else Int32.ofInt x) = Int32.ofInt (if y < x then y else x) := by
    by_cases q : y < x
    · rw [if_pos q, if_pos ((zi_lt hy hx).mpr q)]
    · rw [if_neg q, if_neg (fun z => q ((zi_lt hy hx).mp z))]
  rw [e9]
  exact kk p l e s m args below meth c B D cid ad0 ad H locs LS mc hK hX hE hR hL hl h1 (okc (by show zr _; split <;> assumption) (okt (okt h2)))
end SW
theorem klX1_25 : LK RX1 25 mJ9_max_7cf53 := tb_in (List.mem_of_getElem? (i := 584) (by decide +kernel)) rfl
theorem klX1_34 : LK RX1 34 mJ9_min_7cf53 := tb_in (List.mem_of_getElem? (i := 590) (by decide +kernel)) rfl
theorem klX5_115 : LK RX5 115 mJ9_max_7cf53 := tb_in (List.mem_of_getElem? (i := 515) (by decide +kernel)) rfl
theorem klX8_96 : LK RX8 96 mJ9_max_7cf53 := tb_in (List.mem_of_getElem? (i := 832) (by decide +kernel)) rfl
theorem klX8_129 : LK RX8 129 mJ9_min_7cf53 := tb_in (List.mem_of_getElem? (i := 739) (by decide +kernel)) rfl
set_option maxHeartbeats 4000000 in
set_option maxRecDepth 100000 in
theorem c11_within (g : GH) (v a b : Int)  : AMet mX11_within g [vI v, vI a, vI b] (pB g (a ≤ v ∧ v ≤ b)) := by
  refine AMet.of [vI v, vI a, vI b] (by decide) rfl (Nat.le_of_ble_eq_true rfl) ?_
  refine a_iload_n 1 dX11_within_0 rfl rfl ?_
  refine a_iload_n 2 dX11_within_1 rfl rfl ?_
  refine a_icmp_lt 14 5 dX11_within_2 (by decide) rfl (fun c2 => ?_) (fun c2 => ?_)
  · skip
    refine a_iconst (z := 0) 15 dX11_within_14 rfl (zrl rfl) rfl ?_
    refine a_breturn dX11_within_15 rfl (by omega) ⟨Nat.zero_le _, Nat.zero_le _⟩ ?_
    exact ⟨_, rfl, rfl, by omega⟩
  · skip
    refine a_iload_n 6 dX11_within_5 rfl rfl ?_
    refine a_iload_n 7 dX11_within_6 rfl rfl ?_
    refine a_icmp_gt 14 10 dX11_within_7 (by decide) rfl (fun c7 => ?_) (fun c7 => ?_)
    · skip
      refine a_iconst (z := 0) 15 dX11_within_14 rfl (zrl rfl) rfl ?_
      refine a_breturn dX11_within_15 rfl (by omega) ⟨Nat.zero_le _, Nat.zero_le _⟩ ?_
      exact ⟨_, rfl, rfl, by omega⟩
    · skip
      refine a_iconst (z := 1) 11 dX11_within_10 rfl (zrl rfl) rfl ?_
      refine a_goto 15 dX11_within_11 (by decide) ?_
      refine a_breturn dX11_within_15 rfl (by omega) ⟨Nat.zero_le _, Nat.zero_le _⟩ ?_
      exact ⟨_, rfl, rfl, by omega⟩
set_option maxHeartbeats 4000000 in
set_option maxRecDepth 100000 in
theorem c11_isDay (g : GH) (v : Int)  : AMet mX11_isDay g [vI v] (pB g (0 ≤ v ∧ v ≤ 999)) := by
  refine AMet.of [vI v] (by decide) rfl (Nat.le_of_ble_eq_true rfl) ?_
  refine a_iload_n 1 dX11_isDay_0 rfl rfl ?_
  refine a_iconst (z := 0) 2 dX11_isDay_1 rfl (zrl rfl) rfl ?_
  refine a_sipush (z := 999) 5 dX11_isDay_2 rfl (zrl rfl) rfl ?_
  refine a_callS 8 (c11_within _ _ _ _) cdX11_within lX11_79 dX11_isDay_5 rfl rfl ⟨by decide, by decide, rfl, rfl⟩ ⟨Nat.zero_le _, Nat.zero_le _⟩ (Nat.le_of_ble_eq_true rfl) rfl ?_
  rintro _ _ - ⟨b5, rfl, rfl, h5⟩ -
  refine a_breturn dX11_isDay_8 rfl (by omega) ⟨Nat.zero_le _, Nat.zero_le _⟩ ?_
  exact ⟨_, rfl, rfl, by omega⟩
set_option maxHeartbeats 4000000 in
set_option maxRecDepth 100000 in
theorem c11_isDayOrNone (g : GH) (v : Int)  : AMet mX11_isDayOrNone g [vI v] (pB g (v = -9 ∨ (0 ≤ v ∧ v ≤ 999))) := by
  refine AMet.of [vI v] (by decide) rfl (Nat.le_of_ble_eq_true rfl) ?_
  refine a_iload_n 1 dX11_isDayOrNone_0 rfl rfl ?_
  refine a_bipush (z := (-9)) 3 dX11_isDayOrNone_1 rfl (zrl rfl) rfl ?_
  refine a_icmp_eq 13 6 dX11_isDayOrNone_3 (by decide) rfl (fun c3 => ?_) (fun c3 => ?_)
  · skip
    refine a_iconst (z := 1) 14 dX11_isDayOrNone_13 rfl (zrl rfl) rfl ?_
    refine a_goto 18 dX11_isDayOrNone_14 (by decide) ?_
    refine a_breturn dX11_isDayOrNone_18 rfl (by omega) ⟨Nat.zero_le _, Nat.zero_le _⟩ ?_
    exact ⟨_, rfl, rfl, by omega⟩
  · skip
    refine a_iload_n 7 dX11_isDayOrNone_6 rfl rfl ?_
    refine a_callS 10 (c11_isDay _ _) cdX11_isDay lX11_100 dX11_isDayOrNone_7 rfl rfl ⟨by decide, by decide, rfl, rfl⟩ ⟨Nat.zero_le _, Nat.zero_le _⟩ (Nat.le_of_ble_eq_true rfl) rfl ?_
    rintro _ _ - ⟨b7, rfl, rfl, h7⟩ -
    refine a_if_eq 17 13 dX11_isDayOrNone_10 (by decide) rfl (fun c10 => ?_) (fun c10 => ?_)
    · skip
      refine a_iconst (z := 0) 18 dX11_isDayOrNone_17 rfl (zrl rfl) rfl ?_
      refine a_breturn dX11_isDayOrNone_18 rfl (by omega) ⟨Nat.zero_le _, Nat.zero_le _⟩ ?_
      exact ⟨_, rfl, rfl, by omega⟩
    · skip
      refine a_iconst (z := 1) 14 dX11_isDayOrNone_13 rfl (zrl rfl) rfl ?_
      refine a_goto 18 dX11_isDayOrNone_14 (by decide) ?_
      refine a_breturn dX11_isDayOrNone_18 rfl (by omega) ⟨Nat.zero_le _, Nat.zero_le _⟩ ?_
      exact ⟨_, rfl, rfl, by omega⟩
set_option maxHeartbeats 4000000 in
set_option maxRecDepth 100000 in
theorem c11_isStretch (g : GH) (v w : Int)  : AMet mX11_isStretch g [vI v, vI w] (pB g (0 ≤ v ∧ v ≤ w ∧ w ≤ 999)) := by
  refine AMet.of [vI v, vI w] (by decide) rfl (Nat.le_of_ble_eq_true rfl) ?_
  refine a_iload_n 1 dX11_isStretch_0 rfl rfl ?_
  refine a_callS 4 (c11_isDay _ _) cdX11_isDay lX11_100 dX11_isStretch_1 rfl rfl ⟨by decide, by decide, rfl, rfl⟩ ⟨Nat.zero_le _, Nat.zero_le _⟩ (Nat.le_of_ble_eq_true rfl) rfl ?_
  rintro _ _ - ⟨b1, rfl, rfl, h1⟩ -
  refine a_if_eq 23 7 dX11_isStretch_4 (by decide) rfl (fun c4 => ?_) (fun c4 => ?_)
  · skip
    refine a_iconst (z := 0) 24 dX11_isStretch_23 rfl (zrl rfl) rfl ?_
    refine a_breturn dX11_isStretch_24 rfl (by omega) ⟨Nat.zero_le _, Nat.zero_le _⟩ ?_
    exact ⟨_, rfl, rfl, by omega⟩
  · skip
    refine a_iload_n 8 dX11_isStretch_7 rfl rfl ?_
    refine a_callS 11 (c11_isDay _ _) cdX11_isDay lX11_100 dX11_isStretch_8 rfl rfl ⟨by decide, by decide, rfl, rfl⟩ ⟨Nat.zero_le _, Nat.zero_le _⟩ (Nat.le_of_ble_eq_true rfl) rfl ?_
    rintro _ _ - ⟨b8, rfl, rfl, h8⟩ -
    refine a_if_eq 23 14 dX11_isStretch_11 (by decide) rfl (fun c11 => ?_) (fun c11 => ?_)
    · skip
      refine a_iconst (z := 0) 24 dX11_isStretch_23 rfl (zrl rfl) rfl ?_
      refine a_breturn dX11_isStretch_24 rfl (by omega) ⟨Nat.zero_le _, Nat.zero_le _⟩ ?_
      exact ⟨_, rfl, rfl, by omega⟩
    · skip
      refine a_iload_n 15 dX11_isStretch_14 rfl rfl ?_
      refine a_iload_n 16 dX11_isStretch_15 rfl rfl ?_
      refine a_icmp_gt 23 19 dX11_isStretch_16 (by decide) rfl (fun c16 => ?_) (fun c16 => ?_)
      · skip
        refine a_iconst (z := 0) 24 dX11_isStretch_23 rfl (zrl rfl) rfl ?_
        refine a_breturn dX11_isStretch_24 rfl (by omega) ⟨Nat.zero_le _, Nat.zero_le _⟩ ?_
        exact ⟨_, rfl, rfl, by omega⟩
      · skip
        refine a_iconst (z := 1) 20 dX11_isStretch_19 rfl (zrl rfl) rfl ?_
        refine a_goto 24 dX11_isStretch_20 (by decide) ?_
        refine a_breturn dX11_isStretch_24 rfl (by omega) ⟨Nat.zero_le _, Nat.zero_le _⟩ ?_
        exact ⟨_, rfl, rfl, by omega⟩
set_option maxHeartbeats 4000000 in
set_option maxRecDepth 100000 in
theorem c11_isCover (g : GH) (v : Int)  : AMet mX11_isCover g [vI v] (pB g (0 ≤ v ∧ v ≤ 7)) := by
  refine AMet.of [vI v] (by decide) rfl (Nat.le_of_ble_eq_true rfl) ?_
  refine a_iload_n 1 dX11_isCover_0 rfl rfl ?_
  refine a_iconst (z := 0) 2 dX11_isCover_1 rfl (zrl rfl) rfl ?_
  refine a_bipush (z := 7) 4 dX11_isCover_2 rfl (zrl rfl) rfl ?_
  refine a_callS 7 (c11_within _ _ _ _) cdX11_within lX11_79 dX11_isCover_4 rfl rfl ⟨by decide, by decide, rfl, rfl⟩ ⟨Nat.zero_le _, Nat.zero_le _⟩ (Nat.le_of_ble_eq_true rfl) rfl ?_
  rintro _ _ - ⟨b4, rfl, rfl, h4⟩ -
  refine a_breturn dX11_isCover_7 rfl (by omega) ⟨Nat.zero_le _, Nat.zero_le _⟩ ?_
  exact ⟨_, rfl, rfl, by omega⟩
set_option maxHeartbeats 4000000 in
set_option maxRecDepth 100000 in
theorem c11_areTwoTowns (g : GH) (v w : Int)  : AMet mX11_areTwoTowns g [vI v, vI w] (pB g ((0 ≤ v ∧ v ≤ 5) ∧ (0 ≤ w ∧ w ≤ 5) ∧ v ≠ w)) := by
  refine AMet.of [vI v, vI w] (by decide) rfl (Nat.le_of_ble_eq_true rfl) ?_
  refine a_iload_n 1 dX11_areTwoTowns_0 rfl rfl ?_
  refine a_iconst (z := 0) 2 dX11_areTwoTowns_1 rfl (zrl rfl) rfl ?_
  refine a_iconst (z := 5) 3 dX11_areTwoTowns_2 rfl (zrl rfl) rfl ?_
  refine a_callS 6 (c11_within _ _ _ _) cdX11_within lX11_79 dX11_areTwoTowns_3 rfl rfl ⟨by decide, by decide, rfl, rfl⟩ ⟨Nat.zero_le _, Nat.zero_le _⟩ (Nat.le_of_ble_eq_true rfl) rfl ?_
  rintro _ _ - ⟨b3, rfl, rfl, h3⟩ -
  refine a_if_eq 27 9 dX11_areTwoTowns_6 (by decide) rfl (fun c6 => ?_) (fun c6 => ?_)
  · skip
    refine a_iconst (z := 0) 28 dX11_areTwoTowns_27 rfl (zrl rfl) rfl ?_
    refine a_breturn dX11_areTwoTowns_28 rfl (by omega) ⟨Nat.zero_le _, Nat.zero_le _⟩ ?_
    exact ⟨_, rfl, rfl, by omega⟩
  · skip
    refine a_iload_n 10 dX11_areTwoTowns_9 rfl rfl ?_
    refine a_iconst (z := 0) 11 dX11_areTwoTowns_10 rfl (zrl rfl) rfl ?_
    refine a_iconst (z := 5) 12 dX11_areTwoTowns_11 rfl (zrl rfl) rfl ?_
    refine a_callS 15 (c11_within _ _ _ _) cdX11_within lX11_79 dX11_areTwoTowns_12 rfl rfl ⟨by decide, by decide, rfl, rfl⟩ ⟨Nat.zero_le _, Nat.zero_le _⟩ (Nat.le_of_ble_eq_true rfl) rfl ?_
    rintro _ _ - ⟨b12, rfl, rfl, h12⟩ -
    refine a_if_eq 27 18 dX11_areTwoTowns_15 (by decide) rfl (fun c15 => ?_) (fun c15 => ?_)
    · skip
      refine a_iconst (z := 0) 28 dX11_areTwoTowns_27 rfl (zrl rfl) rfl ?_
      refine a_breturn dX11_areTwoTowns_28 rfl (by omega) ⟨Nat.zero_le _, Nat.zero_le _⟩ ?_
      exact ⟨_, rfl, rfl, by omega⟩
    · skip
      refine a_iload_n 19 dX11_areTwoTowns_18 rfl rfl ?_
      refine a_iload_n 20 dX11_areTwoTowns_19 rfl rfl ?_
      refine a_icmp_eq 27 23 dX11_areTwoTowns_20 (by decide) rfl (fun c20 => ?_) (fun c20 => ?_)
      · skip
        refine a_iconst (z := 0) 28 dX11_areTwoTowns_27 rfl (zrl rfl) rfl ?_
        refine a_breturn dX11_areTwoTowns_28 rfl (by omega) ⟨Nat.zero_le _, Nat.zero_le _⟩ ?_
        exact ⟨_, rfl, rfl, by omega⟩
      · skip
        refine a_iconst (z := 1) 24 dX11_areTwoTowns_23 rfl (zrl rfl) rfl ?_
        refine a_goto 28 dX11_areTwoTowns_24 (by decide) ?_
        refine a_breturn dX11_areTwoTowns_28 rfl (by omega) ⟨Nat.zero_le _, Nat.zero_le _⟩ ?_
        exact ⟨_, rfl, rfl, by omega⟩
set_option maxHeartbeats 4000000 in
set_option maxRecDepth 100000 in
theorem c11_areLandsAndDay (g : GH) (v w d : Int)  : AMet mX11_areLandsAndDay g [vI v, vI w, vI d] (pB g ((0 ≤ v ∧ v ≤ 2) ∧ (0 ≤ w ∧ w ≤ 2) ∧ (0 ≤ d ∧ d ≤ 999))) := by
  refine AMet.of [vI v, vI w, vI d] (by decide) rfl (Nat.le_of_ble_eq_true rfl) ?_
  refine a_iload_n 1 dX11_areLandsAndDay_0 rfl rfl ?_
  refine a_iconst (z := 0) 2 dX11_areLandsAndDay_1 rfl (zrl rfl) rfl ?_
  refine a_iconst (z := 2) 3 dX11_areLandsAndDay_2 rfl (zrl rfl) rfl ?_
  refine a_callS 6 (c11_within _ _ _ _) cdX11_within lX11_79 dX11_areLandsAndDay_3 rfl rfl ⟨by decide, by decide, rfl, rfl⟩ ⟨Nat.zero_le _, Nat.zero_le _⟩ (Nat.le_of_ble_eq_true rfl) rfl ?_
  rintro _ _ - ⟨b3, rfl, rfl, h3⟩ -
  refine a_if_eq 29 9 dX11_areLandsAndDay_6 (by decide) rfl (fun c6 => ?_) (fun c6 => ?_)
  · skip
    refine a_iconst (z := 0) 30 dX11_areLandsAndDay_29 rfl (zrl rfl) rfl ?_
    refine a_breturn dX11_areLandsAndDay_30 rfl (by omega) ⟨Nat.zero_le _, Nat.zero_le _⟩ ?_
    exact ⟨_, rfl, rfl, by omega⟩
  · skip
    refine a_iload_n 10 dX11_areLandsAndDay_9 rfl rfl ?_
    refine a_iconst (z := 0) 11 dX11_areLandsAndDay_10 rfl (zrl rfl) rfl ?_
    refine a_iconst (z := 2) 12 dX11_areLandsAndDay_11 rfl (zrl rfl) rfl ?_
    refine a_callS 15 (c11_within _ _ _ _) cdX11_within lX11_79 dX11_areLandsAndDay_12 rfl rfl ⟨by decide, by decide, rfl, rfl⟩ ⟨Nat.zero_le _, Nat.zero_le _⟩ (Nat.le_of_ble_eq_true rfl) rfl ?_
    rintro _ _ - ⟨b12, rfl, rfl, h12⟩ -
    refine a_if_eq 29 18 dX11_areLandsAndDay_15 (by decide) rfl (fun c15 => ?_) (fun c15 => ?_)
    · skip
      refine a_iconst (z := 0) 30 dX11_areLandsAndDay_29 rfl (zrl rfl) rfl ?_
      refine a_breturn dX11_areLandsAndDay_30 rfl (by omega) ⟨Nat.zero_le _, Nat.zero_le _⟩ ?_
      exact ⟨_, rfl, rfl, by omega⟩
    · skip
      refine a_iload_n 19 dX11_areLandsAndDay_18 rfl rfl ?_
      refine a_callS 22 (c11_isDay _ _) cdX11_isDay lX11_100 dX11_areLandsAndDay_19 rfl rfl ⟨by decide, by decide, rfl, rfl⟩ ⟨Nat.zero_le _, Nat.zero_le _⟩ (Nat.le_of_ble_eq_true rfl) rfl ?_
      rintro _ _ - ⟨b19, rfl, rfl, h19⟩ -
      refine a_if_eq 29 25 dX11_areLandsAndDay_22 (by decide) rfl (fun c22 => ?_) (fun c22 => ?_)
      · skip
        refine a_iconst (z := 0) 30 dX11_areLandsAndDay_29 rfl (zrl rfl) rfl ?_
        refine a_breturn dX11_areLandsAndDay_30 rfl (by omega) ⟨Nat.zero_le _, Nat.zero_le _⟩ ?_
        exact ⟨_, rfl, rfl, by omega⟩
      · skip
        refine a_iconst (z := 1) 26 dX11_areLandsAndDay_25 rfl (zrl rfl) rfl ?_
        refine a_goto 30 dX11_areLandsAndDay_26 (by decide) ?_
        refine a_breturn dX11_areLandsAndDay_30 rfl (by omega) ⟨Nat.zero_le _, Nat.zero_le _⟩ ?_
        exact ⟨_, rfl, rfl, by omega⟩
set_option maxHeartbeats 4000000 in
set_option maxRecDepth 100000 in
theorem c11_figureOf (g : GH) (d i : Int) (hd : 0 ≤ d) : AMet mX11_figureOf g [vI d, vI i] (pZ g (figD i d)) := by
  refine AMet.of [vI d, vI i] (by decide) rfl (Nat.le_of_ble_eq_true rfl) ?_
  refine a_iload_n 1 dX11_figureOf_0 rfl rfl ?_
  refine a_case (0) (fun c1_0 => ?_) (fun c1_0 => ?_)
  · refine a_look (27) 28 dX11_figureOf_1 (by decide) (by rw [c1_0]; rfl) (by decide) ?_
    refine a_iload_n 29 dX11_figureOf_28 rfl rfl ?_
    refine a_bipush (z := 100) 31 dX11_figureOf_29 rfl (zrl rfl) rfl ?_
    refine a_idiv 32 dX11_figureOf_31 (by omega) (by omega) rfl ?_
    refine a_ireturn dX11_figureOf_32 rfl ⟨Nat.zero_le _, Nat.zero_le _⟩ ?_
    exact ⟨congrArg vI (by unfold figD; first | rw [if_pos (by omega)] | rw [if_neg (by omega), if_pos (by omega)] | rw [if_neg (by omega), if_neg (by omega)]), rfl⟩
  refine a_case (1) (fun c1_1 => ?_) (fun c1_1 => ?_)
  · refine a_look (32) 33 dX11_figureOf_1 (by decide) (by rw [c1_1]; rfl) (by decide) ?_
    refine a_iload_n 34 dX11_figureOf_33 rfl rfl ?_
    refine a_bipush (z := 10) 36 dX11_figureOf_34 rfl (zrl rfl) rfl ?_
    refine a_idiv 37 dX11_figureOf_36 (by omega) (by omega) rfl ?_
    refine a_bipush (z := 10) 39 dX11_figureOf_37 rfl (zrl rfl) rfl ?_
    refine a_irem 40 dX11_figureOf_39 (by omega) (by omega) rfl ?_
    refine a_ireturn dX11_figureOf_40 rfl ⟨Nat.zero_le _, Nat.zero_le _⟩ ?_
    exact ⟨congrArg vI (by unfold figD; first | rw [if_pos (by omega)] | rw [if_neg (by omega), if_pos (by omega)] | rw [if_neg (by omega), if_neg (by omega)]), rfl⟩
  refine a_look (40) 41 dX11_figureOf_1 (by decide) (by simp only [Op.lookupswitch.offset_cons, Op.lookupswitch.offset_nil]; rw [if_neg (by omega)]; rw [if_neg (by omega)]) (by decide) ?_
  refine a_iload_n 42 dX11_figureOf_41 rfl rfl ?_
  refine a_bipush (z := 10) 44 dX11_figureOf_42 rfl (zrl rfl) rfl ?_
  refine a_irem 45 dX11_figureOf_44 (by omega) (by omega) rfl ?_
  refine a_ireturn dX11_figureOf_45 rfl ⟨Nat.zero_le _, Nat.zero_le _⟩ ?_
  exact ⟨congrArg vI (by unfold figD; first | rw [if_pos (by omega)] | rw [if_neg (by omega), if_pos (by omega)] | rw [if_neg (by omega), if_neg (by omega)]), rfl⟩
/-- the byte i of a date -/
def bOf (d i : Int) : Int := d / 2 ^ (8 * (2 - i)).toNat % 256
set_option maxHeartbeats 4000000 in
set_option maxRecDepth 100000 in
theorem c11_byteOf (g : GH) (d i : Int) (hd : 0 ≤ d) (hi : 0 ≤ i ∧ i ≤ 2) : AMet mX11_byteOf g [vI d, vI i] (pZ g (bOf d i)) := by
  refine AMet.of [vI d, vI i] (by decide) rfl (Nat.le_of_ble_eq_true rfl) ?_
  refine a_iload_n 1 dX11_byteOf_0 rfl rfl ?_
  refine a_bipush (z := 8) 3 dX11_byteOf_1 rfl (zrl rfl) rfl ?_
  refine a_iconst (z := 2) 4 dX11_byteOf_3 rfl (zrl rfl) rfl ?_
  refine a_iload_n 5 dX11_byteOf_4 rfl rfl ?_
  refine a_isub 6 dX11_byteOf_5 (by unfold zr; omega) rfl ?_
  refine a_imul 7 dX11_byteOf_6 (by unfold zr; omega) rfl ?_
  refine a_ishr _ 8 dX11_byteOf_7 (v_shr (by omega) (by omega) (by omega)) rfl ?_
  refine a_sipush (z := 255) 11 dX11_byteOf_8 rfl (zrl rfl) rfl ?_
  refine a_iand _ 12 dX11_byteOf_11 v_and255 rfl ?_
  refine a_ireturn dX11_byteOf_12 rfl ⟨Nat.zero_le _, Nat.zero_le _⟩ ?_
  exact ⟨rfl, rfl⟩
