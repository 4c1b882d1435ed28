set_option maxHeartbeats 1000000 in
set_option maxRecDepth 100000 in
theorem law_loop {L : Nat} {xs : Nat → Int32} (hL4 : L ≤ 4608) (g0 : GH) (hP0 : CPL g0) : AW mL_law (Tl L xs) (1000, 10000) g0 18 [vA 1000300, vA 1, vA 1000, vI 0] [] := by
  have key := AW.loopK (M := mL_law) (T := Tl L xs) (pc := 18) (α := GH × Nat) (fun p => (1000 + 5 * p.2, 10000 + 43 * p.2)) (fun p => L - 9 * p.2) (fun p => CPL p.1 ∧ 9 * p.2 ≤ L) (fun p => p.1) (fun p => [vA 1000300, vA 1, vA 1000, vI (9 * (p.2 : Int))]) (fun _ => []) ?_ (g0, 0) ⟨hP0, by dsimp only; omega⟩
  · exact key
  · rintro ⟨g, n⟩ ⟨hP, hn9⟩ ih
    dsimp only at hP hn9 ih ⊢
    refine a_iload_n 19 dL_law_18 rfl rfl ?_
    refine a_aload_n 20 dL_law_19 rfl rfl ?_
    refine a_slen 21 dL_law_20 hL4 rfl ?_
    refine a_bipush (z := 9) 23 dL_law_21 rfl (zrl rfl) rfl ?_
    refine a_isub 24 dL_law_23 (by unfold zr; omega) rfl ?_
    refine a_icmp_gt 1307 27 dL_law_24 (by decide) rfl (fun c24 => ?_) (fun c24 => ?_)
    · refine a_iconst (z := 1) 1308 dL_law_1307 rfl (zrl rfl) rfl ?_
      exact a_lret dL_law_1308 ⟨by show 1000 + 5 * n ≤ 600000; omega, by show 10000 + 43 * n ≤ 7302250; omega⟩
    · have hn : 9 * n + 9 ≤ L := by omega
      have fin : ∀ (kn' : Nat × Nat) g', CPL g' → kn'.1 ≤ (1000 + 5 * n) + 5 ∧ kn'.2 ≤ (10000 + 43 * n) + 43 → AW mL_law (Tl L xs) kn' g' 1301 [vA 1000300, vA 1, vA 1000, vI (9 * (n : Int))] [] := by
        intro kn' g' hP' hk'
        refine a_iinc 1304 dL_law_1301 rfl (by unfold zr; omega) (by decide) rfl rfl ?_
        refine a_goto 18 dL_law_1304 (by decide) ?_
        have k := ih (g', n + 1) ⟨hP', by dsimp only; omega⟩ (by dsimp only; omega)
        dsimp only at k
        rw [show 9 * ((n + 1 : Nat) : Int) = 9 * (n : Int) + 9 by omega] at k
        exact a_wide ⟨by (try dsimp only); omega, by (try dsimp only); omega⟩ k
      have hk : (1000 + 5 * n) + 5 ≤ 600000 ∧ (10000 + 43 * n) + 43 ≤ 7302250 := by omega
      refine a_aload_n 28 dL_law_27 rfl rfl ?_
      refine a_iload_n 29 dL_law_28 rfl rfl ?_
      refine a_sld 30 dL_law_29 (by omega) (by omega) rfl ?_
      refine a_bipush (z := 31) 32 dL_law_30 rfl (zrl rfl) rfl ?_
      refine a_iand _ 33 dL_law_32 v_and31 rfl ?_
      refine a_case (0) (fun c33_0 => ?_) (fun c33_0 => ?_)
      · refine a_tblIn (127) 160 dL_law_33 (by omega) (by omega) (by rw [c33_0]; rfl) (by decide) ?_
        exact law_town hP hL4 hn hk fin
      refine a_case (1) (fun c33_1 => ?_) (fun c33_1 => ?_)
      · refine a_tblIn (160) 193 dL_law_33 (by omega) (by omega) (by rw [c33_1]; rfl) (by decide) ?_
        exact law_office hP hL4 hn hk fin
      refine a_case (2) (fun c33_2 => ?_) (fun c33_2 => ?_)
      · refine a_tblIn (203) 236 dL_law_33 (by omega) (by omega) (by rw [c33_2]; rfl) (by decide) ?_
        exact law_die hP hL4 hn hk fin
      refine a_case (3) (fun c33_3 => ?_) (fun c33_3 => ?_)
      · refine a_tblIn (266) 299 dL_law_33 (by omega) (by omega) (by rw [c33_3]; rfl) (by decide) ?_
        exact law_mark hP hL4 hn hk fin
      refine a_case (4) (fun c33_4 => ?_) (fun c33_4 => ?_)
      · refine a_tblIn (365) 398 dL_law_33 (by omega) (by omega) (by rw [c33_4]; rfl) (by decide) ?_
        exact law_lean hP hL4 hn hk fin
      refine a_case (5) (fun c33_5 => ?_) (fun c33_5 => ?_)
      · refine a_tblIn (398) 431 dL_law_33 (by omega) (by omega) (by rw [c33_5]; rfl) (by decide) ?_
        exact law_about hP hL4 hn hk fin
      refine a_case (6) (fun c33_6 => ?_) (fun c33_6 => ?_)
      · refine a_tblIn (431) 464 dL_law_33 (by omega) (by omega) (by rw [c33_6]; rfl) (by decide) ?_
        exact law_span hP hL4 hn hk fin
      refine a_case (7) (fun c33_7 => ?_) (fun c33_7 => ?_)
      · refine a_tblIn (464) 497 dL_law_33 (by omega) (by omega) (by rw [c33_7]; rfl) (by decide) ?_
        exact law_can hP hL4 hn hk fin
      refine a_case (8) (fun c33_8 => ?_) (fun c33_8 => ?_)
      · refine a_tblIn (497) 530 dL_law_33 (by omega) (by omega) (by rw [c33_8]; rfl) (by decide) ?_
        exact law_marks hP hL4 hn hk fin
      refine a_case (9) (fun c33_9 => ?_) (fun c33_9 => ?_)
      · refine a_tblIn (530) 563 dL_law_33 (by omega) (by omega) (by rw [c33_9]; rfl) (by decide) ?_
        exact law_sail hP hL4 hn hk fin
      refine a_case (10) (fun c33_10 => ?_) (fun c33_10 => ?_)
      · refine a_tblIn (583) 616 dL_law_33 (by omega) (by omega) (by rw [c33_10]; rfl) (by decide) ?_
        exact law_late hP hL4 hn hk fin
      refine a_case (11) (fun c33_11 => ?_) (fun c33_11 => ?_)
      · refine a_tblIn (616) 649 dL_law_33 (by omega) (by omega) (by rw [c33_11]; rfl) (by decide) ?_
        exact law_road hP hL4 hn hk fin
      refine a_case (12) (fun c33_12 => ?_) (fun c33_12 => ?_)
      · refine a_tblIn (659) 692 dL_law_33 (by omega) (by omega) (by rw [c33_12]; rfl) (by decide) ?_
        exact law_soonest hP hL4 hn hk fin
      refine a_case (13) (fun c33_13 => ?_) (fun c33_13 => ?_)
      · refine a_tblIn (702) 735 dL_law_33 (by omega) (by omega) (by rw [c33_13]; rfl) (by decide) ?_
        exact law_goes hP hL4 hn hk fin
      refine a_case (14) (fun c33_14 => ?_) (fun c33_14 => ?_)
      · refine a_tblIn (745) 778 dL_law_33 (by omega) (by omega) (by rw [c33_14]; rfl) (by decide) ?_
        exact law_when hP hL4 hn hk fin
      refine a_case (15) (fun c33_15 => ?_) (fun c33_15 => ?_)
      · refine a_tblIn (798) 831 dL_law_33 (by omega) (by omega) (by rw [c33_15]; rfl) (by decide) ?_
        exact law_bars hP hL4 hn hk fin
      refine a_case (16) (fun c33_16 => ?_) (fun c33_16 => ?_)
      · refine a_tblIn (831) 864 dL_law_33 (by omega) (by omega) (by rw [c33_16]; rfl) (by decide) ?_
        exact law_fewest hP hL4 hn hk fin
      refine a_case (17) (fun c33_17 => ?_) (fun c33_17 => ?_)
      · refine a_tblIn (874) 907 dL_law_33 (by omega) (by omega) (by rw [c33_17]; rfl) (by decide) ?_
        exact law_type hP hL4 hn hk fin
      refine a_case (18) (fun c33_18 => ?_) (fun c33_18 => ?_)
      · refine a_tblIn (937) 970 dL_law_33 (by omega) (by omega) (by rw [c33_18]; rfl) (by decide) ?_
        exact law_clear hP hL4 hn hk fin
      refine a_case (19) (fun c33_19 => ?_) (fun c33_19 => ?_)
      · refine a_tblIn (950) 983 dL_law_33 (by omega) (by omega) (by rw [c33_19]; rfl) (by decide) ?_
        exact law_rates hP hL4 hn hk fin
      refine a_case (20) (fun c33_20 => ?_) (fun c33_20 => ?_)
      · refine a_tblIn (963) 996 dL_law_33 (by omega) (by omega) (by rw [c33_20]; rfl) (by decide) ?_
        exact law_owed hP hL4 hn hk fin
      refine a_case (21) (fun c33_21 => ?_) (fun c33_21 => ?_)
      · refine a_tblIn (1026) 1059 dL_law_33 (by omega) (by omega) (by rw [c33_21]; rfl) (by decide) ?_
        exact law_weights hP hL4 hn hk fin
      refine a_case (22) (fun c33_22 => ?_) (fun c33_22 => ?_)
      · refine a_tblIn (1089) 1122 dL_law_33 (by omega) (by omega) (by rw [c33_22]; rfl) (by decide) ?_
        exact law_mail hP hL4 hn hk fin
      refine a_case (23) (fun c33_23 => ?_) (fun c33_23 => ?_)
      · refine a_tblIn (1132) 1165 dL_law_33 (by omega) (by omega) (by rw [c33_23]; rfl) (by decide) ?_
        exact law_heap hP hL4 hn hk fin
      refine a_case (24) (fun c33_24 => ?_) (fun c33_24 => ?_)
      · refine a_tblIn (1165) 1198 dL_law_33 (by omega) (by omega) (by rw [c33_24]; rfl) (by decide) ?_
        exact law_many hP hL4 hn hk fin
      refine a_case (25) (fun c33_25 => ?_) (fun c33_25 => ?_)
      · refine a_tblIn (1198) 1231 dL_law_33 (by omega) (by omega) (by rw [c33_25]; rfl) (by decide) ?_
        exact law_look hP hL4 hn hk fin
      refine a_case (26) (fun c33_26 => ?_) (fun c33_26 => ?_)
      · refine a_tblIn (1231) 1264 dL_law_33 (by omega) (by omega) (by rw [c33_26]; rfl) (by decide) ?_
        exact law_count hP hL4 hn hk fin
      refine a_case (27) (fun c33_27 => ?_) (fun c33_27 => ?_)
      · refine a_tblIn (1254) 1287 dL_law_33 (by omega) (by omega) (by rw [c33_27]; rfl) (by decide) ?_
        exact law_trace hP hL4 hn hk fin
      refine a_tblOut 1301 dL_law_33 (by omega) (by decide) ?_
      exact fin _ _ hP ⟨by (try dsimp only); omega, by (try dsimp only); omega⟩
set_option maxHeartbeats 1000000 in
set_option maxRecDepth 100000 in
theorem law_all {L : Nat} {xs : Nat → Int32} (hL4 : L ≤ 4608) : AW mL_law (Tl L xs) (0, 0) g00 0 [vA 1000300, none, none, none] [] := by
  refine a_new (1) 3 dL_law_0 nL_7 (by decide) rfl (by decide) (by decide) (by decide) rfl ?_
  refine a_dup 4 dL_law_3 (by intro w h; cases h) rfl ?_
  refine a_callIA 7 (c11_init _ rfl) cdX11_init lL_9 dL_law_4 rfl rfl ⟨by decide, by decide, by decide, by decide⟩ (Nat.le_of_ble_eq_true rfl) rfl ?_
  rintro _ _ - rfl -
  refine a_astore_n 8 dL_law_7 (by decide) rfl rfl ?_
  refine a_new (1000) 11 dL_law_8 nL_10 (by decide) rfl (by decide) (by decide) (by decide) rfl ?_
  refine a_dup 12 dL_law_11 (by intro w h; cases h) rfl ?_
  refine a_callIA 15 (c12_init _ rfl) cdX12_init lL_12 dL_law_12 rfl rfl ⟨by decide, by decide, by decide, by decide⟩ (Nat.le_of_ble_eq_true rfl) rfl ?_
  rintro _ _ - rfl -
  refine a_astore_n 16 dL_law_15 (by decide) rfl rfl ?_
  refine a_iconst (z := 0) 17 dL_law_16 rfl (zrl rfl) rfl ?_
  refine a_istore_n 18 dL_law_17 (by decide) rfl rfl ?_
  refine a_wide (kn' := (1000, 10000)) ⟨by decide, by decide⟩ ?_
  exact law_loop hL4 g03 cpl_0
