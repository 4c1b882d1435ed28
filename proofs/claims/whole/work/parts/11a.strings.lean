/-! ===== String constants: at 1000000 + k, their bytes at 1000100 + k ===== -/
def sL (k : Nat) : Nat := sLen.getD k 0
def sZ : List (List Int) := [[114, 97, 116, 101], [112, 101, 114], [112, 97, 114, 116], [100, 117, 101], [62, 44, 45, 58, 43, 47, 59]]
def sB (k i : Nat) : Int := (sZ.getD k []).getD i 0
theorem sB_i : ∀ k, k < 5 → ∀ i, i < 7 → Int32.ofInt (sB k i) = (sByt.getD k []).getD i 0 := by decide +kernel
theorem sB_b : ∀ k, k < 5 → ∀ i, i < 7 → 0 ≤ sB k i ∧ sB k i ≤ 127 := by decide +kernel
theorem sL_7 : ∀ k, k < 5 → sL k ≤ 7 := by decide +kernel
section ASTR
variable {M : MI} {T : TT} {kn : Nat × Nat} {g : GH} {pc : Nat} {ls st : List AV}
theorem Rp.bas {B : BH} {D : va_G} {cid : FieldType → ClassId} {ad : Nat → Nat} {H : Heap} (h : Rp B D cid ad g H) : ∀ a : Nat, a < B.2.size → ¬ (fun q => B.1 ≤ q) a → H[a]? = B.2[a]? := fun a _ q => h.2.2.1 a (by simpa using q)
theorem a_ldcS {index k : Nat} {t : String} (pc2 : Nat) (hd : decode M.2.1 pc = .ok (.ldc index, 2)) (hk : sIdx[k]? = some (index, t)) (hM : M.1.cls = RX8) (hp : pc + 2 = pc2) (kk : AW M T kn g pc2 ls (vA (1000000 + k) :: st)) : AW M T kn g pc ls st := by
  intro p l e s m args below meth c B D cid ad0 ad H locs LS mc hK hX hE hR hL hl h1 h2
  subst hp
  obtain ⟨-, -, -, adK, adV, h3, h4, h5, -, -⟩ := id hK
  have hk5 : k < 5 := (List.getElem?_eq_some_iff.mp hk).1
  have k1 := kk p l e s m args below meth c B D cid ad0 ad H locs LS mc hK hX hE hR hL hl h1 (okc (Or.inr (by omega)) h2)
  have e1 : (vA (1000000 + k) :: st).map (cv ad) = .ref (adK k) :: st.map (cv ad) := by
    show Value.ref (ad (1000000 + k)) :: _ = _
    rw [(h4 k hk5).1]
  rw [e1] at k1
  exact va_ldcS mc.1 mc.2.1 (by rw [← hM]; exact mc.2.2.2.2.1) (h5 k index t hk) hd k1
theorem str_of {B : BH} {D : va_G} {cid : FieldType → ClassId} {ad : Nat → Nat} {H : Heap} {s : State} (hK : KN B D cid ad s) (hR : Rp B D cid ad g H) {k : Nat} (hk : k < 5) : va_O "java/lang/String" (ad (1000000 + k)) (fun q => B.1 ≤ q) s H ∧ va_OF "java/lang/String" "coder" "B" (.int 0) (ad (1000000 + k)) (fun q => B.1 ≤ q) s H ∧ va_OF "java/lang/String" "value" "[B" (.ref (ad (1000100 + k))) (ad (1000000 + k)) (fun q => B.1 ≤ q) s H ∧ va_T .byte (ad (1000100 + k)) (sL k) (fun j => .int ((sByt.getD k []).getD j 0)) (fun q => B.1 ≤ q) s H := by
  obtain ⟨-, -, -, adK, adV, h3, h4, -, -, -⟩ := hK
  rw [(h4 k hk).1, (h4 k hk).2]
  exact (h3.kept hR.bas).1 k hk

theorem lkSV : Cond.fieldLink RJ0 9 "java/lang/String" "value" "[B" ∈ tb := tb_in (List.mem_of_getElem? (i := 1294) (by decide +kernel)) rfl
theorem lkSC : Cond.fieldLink RJ0 15 "java/lang/String" "coder" "B" ∈ tb := tb_in (List.mem_of_getElem? (i := 1295) (by decide +kernel)) rfl
theorem lkZC : Cond.fieldLink RJ0 38 "java/lang/String" "COMPACT_STRINGS" "Z" ∈ tb := tb_in (List.mem_of_getElem? (i := 760) (by decide +kernel)) rfl
theorem lkZF : Cond.fieldLink RJ0 1053 "jdk/internal/util/Preconditions" "SIOOBE_FORMATTER" "Ljava/util/function/BiFunction;" ∈ tb := tb_in (List.mem_of_getElem? (i := 776) (by decide +kernel)) rfl
theorem a_getSV {k : Nat} (pc2 : Nat) (hd : decode M.2.1 pc = .ok (.getfield 9, 3)) (hk : k < 5) (hM : M.1.cls = RJ0) (hp : pc + 3 = pc2) (kk : AW M T kn g pc2 ls (vA (1000100 + k) :: st)) : AW M T kn g pc ls (vA (1000000 + k) :: st) := by
  intro p l e s m args below meth c B D cid ad0 ad H locs LS mc hK hX hE hR hL hl h1 h2
  subst hp
  obtain ⟨cf, kf, fi, f, cell, x1, x2, x3, x4, x5, x6⟩ := (str_of hK hR hk).2.2.1
  exact W.getf mc.1 mc.2.1 (own := RJ0) (by rw [← hM]; exact mc.2.2.2.2.1) (mc.2.2.2.2.2.1 _ lkSV) x1 x2 x3 x4 (v := .ref (ad (1000100 + k))) x5 rfl rfl hd (kk p l e s m args below meth c B D cid ad0 ad H locs LS mc hK hX hE hR hL hl h1 (okc (Or.inr (by omega)) (okt h2)))
theorem a_getSC {k : Nat} (pc2 : Nat) (hd : decode M.2.1 pc = .ok (.getfield 15, 3)) (hk : k < 5) (hM : M.1.cls = RJ0) (hp : pc + 3 = pc2) (kk : AW M T kn g pc2 ls (vI 0 :: st)) : AW M T kn g pc ls (vA (1000000 + k) :: st) := by
  intro p l e s m args below meth c B D cid ad0 ad H locs LS mc hK hX hE hR hL hl h1 h2
  subst hp
  obtain ⟨cf, kf, fi, f, cell, x1, x2, x3, x4, x5, x6⟩ := (str_of hK hR hk).2.1
  exact W.getf mc.1 mc.2.1 (own := RJ0) (by rw [← hM]; exact mc.2.2.2.2.1) (mc.2.2.2.2.2.1 _ lkSC) x1 x2 x3 x4 (v := .int 0) x5 rfl rfl hd (kk p l e s m args below meth c B D cid ad0 ad H locs LS mc hK hX hE hR hL hl h1 (okc zr_0 (okt h2)))
theorem a_alenS {k : Nat} (pc2 : Nat) (hd : decode M.2.1 pc = .ok (.arraylength, 1)) (hk : k < 5) (hp : pc + 1 = pc2) (kk : AW M T kn g pc2 ls (vI (sL k : Int) :: st)) : AW M T kn g pc ls (vA (1000100 + k) :: st) := by
  intro p l e s m args below meth c B D cid ad0 ad H locs LS mc hK hX hE hR hL hl h1 h2
  subst hp
  have h7 := sL_7 k hk
  obtain ⟨cell, x1, x2, x3, x4, x5, x6, x7⟩ := (str_of hK hR hk).2.2.2
  exact W.alen (n := Int32.ofInt (sL k : Int)) mc.1 mc.2.1 x1 x2 (by rw [x5]; exact Int32.ofInt_eq_ofNat.symm) rfl rfl hd (kk p l e s m args below meth c B D cid ad0 ad H locs LS mc hK hX hE hR hL hl h1 (okc (show zr (sL k : Int) from ⟨by omega, by omega⟩) (okt h2)))
theorem a_baldS {k : Nat} {i : Int} (pc2 : Nat) (hd : decode M.2.1 pc = .ok (.baload, 1)) (hk : k < 5) (h0 : 0 ≤ i) (hi : i < (sL k : Int)) (hp : pc + 1 = pc2) (kk : AW M T kn g pc2 ls (vI (sB k i.toNat) :: st)) : AW M T kn g pc ls (vI i :: vA (1000100 + k) :: st) := by
  intro p l e s m args below meth c B D cid ad0 ad H locs LS mc hK hX hE hR hL hl h1 h2
  subst hp
  have h7 := sL_7 k hk
  have hz : zr i := okh h2
  have hb := sB_b k hk i.toNat (by omega)
  obtain ⟨cell, x1, x2, x3, x4, x5, x6, x7⟩ := (str_of hK hR hk).2.2.2
  refine W.bald (v := .int (Int32.ofInt (sB k i.toNat))) mc.1 mc.2.1 x1 x2 x3 ?_ (by rw [zi_cl hz, sB_i k hk _ (by omega)]; exact x6 _ (by omega)) rfl rfl hd (kk p l e s m args below meth c B D cid ad0 ad H locs LS mc hK hX hE hR hL hl h1 (okc (show zr (sB k i.toNat) from ⟨by omega, by omega⟩) (okt (okt h2))))
  exact fun y => zi_in (n := sL k) hz h0 hi (y.imp id (fun z => Nat.le_trans x4 z))
theorem a_getsC (pc2 : Nat) (hd : decode M.2.1 pc = .ok (.getstatic 38, 3)) (hM : M.1.cls = RJ0) (hp : pc + 3 = pc2) (kk : AW M T kn g pc2 ls (vI 1 :: st)) : AW M T kn g pc ls st := by
  intro p l e s m args below meth c B D cid ad0 ad H locs LS mc hK hX hE hR hL hl h1 h2
  subst hp
  obtain ⟨-, -, -, adK, adV, -, -, -, z, -⟩ := id hK
  obtain ⟨cf, kf, fi, f, a, cell, x1, x2, x3, x4, x5, x6, x7, x8⟩ := va_Z.kept z hR.bas
  exact W.gets mc.1 mc.2.1 (own := RJ0) (by rw [← hM]; exact mc.2.2.2.2.1) (mc.2.2.2.2.2.1 _ lkZC) x1 x2 x3 x4 x5 (fun e => by rw [e] at x6; cases x6) x7 rfl hd (kk p l e s m args below meth c B D cid ad0 ad H locs LS mc hK hX hE hR hL hl h1 (okc (show zr 1 from ⟨by decide, by decide⟩) h2))
theorem a_getsF (pc2 : Nat) (hd : decode M.2.1 pc = .ok (.getstatic 1053, 3)) (hM : M.1.cls = RJ0) (hp : pc + 3 = pc2) (kk : ∀ r : Option Nat, AW M T kn g pc2 ls (vR r :: st)) : AW M T kn g pc ls st := by
  intro p l e s m args below meth c B D cid ad0 ad H locs LS mc hK hX hE hR hL hl h1 h2
  subst hp
  obtain ⟨-, -, -, adK, adV, -, -, -, -, z⟩ := id hK
  rcases z with z | z
  · obtain ⟨cf, kf, fi, f, a, cell, x1, x2, x3, x4, x5, x6, x7, x8⟩ := va_Z.kept z hR.bas
    exact W.gets mc.1 mc.2.1 (own := RJ0) (by rw [← hM]; exact mc.2.2.2.2.1) (mc.2.2.2.2.2.1 _ lkZF) x1 x2 x3 x4 x5 (fun e => by rw [e] at x6; cases x6) x7 rfl hd (kk none p l e s m args below meth c B D cid ad0 ad H locs LS mc hK hX hE hR hL hl h1 (okc trivial h2))
  · obtain ⟨cf, kf, fi, f, a, cell, x1, x2, x3, x4, x5, x6, x7, x8⟩ := va_Z.kept z hR.bas
    exact W.gets mc.1 mc.2.1 (own := RJ0) (by rw [← hM]; exact mc.2.2.2.2.1) (mc.2.2.2.2.2.1 _ lkZF) x1 x2 x3 x4 x5 (fun e => by rw [e] at x6; cases x6) x7 rfl hd (kk (some 1000200) p l e s m args below meth c B D cid ad0 ad H locs LS mc hK hX hE hR hL hl h1 (okc (show vok g (vA 1000200) from Or.inr (by omega)) h2))
def CDT (M : MI) (n : Nat) : Prop := CD M n ∧ Cond.instanceMethod M.1 ∈ tb ∧ Cond.selects M.1.cls M.1 M.1 ∈ tb ∧ M.1.cls = "java/lang/String"
theorem a_callVT {M' : MI} {index n k : Nat} {avs stk : List AV} {post : AV → GH → Prop} (pc2 : Nat) (hM : AMet M' g (vA (1000000 + k) :: avs) post) (hc : CDT M' n) (hlk : LK M.1.cls index M' ∨ LN M.1.cls index M') (hd : decode M.2.1 pc = .ok (.invokevirtual index, 3)) (hst : List.reverseAux (vA (1000000 + k) :: avs) st = stk) (hk5 : k < 5) (hn : avs.length = n) (hfit0 : fit0 M M') (hkn : kn.1 ≤ M.2.2.2.2.cells ∧ kn.2 ≤ M.2.2.2.2.slots) (hw : (st.map acat).sum ≤ 8) (hp : pc + 3 = pc2)
    (kk : ∀ r g', vok g' r → post r g' → (∀ a, g.1 a ≠ none → g'.1 a = g.1 a) → AW M T kn g' pc2 ls (rst M'.2.2.2.1 r st)) : AW M T kn g pc ls stk := by
  have hfit := fit0_fit hfit0 hkn
  intro p l e s m args below meth c B D cid ad0 ad H locs LS mc hK hX hE hR hL hl h1 h2
  subst hp; subst hst
  obtain ⟨o1, o2⟩ := ok_rev h2
  have hts := mc.2.2.2.2.2.1
  obtain ⟨⟨c1, c2, c3⟩, c4, c5, c6⟩ := hc
  have hpre := pre_of (avs := vA (1000000 + k) :: avs) hK hR
  have hrec : ∃ cellB : Cell, H[ad (1000000 + k)]? = some cellB ∧ cellB.vm.isStatics = false ∧ s.vm.findClass M'.1.cls = some cellB.cls := by
    obtain ⟨cell, x1, x2, x3, -⟩ := (str_of hK hR hk5).1
    exact ⟨cell, x1, x2, by rw [c6]; exact x3⟩
  have hstk : (List.reverseAux (vA (1000000 + k) :: avs) st).map (cv ad) = (avs.map (cv ad)).reverse ++ .ref (ad (1000000 + k)) :: st.map (cv ad) := by
    rw [map_rev]
    show (.ref (ad (1000000 + k)) :: avs.map (cv ad)).reverse ++ _ = _
    rw [List.reverse_cons, List.append_assoc]; rfl
  refine call_fin (a' := (Value.ref (ad (1000000 + k)) :: avs.map (cv ad)).toArray) mc hK hX hE hL hl h1 o2 ?_ (fun r g' h1 h2 h3 => by rw [hfit0.2.2.1, hfit0.2.2.2]; exact kk r g' h1 h2 h3)
  rcases hlk with hlk | hlk
  · exact va_runV (n := n) (C := M'.1.cls) ⟨mc.1, mc.2.1, mc.2.2.2.1, mc.2.2.2.2.1, hts⟩ (hM l B D cid ad o1) ⟨callB_of n hts (good_tb c1) rfl rfl rfl (hts _ c2) (hts _ hlk) c3 ⟨hfit.1, hfit.2.1⟩, hts _ c4, hts _ c5⟩ ⟨hpre.1, hrec, hpre.2⟩ rfl (by rw [List.length_map]; exact hn) hl.1 hstk (room_st hw) hd ⟨hfit.2.2.1, hfit.2.2.2⟩
  · exact va_runVN (n := n) (C := M'.1.cls) ⟨mc.1, mc.2.1, mc.2.2.2.1, mc.2.2.2.2.1, hts⟩ (hM l B D cid ad o1) ⟨va_cnB n hts (good_tb c1) rfl rfl rfl (hK.2.2.1.1 _ hlk) (hts _ c2) c3 ⟨hfit.1, hfit.2.1⟩, hts _ c4, hts _ c5⟩ ⟨hpre.1, hrec, hpre.2⟩ rfl (by rw [List.length_map]; exact hn) hl.1 hstk (room_st hw) hd ⟨hfit.2.2.1, hfit.2.2.2⟩
end ASTR
set_option maxRecDepth 100000 in
theorem cdJ0_length_8abf5 : CDT mJ0_length_8abf5 0 := ⟨⟨tb_in (List.mem_of_getElem? (i := 755) rfl) rfl, tb_in (List.mem_of_getElem? (i := 41) (by decide +kernel)) rfl, by decide +kernel, by decide +kernel, by decide +kernel⟩, tb_in (List.mem_of_getElem? (i := 753) (by decide +kernel)) rfl, tb_in (List.mem_of_getElem? (i := 754) (by decide +kernel)) rfl, rfl⟩
set_option maxRecDepth 100000 in
theorem cdJ0_coder_7d493 : CDT mJ0_coder_7d493 0 := ⟨⟨tb_in (List.mem_of_getElem? (i := 759) rfl) rfl, tb_in (List.mem_of_getElem? (i := 41) (by decide +kernel)) rfl, by decide +kernel, by decide +kernel, by decide +kernel⟩, tb_in (List.mem_of_getElem? (i := 757) (by decide +kernel)) rfl, tb_in (List.mem_of_getElem? (i := 758) (by decide +kernel)) rfl, rfl⟩
set_option maxRecDepth 100000 in
theorem cdJ0_charAt_5068e : CDT mJ0_charAt_5068e 1 := ⟨⟨tb_in (List.mem_of_getElem? (i := 765) rfl) rfl, tb_in (List.mem_of_getElem? (i := 41) (by decide +kernel)) rfl, by decide +kernel, by decide +kernel, by decide +kernel⟩, tb_in (List.mem_of_getElem? (i := 763) (by decide +kernel)) rfl, tb_in (List.mem_of_getElem? (i := 764) (by decide +kernel)) rfl, rfl⟩
set_option maxRecDepth 100000 in
theorem cdJ0_isLatin1_aae02 : CDT mJ0_isLatin1_aae02 0 := ⟨⟨tb_in (List.mem_of_getElem? (i := 769) rfl) rfl, tb_in (List.mem_of_getElem? (i := 41) (by decide +kernel)) rfl, by decide +kernel, by decide +kernel, by decide +kernel⟩, tb_in (List.mem_of_getElem? (i := 767) (by decide +kernel)) rfl, tb_in (List.mem_of_getElem? (i := 768) (by decide +kernel)) rfl, rfl⟩
theorem nar_c {z : Int} (h0 : 0 ≤ z) (h1 : z < 65536) : narrow .char (.int (Int32.ofInt z)) = .int (Int32.ofInt z) := by
  obtain ⟨n, rfl⟩ := Int.eq_ofNat_of_zero_le h0
  have hn : n < 65536 := by omega
  show Value.int (Int32.ofInt (n : Int)).toUInt32.toUInt16.toUInt32.toInt32 = Value.int (Int32.ofInt (n : Int))
  rw [zN]
  congr 1
  rw [UInt32.toUInt32_toUInt16, pk_char, pk_tn (by omega), Nat.mod_eq_of_lt (by omega)]
set_option maxHeartbeats 4000000 in
set_option maxRecDepth 100000 in
theorem j_coder (g : GH) {k : Nat} (hk5 : k < 5) : AMet mJ0_coder_7d493 g [vA (1000000 + k)] (fun r g' => r = vI 0 ∧ g = g') := by
  refine AMet.of [vA (1000000 + k)] (by decide) rfl (Nat.le_of_ble_eq_true rfl) ?_
  refine a_getsC 3 dJ0_coder_7d493_0 rfl rfl ?_
  refine a_if_eq 13 6 dJ0_coder_7d493_3 (by decide) rfl (fun c3 => ?_) (fun c3 => ?_)
  · exfalso; omega
  · skip
    refine a_aload_n 7 dJ0_coder_7d493_6 rfl rfl ?_
    refine a_getSC 10 dJ0_coder_7d493_7 hk5 rfl rfl ?_
    refine a_goto 14 dJ0_coder_7d493_10 (by decide) ?_
    refine a_zreturn dJ0_coder_7d493_14 rfl rfl ⟨Nat.zero_le _, Nat.zero_le _⟩ ?_
    exact ⟨rfl, rfl⟩
set_option maxHeartbeats 4000000 in
set_option maxRecDepth 100000 in
theorem j_lat (g : GH) {k : Nat} (hk5 : k < 5) : AMet mJ0_isLatin1_aae02 g [vA (1000000 + k)] (fun r g' => r = vI 1 ∧ g = g') := by
  refine AMet.of [vA (1000000 + k)] (by decide) rfl (Nat.le_of_ble_eq_true rfl) ?_
  refine a_getsC 3 dJ0_isLatin1_aae02_0 rfl rfl ?_
  refine a_if_eq 17 6 dJ0_isLatin1_aae02_3 (by decide) rfl (fun c3 => ?_) (fun c3 => ?_)
  · exfalso; omega
  · skip
    refine a_aload_n 7 dJ0_isLatin1_aae02_6 rfl rfl ?_
    refine a_getSC 10 dJ0_isLatin1_aae02_7 hk5 rfl rfl ?_
    refine a_if_ne 17 13 dJ0_isLatin1_aae02_10 (by decide) rfl (fun c10 => ?_) (fun c10 => ?_)
    · exact absurd rfl c10
    · skip
      refine a_iconst (z := 1) 14 dJ0_isLatin1_aae02_13 rfl (zrl rfl) rfl ?_
      refine a_goto 18 dJ0_isLatin1_aae02_14 (by decide) ?_
      refine a_breturn dJ0_isLatin1_aae02_18 rfl (by omega) ⟨Nat.zero_le _, Nat.zero_le _⟩ ?_
      exact ⟨rfl, rfl⟩
set_option maxHeartbeats 4000000 in
set_option maxRecDepth 100000 in
theorem j_len (g : GH) {k : Nat} (hk5 : k < 5) : AMet mJ0_length_8abf5 g [vA (1000000 + k)] (fun r g' => r = vI (sL k : Int) ∧ g = g') := by
  refine AMet.of [vA (1000000 + k)] (by decide) rfl (Nat.le_of_ble_eq_true rfl) ?_
  refine a_aload_n 1 dJ0_length_8abf5_0 rfl rfl ?_
  refine a_getSV 4 dJ0_length_8abf5_1 hk5 rfl rfl ?_
  refine a_alenS 5 dJ0_length_8abf5_4 hk5 rfl ?_
  refine a_aload_n 6 dJ0_length_8abf5_5 rfl rfl ?_
  refine a_callVT 9 (j_coder _ hk5) cdJ0_coder_7d493 lJ0_335 dJ0_length_8abf5_6 rfl hk5 rfl ⟨by decide, by decide, rfl, rfl⟩ ⟨Nat.zero_le _, Nat.zero_le _⟩ (Nat.le_of_ble_eq_true rfl) rfl ?_
  rintro _ _ - ⟨rfl, rfl⟩ -
  refine a_ishr (sL k : Int) 10 dJ0_length_8abf5_9 (fun a b => by have := v_shr (x := (sL k : Int)) (y := 0) (by omega) (by omega) (by omega) a b; simpa using this) rfl ?_
  refine a_ireturn dJ0_length_8abf5_10 rfl ⟨Nat.zero_le _, Nat.zero_le _⟩ ?_
  exact ⟨rfl, rfl⟩
set_option maxHeartbeats 4000000 in
set_option maxRecDepth 100000 in
theorem j_ck3 (g : GH) (i n : Int) (F : Option Nat) (hi : 0 ≤ i ∧ i < n) : AMet mJ3_checkIndex_8e157 g [vI i, vI n, vR F] (fun r g' => r = vI i ∧ g = g') := by
  refine AMet.of [vI i, vI n, vR F] (by decide) rfl (Nat.le_of_ble_eq_true rfl) ?_
  refine a_iload_n 1 dJ3_checkIndex_8e157_0 rfl rfl ?_
  refine a_if_lt 9 4 dJ3_checkIndex_8e157_1 (by decide) rfl (fun c1 => ?_) (fun c1 => ?_)
  · exfalso; omega
  · skip
    refine a_iload_n 5 dJ3_checkIndex_8e157_4 rfl rfl ?_
    refine a_iload_n 6 dJ3_checkIndex_8e157_5 rfl rfl ?_
    refine a_icmp_lt 16 9 dJ3_checkIndex_8e157_6 (by decide) rfl (fun c6 => ?_) (fun c6 => ?_)
    · skip
      refine a_iload_n 17 dJ3_checkIndex_8e157_16 rfl rfl ?_
      refine a_ireturn dJ3_checkIndex_8e157_17 rfl ⟨Nat.zero_le _, Nat.zero_le _⟩ ?_
      exact ⟨rfl, rfl⟩
    · exfalso; omega
set_option maxHeartbeats 4000000 in
set_option maxRecDepth 100000 in
theorem j_ck0 (g : GH) (i n : Int) (hi : 0 ≤ i ∧ i < n) : AMet mJ0_checkIndex_df160 g [vI i, vI n] (fun _ g' => g = g') := by
  refine AMet.of [vI i, vI n] (by decide) rfl (Nat.le_of_ble_eq_true rfl) ?_
  refine a_iload_n 1 dJ0_checkIndex_df160_0 rfl rfl ?_
  refine a_iload_n 2 dJ0_checkIndex_df160_1 rfl rfl ?_
  refine a_getsF 5 dJ0_checkIndex_df160_2 rfl rfl (fun rF => ?_)
  refine a_callS 8 (j_ck3 _ _ _ _ hi) cdJ3_checkIndex_8e157 lJ0_1059 dJ0_checkIndex_df160_5 rfl rfl ⟨by decide, by decide, rfl, rfl⟩ ⟨Nat.zero_le _, Nat.zero_le _⟩ (Nat.le_of_ble_eq_true rfl) rfl ?_
  rintro _ _ - ⟨rfl, rfl⟩ -
  refine a_pop 9 dJ0_checkIndex_df160_8 (by intro w h; cases h) rfl ?_
  refine a_return dJ0_checkIndex_df160_9 rfl ⟨Nat.zero_le _, Nat.zero_le _⟩ ?_
  exact rfl
set_option maxHeartbeats 4000000 in
set_option maxRecDepth 100000 in
theorem j_chL (g : GH) (i : Int) {k : Nat} (hk5 : k < 5) (hi : 0 ≤ i ∧ i < (sL k : Int)) : AMet mJ1_charAt_3b067 g [vA (1000100 + k), vI i] (fun r g' => r = vI (sB k i.toNat) ∧ g = g') := by
  refine AMet.of [vA (1000100 + k), vI i] (by decide) rfl (Nat.le_of_ble_eq_true rfl) ?_
  have h7 := sL_7 k hk5
  have hb := sB_b k hk5 i.toNat (by omega)
  refine a_iload_n 1 dJ1_charAt_3b067_0 rfl rfl ?_
  refine a_aload_n 2 dJ1_charAt_3b067_1 rfl rfl ?_
  refine a_alenS 3 dJ1_charAt_3b067_2 hk5 rfl ?_
  refine a_callS 6 (j_ck0 _ _ _ hi) cdJ0_checkIndex_df160 lJ1_9 dJ1_charAt_3b067_3 rfl rfl ⟨by decide, by decide, rfl, rfl⟩ ⟨Nat.zero_le _, Nat.zero_le _⟩ (Nat.le_of_ble_eq_true rfl) rfl ?_
  rintro _ _ - rfl -
  refine a_aload_n 7 dJ1_charAt_3b067_6 rfl rfl ?_
  refine a_iload_n 8 dJ1_charAt_3b067_7 rfl rfl ?_
  refine a_baldS 9 dJ1_charAt_3b067_8 hk5 (by omega) (by omega) rfl ?_
  refine a_sipush (z := 255) 12 dJ1_charAt_3b067_9 rfl (zrl rfl) rfl ?_
  refine a_iand _ 13 dJ1_charAt_3b067_12 v_and255 rfl ?_
  rw [show sB k i.toNat % 256 = sB k i.toNat by omega]
  refine a_i2c 14 dJ1_charAt_3b067_13 (by omega) (by omega) rfl ?_
  refine a_zreturn dJ1_charAt_3b067_14 rfl (nar_c (by omega) (by omega)) ⟨Nat.zero_le _, Nat.zero_le _⟩ ?_
  exact ⟨rfl, rfl⟩
set_option maxHeartbeats 4000000 in
set_option maxRecDepth 100000 in
theorem j_chA (g : GH) (i : Int) {k : Nat} (hk5 : k < 5) (hi : 0 ≤ i ∧ i < (sL k : Int)) : AMet mJ0_charAt_5068e g [vA (1000000 + k), vI i] (fun r g' => r = vI (sB k i.toNat) ∧ g = g') := by
  refine AMet.of [vA (1000000 + k), vI i] (by decide) rfl (Nat.le_of_ble_eq_true rfl) ?_
  have h7 := sL_7 k hk5
  have hb := sB_b k hk5 i.toNat (by omega)
  refine a_aload_n 1 dJ0_charAt_5068e_0 rfl rfl ?_
  refine a_callVT 4 (j_lat _ hk5) cdJ0_isLatin1_aae02 lJ0_492 dJ0_charAt_5068e_1 rfl hk5 rfl ⟨by decide, by decide, rfl, rfl⟩ ⟨Nat.zero_le _, Nat.zero_le _⟩ (Nat.le_of_ble_eq_true rfl) rfl ?_
  rintro _ _ - ⟨rfl, rfl⟩ -
  refine a_if_eq 16 7 dJ0_charAt_5068e_4 (by decide) rfl (fun c4 => ?_) (fun c4 => ?_)
  · exfalso; omega
  · skip
    refine a_aload_n 8 dJ0_charAt_5068e_7 rfl rfl ?_
    refine a_getSV 11 dJ0_charAt_5068e_8 hk5 rfl rfl ?_
    refine a_iload_n 12 dJ0_charAt_5068e_11 rfl rfl ?_
    refine a_callS 15 (j_chL _ _ hk5 hi) cdJ1_charAt_3b067 lJ0_495 dJ0_charAt_5068e_12 rfl rfl ⟨by decide, by decide, rfl, rfl⟩ ⟨Nat.zero_le _, Nat.zero_le _⟩ (Nat.le_of_ble_eq_true rfl) rfl ?_
    rintro _ _ - ⟨rfl, rfl⟩ -
    refine a_zreturn dJ0_charAt_5068e_15 rfl (nar_c (by omega) (by omega)) ⟨Nat.zero_le _, Nat.zero_le _⟩ ?_
    exact ⟨rfl, rfl⟩
