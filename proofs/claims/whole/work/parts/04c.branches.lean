section ABR
variable {M : MI} {T : TT} {kn : Nat × Nat} {g : GH} {pc : Nat} {ls st : List AV}
theorem a_icmp_eq {x y : Int} {off : Int} (tgt pc2 : Nat) (hd : decode M.2.1 pc = .ok (.if_icmp .eq off, 3)) (ht : (pc : Int) + off = (tgt : Int)) (hp : pc + 3 = pc2) (kt : x = y → AW M T kn g tgt ls st) (kf : x ≠ y → AW M T kn g pc2 ls st) : AW M T kn g pc ls (vI y :: vI x :: st) := by
  intro p l e s m args below meth c B D cid ad0 ad H locs LS mc hK hX hE hR hL hl h1 h2
  subst hp
  have hy : zr y := okh h2
  have hx : zr x := okh (okt h2)
  have q := zi_eq hx hy
  exact lv_icmp_eq mc.1 mc.2.1 hd ht (fun h => kt (q.mp h) p l e s m args below meth c B D cid ad0 ad H locs LS mc hK hX hE hR hL hl h1 (okt (okt h2))) (fun h => kf (fun h' => h (q.mpr h')) p l e s m args below meth c B D cid ad0 ad H locs LS mc hK hX hE hR hL hl h1 (okt (okt h2)))
theorem a_if_eq {x : Int} {off : Int} (tgt pc2 : Nat) (hd : decode M.2.1 pc = .ok (.ifCond .eq off, 3)) (ht : (pc : Int) + off = (tgt : Int)) (hp : pc + 3 = pc2) (kt : x = 0 → AW M T kn g tgt ls st) (kf : x ≠ 0 → AW M T kn g pc2 ls st) : AW M T kn g pc ls (vI x :: st) := by
  intro p l e s m args below meth c B D cid ad0 ad H locs LS mc hK hX hE hR hL hl h1 h2
  subst hp
  have hx : zr x := okh h2
  have q := zi_eq hx zr_0
  exact lv_if_eq mc.1 mc.2.1 hd ht (fun h => kt (q.mp h) p l e s m args below meth c B D cid ad0 ad H locs LS mc hK hX hE hR hL hl h1 (okt h2)) (fun h => kf (fun h' => h (q.mpr h')) p l e s m args below meth c B D cid ad0 ad H locs LS mc hK hX hE hR hL hl h1 (okt h2))
theorem a_icmp_ne {x y : Int} {off : Int} (tgt pc2 : Nat) (hd : decode M.2.1 pc = .ok (.if_icmp .ne off, 3)) (ht : (pc : Int) + off = (tgt : Int)) (hp : pc + 3 = pc2) (kt : x ≠ y → AW M T kn g tgt ls st) (kf : x = y → AW M T kn g pc2 ls st) : AW M T kn g pc ls (vI y :: vI x :: st) := by
  intro p l e s m args below meth c B D cid ad0 ad H locs LS mc hK hX hE hR hL hl h1 h2
  subst hp
  have hy : zr y := okh h2
  have hx : zr x := okh (okt h2)
  have q := zi_eq hx hy
  exact lv_icmp_ne mc.1 mc.2.1 hd ht (fun h => kt (fun h' => h (q.mpr h')) p l e s m args below meth c B D cid ad0 ad H locs LS mc hK hX hE hR hL hl h1 (okt (okt h2))) (fun h => kf (q.mp h) p l e s m args below meth c B D cid ad0 ad H locs LS mc hK hX hE hR hL hl h1 (okt (okt h2)))
theorem a_if_ne {x : Int} {off : Int} (tgt pc2 : Nat) (hd : decode M.2.1 pc = .ok (.ifCond .ne off, 3)) (ht : (pc : Int) + off = (tgt : Int)) (hp : pc + 3 = pc2) (kt : x ≠ 0 → AW M T kn g tgt ls st) (kf : x = 0 → AW M T kn g pc2 ls st) : AW M T kn g pc ls (vI x :: st) := by
  intro p l e s m args below meth c B D cid ad0 ad H locs LS mc hK hX hE hR hL hl h1 h2
  subst hp
  have hx : zr x := okh h2
  have q := zi_eq hx zr_0
  exact lv_if_ne mc.1 mc.2.1 hd ht (fun h => kt (fun h' => h (q.mpr h')) p l e s m args below meth c B D cid ad0 ad H locs LS mc hK hX hE hR hL hl h1 (okt h2)) (fun h => kf (q.mp h) p l e s m args below meth c B D cid ad0 ad H locs LS mc hK hX hE hR hL hl h1 (okt h2))
theorem a_icmp_lt {x y : Int} {off : Int} (tgt pc2 : Nat) (hd : decode M.2.1 pc = .ok (.if_icmp .lt off, 3)) (ht : (pc : Int) + off = (tgt : Int)) (hp : pc + 3 = pc2) (kt : x < y → AW M T kn g tgt ls st) (kf : y ≤ x → AW M T kn g pc2 ls st) : AW M T kn g pc ls (vI y :: vI x :: st) := by
  intro p l e s m args below meth c B D cid ad0 ad H locs LS mc hK hX hE hR hL hl h1 h2
  subst hp
  have hy : zr y := okh h2
  have hx : zr x := okh (okt h2)
  have q := zi_lt hx hy
  exact lv_icmp_lt mc.1 mc.2.1 hd ht (fun h => kt (q.mp h) p l e s m args below meth c B D cid ad0 ad H locs LS mc hK hX hE hR hL hl h1 (okt (okt h2))) (fun h => kf (Int.not_lt.mp (fun h' => h (q.mpr h'))) p l e s m args below meth c B D cid ad0 ad H locs LS mc hK hX hE hR hL hl h1 (okt (okt h2)))
theorem a_if_lt {x : Int} {off : Int} (tgt pc2 : Nat) (hd : decode M.2.1 pc = .ok (.ifCond .lt off, 3)) (ht : (pc : Int) + off = (tgt : Int)) (hp : pc + 3 = pc2) (kt : x < 0 → AW M T kn g tgt ls st) (kf : 0 ≤ x → AW M T kn g pc2 ls st) : AW M T kn g pc ls (vI x :: st) := by
  intro p l e s m args below meth c B D cid ad0 ad H locs LS mc hK hX hE hR hL hl h1 h2
  subst hp
  have hx : zr x := okh h2
  have q := zi_lt hx zr_0
  exact lv_if_lt mc.1 mc.2.1 hd ht (fun h => kt (q.mp h) p l e s m args below meth c B D cid ad0 ad H locs LS mc hK hX hE hR hL hl h1 (okt h2)) (fun h => kf (Int.not_lt.mp (fun h' => h (q.mpr h'))) p l e s m args below meth c B D cid ad0 ad H locs LS mc hK hX hE hR hL hl h1 (okt h2))
theorem a_icmp_ge {x y : Int} {off : Int} (tgt pc2 : Nat) (hd : decode M.2.1 pc = .ok (.if_icmp .ge off, 3)) (ht : (pc : Int) + off = (tgt : Int)) (hp : pc + 3 = pc2) (kt : y ≤ x → AW M T kn g tgt ls st) (kf : x < y → AW M T kn g pc2 ls st) : AW M T kn g pc ls (vI y :: vI x :: st) := by
  intro p l e s m args below meth c B D cid ad0 ad H locs LS mc hK hX hE hR hL hl h1 h2
  subst hp
  have hy : zr y := okh h2
  have hx : zr x := okh (okt h2)
  have q := zi_le hy hx
  exact lv_icmp_ge mc.1 mc.2.1 hd ht (fun h => kt (q.mp h) p l e s m args below meth c B D cid ad0 ad H locs LS mc hK hX hE hR hL hl h1 (okt (okt h2))) (fun h => kf (Int.not_le.mp (fun h' => h (q.mpr h'))) p l e s m args below meth c B D cid ad0 ad H locs LS mc hK hX hE hR hL hl h1 (okt (okt h2)))
theorem a_if_ge {x : Int} {off : Int} (tgt pc2 : Nat) (hd : decode M.2.1 pc = .ok (.ifCond .ge off, 3)) (ht : (pc : Int) + off = (tgt : Int)) (hp : pc + 3 = pc2) (kt : 0 ≤ x → AW M T kn g tgt ls st) (kf : x < 0 → AW M T kn g pc2 ls st) : AW M T kn g pc ls (vI x :: st) := by
  intro p l e s m args below meth c B D cid ad0 ad H locs LS mc hK hX hE hR hL hl h1 h2
  subst hp
  have hx : zr x := okh h2
  have q := zi_le zr_0 hx
  exact lv_if_ge mc.1 mc.2.1 hd ht (fun h => kt (q.mp h) p l e s m args below meth c B D cid ad0 ad H locs LS mc hK hX hE hR hL hl h1 (okt h2)) (fun h => kf (Int.not_le.mp (fun h' => h (q.mpr h'))) p l e s m args below meth c B D cid ad0 ad H locs LS mc hK hX hE hR hL hl h1 (okt h2))
theorem a_icmp_gt {x y : Int} {off : Int} (tgt pc2 : Nat) (hd : decode M.2.1 pc = .ok (.if_icmp .gt off, 3)) (ht : (pc : Int) + off = (tgt : Int)) (hp : pc + 3 = pc2) (kt : y < x → AW M T kn g tgt ls st) (kf : x ≤ y → AW M T kn g pc2 ls st) : AW M T kn g pc ls (vI y :: vI x :: st) := by
  intro p l e s m args below meth c B D cid ad0 ad H locs LS mc hK hX hE hR hL hl h1 h2
  subst hp
  have hy : zr y := okh h2
  have hx : zr x := okh (okt h2)
  have q := zi_lt hy hx
  exact lv_icmp_gt mc.1 mc.2.1 hd ht (fun h => kt (q.mp h) p l e s m args below meth c B D cid ad0 ad H locs LS mc hK hX hE hR hL hl h1 (okt (okt h2))) (fun h => kf (Int.not_lt.mp (fun h' => h (q.mpr h'))) p l e s m args below meth c B D cid ad0 ad H locs LS mc hK hX hE hR hL hl h1 (okt (okt h2)))
theorem a_if_gt {x : Int} {off : Int} (tgt pc2 : Nat) (hd : decode M.2.1 pc = .ok (.ifCond .gt off, 3)) (ht : (pc : Int) + off = (tgt : Int)) (hp : pc + 3 = pc2) (kt : 0 < x → AW M T kn g tgt ls st) (kf : x ≤ 0 → AW M T kn g pc2 ls st) : AW M T kn g pc ls (vI x :: st) := by
  intro p l e s m args below meth c B D cid ad0 ad H locs LS mc hK hX hE hR hL hl h1 h2
  subst hp
  have hx : zr x := okh h2
  have q := zi_lt zr_0 hx
  exact lv_if_gt mc.1 mc.2.1 hd ht (fun h => kt (q.mp h) p l e s m args below meth c B D cid ad0 ad H locs LS mc hK hX hE hR hL hl h1 (okt h2)) (fun h => kf (Int.not_lt.mp (fun h' => h (q.mpr h'))) p l e s m args below meth c B D cid ad0 ad H locs LS mc hK hX hE hR hL hl h1 (okt h2))
theorem a_icmp_le {x y : Int} {off : Int} (tgt pc2 : Nat) (hd : decode M.2.1 pc = .ok (.if_icmp .le off, 3)) (ht : (pc : Int) + off = (tgt : Int)) (hp : pc + 3 = pc2) (kt : x ≤ y → AW M T kn g tgt ls st) (kf : y < x → AW M T kn g pc2 ls st) : AW M T kn g pc ls (vI y :: vI x :: st) := by
  intro p l e s m args below meth c B D cid ad0 ad H locs LS mc hK hX hE hR hL hl h1 h2
  subst hp
  have hy : zr y := okh h2
  have hx : zr x := okh (okt h2)
  have q := zi_le hx hy
  exact lv_icmp_le mc.1 mc.2.1 hd ht (fun h => kt (q.mp h) p l e s m args below meth c B D cid ad0 ad H locs LS mc hK hX hE hR hL hl h1 (okt (okt h2))) (fun h => kf (Int.not_le.mp (fun h' => h (q.mpr h'))) p l e s m args below meth c B D cid ad0 ad H locs LS mc hK hX hE hR hL hl h1 (okt (okt h2)))
theorem a_if_le {x : Int} {off : Int} (tgt pc2 : Nat) (hd : decode M.2.1 pc = .ok (.ifCond .le off, 3)) (ht : (pc : Int) + off = (tgt : Int)) (hp : pc + 3 = pc2) (kt : x ≤ 0 → AW M T kn g tgt ls st) (kf : 0 < x → AW M T kn g pc2 ls st) : AW M T kn g pc ls (vI x :: st) := by
  intro p l e s m args below meth c B D cid ad0 ad H locs LS mc hK hX hE hR hL hl h1 h2
  subst hp
  have hx : zr x := okh h2
  have q := zi_le hx zr_0
  exact lv_if_le mc.1 mc.2.1 hd ht (fun h => kt (q.mp h) p l e s m args below meth c B D cid ad0 ad H locs LS mc hK hX hE hR hL hl h1 (okt h2)) (fun h => kf (Int.not_le.mp (fun h' => h (q.mpr h'))) p l e s m args below meth c B D cid ad0 ad H locs LS mc hK hX hE hR hL hl h1 (okt h2))
theorem a_ifnull {r : Option Nat} {off : Int} (tgt pc2 : Nat) (hd : decode M.2.1 pc = .ok (.ifnull off, 3)) (ht : (pc : Int) + off = (tgt : Int)) (hp : pc + 3 = pc2) (kn0 : r = none → AW M T kn g tgt ls st) (ks : ∀ a, r = some a → AW M T kn g pc2 ls st) : AW M T kn g pc ls (vR r :: st) := by
  intro p l e s m args below meth c B D cid ad0 ad H locs LS mc hK hX hE hR hL hl h1 h2
  subst hp
  cases r with
  | none => exact lv_ifnullN mc.1 mc.2.1 hd ht (kn0 rfl p l e s m args below meth c B D cid ad0 ad H locs LS mc hK hX hE hR hL hl h1 (okt h2))
  | some a => exact lv_ifnull mc.1 mc.2.1 hd (ks a rfl p l e s m args below meth c B D cid ad0 ad H locs LS mc hK hX hE hR hL hl h1 (okt h2))
theorem a_ifnonnull {r : Option Nat} {off : Int} (tgt pc2 : Nat) (hd : decode M.2.1 pc = .ok (.ifnonnull off, 3)) (ht : (pc : Int) + off = (tgt : Int)) (hp : pc + 3 = pc2) (kn0 : r = none → AW M T kn g pc2 ls st) (ks : ∀ a, r = some a → AW M T kn g tgt ls st) : AW M T kn g pc ls (vR r :: st) := by
  intro p l e s m args below meth c B D cid ad0 ad H locs LS mc hK hX hE hR hL hl h1 h2
  subst hp
  cases r with
  | none => exact lv_ifnonnullN mc.1 mc.2.1 hd (kn0 rfl p l e s m args below meth c B D cid ad0 ad H locs LS mc hK hX hE hR hL hl h1 (okt h2))
  | some a => exact lv_ifnonnull mc.1 mc.2.1 hd ht (ks a rfl p l e s m args below meth c B D cid ad0 ad H locs LS mc hK hX hE hR hL hl h1 (okt h2))
end ABR
