set_option maxHeartbeats 4000000 in
set_option maxRecDepth 100000 in
theorem c_X6_fits_1 (l : Launch) (d : va_G) (cI cJ cZ : ClassId) (x y : Nat) (hx6 : x < 6) (hy6 : y < 6) : nRd l yX6_fits wsX6_fits ({ frames := 0, cells := 0, slots := 0, locals := 0 } : Room) d [(cI, .int), (cJ, .long), (cZ, .boolean)] [] [.int (nI (1)), .int (nI (x)), .int (nI (y))] (.int (nI ((fitB 1 x y).toNat))) := by
  refine Met.ofW (cc := cX6_fits) (maxL := 3) (ret := some .boolean) (by decide) rfl ?_
  intro p e s m args below meth c s₁ B hml hv
  obtain ⟨rfl, hP, hK⟩ := hv
  have hx := B.exec
  have hb := B.bytes
  have hr := B.returns
  have hts := atoms_spec (ws := wsX6_fits) B.pre
  have hown : s.vm.findClass RX6 = some m.cls := findClass_of_methodNamed B.named
  have hlocks := B.notSynchronized
  have hP : va_P d vwCl [] s.heap := hP
  have hl := lv_entry ([.int (nI (1)), .int (nI (x)), .int (nI (y))]) (n := 3) (Nat.le_of_ble_eq_true rfl)
  rw [lg_entry_eq]
  generalize (lg_sl ([.int (nI (1)), .int (nI (x)), .int (nI (y))]) ++ List.replicate (3 - (lg_sl ([.int (nI (1)), .int (nI (x)), .int (nI (y))])).length) Slot.unset).toArray = ls at hl ⊢
  have hl : lv_has ls 3 [(0, .int (nI (1))), (1, .int (nI (x))), (2, .int (nI (y)))] := hl
  refine lv_iload_n hx hb dX6_fits_0 rfl (lv_at hl 0 rfl) ?_
  refine lv_iconst (v := nI (1)) hx hb dX6_fits_1 (by decide) ?_
  refine n_icmp_ne (tgt := 21) hx hb dX6_fits_2 (by decide) (by decide) (by decide) (fun c_1 => ?_) (fun c_1 => ?_)
  · exact absurd c_1 (by decide)
  refine lv_iload_n hx hb dX6_fits_5 rfl (lv_at hl 1 rfl) ?_
  refine n_ifne (tgt := 17) hx hb dX6_fits_6 (by decide) (by omega) (fun c_2 => ?_) (fun c_2 => ?_)
  ·
    refine lv_iconst (v := nI (0)) hx hb dX6_fits_17 (by decide) ?_
    refine lv_goto (tgt := 82) hx hb dX6_fits_18 (by decide) ?_
    refine n_top (show (nI (0)) = (nI ((fitB 1 x y).toNat)) from by rw [show fitB 1 x y = false from decide_eq_false (by omega)]; rfl) ?_
    exact W.zret (v := (nI ((fitB 1 x y).toNat))) hx hb hr (by cases fitB 1 x y <;> rfl) (fun t ht hW => ⟨rfl, ht⟩) (fun q h => by cases h) dX6_fits_82
  ·
    refine lv_iload_n hx hb dX6_fits_9 rfl (lv_at hl 2 rfl) ?_
    refine n_ifle (tgt := 17) hx hb dX6_fits_10 (by decide) (by omega) (fun c_3 => ?_) (fun c_3 => ?_)
    ·
      refine lv_iconst (v := nI (0)) hx hb dX6_fits_17 (by decide) ?_
      refine lv_goto (tgt := 82) hx hb dX6_fits_18 (by decide) ?_
      refine n_top (show (nI (0)) = (nI ((fitB 1 x y).toNat)) from by rw [show fitB 1 x y = false from decide_eq_false (by omega)]; rfl) ?_
      exact W.zret (v := (nI ((fitB 1 x y).toNat))) hx hb hr (by cases fitB 1 x y <;> rfl) (fun t ht hW => ⟨rfl, ht⟩) (fun q h => by cases h) dX6_fits_82
    ·
      refine lv_iconst (v := nI (1)) hx hb dX6_fits_13 (by decide) ?_
      refine lv_goto (tgt := 82) hx hb dX6_fits_14 (by decide) ?_
      refine n_top (show (nI (1)) = (nI ((fitB 1 x y).toNat)) from by rw [show fitB 1 x y = true from decide_eq_true (by omega)]; rfl) ?_
      exact W.zret (v := (nI ((fitB 1 x y).toNat))) hx hb hr (by cases fitB 1 x y <;> rfl) (fun t ht hW => ⟨rfl, ht⟩) (fun q h => by cases h) dX6_fits_82

set_option maxHeartbeats 4000000 in
set_option maxRecDepth 100000 in
theorem c_X6_fits_2 (l : Launch) (d : va_G) (cI cJ cZ : ClassId) (x y : Nat) (hx6 : x < 6) (hy6 : y < 6) : nRd l yX6_fits wsX6_fits ({ frames := 0, cells := 0, slots := 0, locals := 0 } : Room) d [(cI, .int), (cJ, .long), (cZ, .boolean)] [] [.int (nI (2)), .int (nI (x)), .int (nI (y))] (.int (nI ((fitB 2 x y).toNat))) := by
  refine Met.ofW (cc := cX6_fits) (maxL := 3) (ret := some .boolean) (by decide) rfl ?_
  intro p e s m args below meth c s₁ B hml hv
  obtain ⟨rfl, hP, hK⟩ := hv
  have hx := B.exec
  have hb := B.bytes
  have hr := B.returns
  have hts := atoms_spec (ws := wsX6_fits) B.pre
  have hown : s.vm.findClass RX6 = some m.cls := findClass_of_methodNamed B.named
  have hlocks := B.notSynchronized
  have hP : va_P d vwCl [] s.heap := hP
  have hl := lv_entry ([.int (nI (2)), .int (nI (x)), .int (nI (y))]) (n := 3) (Nat.le_of_ble_eq_true rfl)
  rw [lg_entry_eq]
  generalize (lg_sl ([.int (nI (2)), .int (nI (x)), .int (nI (y))]) ++ List.replicate (3 - (lg_sl ([.int (nI (2)), .int (nI (x)), .int (nI (y))])).length) Slot.unset).toArray = ls at hl ⊢
  have hl : lv_has ls 3 [(0, .int (nI (2))), (1, .int (nI (x))), (2, .int (nI (y)))] := hl
  refine lv_iload_n hx hb dX6_fits_0 rfl (lv_at hl 0 rfl) ?_
  refine lv_iconst (v := nI (1)) hx hb dX6_fits_1 (by decide) ?_
  refine n_icmp_ne (tgt := 21) hx hb dX6_fits_2 (by decide) (by decide) (by decide) (fun c_1 => ?_) (fun c_1 => ?_)
  rotate_left
  · exact absurd c_1 (by decide)
  refine lv_iload_n hx hb dX6_fits_21 rfl (lv_at hl 0 rfl) ?_
  refine lv_iconst (v := nI (2)) hx hb dX6_fits_22 (by decide) ?_
  refine n_icmp_ne (tgt := 44) hx hb dX6_fits_23 (by decide) (by decide) (by decide) (fun c_2 => ?_) (fun c_2 => ?_)
  · exact absurd c_2 (by decide)
  refine lv_iload_n hx hb dX6_fits_26 rfl (lv_at hl 1 rfl) ?_
  refine lv_iconst (v := nI (5)) hx hb dX6_fits_27 (by decide) ?_
  refine n_icmp_ne (tgt := 40) hx hb dX6_fits_28 (by decide) (by omega) (by omega) (fun c_3 => ?_) (fun c_3 => ?_)
  ·
    refine lv_iconst (v := nI (0)) hx hb dX6_fits_40 (by decide) ?_
    refine lv_goto (tgt := 82) hx hb dX6_fits_41 (by decide) ?_
    refine n_top (show (nI (0)) = (nI ((fitB 2 x y).toNat)) from by rw [show fitB 2 x y = false from decide_eq_false (by omega)]; rfl) ?_
    exact W.zret (v := (nI ((fitB 2 x y).toNat))) hx hb hr (by cases fitB 2 x y <;> rfl) (fun t ht hW => ⟨rfl, ht⟩) (fun q h => by cases h) dX6_fits_82
  ·
    refine lv_iload_n hx hb dX6_fits_31 rfl (lv_at hl 2 rfl) ?_
    refine lv_iconst (v := nI (4)) hx hb dX6_fits_32 (by decide) ?_
    refine n_icmp_ne (tgt := 40) hx hb dX6_fits_33 (by decide) (by omega) (by omega) (fun c_4 => ?_) (fun c_4 => ?_)
    ·
      refine lv_iconst (v := nI (0)) hx hb dX6_fits_40 (by decide) ?_
      refine lv_goto (tgt := 82) hx hb dX6_fits_41 (by decide) ?_
      refine n_top (show (nI (0)) = (nI ((fitB 2 x y).toNat)) from by rw [show fitB 2 x y = false from decide_eq_false (by omega)]; rfl) ?_
      exact W.zret (v := (nI ((fitB 2 x y).toNat))) hx hb hr (by cases fitB 2 x y <;> rfl) (fun t ht hW => ⟨rfl, ht⟩) (fun q h => by cases h) dX6_fits_82
    ·
      refine lv_iconst (v := nI (1)) hx hb dX6_fits_36 (by decide) ?_
      refine lv_goto (tgt := 82) hx hb dX6_fits_37 (by decide) ?_
      refine n_top (show (nI (1)) = (nI ((fitB 2 x y).toNat)) from by rw [show fitB 2 x y = true from decide_eq_true (by omega)]; rfl) ?_
      exact W.zret (v := (nI ((fitB 2 x y).toNat))) hx hb hr (by cases fitB 2 x y <;> rfl) (fun t ht hW => ⟨rfl, ht⟩) (fun q h => by cases h) dX6_fits_82

set_option maxHeartbeats 4000000 in
set_option maxRecDepth 100000 in
theorem c_X6_fits_3 (l : Launch) (d : va_G) (cI cJ cZ : ClassId) (x y : Nat) (hx6 : x < 6) (hy6 : y < 6) : nRd l yX6_fits wsX6_fits ({ frames := 0, cells := 0, slots := 0, locals := 0 } : Room) d [(cI, .int), (cJ, .long), (cZ, .boolean)] [] [.int (nI (3)), .int (nI (x)), .int (nI (y))] (.int (nI ((fitB 3 x y).toNat))) := by
  refine Met.ofW (cc := cX6_fits) (maxL := 3) (ret := some .boolean) (by decide) rfl ?_
  intro p e s m args below meth c s₁ B hml hv
  obtain ⟨rfl, hP, hK⟩ := hv
  have hx := B.exec
  have hb := B.bytes
  have hr := B.returns
  have hts := atoms_spec (ws := wsX6_fits) B.pre
  have hown : s.vm.findClass RX6 = some m.cls := findClass_of_methodNamed B.named
  have hlocks := B.notSynchronized
  have hP : va_P d vwCl [] s.heap := hP
  have hl := lv_entry ([.int (nI (3)), .int (nI (x)), .int (nI (y))]) (n := 3) (Nat.le_of_ble_eq_true rfl)
  rw [lg_entry_eq]
  generalize (lg_sl ([.int (nI (3)), .int (nI (x)), .int (nI (y))]) ++ List.replicate (3 - (lg_sl ([.int (nI (3)), .int (nI (x)), .int (nI (y))])).length) Slot.unset).toArray = ls at hl ⊢
  have hl : lv_has ls 3 [(0, .int (nI (3))), (1, .int (nI (x))), (2, .int (nI (y)))] := hl
  refine lv_iload_n hx hb dX6_fits_0 rfl (lv_at hl 0 rfl) ?_
  refine lv_iconst (v := nI (1)) hx hb dX6_fits_1 (by decide) ?_
  refine n_icmp_ne (tgt := 21) hx hb dX6_fits_2 (by decide) (by decide) (by decide) (fun c_1 => ?_) (fun c_1 => ?_)
  rotate_left
  · exact absurd c_1 (by decide)
  refine lv_iload_n hx hb dX6_fits_21 rfl (lv_at hl 0 rfl) ?_
  refine lv_iconst (v := nI (2)) hx hb dX6_fits_22 (by decide) ?_
  refine n_icmp_ne (tgt := 44) hx hb dX6_fits_23 (by decide) (by decide) (by decide) (fun c_2 => ?_) (fun c_2 => ?_)
  rotate_left
  · exact absurd c_2 (by decide)
  refine lv_iload_n hx hb dX6_fits_44 rfl (lv_at hl 0 rfl) ?_
  refine lv_iconst (v := nI (3)) hx hb dX6_fits_45 (by decide) ?_
  refine n_icmp_ne (tgt := 67) hx hb dX6_fits_46 (by decide) (by decide) (by decide) (fun c_3 => ?_) (fun c_3 => ?_)
  · exact absurd c_3 (by decide)
  refine lv_iload_n hx hb dX6_fits_49 rfl (lv_at hl 1 rfl) ?_
  refine lv_iconst (v := nI (3)) hx hb dX6_fits_50 (by decide) ?_
  refine n_icmp_ne (tgt := 63) hx hb dX6_fits_51 (by decide) (by omega) (by omega) (fun c_4 => ?_) (fun c_4 => ?_)
  ·
    refine lv_iconst (v := nI (0)) hx hb dX6_fits_63 (by decide) ?_
    refine lv_goto (tgt := 82) hx hb dX6_fits_64 (by decide) ?_
    refine n_top (show (nI (0)) = (nI ((fitB 3 x y).toNat)) from by rw [show fitB 3 x y = false from decide_eq_false (by omega)]; rfl) ?_
    exact W.zret (v := (nI ((fitB 3 x y).toNat))) hx hb hr (by cases fitB 3 x y <;> rfl) (fun t ht hW => ⟨rfl, ht⟩) (fun q h => by cases h) dX6_fits_82
  ·
    refine lv_iload_n hx hb dX6_fits_54 rfl (lv_at hl 2 rfl) ?_
    refine lv_iconst (v := nI (3)) hx hb dX6_fits_55 (by decide) ?_
    refine n_icmp_ne (tgt := 63) hx hb dX6_fits_56 (by decide) (by omega) (by omega) (fun c_5 => ?_) (fun c_5 => ?_)
    ·
      refine lv_iconst (v := nI (0)) hx hb dX6_fits_63 (by decide) ?_
      refine lv_goto (tgt := 82) hx hb dX6_fits_64 (by decide) ?_
      refine n_top (show (nI (0)) = (nI ((fitB 3 x y).toNat)) from by rw [show fitB 3 x y = false from decide_eq_false (by omega)]; rfl) ?_
      exact W.zret (v := (nI ((fitB 3 x y).toNat))) hx hb hr (by cases fitB 3 x y <;> rfl) (fun t ht hW => ⟨rfl, ht⟩) (fun q h => by cases h) dX6_fits_82
    ·
      refine lv_iconst (v := nI (1)) hx hb dX6_fits_59 (by decide) ?_
      refine lv_goto (tgt := 82) hx hb dX6_fits_60 (by decide) ?_
      refine n_top (show (nI (1)) = (nI ((fitB 3 x y).toNat)) from by rw [show fitB 3 x y = true from decide_eq_true (by omega)]; rfl) ?_
      exact W.zret (v := (nI ((fitB 3 x y).toNat))) hx hb hr (by cases fitB 3 x y <;> rfl) (fun t ht hW => ⟨rfl, ht⟩) (fun q h => by cases h) dX6_fits_82

set_option maxHeartbeats 4000000 in
set_option maxRecDepth 100000 in
theorem c_X6_fits_4 (l : Launch) (d : va_G) (cI cJ cZ : ClassId) (x y : Nat) (hx6 : x < 6) (hy6 : y < 6) : nRd l yX6_fits wsX6_fits ({ frames := 0, cells := 0, slots := 0, locals := 0 } : Room) d [(cI, .int), (cJ, .long), (cZ, .boolean)] [] [.int (nI (4)), .int (nI (x)), .int (nI (y))] (.int (nI ((fitB 4 x y).toNat))) := by
  refine Met.ofW (cc := cX6_fits) (maxL := 3) (ret := some .boolean) (by decide) rfl ?_
  intro p e s m args below meth c s₁ B hml hv
  obtain ⟨rfl, hP, hK⟩ := hv
  have hx := B.exec
  have hb := B.bytes
  have hr := B.returns
  have hts := atoms_spec (ws := wsX6_fits) B.pre
  have hown : s.vm.findClass RX6 = some m.cls := findClass_of_methodNamed B.named
  have hlocks := B.notSynchronized
  have hP : va_P d vwCl [] s.heap := hP
  have hl := lv_entry ([.int (nI (4)), .int (nI (x)), .int (nI (y))]) (n := 3) (Nat.le_of_ble_eq_true rfl)
  rw [lg_entry_eq]
  generalize (lg_sl ([.int (nI (4)), .int (nI (x)), .int (nI (y))]) ++ List.replicate (3 - (lg_sl ([.int (nI (4)), .int (nI (x)), .int (nI (y))])).length) Slot.unset).toArray = ls at hl ⊢
  have hl : lv_has ls 3 [(0, .int (nI (4))), (1, .int (nI (x))), (2, .int (nI (y)))] := hl
  refine lv_iload_n hx hb dX6_fits_0 rfl (lv_at hl 0 rfl) ?_
  refine lv_iconst (v := nI (1)) hx hb dX6_fits_1 (by decide) ?_
  refine n_icmp_ne (tgt := 21) hx hb dX6_fits_2 (by decide) (by decide) (by decide) (fun c_1 => ?_) (fun c_1 => ?_)
  rotate_left
  · exact absurd c_1 (by decide)
  refine lv_iload_n hx hb dX6_fits_21 rfl (lv_at hl 0 rfl) ?_
  refine lv_iconst (v := nI (2)) hx hb dX6_fits_22 (by decide) ?_
  refine n_icmp_ne (tgt := 44) hx hb dX6_fits_23 (by decide) (by decide) (by decide) (fun c_2 => ?_) (fun c_2 => ?_)
  rotate_left
  · exact absurd c_2 (by decide)
  refine lv_iload_n hx hb dX6_fits_44 rfl (lv_at hl 0 rfl) ?_
  refine lv_iconst (v := nI (3)) hx hb dX6_fits_45 (by decide) ?_
  refine n_icmp_ne (tgt := 67) hx hb dX6_fits_46 (by decide) (by decide) (by decide) (fun c_3 => ?_) (fun c_3 => ?_)
  rotate_left
  · exact absurd c_3 (by decide)
  refine lv_iload_n hx hb dX6_fits_67 rfl (lv_at hl 1 rfl) ?_
  refine lv_iconst (v := nI (2)) hx hb dX6_fits_68 (by decide) ?_
  refine n_icmp_ne (tgt := 81) hx hb dX6_fits_69 (by decide) (by omega) (by omega) (fun c_4 => ?_) (fun c_4 => ?_)
  ·
    refine lv_iconst (v := nI (0)) hx hb dX6_fits_81 (by decide) ?_
    refine n_top (show (nI (0)) = (nI ((fitB 4 x y).toNat)) from by rw [show fitB 4 x y = false from decide_eq_false (by omega)]; rfl) ?_
    exact W.zret (v := (nI ((fitB 4 x y).toNat))) hx hb hr (by cases fitB 4 x y <;> rfl) (fun t ht hW => ⟨rfl, ht⟩) (fun q h => by cases h) dX6_fits_82
  ·
    refine lv_iload_n hx hb dX6_fits_72 rfl (lv_at hl 2 rfl) ?_
    refine lv_iconst (v := nI (1)) hx hb dX6_fits_73 (by decide) ?_
    refine n_icmp_ne (tgt := 81) hx hb dX6_fits_74 (by decide) (by omega) (by omega) (fun c_5 => ?_) (fun c_5 => ?_)
    ·
      refine lv_iconst (v := nI (0)) hx hb dX6_fits_81 (by decide) ?_
      refine n_top (show (nI (0)) = (nI ((fitB 4 x y).toNat)) from by rw [show fitB 4 x y = false from decide_eq_false (by omega)]; rfl) ?_
      exact W.zret (v := (nI ((fitB 4 x y).toNat))) hx hb hr (by cases fitB 4 x y <;> rfl) (fun t ht hW => ⟨rfl, ht⟩) (fun q h => by cases h) dX6_fits_82
    ·
      refine lv_iconst (v := nI (1)) hx hb dX6_fits_77 (by decide) ?_
      refine lv_goto (tgt := 82) hx hb dX6_fits_78 (by decide) ?_
      refine n_top (show (nI (1)) = (nI ((fitB 4 x y).toNat)) from by rw [show fitB 4 x y = true from decide_eq_true (by omega)]; rfl) ?_
      exact W.zret (v := (nI ((fitB 4 x y).toNat))) hx hb hr (by cases fitB 4 x y <;> rfl) (fun t ht hW => ⟨rfl, ht⟩) (fun q h => by cases h) dX6_fits_82

theorem c_X6_fits (l : Launch) (d : va_G) (cI cJ cZ : ClassId) (r x y : Nat) (hr : r < 4) (hx6 : x < 6) (hy6 : y < 6) : nRd l yX6_fits wsX6_fits ({ frames := 0, cells := 0, slots := 0, locals := 0 } : Room) d [(cI, .int), (cJ, .long), (cZ, .boolean)] [] [.int (nI (1 + r)), .int (nI x), .int (nI y)] (.int (nI (fitB (1 + r) x y).toNat)) := by
  rcases lt4 hr with rfl | rfl | rfl | rfl
  · exact c_X6_fits_1 l d cI cJ cZ x y hx6 hy6
  · exact c_X6_fits_2 l d cI cJ cZ x y hx6 hy6
  · exact c_X6_fits_3 l d cI cJ cZ x y hx6 hy6
  · exact c_X6_fits_4 l d cI cJ cZ x y hx6 hy6
set_option maxHeartbeats 4000000 in
set_option maxRecDepth 100000 in
theorem c_X6_uses (l : Launch) (d : va_G) (cI cJ cZ : ClassId) (mo xo xd xf xm xr xw xs xc yf yt ye yw : Nat) (vm vb va vp ve vt : Int32) (c0 : Nat) (hc : c0 < 1296) : nUp l yX6_uses wsX6_uses ({ frames := 1, cells := 0, slots := 0, locals := 22 } : Room) d [(cI, .int), (cJ, .long), (cZ, .boolean)] [(mo, .inr (6, [.ref xo, .ref xd, .ref xf, .ref xm, .ref xr, .ref xw, .ref xs, .ref xc, .int (vm), .int (vb), .int (va), .int (vp), .ref yf, .ref yt, .int (ve), .ref ye, .ref yw, .int (vt)])), (xd, .inl (cI, 4, .inl (fun j => nI (dig c0 j))))] [(mo, .inr (6, [.ref xo, .ref xd, .ref xf, .ref xm, .ref xr, .ref xw, .ref xs, .ref xc, .int (vm), .int (vb), .int (va), .int (vp), .ref yf, .ref yt, .int (ve), .ref ye, .ref yw, .int (vt)])), (xd, .inl (cI, 4, .inl (fun j => nI (dig (nx c0) j))))] [.ref mo] (some (.int (nI ((chg c0).toNat)))) := by
  intro sz
  refine Met.ofW (cc := cX6_uses) (maxL := 6) (ret := some .boolean) (by decide) rfl ?_
  intro p e s m args below meth c s₁ B hml hv
  obtain ⟨rfl, hsz, hP, hK, hD0⟩ := hv
  have hx := B.exec
  have hb := B.bytes
  have hr := B.returns
  have hts := atoms_spec (ws := wsX6_uses) B.pre
  have hown : s.vm.findClass RX6 = some m.cls := findClass_of_methodNamed B.named
  have hlocks := B.notSynchronized
  have hfl13 := hts (.fieldLink RX6 13 "NudgelaneModel" "digits" "[I") (by decide +kernel)
  have hin6 : ∀ w ∈ u_ws RX6 TX6 18, w ∈ wsX6_uses := by decide +kernel
  subst hsz
  have hD := hD0.self (sz := s.heap.size)
  generalize hAe : va_A [(mo, .inr (6, [.ref xo, .ref xd, .ref xf, .ref xm, .ref xr, .ref xw, .ref xs, .ref xc, .int (vm), .int (vb), .int (va), .int (vp), .ref yf, .ref yt, .int (ve), .ref ye, .ref yw, .int (vt)])), (xd, .inl (cI, 4, .inl (fun j => nI (dig c0 j))))] s.heap.size = A at hD ⊢
  have hA : ∀ q : Nat, s.heap.size ≤ q → A q := fun q h => by rw [← hAe]; exact Or.inr h
  have hS : va_S A s.heap s.heap [] := va_S.rf
  have hP : va_P d vwCl [(mo, .inr (6, [.ref xo, .ref xd, .ref xf, .ref xm, .ref xr, .ref xw, .ref xs, .ref xc, .int (vm), .int (vb), .int (va), .int (vp), .ref yf, .ref yt, .int (ve), .ref ye, .ref yw, .int (vt)])), (xd, .inl (cI, 4, .inl (fun j => nI (dig c0 j))))] s.heap := hP
  have hl := lv_entry ([.ref mo]) (n := 6) (Nat.le_of_ble_eq_true rfl)
  rw [lg_entry_eq]
  generalize (lg_sl ([.ref mo]) ++ List.replicate (6 - (lg_sl ([.ref mo])).length) Slot.unset).toArray = ls at hl ⊢
  have hl : lv_has ls 6 [(0, .ref mo)] := hl
  refine n_nameQ (fun Q hQ => ?_)
  refine lv_iconst (v := nI (0)) hx hb dX6_uses_0 (by decide) ?_
  refine lv_istore_n (lv' := [(1, .int (nI (0))), (0, .ref mo)]) hx hb dX6_uses_1 rfl hl (by decide) rfl (fun ls hl => ?_)
  have loop : ∀ (n k : Nat), k + n = 12 → nxo c0 = nxF c0 (12 - k) k → ∀ (ls : Array Slot), lv_has ls 6 [(1, .int (nI (k))), (0, .ref mo)] → W p l e ({ frames := 1, cells := 0, slots := 0, locals := 22 } : Room) s m ([.ref mo] : List Value).toArray below meth c s.heap [] 0 0 Q (F0 m 2 ls []) := by
    intro n
    induction n with
    | zero =>
      intro k h1 hnx ls hl
      have hn0 : nxo c0 = none := by rw [hnx, show k = 12 from by omega]; rfl
      refine lv_iload_n hx hb dX6_uses_2 rfl (lv_at hl 0 rfl) ?_
      refine lv_bipush (v := nI (12)) hx hb dX6_uses_3 (by decide) ?_
      refine n_icmp_ge (tgt := 111) hx hb dX6_uses_5 (by decide) (by omega) (by omega) (fun c_1 => ?_) (fun c_1 => ?_)
      ·
        refine lv_iconst (v := nI (0)) hx hb dX6_uses_111 (by decide) ?_
        subst hQ
        rw [show nx c0 = c0 from by unfold nx; rw [hn0]; rfl]
        refine n_top (show (nI (0)) = (nI ((chg c0).toNat)) from by rw [show chg c0 = false from by unfold chg; rw [hn0]; rfl]; rfl) ?_
        exact W.zret (v := (nI ((chg c0).toNat))) hx hb hr (by cases chg c0 <;> rfl) (fun t ht hW => ⟨⟨rfl, by rw [ht]; exact hP, hD⟩, hS.F ht⟩) hS.2.2 dX6_uses_112
      · exact False.elim (by omega)
    | succ n ih =>
      intro k h1 hnx ls hl
      refine lv_iload_n hx hb dX6_uses_2 rfl (lv_at hl 0 rfl) ?_
      refine lv_bipush (v := nI (12)) hx hb dX6_uses_3 (by decide) ?_
      refine n_icmp_ge (tgt := 111) hx hb dX6_uses_5 (by decide) (by omega) (by omega) (fun c_2 => ?_) (fun c_2 => ?_)
      · exact False.elim (by omega)
      ·
        refine lv_iconst (v := nI (1)) hx hb dX6_uses_8 (by decide) ?_
        refine lv_iload_n hx hb dX6_uses_9 rfl (lv_at hl 0 rfl) ?_
        refine lv_iconst (v := nI (3)) hx hb dX6_uses_10 (by decide) ?_
        refine n_div hx hb dX6_uses_11 (by omega) (by omega) (by omega) ?_
        refine n_add hx hb dX6_uses_12 ?_
        refine lv_istore_n (lv' := [(2, .int (nI (1 + (k / 3)))), (1, .int (nI (k))), (0, .ref mo)]) hx hb dX6_uses_13 rfl hl (by decide) rfl (fun ls hl => ?_)
        refine lv_iload_n hx hb dX6_uses_14 rfl (lv_at hl 1 rfl) ?_
        refine lv_iconst (v := nI (3)) hx hb dX6_uses_15 (by decide) ?_
        refine n_rem hx hb dX6_uses_16 (by omega) (by omega) (by omega) ?_
        refine lv_istore_n (lv' := [(3, .int (nI (k % 3))), (2, .int (nI (1 + (k / 3)))), (1, .int (nI (k))), (0, .ref mo)]) hx hb dX6_uses_17 rfl hl (by decide) rfl (fun ls hl => ?_)
        refine lv_iload_n hx hb dX6_uses_18 rfl (lv_at hl 1 rfl) ?_
        refine lv_aload_n hx hb dX6_uses_19 rfl (lv_at hl 3 rfl) ?_
        refine va_get (D := d) (ci := 6) (v := .ref xd) (C := RX6) (T := TX6) (N := 18) hx hb hts hin6 hown hK hP 0 rfl rfl 1 (by decide) hfl13 (fun _ h9 => h9) rfl dX6_uses_20 ?_
        refine lv_iload_n hx hb dX6_uses_23 rfl (lv_at hl 0 rfl) ?_
        refine n_iald hx hb hK hP 1 0 rfl rfl (k := k % 3) (by omega) (by omega) dX6_uses_24 ?_
        refine lv_aload_n hx hb dX6_uses_25 rfl (lv_at hl 3 rfl) ?_
        refine va_get (D := d) (ci := 6) (v := .ref xd) (C := RX6) (T := TX6) (N := 18) hx hb hts hin6 hown hK hP 0 rfl rfl 1 (by decide) hfl13 (fun _ h9 => h9) rfl dX6_uses_26 ?_
        refine lv_iload_n hx hb dX6_uses_29 rfl (lv_at hl 0 rfl) ?_
        refine lv_iconst (v := nI (1)) hx hb dX6_uses_30 (by decide) ?_
        refine n_add hx hb dX6_uses_31 ?_
        refine n_iald hx hb hK hP 1 0 rfl rfl (k := (k % 3) + 1) (by omega) (by omega) dX6_uses_32 ?_
        refine n_rdS (As := [.int (nI (1 + (k / 3))), .int (nI (dig c0 (k % 3))), .int (nI (dig c0 ((k % 3) + 1)))]) (rest := []) (WC := []) ⟨hx, hb, hml, hown, hts⟩ (c_X6_fits l d cI cJ cZ (k / 3) (dig c0 (k % 3)) (dig c0 ((k % 3) + 1)) (by omega) (dig_lt _ _) (dig_lt _ _)) (cwS 3 hts gX6_uses_X6_fits rfl rfl rfl (by decide +kernel) ⟨Nat.le_of_ble_eq_true rfl, Nat.le_of_ble_eq_true rfl⟩) (hP.sub [] rfl) (hK) rfl hl.1 rfl (Nat.le_of_ble_eq_true rfl) dX6_uses_33 ⟨Nat.zero_le _, Nat.zero_le _⟩ ?_
        have hfk : fkb c0 k = fitB (1 + k / 3) (dig c0 (k % 3)) (dig c0 (k % 3 + 1)) := rfl
        have hn1 : 12 - k = (12 - (k + 1)) + 1 := by omega
        refine n_ifeq (tgt := 105) hx hb dX6_uses_36 (by decide) (by cases fitB (1 + k / 3) (dig c0 (k % 3)) (dig c0 (k % 3 + 1)) <;> decide) (fun c_3 => ?_) (fun c_3 => ?_)
        ·
          have hff : fkb c0 k = false := by rw [hfk]; cases hz : fitB (1 + k / 3) (dig c0 (k % 3)) (dig c0 (k % 3 + 1)) with | false => rfl | true => rw [hz] at c_3; exact absurd c_3 (by decide)
          refine lv_iinc (v := nI (k + 1)) (lv' := [(1, .int (nI (k + 1))), (3, .int (nI (k % 3))), (2, .int (nI (1 + (k / 3)))), (0, .ref mo)]) hx hb dX6_uses_105 hl (k := 2) rfl (n_inc1 _) (by decide) rfl (fun ls hl => ?_)
          refine lv_goto (tgt := 2) hx hb dX6_uses_108 (by decide) ?_
          exact ih (k + 1) (by omega) (by rw [hnx, hn1]; show (if fkb c0 k = true then _ else _) = _; rw [hff]; rfl) ls (lv_sub hl [0, 3] rfl)
        ·
          have hff : fkb c0 k = true := by rw [hfk]; cases hz : fitB (1 + k / 3) (dig c0 (k % 3)) (dig c0 (k % 3 + 1)) with | true => rfl | false => rw [hz] at c_3; exact absurd rfl c_3
          have hn0 : nxo c0 = some (stp c0 k) := by rw [hnx, hn1]; show (if fkb c0 k = true then _ else _) = _; rw [hff]; rfl
          have hstp := (stp_ok hc (show k < 12 from by omega) hff).2
          refine lv_aload_n hx hb dX6_uses_39 rfl (lv_at hl 3 rfl) ?_
          refine va_get (D := d) (ci := 6) (v := .ref xd) (C := RX6) (T := TX6) (N := 18) hx hb hts hin6 hown hK hP 0 rfl rfl 1 (by decide) hfl13 (fun _ h9 => h9) rfl dX6_uses_40 ?_
          refine lv_iload_n hx hb dX6_uses_43 rfl (lv_at hl 0 rfl) ?_
          refine n_iald hx hb hK hP 1 0 rfl rfl (k := k % 3) (by omega) (by omega) dX6_uses_44 ?_
          refine lv_istore (lv' := [(4, .int (nI (dig c0 (k % 3)))), (3, .int (nI (k % 3))), (2, .int (nI (1 + (k / 3)))), (1, .int (nI (k))), (0, .ref mo)]) hx hb dX6_uses_45 hl (by decide) rfl (fun ls hl => ?_)
          refine lv_aload_n hx hb dX6_uses_47 rfl (lv_at hl 4 rfl) ?_
          refine va_get (D := d) (ci := 6) (v := .ref xd) (C := RX6) (T := TX6) (N := 18) hx hb hts hin6 hown hK hP 0 rfl rfl 1 (by decide) hfl13 (fun _ h9 => h9) rfl dX6_uses_48 ?_
          refine lv_iload_n hx hb dX6_uses_51 rfl (lv_at hl 1 rfl) ?_
          refine lv_iconst (v := nI (1)) hx hb dX6_uses_52 (by decide) ?_
          refine n_add hx hb dX6_uses_53 ?_
          refine n_iald hx hb hK hP 1 0 rfl rfl (k := (k % 3) + 1) (by omega) (by omega) dX6_uses_54 ?_
          refine lv_istore (lv' := [(5, .int (nI (dig c0 ((k % 3) + 1)))), (4, .int (nI (dig c0 (k % 3)))), (3, .int (nI (k % 3))), (2, .int (nI (1 + (k / 3)))), (1, .int (nI (k))), (0, .ref mo)]) hx hb dX6_uses_55 hl (by decide) rfl (fun ls hl => ?_)
          refine lv_aload_n hx hb dX6_uses_57 rfl (lv_at hl 5 rfl) ?_
          refine va_get (D := d) (ci := 6) (v := .ref xd) (C := RX6) (T := TX6) (N := 18) hx hb hts hin6 hown hK hP 0 rfl rfl 1 (by decide) hfl13 (fun _ h9 => h9) rfl dX6_uses_58 ?_
          refine lv_iload_n hx hb dX6_uses_61 rfl (lv_at hl 2 rfl) ?_
          refine lv_iload_n hx hb dX6_uses_62 rfl (lv_at hl 3 rfl) ?_
          refine lv_iconst (v := nI (4)) hx hb dX6_uses_63 (by decide) ?_
          refine n_icmp_ne (tgt := 71) hx hb dX6_uses_64 (by decide) (by omega) (by omega) (fun c_4 => ?_) (fun c_4 => ?_)
          ·
            refine lv_iload_n hx hb dX6_uses_71 rfl (lv_at hl 3 rfl) ?_
            refine lv_iconst (v := nI (3)) hx hb dX6_uses_72 (by decide) ?_
            refine n_icmp_ne (tgt := 81) hx hb dX6_uses_73 (by decide) (by omega) (by omega) (fun c_5 => ?_) (fun c_5 => ?_)
            ·
              refine lv_iload hx hb dX6_uses_81 (lv_at hl 0 rfl) ?_
              refine n_iast (ws' := [(mo, .inr (6, [.ref xo, .ref xd, .ref xf, .ref xm, .ref xr, .ref xw, .ref xs, .ref xc, .int (vm), .int (vb), .int (va), .int (vp), .ref yf, .ref yt, .int (ve), .ref ye, .ref yw, .int (vt)])), (xd, .inl (cI, 4, .inl (upd (fun j => nI (dig c0 j)) (k % 3) (nI (dig c0 ((k % 3) + 1))))))]) hx hb hK hP hD hS 1 0 rfl rfl (k := k % 3) (by omega) (by omega) dX6_uses_83 rfl (fun H locs hP hD hS => ?_)
              refine lv_aload_n hx hb dX6_uses_84 rfl (lv_at hl 5 rfl) ?_
              refine va_get (D := d) (ci := 6) (v := .ref xd) (C := RX6) (T := TX6) (N := 18) hx hb hts hin6 hown hK hP 0 rfl rfl 1 (by decide) hfl13 (fun _ h9 => h9) rfl dX6_uses_85 ?_
              refine lv_iload_n hx hb dX6_uses_88 rfl (lv_at hl 2 rfl) ?_
              refine lv_iconst (v := nI (1)) hx hb dX6_uses_89 (by decide) ?_
              refine n_add hx hb dX6_uses_90 ?_
              refine lv_iload_n hx hb dX6_uses_91 rfl (lv_at hl 3 rfl) ?_
              refine lv_iconst (v := nI (2)) hx hb dX6_uses_92 (by decide) ?_
              refine n_icmp_le (tgt := 100) hx hb dX6_uses_93 (by decide) (by omega) (by omega) (fun c_6 => ?_) (fun c_6 => ?_)
              ·
                refine lv_iload hx hb dX6_uses_100 (lv_at hl 1 rfl) ?_
                refine n_iast (ws' := [(mo, .inr (6, [.ref xo, .ref xd, .ref xf, .ref xm, .ref xr, .ref xw, .ref xs, .ref xc, .int (vm), .int (vb), .int (va), .int (vp), .ref yf, .ref yt, .int (ve), .ref ye, .ref yw, .int (vt)])), (xd, .inl (cI, 4, .inl (upd (upd (fun j => nI (dig c0 j)) (k % 3) (nI (dig c0 ((k % 3) + 1)))) ((k % 3) + 1) (nI (dig c0 (k % 3))))))]) hx hb hK hP hD hS 1 0 rfl rfl (k := (k % 3) + 1) (by omega) (by omega) dX6_uses_102 rfl (fun H locs hP hD hS => ?_)
                refine lv_iconst (v := nI (1)) hx hb dX6_uses_103 (by decide) ?_
                obtain ⟨hP, hD⟩ := n_cg (ws' := [(mo, .inr (6, [.ref xo, .ref xd, .ref xf, .ref xm, .ref xr, .ref xw, .ref xs, .ref xc, .int (vm), .int (vb), .int (va), .int (vp), .ref yf, .ref yt, .int (ve), .ref ye, .ref yw, .int (vt)])), (xd, .inl (cI, 4, .inl (fun j => nI (dig (stp c0 k) j))))]) hP hD 1 rfl (by intro j hj; have h := hstp j hj; (first | rw [if_pos (show k < 6 by omega)] at h | rw [if_neg (show ¬ k < 6 by omega), if_pos (show k < 9 by omega)] at h | rw [if_neg (show ¬ k < 6 by omega), if_neg (show ¬ k < 9 by omega)] at h); rw [h]; unfold upd; by_cases h1 : j = k % 3 + 1 <;> by_cases h2 : j = k % 3 <;> simp [h1, h2] <;> omega) rfl
                subst hQ
                rw [show nx c0 = stp c0 k from by unfold nx; rw [hn0]; rfl]
                refine n_top (show (nI (1)) = (nI ((chg c0).toNat)) from by rw [show chg c0 = true from by unfold chg; rw [hn0]; rfl]; rfl) ?_
                exact W.zret (v := (nI ((chg c0).toNat))) hx hb hr (by cases chg c0 <;> rfl) (fun t ht hW => ⟨⟨rfl, by rw [ht]; exact hP, hD⟩, hS.F ht⟩) hS.2.2 dX6_uses_104
              ·
                exact False.elim (by omega)
            ·
              refine lv_iload hx hb dX6_uses_76 (lv_at hl 1 rfl) ?_
              refine lv_goto (tgt := 83) hx hb dX6_uses_78 (by decide) ?_
              refine n_iast (ws' := [(mo, .inr (6, [.ref xo, .ref xd, .ref xf, .ref xm, .ref xr, .ref xw, .ref xs, .ref xc, .int (vm), .int (vb), .int (va), .int (vp), .ref yf, .ref yt, .int (ve), .ref ye, .ref yw, .int (vt)])), (xd, .inl (cI, 4, .inl (upd (fun j => nI (dig c0 j)) (k % 3) (nI (dig c0 (k % 3))))))]) hx hb hK hP hD hS 1 0 rfl rfl (k := k % 3) (by omega) (by omega) dX6_uses_83 rfl (fun H locs hP hD hS => ?_)
              refine lv_aload_n hx hb dX6_uses_84 rfl (lv_at hl 5 rfl) ?_
              refine va_get (D := d) (ci := 6) (v := .ref xd) (C := RX6) (T := TX6) (N := 18) hx hb hts hin6 hown hK hP 0 rfl rfl 1 (by decide) hfl13 (fun _ h9 => h9) rfl dX6_uses_85 ?_
              refine lv_iload_n hx hb dX6_uses_88 rfl (lv_at hl 2 rfl) ?_
              refine lv_iconst (v := nI (1)) hx hb dX6_uses_89 (by decide) ?_
              refine n_add hx hb dX6_uses_90 ?_
              refine lv_iload_n hx hb dX6_uses_91 rfl (lv_at hl 3 rfl) ?_
              refine lv_iconst (v := nI (2)) hx hb dX6_uses_92 (by decide) ?_
              refine n_icmp_le (tgt := 100) hx hb dX6_uses_93 (by decide) (by omega) (by omega) (fun c_7 => ?_) (fun c_7 => ?_)
              ·
                exact False.elim (by omega)
              ·
                refine lv_iconst (v := nI (0)) hx hb dX6_uses_96 (by decide) ?_
                refine lv_goto (tgt := 102) hx hb dX6_uses_97 (by decide) ?_
                refine n_iast (ws' := [(mo, .inr (6, [.ref xo, .ref xd, .ref xf, .ref xm, .ref xr, .ref xw, .ref xs, .ref xc, .int (vm), .int (vb), .int (va), .int (vp), .ref yf, .ref yt, .int (ve), .ref ye, .ref yw, .int (vt)])), (xd, .inl (cI, 4, .inl (upd (upd (fun j => nI (dig c0 j)) (k % 3) (nI (dig c0 (k % 3)))) ((k % 3) + 1) (nI (0)))))]) hx hb hK hP hD hS 1 0 rfl rfl (k := (k % 3) + 1) (by omega) (by omega) dX6_uses_102 rfl (fun H locs hP hD hS => ?_)
                refine lv_iconst (v := nI (1)) hx hb dX6_uses_103 (by decide) ?_
                obtain ⟨hP, hD⟩ := n_cg (ws' := [(mo, .inr (6, [.ref xo, .ref xd, .ref xf, .ref xm, .ref xr, .ref xw, .ref xs, .ref xc, .int (vm), .int (vb), .int (va), .int (vp), .ref yf, .ref yt, .int (ve), .ref ye, .ref yw, .int (vt)])), (xd, .inl (cI, 4, .inl (fun j => nI (dig (stp c0 k) j))))]) hP hD 1 rfl (by intro j hj; have h := hstp j hj; (first | rw [if_pos (show k < 6 by omega)] at h | rw [if_neg (show ¬ k < 6 by omega), if_pos (show k < 9 by omega)] at h | rw [if_neg (show ¬ k < 6 by omega), if_neg (show ¬ k < 9 by omega)] at h); rw [h]; unfold upd; by_cases h1 : j = k % 3 + 1 <;> by_cases h2 : j = k % 3 <;> simp [h1, h2] <;> omega) rfl
                subst hQ
                rw [show nx c0 = stp c0 k from by unfold nx; rw [hn0]; rfl]
                refine n_top (show (nI (1)) = (nI ((chg c0).toNat)) from by rw [show chg c0 = true from by unfold chg; rw [hn0]; rfl]; rfl) ?_
                exact W.zret (v := (nI ((chg c0).toNat))) hx hb hr (by cases chg c0 <;> rfl) (fun t ht hW => ⟨⟨rfl, by rw [ht]; exact hP, hD⟩, hS.F ht⟩) hS.2.2 dX6_uses_104
          ·
            refine lv_iconst (v := nI (0)) hx hb dX6_uses_67 (by decide) ?_
            refine lv_goto (tgt := 83) hx hb dX6_uses_68 (by decide) ?_
            refine n_iast (ws' := [(mo, .inr (6, [.ref xo, .ref xd, .ref xf, .ref xm, .ref xr, .ref xw, .ref xs, .ref xc, .int (vm), .int (vb), .int (va), .int (vp), .ref yf, .ref yt, .int (ve), .ref ye, .ref yw, .int (vt)])), (xd, .inl (cI, 4, .inl (upd (fun j => nI (dig c0 j)) (k % 3) (nI (0)))))]) hx hb hK hP hD hS 1 0 rfl rfl (k := k % 3) (by omega) (by omega) dX6_uses_83 rfl (fun H locs hP hD hS => ?_)
            refine lv_aload_n hx hb dX6_uses_84 rfl (lv_at hl 5 rfl) ?_
            refine va_get (D := d) (ci := 6) (v := .ref xd) (C := RX6) (T := TX6) (N := 18) hx hb hts hin6 hown hK hP 0 rfl rfl 1 (by decide) hfl13 (fun _ h9 => h9) rfl dX6_uses_85 ?_
            refine lv_iload_n hx hb dX6_uses_88 rfl (lv_at hl 2 rfl) ?_
            refine lv_iconst (v := nI (1)) hx hb dX6_uses_89 (by decide) ?_
            refine n_add hx hb dX6_uses_90 ?_
            refine lv_iload_n hx hb dX6_uses_91 rfl (lv_at hl 3 rfl) ?_
            refine lv_iconst (v := nI (2)) hx hb dX6_uses_92 (by decide) ?_
            refine n_icmp_le (tgt := 100) hx hb dX6_uses_93 (by decide) (by omega) (by omega) (fun c_8 => ?_) (fun c_8 => ?_)
            ·
              exact False.elim (by omega)
            ·
              refine lv_iconst (v := nI (0)) hx hb dX6_uses_96 (by decide) ?_
              refine lv_goto (tgt := 102) hx hb dX6_uses_97 (by decide) ?_
              refine n_iast (ws' := [(mo, .inr (6, [.ref xo, .ref xd, .ref xf, .ref xm, .ref xr, .ref xw, .ref xs, .ref xc, .int (vm), .int (vb), .int (va), .int (vp), .ref yf, .ref yt, .int (ve), .ref ye, .ref yw, .int (vt)])), (xd, .inl (cI, 4, .inl (upd (upd (fun j => nI (dig c0 j)) (k % 3) (nI (0))) ((k % 3) + 1) (nI (0)))))]) hx hb hK hP hD hS 1 0 rfl rfl (k := (k % 3) + 1) (by omega) (by omega) dX6_uses_102 rfl (fun H locs hP hD hS => ?_)
              refine lv_iconst (v := nI (1)) hx hb dX6_uses_103 (by decide) ?_
              obtain ⟨hP, hD⟩ := n_cg (ws' := [(mo, .inr (6, [.ref xo, .ref xd, .ref xf, .ref xm, .ref xr, .ref xw, .ref xs, .ref xc, .int (vm), .int (vb), .int (va), .int (vp), .ref yf, .ref yt, .int (ve), .ref ye, .ref yw, .int (vt)])), (xd, .inl (cI, 4, .inl (fun j => nI (dig (stp c0 k) j))))]) hP hD 1 rfl (by intro j hj; have h := hstp j hj; (first | rw [if_pos (show k < 6 by omega)] at h | rw [if_neg (show ¬ k < 6 by omega), if_pos (show k < 9 by omega)] at h | rw [if_neg (show ¬ k < 6 by omega), if_neg (show ¬ k < 9 by omega)] at h); rw [h]; unfold upd; by_cases h1 : j = k % 3 + 1 <;> by_cases h2 : j = k % 3 <;> simp [h1, h2] <;> omega) rfl
              subst hQ
              rw [show nx c0 = stp c0 k from by unfold nx; rw [hn0]; rfl]
              refine n_top (show (nI (1)) = (nI ((chg c0).toNat)) from by rw [show chg c0 = true from by unfold chg; rw [hn0]; rfl]; rfl) ?_
              exact W.zret (v := (nI ((chg c0).toNat))) hx hb hr (by cases chg c0 <;> rfl) (fun t ht hW => ⟨⟨rfl, by rw [ht]; exact hP, hD⟩, hS.F ht⟩) hS.2.2 dX6_uses_104
  exact loop 12 0 rfl rfl ls (lv_sub hl [0, 1] rfl)

set_option maxHeartbeats 4000000 in
set_option maxRecDepth 100000 in
theorem c_X6_formed (l : Launch) (d : va_G) (cI cJ cZ : ClassId) (mo xo xd xf xm xr xw xs xc yf yt ye yw : Nat) (vm vb va vp ve vt : Int32) (c0 : Nat) (f : Nat → Int32) (hc : c0 < 1296) : nUp l yX6_formed wsX6_formed ({ frames := 2, cells := 0, slots := 0, locals := 47 } : Room) d [(cI, .int), (cJ, .long), (cZ, .boolean)] [(mo, .inr (6, [.ref xo, .ref xd, .ref xf, .ref xm, .ref xr, .ref xw, .ref xs, .ref xc, .int (vm), .int (vb), .int (va), .int (vp), .ref yf, .ref yt, .int (ve), .ref ye, .ref yw, .int (vt)])), (xd, .inl (cI, 4, .inl (f)))] [(mo, .inr (6, [.ref xo, .ref xd, .ref xf, .ref xm, .ref xr, .ref xw, .ref xs, .ref xc, .int (vm), .int (vb), .int (va), .int (vp), .ref yf, .ref yt, .int (ve), .ref ye, .ref yw, .int (vt)])), (xd, .inl (cI, 4, .inl (fun j => nI (dig (form c0) j))))] [.ref mo, .int (nI (c0))] (some (.int (nI (form c0)))) := by
  intro sz
  refine Met.ofW (cc := cX6_formed) (maxL := 4) (ret := some .int) (by decide) rfl ?_
  intro p e s m args below meth c s₁ B hml hv
  obtain ⟨rfl, hsz, hP, hK, hD0⟩ := hv
  have hx := B.exec
  have hb := B.bytes
  have hr := B.returns
  have hts := atoms_spec (ws := wsX6_formed) B.pre
  have hown : s.vm.findClass RX6 = some m.cls := findClass_of_methodNamed B.named
  have hlocks := B.notSynchronized
  have hfl13 := hts (.fieldLink RX6 13 "NudgelaneModel" "digits" "[I") (by decide +kernel)
  have hin6 : ∀ w ∈ u_ws RX6 TX6 18, w ∈ wsX6_formed := by decide +kernel
  subst hsz
  have hD := hD0.self (sz := s.heap.size)
  generalize hAe : va_A [(mo, .inr (6, [.ref xo, .ref xd, .ref xf, .ref xm, .ref xr, .ref xw, .ref xs, .ref xc, .int (vm), .int (vb), .int (va), .int (vp), .ref yf, .ref yt, .int (ve), .ref ye, .ref yw, .int (vt)])), (xd, .inl (cI, 4, .inl (f)))] s.heap.size = A at hD ⊢
  have hA : ∀ q : Nat, s.heap.size ≤ q → A q := fun q h => by rw [← hAe]; exact Or.inr h
  have hS : va_S A s.heap s.heap [] := va_S.rf
  have hP : va_P d vwCl [(mo, .inr (6, [.ref xo, .ref xd, .ref xf, .ref xm, .ref xr, .ref xw, .ref xs, .ref xc, .int (vm), .int (vb), .int (va), .int (vp), .ref yf, .ref yt, .int (ve), .ref ye, .ref yw, .int (vt)])), (xd, .inl (cI, 4, .inl (f)))] s.heap := hP
  have hl := lv_entry ([.ref mo, .int (nI (c0))]) (n := 4) (Nat.le_of_ble_eq_true rfl)
  rw [lg_entry_eq]
  generalize (lg_sl ([.ref mo, .int (nI (c0))]) ++ List.replicate (4 - (lg_sl ([.ref mo, .int (nI (c0))])).length) Slot.unset).toArray = ls at hl ⊢
  have hl : lv_has ls 4 [(0, .ref mo), (1, .int (nI (c0)))] := hl
  refine n_nameQ (fun Q hQ => ?_)
  refine lv_iload_n hx hb dX6_formed_0 rfl (lv_at hl 1 rfl) ?_
  refine lv_istore_n (lv' := [(2, .int (nI (c0))), (0, .ref mo), (1, .int (nI (c0)))]) hx hb dX6_formed_1 rfl hl (by decide) rfl (fun ls hl => ?_)
  refine lv_iconst (v := nI (3)) hx hb dX6_formed_2 (by decide) ?_
  refine lv_istore_n (lv' := [(3, .int (nI (3))), (2, .int (nI (c0))), (0, .ref mo), (1, .int (nI (c0)))]) hx hb dX6_formed_3 rfl hl (by decide) rfl (fun ls hl => ?_)
  refine lv_iload_n hx hb dX6_formed_4 rfl (lv_at hl 0 rfl) ?_
  refine n_iflt (tgt := 29) hx hb dX6_formed_5 (by decide) (by decide) ?_
  refine lv_aload_n hx hb dX6_formed_8 rfl (lv_at hl 2 rfl) ?_
  refine va_get (D := d) (ci := 6) (v := .ref xd) (C := RX6) (T := TX6) (N := 18) hx hb hts hin6 hown hK hP 0 rfl rfl 1 (by decide) hfl13 (fun _ h9 => h9) rfl dX6_formed_9 ?_
  refine lv_iload_n hx hb dX6_formed_12 rfl (lv_at hl 0 rfl) ?_
  refine lv_iload_n hx hb dX6_formed_13 rfl (lv_at hl 1 rfl) ?_
  refine lv_bipush (v := nI (6)) hx hb dX6_formed_14 (by decide) ?_
  refine n_rem hx hb dX6_formed_16 (by omega) (by decide) (by decide) ?_
  refine n_iast (ws' := [(mo, .inr (6, [.ref xo, .ref xd, .ref xf, .ref xm, .ref xr, .ref xw, .ref xs, .ref xc, .int (vm), .int (vb), .int (va), .int (vp), .ref yf, .ref yt, .int (ve), .ref ye, .ref yw, .int (vt)])), (xd, .inl (cI, 4, .inl (upd f 3 (nI (c0 % 6)))))]) hx hb hK hP hD hS 1 0 rfl rfl (k := 3) (by decide) (by decide) dX6_formed_17 rfl (fun H locs hP hD hS => ?_)
  refine lv_iload_n hx hb dX6_formed_18 rfl (lv_at hl 1 rfl) ?_
  refine lv_bipush (v := nI (6)) hx hb dX6_formed_19 (by decide) ?_
  refine n_div hx hb dX6_formed_21 (by omega) (by decide) (by decide) ?_
  refine lv_istore_n (lv' := [(2, .int (nI (c0 / 6))), (3, .int (nI (3))), (0, .ref mo), (1, .int (nI (c0)))]) hx hb dX6_formed_22 rfl hl (by decide) rfl (fun ls hl => ?_)
  refine lv_iinc (v := nI (2)) (lv' := [(3, .int (nI (2))), (2, .int (nI (c0 / 6))), (0, .ref mo), (1, .int (nI (c0)))]) hx hb dX6_formed_23 hl (k := 1) rfl (by decide) (by decide) rfl (fun ls hl => ?_)
  refine lv_goto (tgt := 4) hx hb dX6_formed_26 (by decide) ?_
  refine lv_iload_n hx hb dX6_formed_4 rfl (lv_at hl 0 rfl) ?_
  refine n_iflt (tgt := 29) hx hb dX6_formed_5 (by decide) (by decide) ?_
  refine lv_aload_n hx hb dX6_formed_8 rfl (lv_at hl 2 rfl) ?_
  refine va_get (D := d) (ci := 6) (v := .ref xd) (C := RX6) (T := TX6) (N := 18) hx hb hts hin6 hown hK hP 0 rfl rfl 1 (by decide) hfl13 (fun _ h9 => h9) rfl dX6_formed_9 ?_
  refine lv_iload_n hx hb dX6_formed_12 rfl (lv_at hl 0 rfl) ?_
  refine lv_iload_n hx hb dX6_formed_13 rfl (lv_at hl 1 rfl) ?_
  refine lv_bipush (v := nI (6)) hx hb dX6_formed_14 (by decide) ?_
  refine n_rem hx hb dX6_formed_16 (by omega) (by decide) (by decide) ?_
  refine n_iast (ws' := [(mo, .inr (6, [.ref xo, .ref xd, .ref xf, .ref xm, .ref xr, .ref xw, .ref xs, .ref xc, .int (vm), .int (vb), .int (va), .int (vp), .ref yf, .ref yt, .int (ve), .ref ye, .ref yw, .int (vt)])), (xd, .inl (cI, 4, .inl (upd (upd f 3 (nI (c0 % 6))) 2 (nI ((c0 / 6) % 6)))))]) hx hb hK hP hD hS 1 0 rfl rfl (k := 2) (by decide) (by decide) dX6_formed_17 rfl (fun H locs hP hD hS => ?_)
  refine lv_iload_n hx hb dX6_formed_18 rfl (lv_at hl 1 rfl) ?_
  refine lv_bipush (v := nI (6)) hx hb dX6_formed_19 (by decide) ?_
  refine n_div hx hb dX6_formed_21 (by omega) (by decide) (by decide) ?_
  refine lv_istore_n (lv' := [(2, .int (nI ((c0 / 6) / 6))), (3, .int (nI (2))), (0, .ref mo), (1, .int (nI (c0)))]) hx hb dX6_formed_22 rfl hl (by decide) rfl (fun ls hl => ?_)
  refine lv_iinc (v := nI (1)) (lv' := [(3, .int (nI (1))), (2, .int (nI ((c0 / 6) / 6))), (0, .ref mo), (1, .int (nI (c0)))]) hx hb dX6_formed_23 hl (k := 1) rfl (by decide) (by decide) rfl (fun ls hl => ?_)
  refine lv_goto (tgt := 4) hx hb dX6_formed_26 (by decide) ?_
  refine lv_iload_n hx hb dX6_formed_4 rfl (lv_at hl 0 rfl) ?_
  refine n_iflt (tgt := 29) hx hb dX6_formed_5 (by decide) (by decide) ?_
  refine lv_aload_n hx hb dX6_formed_8 rfl (lv_at hl 2 rfl) ?_
  refine va_get (D := d) (ci := 6) (v := .ref xd) (C := RX6) (T := TX6) (N := 18) hx hb hts hin6 hown hK hP 0 rfl rfl 1 (by decide) hfl13 (fun _ h9 => h9) rfl dX6_formed_9 ?_
  refine lv_iload_n hx hb dX6_formed_12 rfl (lv_at hl 0 rfl) ?_
  refine lv_iload_n hx hb dX6_formed_13 rfl (lv_at hl 1 rfl) ?_
  refine lv_bipush (v := nI (6)) hx hb dX6_formed_14 (by decide) ?_
  refine n_rem hx hb dX6_formed_16 (by omega) (by decide) (by decide) ?_
  refine n_iast (ws' := [(mo, .inr (6, [.ref xo, .ref xd, .ref xf, .ref xm, .ref xr, .ref xw, .ref xs, .ref xc, .int (vm), .int (vb), .int (va), .int (vp), .ref yf, .ref yt, .int (ve), .ref ye, .ref yw, .int (vt)])), (xd, .inl (cI, 4, .inl (upd (upd (upd f 3 (nI (c0 % 6))) 2 (nI ((c0 / 6) % 6))) 1 (nI (((c0 / 6) / 6) % 6)))))]) hx hb hK hP hD hS 1 0 rfl rfl (k := 1) (by decide) (by decide) dX6_formed_17 rfl (fun H locs hP hD hS => ?_)
  refine lv_iload_n hx hb dX6_formed_18 rfl (lv_at hl 1 rfl) ?_
  refine lv_bipush (v := nI (6)) hx hb dX6_formed_19 (by decide) ?_
  refine n_div hx hb dX6_formed_21 (by omega) (by decide) (by decide) ?_
  refine lv_istore_n (lv' := [(2, .int (nI (((c0 / 6) / 6) / 6))), (3, .int (nI (1))), (0, .ref mo), (1, .int (nI (c0)))]) hx hb dX6_formed_22 rfl hl (by decide) rfl (fun ls hl => ?_)
  refine lv_iinc (v := nI (0)) (lv' := [(3, .int (nI (0))), (2, .int (nI (((c0 / 6) / 6) / 6))), (0, .ref mo), (1, .int (nI (c0)))]) hx hb dX6_formed_23 hl (k := 1) rfl (by decide) (by decide) rfl (fun ls hl => ?_)
  refine lv_goto (tgt := 4) hx hb dX6_formed_26 (by decide) ?_
  refine lv_iload_n hx hb dX6_formed_4 rfl (lv_at hl 0 rfl) ?_
  refine n_iflt (tgt := 29) hx hb dX6_formed_5 (by decide) (by decide) ?_
  refine lv_aload_n hx hb dX6_formed_8 rfl (lv_at hl 2 rfl) ?_
  refine va_get (D := d) (ci := 6) (v := .ref xd) (C := RX6) (T := TX6) (N := 18) hx hb hts hin6 hown hK hP 0 rfl rfl 1 (by decide) hfl13 (fun _ h9 => h9) rfl dX6_formed_9 ?_
  refine lv_iload_n hx hb dX6_formed_12 rfl (lv_at hl 0 rfl) ?_
  refine lv_iload_n hx hb dX6_formed_13 rfl (lv_at hl 1 rfl) ?_
  refine lv_bipush (v := nI (6)) hx hb dX6_formed_14 (by decide) ?_
  refine n_rem hx hb dX6_formed_16 (by omega) (by decide) (by decide) ?_
  refine n_iast (ws' := [(mo, .inr (6, [.ref xo, .ref xd, .ref xf, .ref xm, .ref xr, .ref xw, .ref xs, .ref xc, .int (vm), .int (vb), .int (va), .int (vp), .ref yf, .ref yt, .int (ve), .ref ye, .ref yw, .int (vt)])), (xd, .inl (cI, 4, .inl (upd (upd (upd (upd f 3 (nI (c0 % 6))) 2 (nI ((c0 / 6) % 6))) 1 (nI (((c0 / 6) / 6) % 6))) 0 (nI ((((c0 / 6) / 6) / 6) % 6)))))]) hx hb hK hP hD hS 1 0 rfl rfl (k := 0) (by decide) (by decide) dX6_formed_17 rfl (fun H locs hP hD hS => ?_)
  refine lv_iload_n hx hb dX6_formed_18 rfl (lv_at hl 1 rfl) ?_
  refine lv_bipush (v := nI (6)) hx hb dX6_formed_19 (by decide) ?_
  refine n_div hx hb dX6_formed_21 (by omega) (by decide) (by decide) ?_
  refine lv_istore_n (lv' := [(2, .int (nI ((((c0 / 6) / 6) / 6) / 6))), (3, .int (nI (0))), (0, .ref mo), (1, .int (nI (c0)))]) hx hb dX6_formed_22 rfl hl (by decide) rfl (fun ls hl => ?_)
  refine lv_iinc (v := (-1)) (lv' := [(3, .int (-1)), (2, .int (nI ((((c0 / 6) / 6) / 6) / 6))), (0, .ref mo), (1, .int (nI (c0)))]) hx hb dX6_formed_23 hl (k := 1) rfl (by decide) (by decide) rfl (fun ls hl => ?_)
  refine lv_goto (tgt := 4) hx hb dX6_formed_26 (by decide) ?_
  refine lv_iload_n hx hb dX6_formed_4 rfl (lv_at hl 0 rfl) ?_
  refine lv_if_lt (tgt := 29) hx hb dX6_formed_5 (by decide) (fun c_5 => ?_) (fun c_5 => ?_)
  rotate_left
  · exact absurd c_5 (fun h => h (by decide))
  obtain ⟨hP, hD⟩ := n_cg (ws' := [(mo, .inr (6, [.ref xo, .ref xd, .ref xf, .ref xm, .ref xr, .ref xw, .ref xs, .ref xc, .int (vm), .int (vb), .int (va), .int (vp), .ref yf, .ref yt, .int (ve), .ref ye, .ref yw, .int (vt)])), (xd, .inl (cI, 4, .inl (fun j => nI (dig c0 j))))]) hP hD 1 rfl (by intro j hj; rcases lt4 hj with rfl | rfl | rfl | rfl <;> simp only [upd, dig, wt] <;> simp <;> (try (congr 1; omega))) rfl
  refine lv_iconst (v := nI (1)) hx hb dX6_formed_29 (by decide) ?_
  refine lv_istore_n (lv' := [(3, .int (nI (1))), (2, .int (nI ((((c0 / 6) / 6) / 6) / 6))), (0, .ref mo), (1, .int (nI (c0)))]) hx hb dX6_formed_30 rfl hl (by decide) rfl (fun ls hl => ?_)
  have loop : ∀ (n x : Nat) (g : Bool), x < 1296 → nfF n x = form c0 → tm n x = true → (g = false → x = form c0) → ∀ (H : Heap) (locs : List Loc), va_P d vwCl [(mo, .inr (6, [.ref xo, .ref xd, .ref xf, .ref xm, .ref xr, .ref xw, .ref xs, .ref xc, .int (vm), .int (vb), .int (va), .int (vp), .ref yf, .ref yt, .int (ve), .ref ye, .ref yw, .int (vt)])), (xd, .inl (cI, 4, .inl (fun j => nI (dig x j))))] H → va_D A [(mo, .inr (6, [.ref xo, .ref xd, .ref xf, .ref xm, .ref xr, .ref xw, .ref xs, .ref xc, .int (vm), .int (vb), .int (va), .int (vp), .ref yf, .ref yt, .int (ve), .ref ye, .ref yw, .int (vt)])), (xd, .inl (cI, 4, .inl (fun j => nI (dig x j))))] → va_S A s.heap H locs → ∀ (ls : Array Slot), lv_has ls 4 [(3, .int (nI (g.toNat))), (0, .ref mo)] → W p l e ({ frames := 2, cells := 0, slots := 0, locals := 47 } : Room) s m ([.ref mo, .int (nI (c0))] : List Value).toArray below meth c H locs 0 0 Q (F0 m 31 ls []) := by
    intro n
    induction n with
    | zero =>
      intro x g hx1 h3 h4 hg H locs hP hD hS ls hl
      have hch : chg x = false := by cases hz : chg x with | false => rfl | true => unfold tm at h4; rw [hz] at h4; exact absurd h4 (by decide)
      have hnx : nx x = x := by cases hz : nxo x with | none => unfold nx; rw [hz]; rfl | some y => unfold chg at hch; rw [hz] at hch; exact Bool.noConfusion hch
      refine lv_iload_n hx hb dX6_formed_31 rfl (lv_at hl 0 rfl) ?_
      refine n_ifeq (tgt := 43) hx hb dX6_formed_32 (by decide) (by cases g <;> decide) (fun c_6 => ?_) (fun c_6 => ?_)
      ·
        have hxf : x = form c0 := hg (by cases hz : g with | false => rfl | true => rw [hz] at c_6; exact absurd c_6 (by decide))
        have hpk := pack_eq hx1
        refine lv_aload_n hx hb dX6_formed_43 rfl (lv_at hl 1 rfl) ?_
        refine va_get (D := d) (ci := 6) (v := .ref xd) (C := RX6) (T := TX6) (N := 18) hx hb hts hin6 hown hK hP 0 rfl rfl 1 (by decide) hfl13 (fun _ h9 => h9) rfl dX6_formed_44 ?_
        refine lv_iconst (v := nI (0)) hx hb dX6_formed_47 (by decide) ?_
        refine n_iald hx hb hK hP 1 0 rfl rfl (k := 0) (by decide) (by decide) dX6_formed_48 ?_
        refine lv_bipush (v := nI (6)) hx hb dX6_formed_49 (by decide) ?_
        refine n_mul hx hb dX6_formed_51 ?_
        refine lv_aload_n hx hb dX6_formed_52 rfl (lv_at hl 1 rfl) ?_
        refine va_get (D := d) (ci := 6) (v := .ref xd) (C := RX6) (T := TX6) (N := 18) hx hb hts hin6 hown hK hP 0 rfl rfl 1 (by decide) hfl13 (fun _ h9 => h9) rfl dX6_formed_53 ?_
        refine lv_iconst (v := nI (1)) hx hb dX6_formed_56 (by decide) ?_
        refine n_iald hx hb hK hP 1 0 rfl rfl (k := 1) (by decide) (by decide) dX6_formed_57 ?_
        refine n_add hx hb dX6_formed_58 ?_
        refine lv_bipush (v := nI (6)) hx hb dX6_formed_59 (by decide) ?_
        refine n_mul hx hb dX6_formed_61 ?_
        refine lv_aload_n hx hb dX6_formed_62 rfl (lv_at hl 1 rfl) ?_
        refine va_get (D := d) (ci := 6) (v := .ref xd) (C := RX6) (T := TX6) (N := 18) hx hb hts hin6 hown hK hP 0 rfl rfl 1 (by decide) hfl13 (fun _ h9 => h9) rfl dX6_formed_63 ?_
        refine lv_iconst (v := nI (2)) hx hb dX6_formed_66 (by decide) ?_
        refine n_iald hx hb hK hP 1 0 rfl rfl (k := 2) (by decide) (by decide) dX6_formed_67 ?_
        refine n_add hx hb dX6_formed_68 ?_
        refine lv_bipush (v := nI (6)) hx hb dX6_formed_69 (by decide) ?_
        refine n_mul hx hb dX6_formed_71 ?_
        refine lv_aload_n hx hb dX6_formed_72 rfl (lv_at hl 1 rfl) ?_
        refine va_get (D := d) (ci := 6) (v := .ref xd) (C := RX6) (T := TX6) (N := 18) hx hb hts hin6 hown hK hP 0 rfl rfl 1 (by decide) hfl13 (fun _ h9 => h9) rfl dX6_formed_73 ?_
        refine lv_iconst (v := nI (3)) hx hb dX6_formed_76 (by decide) ?_
        refine n_iald hx hb hK hP 1 0 rfl rfl (k := 3) (by decide) (by decide) dX6_formed_77 ?_
        refine n_add hx hb dX6_formed_78 ?_
        refine n_top (show (nI (((((((dig x 0) * 6) + (dig x 1)) * 6) + (dig x 2)) * 6) + (dig x 3))) = nI x from congrArg nI (by omega)) ?_
        subst hQ
        rw [← hxf]
        exact W.iret (v := (nI x)) hx hb hr (fun t ht hW => ⟨⟨rfl, by rw [ht]; exact hP, hD⟩, hS.F ht⟩) hS.2.2 dX6_formed_79
      ·
        refine lv_aload_n hx hb dX6_formed_35 rfl (lv_at hl 1 rfl) ?_
        refine n_upV (As := []) (rest := []) (WC := [(mo, .inr (6, [.ref xo, .ref xd, .ref xf, .ref xm, .ref xr, .ref xw, .ref xs, .ref xc, .int (vm), .int (vb), .int (va), .int (vp), .ref yf, .ref yt, .int (ve), .ref ye, .ref yw, .int (vt)])), (xd, .inl (cI, 4, .inl (fun j => nI (dig x j))))]) (WC' := [(mo, .inr (6, [.ref xo, .ref xd, .ref xf, .ref xm, .ref xr, .ref xw, .ref xs, .ref xc, .int (vm), .int (vb), .int (va), .int (vp), .ref yf, .ref yt, .int (ve), .ref ye, .ref yw, .int (vt)])), (xd, .inl (cI, 4, .inl (fun j => nI (dig (nx x) j))))]) (wr := []) (WS' := [(mo, .inr (6, [.ref xo, .ref xd, .ref xf, .ref xm, .ref xr, .ref xw, .ref xs, .ref xc, .int (vm), .int (vb), .int (va), .int (vp), .ref yf, .ref yt, .int (ve), .ref ye, .ref yw, .int (vt)])), (xd, .inl (cI, 4, .inl (fun j => nI (dig (nx x) j))))]) ⟨hx, hb, hml, hown, hts⟩ (c_X6_uses l d cI cJ cZ mo xo xd xf xm xr xw xs xc yf yt ye yw vm vb va vp ve vt x hx1) (cwV 0 hts gX6_formed_X6_uses rfl rfl rfl (by decide +kernel) ⟨Nat.le_of_ble_eq_true rfl, Nat.le_of_ble_eq_true rfl⟩) (va_recv hK hP (ci := 6) (q0 := 0) rfl rfl) hP hD hS hA (hK) [0, 1] [] [0, 1] rfl rfl (by decide) ⟨by decide, by decide⟩ (by decide) rfl rfl hl.1 rfl (Nat.le_of_ble_eq_true rfl) dX6_formed_36 ⟨Nat.zero_le _, Nat.zero_le _⟩ (fun H locs hP hD hS => ?_)
        show W _ _ _ _ _ _ _ _ _ _ _ _ _ _ _ (F0 m _ ls (.int (nI ((chg x).toNat)) :: []))
        refine lv_istore_n (lv' := [(3, .int (nI ((chg x).toNat))), (0, .ref mo)]) hx hb dX6_formed_39 rfl hl (by decide) rfl (fun ls hl => ?_)
        refine lv_goto (tgt := 31) hx hb dX6_formed_40 (by decide) ?_
        rw [hnx] at hP hD
        rw [hch] at hl
        have hl : lv_has ls 4 [(3, .int (nI (0))), (0, .ref mo)] := hl
        refine lv_iload_n hx hb dX6_formed_31 rfl (lv_at hl 0 rfl) ?_
        refine n_ifeq (tgt := 43) hx hb dX6_formed_32 (by decide) (by decide) (fun c_7 => ?_) (fun c_7 => ?_)
        rotate_left
        · exact absurd c_7 (by decide)
        have hxf : x = form c0 := h3
        have hpk := pack_eq hx1
        refine lv_aload_n hx hb dX6_formed_43 rfl (lv_at hl 1 rfl) ?_
        refine va_get (D := d) (ci := 6) (v := .ref xd) (C := RX6) (T := TX6) (N := 18) hx hb hts hin6 hown hK hP 0 rfl rfl 1 (by decide) hfl13 (fun _ h9 => h9) rfl dX6_formed_44 ?_
        refine lv_iconst (v := nI (0)) hx hb dX6_formed_47 (by decide) ?_
        refine n_iald hx hb hK hP 1 0 rfl rfl (k := 0) (by decide) (by decide) dX6_formed_48 ?_
        refine lv_bipush (v := nI (6)) hx hb dX6_formed_49 (by decide) ?_
        refine n_mul hx hb dX6_formed_51 ?_
        refine lv_aload_n hx hb dX6_formed_52 rfl (lv_at hl 1 rfl) ?_
        refine va_get (D := d) (ci := 6) (v := .ref xd) (C := RX6) (T := TX6) (N := 18) hx hb hts hin6 hown hK hP 0 rfl rfl 1 (by decide) hfl13 (fun _ h9 => h9) rfl dX6_formed_53 ?_
        refine lv_iconst (v := nI (1)) hx hb dX6_formed_56 (by decide) ?_
        refine n_iald hx hb hK hP 1 0 rfl rfl (k := 1) (by decide) (by decide) dX6_formed_57 ?_
        refine n_add hx hb dX6_formed_58 ?_
        refine lv_bipush (v := nI (6)) hx hb dX6_formed_59 (by decide) ?_
        refine n_mul hx hb dX6_formed_61 ?_
        refine lv_aload_n hx hb dX6_formed_62 rfl (lv_at hl 1 rfl) ?_
        refine va_get (D := d) (ci := 6) (v := .ref xd) (C := RX6) (T := TX6) (N := 18) hx hb hts hin6 hown hK hP 0 rfl rfl 1 (by decide) hfl13 (fun _ h9 => h9) rfl dX6_formed_63 ?_
        refine lv_iconst (v := nI (2)) hx hb dX6_formed_66 (by decide) ?_
        refine n_iald hx hb hK hP 1 0 rfl rfl (k := 2) (by decide) (by decide) dX6_formed_67 ?_
        refine n_add hx hb dX6_formed_68 ?_
        refine lv_bipush (v := nI (6)) hx hb dX6_formed_69 (by decide) ?_
        refine n_mul hx hb dX6_formed_71 ?_
        refine lv_aload_n hx hb dX6_formed_72 rfl (lv_at hl 1 rfl) ?_
        refine va_get (D := d) (ci := 6) (v := .ref xd) (C := RX6) (T := TX6) (N := 18) hx hb hts hin6 hown hK hP 0 rfl rfl 1 (by decide) hfl13 (fun _ h9 => h9) rfl dX6_formed_73 ?_
        refine lv_iconst (v := nI (3)) hx hb dX6_formed_76 (by decide) ?_
        refine n_iald hx hb hK hP 1 0 rfl rfl (k := 3) (by decide) (by decide) dX6_formed_77 ?_
        refine n_add hx hb dX6_formed_78 ?_
        refine n_top (show (nI (((((((dig x 0) * 6) + (dig x 1)) * 6) + (dig x 2)) * 6) + (dig x 3))) = nI x from congrArg nI (by omega)) ?_
        subst hQ
        rw [← hxf]
        exact W.iret (v := (nI x)) hx hb hr (fun t ht hW => ⟨⟨rfl, by rw [ht]; exact hP, hD⟩, hS.F ht⟩) hS.2.2 dX6_formed_79
    | succ n ih =>
      intro x g hx1 h3 h4 hg H locs hP hD hS ls hl
      refine lv_iload_n hx hb dX6_formed_31 rfl (lv_at hl 0 rfl) ?_
      refine n_ifeq (tgt := 43) hx hb dX6_formed_32 (by decide) (by cases g <;> decide) (fun c_8 => ?_) (fun c_8 => ?_)
      ·
        have hxf : x = form c0 := hg (by cases hz : g with | false => rfl | true => rw [hz] at c_8; exact absurd c_8 (by decide))
        have hpk := pack_eq hx1
        refine lv_aload_n hx hb dX6_formed_43 rfl (lv_at hl 1 rfl) ?_
        refine va_get (D := d) (ci := 6) (v := .ref xd) (C := RX6) (T := TX6) (N := 18) hx hb hts hin6 hown hK hP 0 rfl rfl 1 (by decide) hfl13 (fun _ h9 => h9) rfl dX6_formed_44 ?_
        refine lv_iconst (v := nI (0)) hx hb dX6_formed_47 (by decide) ?_
        refine n_iald hx hb hK hP 1 0 rfl rfl (k := 0) (by decide) (by decide) dX6_formed_48 ?_
        refine lv_bipush (v := nI (6)) hx hb dX6_formed_49 (by decide) ?_
        refine n_mul hx hb dX6_formed_51 ?_
        refine lv_aload_n hx hb dX6_formed_52 rfl (lv_at hl 1 rfl) ?_
        refine va_get (D := d) (ci := 6) (v := .ref xd) (C := RX6) (T := TX6) (N := 18) hx hb hts hin6 hown hK hP 0 rfl rfl 1 (by decide) hfl13 (fun _ h9 => h9) rfl dX6_formed_53 ?_
        refine lv_iconst (v := nI (1)) hx hb dX6_formed_56 (by decide) ?_
        refine n_iald hx hb hK hP 1 0 rfl rfl (k := 1) (by decide) (by decide) dX6_formed_57 ?_
        refine n_add hx hb dX6_formed_58 ?_
        refine lv_bipush (v := nI (6)) hx hb dX6_formed_59 (by decide) ?_
        refine n_mul hx hb dX6_formed_61 ?_
        refine lv_aload_n hx hb dX6_formed_62 rfl (lv_at hl 1 rfl) ?_
        refine va_get (D := d) (ci := 6) (v := .ref xd) (C := RX6) (T := TX6) (N := 18) hx hb hts hin6 hown hK hP 0 rfl rfl 1 (by decide) hfl13 (fun _ h9 => h9) rfl dX6_formed_63 ?_
        refine lv_iconst (v := nI (2)) hx hb dX6_formed_66 (by decide) ?_
        refine n_iald hx hb hK hP 1 0 rfl rfl (k := 2) (by decide) (by decide) dX6_formed_67 ?_
        refine n_add hx hb dX6_formed_68 ?_
        refine lv_bipush (v := nI (6)) hx hb dX6_formed_69 (by decide) ?_
        refine n_mul hx hb dX6_formed_71 ?_
        refine lv_aload_n hx hb dX6_formed_72 rfl (lv_at hl 1 rfl) ?_
        refine va_get (D := d) (ci := 6) (v := .ref xd) (C := RX6) (T := TX6) (N := 18) hx hb hts hin6 hown hK hP 0 rfl rfl 1 (by decide) hfl13 (fun _ h9 => h9) rfl dX6_formed_73 ?_
        refine lv_iconst (v := nI (3)) hx hb dX6_formed_76 (by decide) ?_
        refine n_iald hx hb hK hP 1 0 rfl rfl (k := 3) (by decide) (by decide) dX6_formed_77 ?_
        refine n_add hx hb dX6_formed_78 ?_
        refine n_top (show (nI (((((((dig x 0) * 6) + (dig x 1)) * 6) + (dig x 2)) * 6) + (dig x 3))) = nI x from congrArg nI (by omega)) ?_
        subst hQ
        rw [← hxf]
        exact W.iret (v := (nI x)) hx hb hr (fun t ht hW => ⟨⟨rfl, by rw [ht]; exact hP, hD⟩, hS.F ht⟩) hS.2.2 dX6_formed_79
      ·
        refine lv_aload_n hx hb dX6_formed_35 rfl (lv_at hl 1 rfl) ?_
        refine n_upV (As := []) (rest := []) (WC := [(mo, .inr (6, [.ref xo, .ref xd, .ref xf, .ref xm, .ref xr, .ref xw, .ref xs, .ref xc, .int (vm), .int (vb), .int (va), .int (vp), .ref yf, .ref yt, .int (ve), .ref ye, .ref yw, .int (vt)])), (xd, .inl (cI, 4, .inl (fun j => nI (dig x j))))]) (WC' := [(mo, .inr (6, [.ref xo, .ref xd, .ref xf, .ref xm, .ref xr, .ref xw, .ref xs, .ref xc, .int (vm), .int (vb), .int (va), .int (vp), .ref yf, .ref yt, .int (ve), .ref ye, .ref yw, .int (vt)])), (xd, .inl (cI, 4, .inl (fun j => nI (dig (nx x) j))))]) (wr := []) (WS' := [(mo, .inr (6, [.ref xo, .ref xd, .ref xf, .ref xm, .ref xr, .ref xw, .ref xs, .ref xc, .int (vm), .int (vb), .int (va), .int (vp), .ref yf, .ref yt, .int (ve), .ref ye, .ref yw, .int (vt)])), (xd, .inl (cI, 4, .inl (fun j => nI (dig (nx x) j))))]) ⟨hx, hb, hml, hown, hts⟩ (c_X6_uses l d cI cJ cZ mo xo xd xf xm xr xw xs xc yf yt ye yw vm vb va vp ve vt x hx1) (cwV 0 hts gX6_formed_X6_uses rfl rfl rfl (by decide +kernel) ⟨Nat.le_of_ble_eq_true rfl, Nat.le_of_ble_eq_true rfl⟩) (va_recv hK hP (ci := 6) (q0 := 0) rfl rfl) hP hD hS hA (hK) [0, 1] [] [0, 1] rfl rfl (by decide) ⟨by decide, by decide⟩ (by decide) rfl rfl hl.1 rfl (Nat.le_of_ble_eq_true rfl) dX6_formed_36 ⟨Nat.zero_le _, Nat.zero_le _⟩ (fun H locs hP hD hS => ?_)
        show W _ _ _ _ _ _ _ _ _ _ _ _ _ _ _ (F0 m _ ls (.int (nI ((chg x).toNat)) :: []))
        refine lv_istore_n (lv' := [(3, .int (nI ((chg x).toNat))), (0, .ref mo)]) hx hb dX6_formed_39 rfl hl (by decide) rfl (fun ls hl => ?_)
        refine lv_goto (tgt := 31) hx hb dX6_formed_40 (by decide) ?_
        cases hz : chg x with
        | true =>
          rw [hz] at hl
          exact ih (nx x) true (nx_lt hx1) (by rw [← h3]; show _ = (if chg x = true then _ else _); rw [hz]; rfl) (by have h5 : (if chg x = true then tm n (nx x) else true) = true := h4; rw [hz] at h5; exact h5) (fun h => by cases h) H locs hP hD hS ls (lv_sub hl [0, 1] rfl)
        | false =>
          have hnx : nx x = x := by cases hy : nxo x with | none => unfold nx; rw [hy]; rfl | some y => unfold chg at hz; rw [hy] at hz; exact Bool.noConfusion hz
          rw [hnx] at hP hD
          rw [hz] at hl
          have hl : lv_has ls 4 [(3, .int (nI (0))), (0, .ref mo)] := hl
          refine lv_iload_n hx hb dX6_formed_31 rfl (lv_at hl 0 rfl) ?_
          refine n_ifeq (tgt := 43) hx hb dX6_formed_32 (by decide) (by decide) (fun c_9 => ?_) (fun c_9 => ?_)
          rotate_left
          · exact absurd c_9 (by decide)
          have hxf : x = form c0 := by rw [← h3]; show x = (if chg x = true then _ else _); rw [hz]; rfl
          have hpk := pack_eq hx1
          refine lv_aload_n hx hb dX6_formed_43 rfl (lv_at hl 1 rfl) ?_
          refine va_get (D := d) (ci := 6) (v := .ref xd) (C := RX6) (T := TX6) (N := 18) hx hb hts hin6 hown hK hP 0 rfl rfl 1 (by decide) hfl13 (fun _ h9 => h9) rfl dX6_formed_44 ?_
          refine lv_iconst (v := nI (0)) hx hb dX6_formed_47 (by decide) ?_
          refine n_iald hx hb hK hP 1 0 rfl rfl (k := 0) (by decide) (by decide) dX6_formed_48 ?_
          refine lv_bipush (v := nI (6)) hx hb dX6_formed_49 (by decide) ?_
          refine n_mul hx hb dX6_formed_51 ?_
          refine lv_aload_n hx hb dX6_formed_52 rfl (lv_at hl 1 rfl) ?_
          refine va_get (D := d) (ci := 6) (v := .ref xd) (C := RX6) (T := TX6) (N := 18) hx hb hts hin6 hown hK hP 0 rfl rfl 1 (by decide) hfl13 (fun _ h9 => h9) rfl dX6_formed_53 ?_
          refine lv_iconst (v := nI (1)) hx hb dX6_formed_56 (by decide) ?_
          refine n_iald hx hb hK hP 1 0 rfl rfl (k := 1) (by decide) (by decide) dX6_formed_57 ?_
          refine n_add hx hb dX6_formed_58 ?_
          refine lv_bipush (v := nI (6)) hx hb dX6_formed_59 (by decide) ?_
          refine n_mul hx hb dX6_formed_61 ?_
          refine lv_aload_n hx hb dX6_formed_62 rfl (lv_at hl 1 rfl) ?_
          refine va_get (D := d) (ci := 6) (v := .ref xd) (C := RX6) (T := TX6) (N := 18) hx hb hts hin6 hown hK hP 0 rfl rfl 1 (by decide) hfl13 (fun _ h9 => h9) rfl dX6_formed_63 ?_
          refine lv_iconst (v := nI (2)) hx hb dX6_formed_66 (by decide) ?_
          refine n_iald hx hb hK hP 1 0 rfl rfl (k := 2) (by decide) (by decide) dX6_formed_67 ?_
          refine n_add hx hb dX6_formed_68 ?_
          refine lv_bipush (v := nI (6)) hx hb dX6_formed_69 (by decide) ?_
          refine n_mul hx hb dX6_formed_71 ?_
          refine lv_aload_n hx hb dX6_formed_72 rfl (lv_at hl 1 rfl) ?_
          refine va_get (D := d) (ci := 6) (v := .ref xd) (C := RX6) (T := TX6) (N := 18) hx hb hts hin6 hown hK hP 0 rfl rfl 1 (by decide) hfl13 (fun _ h9 => h9) rfl dX6_formed_73 ?_
          refine lv_iconst (v := nI (3)) hx hb dX6_formed_76 (by decide) ?_
          refine n_iald hx hb hK hP 1 0 rfl rfl (k := 3) (by decide) (by decide) dX6_formed_77 ?_
          refine n_add hx hb dX6_formed_78 ?_
          refine n_top (show (nI (((((((dig x 0) * 6) + (dig x 1)) * 6) + (dig x 2)) * 6) + (dig x 3))) = nI x from congrArg nI (by omega)) ?_
          subst hQ
          rw [← hxf]
          exact W.iret (v := (nI x)) hx hb hr (fun t ht hW => ⟨⟨rfl, by rw [ht]; exact hP, hD⟩, hS.F ht⟩) hS.2.2 dX6_formed_79
  exact loop 40 c0 true hc rfl (tm_40 hc) (fun h => by cases h) H locs hP hD hS ls (lv_sub hl [0, 2] rfl)

set_option maxHeartbeats 4000000 in
set_option maxRecDepth 100000 in
theorem c_X6_init (l : Launch) (d : va_G) (cI cJ cZ : ClassId) (q : Nat)  : nNw (S := (Nat → Int32) × Nat × Nat × Nat × Nat × Nat × Nat × Nat × Nat × Nat × Nat × Nat × Nat) l yX6_init wsX6_init ({ frames := 3, cells := 12, slots := 9796, locals := 70 } : Room) d [(cI, .int), (cJ, .long), (cZ, .boolean)] q 6 [.null, .null, .null, .null, .null, .null, .null, .null, .int (nI (0)), .int (nI (0)), .int (nI (0)), .int (nI (0)), .null, .null, .int (nI (0)), .null, .null, .int (nI (0))] [] 12 9796 (fun u => match u with | (h1, xo, xd, xf, xm, xr, xw, xs, xc, yf, yt, ye, yw) => [(q, .inr (6, [.ref xo, .ref xd, .ref xf, .ref xm, .ref xr, .ref xw, .ref xs, .ref xc, .int (nI (0)), .int (nI (0)), .int (-1), .int (nI (0)), .ref yf, .ref yt, .int (nI (0)), .ref ye, .ref yw, .int (nI (0))])), (xo, .inl (cI, 1296, .inl (fun j => nI (form j)))), (xd, .inl (cI, 4, .inl (h1))), (xf, .inl (cI, 1296, .inl (fun _ => 0))), (xm, .inl (cZ, 1296, .inl (fun _ => 0))), (xr, .inl (cZ, 1296, .inl (fun _ => 0))), (xw, .inl (cI, 1296, .inl (fun _ => 0))), (xs, .inl (cJ, 1296, .inr (.inl (fun _ => 0)))), (xc, .inl (cI, 1296, .inl (fun _ => 0))), (yf, .inl (cI, 300, .inl (fun _ => 0))), (yt, .inl (cI, 300, .inl (fun _ => 0))), (ye, .inl (cI, 60, .inl (fun _ => 0))), (yw, .inl (cZ, 60, .inl (fun _ => 0)))]) := by
  intro sz
  refine Met.ofW (cc := cX6_init) (maxL := 2) (ret := none) (by decide) rfl ?_
  intro p e s m args below meth c s₁ B hml hv
  obtain ⟨rfl, hsz, hP, hK, hD0⟩ := hv
  have hx := B.exec
  have hb := B.bytes
  have hr := B.returns
  have hts := atoms_spec (ws := wsX6_init) B.pre
  have hown : s.vm.findClass RX6 = some m.cls := findClass_of_methodNamed B.named
  have hlocks := B.notSynchronized
  have hin : meth.name = "<init>" := (name_of_methodNamed B.named B.method).1
  have harboolean := hts (.arrayClass .boolean) (by decide +kernel)
  have harint := hts (.arrayClass .int) (by decide +kernel)
  have harlong := hts (.arrayClass .long) (by decide +kernel)
  have hfl13 := hts (.fieldLink RX6 13 "NudgelaneModel" "digits" "[I") (by decide +kernel)
  have hfl16 := hts (.fieldLink RX6 16 "NudgelaneModel" "far" "[I") (by decide +kernel)
  have hfl19 := hts (.fieldLink RX6 19 "NudgelaneModel" "isMet" "[Z") (by decide +kernel)
  have hfl23 := hts (.fieldLink RX6 23 "NudgelaneModel" "isRight" "[Z") (by decide +kernel)
  have hfl26 := hts (.fieldLink RX6 26 "NudgelaneModel" "worths" "[I") (by decide +kernel)
  have hfl29 := hts (.fieldLink RX6 29 "NudgelaneModel" "sums" "[J") (by decide +kernel)
  have hfl33 := hts (.fieldLink RX6 33 "NudgelaneModel" "counts" "[I") (by decide +kernel)
  have hfl36 := hts (.fieldLink RX6 36 "NudgelaneModel" "at" "I") (by decide +kernel)
  have hfl40 := hts (.fieldLink RX6 40 "NudgelaneModel" "froms" "[I") (by decide +kernel)
  have hfl43 := hts (.fieldLink RX6 43 "NudgelaneModel" "tos" "[I") (by decide +kernel)
  have hfl46 := hts (.fieldLink RX6 46 "NudgelaneModel" "ends" "[I") (by decide +kernel)
  have hfl49 := hts (.fieldLink RX6 49 "NudgelaneModel" "wasRight" "[Z") (by decide +kernel)
  have hfl7 := hts (.fieldLink RX6 7 "NudgelaneModel" "forms" "[I") (by decide +kernel)
  have hin6 : ∀ w ∈ u_ws RX6 TX6 18, w ∈ wsX6_init := by decide +kernel
  subst hsz
  have hD := hD0.self (sz := s.heap.size)
  generalize hAe : va_A [(q, .inr (6, [.null, .null, .null, .null, .null, .null, .null, .null, .int (nI (0)), .int (nI (0)), .int (nI (0)), .int (nI (0)), .null, .null, .int (nI (0)), .null, .null, .int (nI (0))]))] s.heap.size = A at hD ⊢
  have hA : ∀ q : Nat, s.heap.size ≤ q → A q := fun q h => by rw [← hAe]; exact Or.inr h
  have hS : va_S A s.heap s.heap [] := va_S.rf
  have hP : va_P d vwCl [(q, .inr (6, [.null, .null, .null, .null, .null, .null, .null, .null, .int (nI (0)), .int (nI (0)), .int (nI (0)), .int (nI (0)), .null, .null, .int (nI (0)), .null, .null, .int (nI (0))]))] s.heap := hP
  have hl := lv_entry ([.ref q]) (n := 2) (Nat.le_of_ble_eq_true rfl)
  rw [lg_entry_eq]
  generalize (lg_sl ([.ref q]) ++ List.replicate (2 - (lg_sl ([.ref q])).length) Slot.unset).toArray = ls at hl ⊢
  have hl : lv_has ls 2 [(0, .ref q)] := hl
  refine n_nameQ (fun Q hQ => ?_)
  refine lv_aload_n hx hb dX6_init_0 rfl (lv_at hl 0 rfl) ?_
  refine W.objInit hx hb hown (hts (.methodLink RX6 1 objectInit) (by decide +kernel)) (hts (.instanceMethod objectInit) (by decide +kernel)) (hts (.code objectInit ⟨#[0xb1]⟩ 1 none) (List.mem_of_getElem? (i := 3) rfl)) rfl (by rw [hml]; exact hl.1) rfl dX6_init_1 (Nat.le_of_ble_eq_true rfl) (Nat.le_of_ble_eq_true rfl) ?_
  refine W.eq (g2 := F0 m 4 ls []) rfl ?_
  refine lv_aload_n hx hb dX6_init_4 rfl (lv_at hl 0 rfl) ?_
  refine lv_sipush (v := nI (1296)) hx hb dX6_init_5 (by decide) ?_
  refine n_newa (atype := .int) (ty := .int) (a0 := (1296, .inl (fun _ => 0))) hx hb harint rfl hK 0 rfl (fun _ _ => rfl) hP hD hS hA (fun _ => rfl) (by decide) (Nat.le_of_ble_eq_true rfl) (Nat.le_of_ble_eq_true rfl) (Nat.le_of_ble_eq_true rfl) dX6_init_8 (fun xo H hP hD hS => ?_)
  have hP : va_P d vwCl [(q, .inr (6, [.null, .null, .null, .null, .null, .null, .null, .null, .int (nI (0)), .int (nI (0)), .int (nI (0)), .int (nI (0)), .null, .null, .int (nI (0)), .null, .null, .int (nI (0))])), (xo, .inl (cI, 1296, .inl (fun _ => 0)))] H := hP
  have hD : va_D A [(q, .inr (6, [.null, .null, .null, .null, .null, .null, .null, .null, .int (nI (0)), .int (nI (0)), .int (nI (0)), .int (nI (0)), .null, .null, .int (nI (0)), .null, .null, .int (nI (0))])), (xo, .inl (cI, 1296, .inl (fun _ => 0)))] := hD
  refine va_putF (D := d) (ci := 6) (v := .ref xo) (ty := .array .int) (C := RX6) (T := TX6) (N := 18) hx hb hts hin6 tyX6 tyX6_ok nmX6 hown hK hP hD hS 0 rfl rfl 0 (by decide) hfl7 (fun _ h9 => h9) rfl hin rfl (by decide +kernel) rfl rfl (Nat.le_of_ble_eq_true rfl) dX6_init_10 (fun H locs hP hD hS => ?_)
  have hP : va_P d vwCl [(q, .inr (6, [.ref xo, .null, .null, .null, .null, .null, .null, .null, .int (nI (0)), .int (nI (0)), .int (nI (0)), .int (nI (0)), .null, .null, .int (nI (0)), .null, .null, .int (nI (0))])), (xo, .inl (cI, 1296, .inl (fun _ => 0)))] H := hP
  have hD : va_D A [(q, .inr (6, [.ref xo, .null, .null, .null, .null, .null, .null, .null, .int (nI (0)), .int (nI (0)), .int (nI (0)), .int (nI (0)), .null, .null, .int (nI (0)), .null, .null, .int (nI (0))])), (xo, .inl (cI, 1296, .inl (fun _ => 0)))] := hD
  refine lv_aload_n hx hb dX6_init_13 rfl (lv_at hl 0 rfl) ?_
  refine lv_iconst (v := nI (4)) hx hb dX6_init_14 (by decide) ?_
  refine n_newa (atype := .int) (ty := .int) (a0 := (4, .inl (fun _ => 0))) hx hb harint rfl hK 0 rfl (fun _ _ => rfl) hP hD hS hA (fun _ => rfl) (by decide) (Nat.le_of_ble_eq_true rfl) (Nat.le_of_ble_eq_true rfl) (Nat.le_of_ble_eq_true rfl) dX6_init_15 (fun xd H hP hD hS => ?_)
  have hP : va_P d vwCl [(q, .inr (6, [.ref xo, .null, .null, .null, .null, .null, .null, .null, .int (nI (0)), .int (nI (0)), .int (nI (0)), .int (nI (0)), .null, .null, .int (nI (0)), .null, .null, .int (nI (0))])), (xo, .inl (cI, 1296, .inl (fun _ => 0))), (xd, .inl (cI, 4, .inl (fun _ => 0)))] H := hP
  have hD : va_D A [(q, .inr (6, [.ref xo, .null, .null, .null, .null, .null, .null, .null, .int (nI (0)), .int (nI (0)), .int (nI (0)), .int (nI (0)), .null, .null, .int (nI (0)), .null, .null, .int (nI (0))])), (xo, .inl (cI, 1296, .inl (fun _ => 0))), (xd, .inl (cI, 4, .inl (fun _ => 0)))] := hD
  refine va_putF (D := d) (ci := 6) (v := .ref xd) (ty := .array .int) (C := RX6) (T := TX6) (N := 18) hx hb hts hin6 tyX6 tyX6_ok nmX6 hown hK hP hD hS 0 rfl rfl 1 (by decide) hfl13 (fun _ h9 => h9) rfl hin rfl (by decide +kernel) rfl rfl (Nat.le_of_ble_eq_true rfl) dX6_init_17 (fun H locs hP hD hS => ?_)
  have hP : va_P d vwCl [(q, .inr (6, [.ref xo, .ref xd, .null, .null, .null, .null, .null, .null, .int (nI (0)), .int (nI (0)), .int (nI (0)), .int (nI (0)), .null, .null, .int (nI (0)), .null, .null, .int (nI (0))])), (xo, .inl (cI, 1296, .inl (fun _ => 0))), (xd, .inl (cI, 4, .inl (fun _ => 0)))] H := hP
  have hD : va_D A [(q, .inr (6, [.ref xo, .ref xd, .null, .null, .null, .null, .null, .null, .int (nI (0)), .int (nI (0)), .int (nI (0)), .int (nI (0)), .null, .null, .int (nI (0)), .null, .null, .int (nI (0))])), (xo, .inl (cI, 1296, .inl (fun _ => 0))), (xd, .inl (cI, 4, .inl (fun _ => 0)))] := hD
  refine lv_aload_n hx hb dX6_init_20 rfl (lv_at hl 0 rfl) ?_
  refine lv_sipush (v := nI (1296)) hx hb dX6_init_21 (by decide) ?_
  refine n_newa (atype := .int) (ty := .int) (a0 := (1296, .inl (fun _ => 0))) hx hb harint rfl hK 0 rfl (fun _ _ => rfl) hP hD hS hA (fun _ => rfl) (by decide) (Nat.le_of_ble_eq_true rfl) (Nat.le_of_ble_eq_true rfl) (Nat.le_of_ble_eq_true rfl) dX6_init_24 (fun xf H hP hD hS => ?_)
  have hP : va_P d vwCl [(q, .inr (6, [.ref xo, .ref xd, .null, .null, .null, .null, .null, .null, .int (nI (0)), .int (nI (0)), .int (nI (0)), .int (nI (0)), .null, .null, .int (nI (0)), .null, .null, .int (nI (0))])), (xo, .inl (cI, 1296, .inl (fun _ => 0))), (xd, .inl (cI, 4, .inl (fun _ => 0))), (xf, .inl (cI, 1296, .inl (fun _ => 0)))] H := hP
  have hD : va_D A [(q, .inr (6, [.ref xo, .ref xd, .null, .null, .null, .null, .null, .null, .int (nI (0)), .int (nI (0)), .int (nI (0)), .int (nI (0)), .null, .null, .int (nI (0)), .null, .null, .int (nI (0))])), (xo, .inl (cI, 1296, .inl (fun _ => 0))), (xd, .inl (cI, 4, .inl (fun _ => 0))), (xf, .inl (cI, 1296, .inl (fun _ => 0)))] := hD
  refine va_putF (D := d) (ci := 6) (v := .ref xf) (ty := .array .int) (C := RX6) (T := TX6) (N := 18) hx hb hts hin6 tyX6 tyX6_ok nmX6 hown hK hP hD hS 0 rfl rfl 2 (by decide) hfl16 (fun _ h9 => h9) rfl hin rfl (by decide +kernel) rfl rfl (Nat.le_of_ble_eq_true rfl) dX6_init_26 (fun H locs hP hD hS => ?_)
  have hP : va_P d vwCl [(q, .inr (6, [.ref xo, .ref xd, .ref xf, .null, .null, .null, .null, .null, .int (nI (0)), .int (nI (0)), .int (nI (0)), .int (nI (0)), .null, .null, .int (nI (0)), .null, .null, .int (nI (0))])), (xo, .inl (cI, 1296, .inl (fun _ => 0))), (xd, .inl (cI, 4, .inl (fun _ => 0))), (xf, .inl (cI, 1296, .inl (fun _ => 0)))] H := hP
  have hD : va_D A [(q, .inr (6, [.ref xo, .ref xd, .ref xf, .null, .null, .null, .null, .null, .int (nI (0)), .int (nI (0)), .int (nI (0)), .int (nI (0)), .null, .null, .int (nI (0)), .null, .null, .int (nI (0))])), (xo, .inl (cI, 1296, .inl (fun _ => 0))), (xd, .inl (cI, 4, .inl (fun _ => 0))), (xf, .inl (cI, 1296, .inl (fun _ => 0)))] := hD
  refine lv_aload_n hx hb dX6_init_29 rfl (lv_at hl 0 rfl) ?_
  refine lv_sipush (v := nI (1296)) hx hb dX6_init_30 (by decide) ?_
  refine n_newa (atype := .boolean) (ty := .boolean) (a0 := (1296, .inl (fun _ => 0))) hx hb harboolean rfl hK 2 rfl (fun _ _ => rfl) hP hD hS hA (fun _ => rfl) (by decide) (Nat.le_of_ble_eq_true rfl) (Nat.le_of_ble_eq_true rfl) (Nat.le_of_ble_eq_true rfl) dX6_init_33 (fun xm H hP hD hS => ?_)
  have hP : va_P d vwCl [(q, .inr (6, [.ref xo, .ref xd, .ref xf, .null, .null, .null, .null, .null, .int (nI (0)), .int (nI (0)), .int (nI (0)), .int (nI (0)), .null, .null, .int (nI (0)), .null, .null, .int (nI (0))])), (xo, .inl (cI, 1296, .inl (fun _ => 0))), (xd, .inl (cI, 4, .inl (fun _ => 0))), (xf, .inl (cI, 1296, .inl (fun _ => 0))), (xm, .inl (cZ, 1296, .inl (fun _ => 0)))] H := hP
  have hD : va_D A [(q, .inr (6, [.ref xo, .ref xd, .ref xf, .null, .null, .null, .null, .null, .int (nI (0)), .int (nI (0)), .int (nI (0)), .int (nI (0)), .null, .null, .int (nI (0)), .null, .null, .int (nI (0))])), (xo, .inl (cI, 1296, .inl (fun _ => 0))), (xd, .inl (cI, 4, .inl (fun _ => 0))), (xf, .inl (cI, 1296, .inl (fun _ => 0))), (xm, .inl (cZ, 1296, .inl (fun _ => 0)))] := hD
  refine va_putF (D := d) (ci := 6) (v := .ref xm) (ty := .array .boolean) (C := RX6) (T := TX6) (N := 18) hx hb hts hin6 tyX6 tyX6_ok nmX6 hown hK hP hD hS 0 rfl rfl 3 (by decide) hfl19 (fun _ h9 => h9) rfl hin rfl (by decide +kernel) rfl rfl (Nat.le_of_ble_eq_true rfl) dX6_init_35 (fun H locs hP hD hS => ?_)
  have hP : va_P d vwCl [(q, .inr (6, [.ref xo, .ref xd, .ref xf, .ref xm, .null, .null, .null, .null, .int (nI (0)), .int (nI (0)), .int (nI (0)), .int (nI (0)), .null, .null, .int (nI (0)), .null, .null, .int (nI (0))])), (xo, .inl (cI, 1296, .inl (fun _ => 0))), (xd, .inl (cI, 4, .inl (fun _ => 0))), (xf, .inl (cI, 1296, .inl (fun _ => 0))), (xm, .inl (cZ, 1296, .inl (fun _ => 0)))] H := hP
  have hD : va_D A [(q, .inr (6, [.ref xo, .ref xd, .ref xf, .ref xm, .null, .null, .null, .null, .int (nI (0)), .int (nI (0)), .int (nI (0)), .int (nI (0)), .null, .null, .int (nI (0)), .null, .null, .int (nI (0))])), (xo, .inl (cI, 1296, .inl (fun _ => 0))), (xd, .inl (cI, 4, .inl (fun _ => 0))), (xf, .inl (cI, 1296, .inl (fun _ => 0))), (xm, .inl (cZ, 1296, .inl (fun _ => 0)))] := hD
  refine lv_aload_n hx hb dX6_init_38 rfl (lv_at hl 0 rfl) ?_
  refine lv_sipush (v := nI (1296)) hx hb dX6_init_39 (by decide) ?_
  refine n_newa (atype := .boolean) (ty := .boolean) (a0 := (1296, .inl (fun _ => 0))) hx hb harboolean rfl hK 2 rfl (fun _ _ => rfl) hP hD hS hA (fun _ => rfl) (by decide) (Nat.le_of_ble_eq_true rfl) (Nat.le_of_ble_eq_true rfl) (Nat.le_of_ble_eq_true rfl) dX6_init_42 (fun xr H hP hD hS => ?_)
  have hP : va_P d vwCl [(q, .inr (6, [.ref xo, .ref xd, .ref xf, .ref xm, .null, .null, .null, .null, .int (nI (0)), .int (nI (0)), .int (nI (0)), .int (nI (0)), .null, .null, .int (nI (0)), .null, .null, .int (nI (0))])), (xo, .inl (cI, 1296, .inl (fun _ => 0))), (xd, .inl (cI, 4, .inl (fun _ => 0))), (xf, .inl (cI, 1296, .inl (fun _ => 0))), (xm, .inl (cZ, 1296, .inl (fun _ => 0))), (xr, .inl (cZ, 1296, .inl (fun _ => 0)))] H := hP
  have hD : va_D A [(q, .inr (6, [.ref xo, .ref xd, .ref xf, .ref xm, .null, .null, .null, .null, .int (nI (0)), .int (nI (0)), .int (nI (0)), .int (nI (0)), .null, .null, .int (nI (0)), .null, .null, .int (nI (0))])), (xo, .inl (cI, 1296, .inl (fun _ => 0))), (xd, .inl (cI, 4, .inl (fun _ => 0))), (xf, .inl (cI, 1296, .inl (fun _ => 0))), (xm, .inl (cZ, 1296, .inl (fun _ => 0))), (xr, .inl (cZ, 1296, .inl (fun _ => 0)))] := hD
  refine va_putF (D := d) (ci := 6) (v := .ref xr) (ty := .array .boolean) (C := RX6) (T := TX6) (N := 18) hx hb hts hin6 tyX6 tyX6_ok nmX6 hown hK hP hD hS 0 rfl rfl 4 (by decide) hfl23 (fun _ h9 => h9) rfl hin rfl (by decide +kernel) rfl rfl (Nat.le_of_ble_eq_true rfl) dX6_init_44 (fun H locs hP hD hS => ?_)
  have hP : va_P d vwCl [(q, .inr (6, [.ref xo, .ref xd, .ref xf, .ref xm, .ref xr, .null, .null, .null, .int (nI (0)), .int (nI (0)), .int (nI (0)), .int (nI (0)), .null, .null, .int (nI (0)), .null, .null, .int (nI (0))])), (xo, .inl (cI, 1296, .inl (fun _ => 0))), (xd, .inl (cI, 4, .inl (fun _ => 0))), (xf, .inl (cI, 1296, .inl (fun _ => 0))), (xm, .inl (cZ, 1296, .inl (fun _ => 0))), (xr, .inl (cZ, 1296, .inl (fun _ => 0)))] H := hP
  have hD : va_D A [(q, .inr (6, [.ref xo, .ref xd, .ref xf, .ref xm, .ref xr, .null, .null, .null, .int (nI (0)), .int (nI (0)), .int (nI (0)), .int (nI (0)), .null, .null, .int (nI (0)), .null, .null, .int (nI (0))])), (xo, .inl (cI, 1296, .inl (fun _ => 0))), (xd, .inl (cI, 4, .inl (fun _ => 0))), (xf, .inl (cI, 1296, .inl (fun _ => 0))), (xm, .inl (cZ, 1296, .inl (fun _ => 0))), (xr, .inl (cZ, 1296, .inl (fun _ => 0)))] := hD
  refine lv_aload_n hx hb dX6_init_47 rfl (lv_at hl 0 rfl) ?_
  refine lv_sipush (v := nI (1296)) hx hb dX6_init_48 (by decide) ?_
  refine n_newa (atype := .int) (ty := .int) (a0 := (1296, .inl (fun _ => 0))) hx hb harint rfl hK 0 rfl (fun _ _ => rfl) hP hD hS hA (fun _ => rfl) (by decide) (Nat.le_of_ble_eq_true rfl) (Nat.le_of_ble_eq_true rfl) (Nat.le_of_ble_eq_true rfl) dX6_init_51 (fun xw H hP hD hS => ?_)
  have hP : va_P d vwCl [(q, .inr (6, [.ref xo, .ref xd, .ref xf, .ref xm, .ref xr, .null, .null, .null, .int (nI (0)), .int (nI (0)), .int (nI (0)), .int (nI (0)), .null, .null, .int (nI (0)), .null, .null, .int (nI (0))])), (xo, .inl (cI, 1296, .inl (fun _ => 0))), (xd, .inl (cI, 4, .inl (fun _ => 0))), (xf, .inl (cI, 1296, .inl (fun _ => 0))), (xm, .inl (cZ, 1296, .inl (fun _ => 0))), (xr, .inl (cZ, 1296, .inl (fun _ => 0))), (xw, .inl (cI, 1296, .inl (fun _ => 0)))] H := hP
  have hD : va_D A [(q, .inr (6, [.ref xo, .ref xd, .ref xf, .ref xm, .ref xr, .null, .null, .null, .int (nI (0)), .int (nI (0)), .int (nI (0)), .int (nI (0)), .null, .null, .int (nI (0)), .null, .null, .int (nI (0))])), (xo, .inl (cI, 1296, .inl (fun _ => 0))), (xd, .inl (cI, 4, .inl (fun _ => 0))), (xf, .inl (cI, 1296, .inl (fun _ => 0))), (xm, .inl (cZ, 1296, .inl (fun _ => 0))), (xr, .inl (cZ, 1296, .inl (fun _ => 0))), (xw, .inl (cI, 1296, .inl (fun _ => 0)))] := hD
  refine va_putF (D := d) (ci := 6) (v := .ref xw) (ty := .array .int) (C := RX6) (T := TX6) (N := 18) hx hb hts hin6 tyX6 tyX6_ok nmX6 hown hK hP hD hS 0 rfl rfl 5 (by decide) hfl26 (fun _ h9 => h9) rfl hin rfl (by decide +kernel) rfl rfl (Nat.le_of_ble_eq_true rfl) dX6_init_53 (fun H locs hP hD hS => ?_)
  have hP : va_P d vwCl [(q, .inr (6, [.ref xo, .ref xd, .ref xf, .ref xm, .ref xr, .ref xw, .null, .null, .int (nI (0)), .int (nI (0)), .int (nI (0)), .int (nI (0)), .null, .null, .int (nI (0)), .null, .null, .int (nI (0))])), (xo, .inl (cI, 1296, .inl (fun _ => 0))), (xd, .inl (cI, 4, .inl (fun _ => 0))), (xf, .inl (cI, 1296, .inl (fun _ => 0))), (xm, .inl (cZ, 1296, .inl (fun _ => 0))), (xr, .inl (cZ, 1296, .inl (fun _ => 0))), (xw, .inl (cI, 1296, .inl (fun _ => 0)))] H := hP
  have hD : va_D A [(q, .inr (6, [.ref xo, .ref xd, .ref xf, .ref xm, .ref xr, .ref xw, .null, .null, .int (nI (0)), .int (nI (0)), .int (nI (0)), .int (nI (0)), .null, .null, .int (nI (0)), .null, .null, .int (nI (0))])), (xo, .inl (cI, 1296, .inl (fun _ => 0))), (xd, .inl (cI, 4, .inl (fun _ => 0))), (xf, .inl (cI, 1296, .inl (fun _ => 0))), (xm, .inl (cZ, 1296, .inl (fun _ => 0))), (xr, .inl (cZ, 1296, .inl (fun _ => 0))), (xw, .inl (cI, 1296, .inl (fun _ => 0)))] := hD
  refine lv_aload_n hx hb dX6_init_56 rfl (lv_at hl 0 rfl) ?_
  refine lv_sipush (v := nI (1296)) hx hb dX6_init_57 (by decide) ?_
  refine n_newa (atype := .long) (ty := .long) (a0 := (1296, .inr (.inl (fun _ => 0)))) hx hb harlong rfl hK 1 rfl (fun _ _ => rfl) hP hD hS hA (fun _ => rfl) (by decide) (Nat.le_of_ble_eq_true rfl) (Nat.le_of_ble_eq_true rfl) (Nat.le_of_ble_eq_true rfl) dX6_init_60 (fun xs H hP hD hS => ?_)
  have hP : va_P d vwCl [(q, .inr (6, [.ref xo, .ref xd, .ref xf, .ref xm, .ref xr, .ref xw, .null, .null, .int (nI (0)), .int (nI (0)), .int (nI (0)), .int (nI (0)), .null, .null, .int (nI (0)), .null, .null, .int (nI (0))])), (xo, .inl (cI, 1296, .inl (fun _ => 0))), (xd, .inl (cI, 4, .inl (fun _ => 0))), (xf, .inl (cI, 1296, .inl (fun _ => 0))), (xm, .inl (cZ, 1296, .inl (fun _ => 0))), (xr, .inl (cZ, 1296, .inl (fun _ => 0))), (xw, .inl (cI, 1296, .inl (fun _ => 0))), (xs, .inl (cJ, 1296, .inr (.inl (fun _ => 0))))] H := hP
  have hD : va_D A [(q, .inr (6, [.ref xo, .ref xd, .ref xf, .ref xm, .ref xr, .ref xw, .null, .null, .int (nI (0)), .int (nI (0)), .int (nI (0)), .int (nI (0)), .null, .null, .int (nI (0)), .null, .null, .int (nI (0))])), (xo, .inl (cI, 1296, .inl (fun _ => 0))), (xd, .inl (cI, 4, .inl (fun _ => 0))), (xf, .inl (cI, 1296, .inl (fun _ => 0))), (xm, .inl (cZ, 1296, .inl (fun _ => 0))), (xr, .inl (cZ, 1296, .inl (fun _ => 0))), (xw, .inl (cI, 1296, .inl (fun _ => 0))), (xs, .inl (cJ, 1296, .inr (.inl (fun _ => 0))))] := hD
  refine va_putF (D := d) (ci := 6) (v := .ref xs) (ty := .array .long) (C := RX6) (T := TX6) (N := 18) hx hb hts hin6 tyX6 tyX6_ok nmX6 hown hK hP hD hS 0 rfl rfl 6 (by decide) hfl29 (fun _ h9 => h9) rfl hin rfl (by decide +kernel) rfl rfl (Nat.le_of_ble_eq_true rfl) dX6_init_62 (fun H locs hP hD hS => ?_)
  have hP : va_P d vwCl [(q, .inr (6, [.ref xo, .ref xd, .ref xf, .ref xm, .ref xr, .ref xw, .ref xs, .null, .int (nI (0)), .int (nI (0)), .int (nI (0)), .int (nI (0)), .null, .null, .int (nI (0)), .null, .null, .int (nI (0))])), (xo, .inl (cI, 1296, .inl (fun _ => 0))), (xd, .inl (cI, 4, .inl (fun _ => 0))), (xf, .inl (cI, 1296, .inl (fun _ => 0))), (xm, .inl (cZ, 1296, .inl (fun _ => 0))), (xr, .inl (cZ, 1296, .inl (fun _ => 0))), (xw, .inl (cI, 1296, .inl (fun _ => 0))), (xs, .inl (cJ, 1296, .inr (.inl (fun _ => 0))))] H := hP
  have hD : va_D A [(q, .inr (6, [.ref xo, .ref xd, .ref xf, .ref xm, .ref xr, .ref xw, .ref xs, .null, .int (nI (0)), .int (nI (0)), .int (nI (0)), .int (nI (0)), .null, .null, .int (nI (0)), .null, .null, .int (nI (0))])), (xo, .inl (cI, 1296, .inl (fun _ => 0))), (xd, .inl (cI, 4, .inl (fun _ => 0))), (xf, .inl (cI, 1296, .inl (fun _ => 0))), (xm, .inl (cZ, 1296, .inl (fun _ => 0))), (xr, .inl (cZ, 1296, .inl (fun _ => 0))), (xw, .inl (cI, 1296, .inl (fun _ => 0))), (xs, .inl (cJ, 1296, .inr (.inl (fun _ => 0))))] := hD
  refine lv_aload_n hx hb dX6_init_65 rfl (lv_at hl 0 rfl) ?_
  refine lv_sipush (v := nI (1296)) hx hb dX6_init_66 (by decide) ?_
  refine n_newa (atype := .int) (ty := .int) (a0 := (1296, .inl (fun _ => 0))) hx hb harint rfl hK 0 rfl (fun _ _ => rfl) hP hD hS hA (fun _ => rfl) (by decide) (Nat.le_of_ble_eq_true rfl) (Nat.le_of_ble_eq_true rfl) (Nat.le_of_ble_eq_true rfl) dX6_init_69 (fun xc H hP hD hS => ?_)
  have hP : va_P d vwCl [(q, .inr (6, [.ref xo, .ref xd, .ref xf, .ref xm, .ref xr, .ref xw, .ref xs, .null, .int (nI (0)), .int (nI (0)), .int (nI (0)), .int (nI (0)), .null, .null, .int (nI (0)), .null, .null, .int (nI (0))])), (xo, .inl (cI, 1296, .inl (fun _ => 0))), (xd, .inl (cI, 4, .inl (fun _ => 0))), (xf, .inl (cI, 1296, .inl (fun _ => 0))), (xm, .inl (cZ, 1296, .inl (fun _ => 0))), (xr, .inl (cZ, 1296, .inl (fun _ => 0))), (xw, .inl (cI, 1296, .inl (fun _ => 0))), (xs, .inl (cJ, 1296, .inr (.inl (fun _ => 0)))), (xc, .inl (cI, 1296, .inl (fun _ => 0)))] H := hP
  have hD : va_D A [(q, .inr (6, [.ref xo, .ref xd, .ref xf, .ref xm, .ref xr, .ref xw, .ref xs, .null, .int (nI (0)), .int (nI (0)), .int (nI (0)), .int (nI (0)), .null, .null, .int (nI (0)), .null, .null, .int (nI (0))])), (xo, .inl (cI, 1296, .inl (fun _ => 0))), (xd, .inl (cI, 4, .inl (fun _ => 0))), (xf, .inl (cI, 1296, .inl (fun _ => 0))), (xm, .inl (cZ, 1296, .inl (fun _ => 0))), (xr, .inl (cZ, 1296, .inl (fun _ => 0))), (xw, .inl (cI, 1296, .inl (fun _ => 0))), (xs, .inl (cJ, 1296, .inr (.inl (fun _ => 0)))), (xc, .inl (cI, 1296, .inl (fun _ => 0)))] := hD
  refine va_putF (D := d) (ci := 6) (v := .ref xc) (ty := .array .int) (C := RX6) (T := TX6) (N := 18) hx hb hts hin6 tyX6 tyX6_ok nmX6 hown hK hP hD hS 0 rfl rfl 7 (by decide) hfl33 (fun _ h9 => h9) rfl hin rfl (by decide +kernel) rfl rfl (Nat.le_of_ble_eq_true rfl) dX6_init_71 (fun H locs hP hD hS => ?_)
  have hP : va_P d vwCl [(q, .inr (6, [.ref xo, .ref xd, .ref xf, .ref xm, .ref xr, .ref xw, .ref xs, .ref xc, .int (nI (0)), .int (nI (0)), .int (nI (0)), .int (nI (0)), .null, .null, .int (nI (0)), .null, .null, .int (nI (0))])), (xo, .inl (cI, 1296, .inl (fun _ => 0))), (xd, .inl (cI, 4, .inl (fun _ => 0))), (xf, .inl (cI, 1296, .inl (fun _ => 0))), (xm, .inl (cZ, 1296, .inl (fun _ => 0))), (xr, .inl (cZ, 1296, .inl (fun _ => 0))), (xw, .inl (cI, 1296, .inl (fun _ => 0))), (xs, .inl (cJ, 1296, .inr (.inl (fun _ => 0)))), (xc, .inl (cI, 1296, .inl (fun _ => 0)))] H := hP
  have hD : va_D A [(q, .inr (6, [.ref xo, .ref xd, .ref xf, .ref xm, .ref xr, .ref xw, .ref xs, .ref xc, .int (nI (0)), .int (nI (0)), .int (nI (0)), .int (nI (0)), .null, .null, .int (nI (0)), .null, .null, .int (nI (0))])), (xo, .inl (cI, 1296, .inl (fun _ => 0))), (xd, .inl (cI, 4, .inl (fun _ => 0))), (xf, .inl (cI, 1296, .inl (fun _ => 0))), (xm, .inl (cZ, 1296, .inl (fun _ => 0))), (xr, .inl (cZ, 1296, .inl (fun _ => 0))), (xw, .inl (cI, 1296, .inl (fun _ => 0))), (xs, .inl (cJ, 1296, .inr (.inl (fun _ => 0)))), (xc, .inl (cI, 1296, .inl (fun _ => 0)))] := hD
  refine lv_aload_n hx hb dX6_init_74 rfl (lv_at hl 0 rfl) ?_
  refine lv_iconst (v := (-1)) hx hb dX6_init_75 (by decide) ?_
  refine va_put (D := d) (ci := 6) (v := .int (-1)) (ty := .int) (C := RX6) (T := TX6) (N := 18) hx hb hts hin6 tyX6 tyX6_ok nmX6 hown hK hP hD hS 0 rfl rfl 10 (by decide) hfl36 (fun _ h9 => h9) rfl (by decide +kernel) rfl rfl (Nat.le_of_ble_eq_true rfl) dX6_init_76 (fun H locs hP hD hS => ?_)
  have hP : va_P d vwCl [(q, .inr (6, [.ref xo, .ref xd, .ref xf, .ref xm, .ref xr, .ref xw, .ref xs, .ref xc, .int (nI (0)), .int (nI (0)), .int (-1), .int (nI (0)), .null, .null, .int (nI (0)), .null, .null, .int (nI (0))])), (xo, .inl (cI, 1296, .inl (fun _ => 0))), (xd, .inl (cI, 4, .inl (fun _ => 0))), (xf, .inl (cI, 1296, .inl (fun _ => 0))), (xm, .inl (cZ, 1296, .inl (fun _ => 0))), (xr, .inl (cZ, 1296, .inl (fun _ => 0))), (xw, .inl (cI, 1296, .inl (fun _ => 0))), (xs, .inl (cJ, 1296, .inr (.inl (fun _ => 0)))), (xc, .inl (cI, 1296, .inl (fun _ => 0)))] H := hP
  have hD : va_D A [(q, .inr (6, [.ref xo, .ref xd, .ref xf, .ref xm, .ref xr, .ref xw, .ref xs, .ref xc, .int (nI (0)), .int (nI (0)), .int (-1), .int (nI (0)), .null, .null, .int (nI (0)), .null, .null, .int (nI (0))])), (xo, .inl (cI, 1296, .inl (fun _ => 0))), (xd, .inl (cI, 4, .inl (fun _ => 0))), (xf, .inl (cI, 1296, .inl (fun _ => 0))), (xm, .inl (cZ, 1296, .inl (fun _ => 0))), (xr, .inl (cZ, 1296, .inl (fun _ => 0))), (xw, .inl (cI, 1296, .inl (fun _ => 0))), (xs, .inl (cJ, 1296, .inr (.inl (fun _ => 0)))), (xc, .inl (cI, 1296, .inl (fun _ => 0)))] := hD
  refine lv_aload_n hx hb dX6_init_79 rfl (lv_at hl 0 rfl) ?_
  refine lv_sipush (v := nI (300)) hx hb dX6_init_80 (by decide) ?_
  refine n_newa (atype := .int) (ty := .int) (a0 := (300, .inl (fun _ => 0))) hx hb harint rfl hK 0 rfl (fun _ _ => rfl) hP hD hS hA (fun _ => rfl) (by decide) (Nat.le_of_ble_eq_true rfl) (Nat.le_of_ble_eq_true rfl) (Nat.le_of_ble_eq_true rfl) dX6_init_83 (fun yf H hP hD hS => ?_)
  have hP : va_P d vwCl [(q, .inr (6, [.ref xo, .ref xd, .ref xf, .ref xm, .ref xr, .ref xw, .ref xs, .ref xc, .int (nI (0)), .int (nI (0)), .int (-1), .int (nI (0)), .null, .null, .int (nI (0)), .null, .null, .int (nI (0))])), (xo, .inl (cI, 1296, .inl (fun _ => 0))), (xd, .inl (cI, 4, .inl (fun _ => 0))), (xf, .inl (cI, 1296, .inl (fun _ => 0))), (xm, .inl (cZ, 1296, .inl (fun _ => 0))), (xr, .inl (cZ, 1296, .inl (fun _ => 0))), (xw, .inl (cI, 1296, .inl (fun _ => 0))), (xs, .inl (cJ, 1296, .inr (.inl (fun _ => 0)))), (xc, .inl (cI, 1296, .inl (fun _ => 0))), (yf, .inl (cI, 300, .inl (fun _ => 0)))] H := hP
  have hD : va_D A [(q, .inr (6, [.ref xo, .ref xd, .ref xf, .ref xm, .ref xr, .ref xw, .ref xs, .ref xc, .int (nI (0)), .int (nI (0)), .int (-1), .int (nI (0)), .null, .null, .int (nI (0)), .null, .null, .int (nI (0))])), (xo, .inl (cI, 1296, .inl (fun _ => 0))), (xd, .inl (cI, 4, .inl (fun _ => 0))), (xf, .inl (cI, 1296, .inl (fun _ => 0))), (xm, .inl (cZ, 1296, .inl (fun _ => 0))), (xr, .inl (cZ, 1296, .inl (fun _ => 0))), (xw, .inl (cI, 1296, .inl (fun _ => 0))), (xs, .inl (cJ, 1296, .inr (.inl (fun _ => 0)))), (xc, .inl (cI, 1296, .inl (fun _ => 0))), (yf, .inl (cI, 300, .inl (fun _ => 0)))] := hD
  refine va_putF (D := d) (ci := 6) (v := .ref yf) (ty := .array .int) (C := RX6) (T := TX6) (N := 18) hx hb hts hin6 tyX6 tyX6_ok nmX6 hown hK hP hD hS 0 rfl rfl 12 (by decide) hfl40 (fun _ h9 => h9) rfl hin rfl (by decide +kernel) rfl rfl (Nat.le_of_ble_eq_true rfl) dX6_init_85 (fun H locs hP hD hS => ?_)
  have hP : va_P d vwCl [(q, .inr (6, [.ref xo, .ref xd, .ref xf, .ref xm, .ref xr, .ref xw, .ref xs, .ref xc, .int (nI (0)), .int (nI (0)), .int (-1), .int (nI (0)), .ref yf, .null, .int (nI (0)), .null, .null, .int (nI (0))])), (xo, .inl (cI, 1296, .inl (fun _ => 0))), (xd, .inl (cI, 4, .inl (fun _ => 0))), (xf, .inl (cI, 1296, .inl (fun _ => 0))), (xm, .inl (cZ, 1296, .inl (fun _ => 0))), (xr, .inl (cZ, 1296, .inl (fun _ => 0))), (xw, .inl (cI, 1296, .inl (fun _ => 0))), (xs, .inl (cJ, 1296, .inr (.inl (fun _ => 0)))), (xc, .inl (cI, 1296, .inl (fun _ => 0))), (yf, .inl (cI, 300, .inl (fun _ => 0)))] H := hP
  have hD : va_D A [(q, .inr (6, [.ref xo, .ref xd, .ref xf, .ref xm, .ref xr, .ref xw, .ref xs, .ref xc, .int (nI (0)), .int (nI (0)), .int (-1), .int (nI (0)), .ref yf, .null, .int (nI (0)), .null, .null, .int (nI (0))])), (xo, .inl (cI, 1296, .inl (fun _ => 0))), (xd, .inl (cI, 4, .inl (fun _ => 0))), (xf, .inl (cI, 1296, .inl (fun _ => 0))), (xm, .inl (cZ, 1296, .inl (fun _ => 0))), (xr, .inl (cZ, 1296, .inl (fun _ => 0))), (xw, .inl (cI, 1296, .inl (fun _ => 0))), (xs, .inl (cJ, 1296, .inr (.inl (fun _ => 0)))), (xc, .inl (cI, 1296, .inl (fun _ => 0))), (yf, .inl (cI, 300, .inl (fun _ => 0)))] := hD
  refine lv_aload_n hx hb dX6_init_88 rfl (lv_at hl 0 rfl) ?_
  refine lv_sipush (v := nI (300)) hx hb dX6_init_89 (by decide) ?_
  refine n_newa (atype := .int) (ty := .int) (a0 := (300, .inl (fun _ => 0))) hx hb harint rfl hK 0 rfl (fun _ _ => rfl) hP hD hS hA (fun _ => rfl) (by decide) (Nat.le_of_ble_eq_true rfl) (Nat.le_of_ble_eq_true rfl) (Nat.le_of_ble_eq_true rfl) dX6_init_92 (fun yt H hP hD hS => ?_)
  have hP : va_P d vwCl [(q, .inr (6, [.ref xo, .ref xd, .ref xf, .ref xm, .ref xr, .ref xw, .ref xs, .ref xc, .int (nI (0)), .int (nI (0)), .int (-1), .int (nI (0)), .ref yf, .null, .int (nI (0)), .null, .null, .int (nI (0))])), (xo, .inl (cI, 1296, .inl (fun _ => 0))), (xd, .inl (cI, 4, .inl (fun _ => 0))), (xf, .inl (cI, 1296, .inl (fun _ => 0))), (xm, .inl (cZ, 1296, .inl (fun _ => 0))), (xr, .inl (cZ, 1296, .inl (fun _ => 0))), (xw, .inl (cI, 1296, .inl (fun _ => 0))), (xs, .inl (cJ, 1296, .inr (.inl (fun _ => 0)))), (xc, .inl (cI, 1296, .inl (fun _ => 0))), (yf, .inl (cI, 300, .inl (fun _ => 0))), (yt, .inl (cI, 300, .inl (fun _ => 0)))] H := hP
  have hD : va_D A [(q, .inr (6, [.ref xo, .ref xd, .ref xf, .ref xm, .ref xr, .ref xw, .ref xs, .ref xc, .int (nI (0)), .int (nI (0)), .int (-1), .int (nI (0)), .ref yf, .null, .int (nI (0)), .null, .null, .int (nI (0))])), (xo, .inl (cI, 1296, .inl (fun _ => 0))), (xd, .inl (cI, 4, .inl (fun _ => 0))), (xf, .inl (cI, 1296, .inl (fun _ => 0))), (xm, .inl (cZ, 1296, .inl (fun _ => 0))), (xr, .inl (cZ, 1296, .inl (fun _ => 0))), (xw, .inl (cI, 1296, .inl (fun _ => 0))), (xs, .inl (cJ, 1296, .inr (.inl (fun _ => 0)))), (xc, .inl (cI, 1296, .inl (fun _ => 0))), (yf, .inl (cI, 300, .inl (fun _ => 0))), (yt, .inl (cI, 300, .inl (fun _ => 0)))] := hD
  refine va_putF (D := d) (ci := 6) (v := .ref yt) (ty := .array .int) (C := RX6) (T := TX6) (N := 18) hx hb hts hin6 tyX6 tyX6_ok nmX6 hown hK hP hD hS 0 rfl rfl 13 (by decide) hfl43 (fun _ h9 => h9) rfl hin rfl (by decide +kernel) rfl rfl (Nat.le_of_ble_eq_true rfl) dX6_init_94 (fun H locs hP hD hS => ?_)
  have hP : va_P d vwCl [(q, .inr (6, [.ref xo, .ref xd, .ref xf, .ref xm, .ref xr, .ref xw, .ref xs, .ref xc, .int (nI (0)), .int (nI (0)), .int (-1), .int (nI (0)), .ref yf, .ref yt, .int (nI (0)), .null, .null, .int (nI (0))])), (xo, .inl (cI, 1296, .inl (fun _ => 0))), (xd, .inl (cI, 4, .inl (fun _ => 0))), (xf, .inl (cI, 1296, .inl (fun _ => 0))), (xm, .inl (cZ, 1296, .inl (fun _ => 0))), (xr, .inl (cZ, 1296, .inl (fun _ => 0))), (xw, .inl (cI, 1296, .inl (fun _ => 0))), (xs, .inl (cJ, 1296, .inr (.inl (fun _ => 0)))), (xc, .inl (cI, 1296, .inl (fun _ => 0))), (yf, .inl (cI, 300, .inl (fun _ => 0))), (yt, .inl (cI, 300, .inl (fun _ => 0)))] H := hP
  have hD : va_D A [(q, .inr (6, [.ref xo, .ref xd, .ref xf, .ref xm, .ref xr, .ref xw, .ref xs, .ref xc, .int (nI (0)), .int (nI (0)), .int (-1), .int (nI (0)), .ref yf, .ref yt, .int (nI (0)), .null, .null, .int (nI (0))])), (xo, .inl (cI, 1296, .inl (fun _ => 0))), (xd, .inl (cI, 4, .inl (fun _ => 0))), (xf, .inl (cI, 1296, .inl (fun _ => 0))), (xm, .inl (cZ, 1296, .inl (fun _ => 0))), (xr, .inl (cZ, 1296, .inl (fun _ => 0))), (xw, .inl (cI, 1296, .inl (fun _ => 0))), (xs, .inl (cJ, 1296, .inr (.inl (fun _ => 0)))), (xc, .inl (cI, 1296, .inl (fun _ => 0))), (yf, .inl (cI, 300, .inl (fun _ => 0))), (yt, .inl (cI, 300, .inl (fun _ => 0)))] := hD
  refine lv_aload_n hx hb dX6_init_97 rfl (lv_at hl 0 rfl) ?_
  refine lv_bipush (v := nI (60)) hx hb dX6_init_98 (by decide) ?_
  refine n_newa (atype := .int) (ty := .int) (a0 := (60, .inl (fun _ => 0))) hx hb harint rfl hK 0 rfl (fun _ _ => rfl) hP hD hS hA (fun _ => rfl) (by decide) (Nat.le_of_ble_eq_true rfl) (Nat.le_of_ble_eq_true rfl) (Nat.le_of_ble_eq_true rfl) dX6_init_100 (fun ye H hP hD hS => ?_)
  have hP : va_P d vwCl [(q, .inr (6, [.ref xo, .ref xd, .ref xf, .ref xm, .ref xr, .ref xw, .ref xs, .ref xc, .int (nI (0)), .int (nI (0)), .int (-1), .int (nI (0)), .ref yf, .ref yt, .int (nI (0)), .null, .null, .int (nI (0))])), (xo, .inl (cI, 1296, .inl (fun _ => 0))), (xd, .inl (cI, 4, .inl (fun _ => 0))), (xf, .inl (cI, 1296, .inl (fun _ => 0))), (xm, .inl (cZ, 1296, .inl (fun _ => 0))), (xr, .inl (cZ, 1296, .inl (fun _ => 0))), (xw, .inl (cI, 1296, .inl (fun _ => 0))), (xs, .inl (cJ, 1296, .inr (.inl (fun _ => 0)))), (xc, .inl (cI, 1296, .inl (fun _ => 0))), (yf, .inl (cI, 300, .inl (fun _ => 0))), (yt, .inl (cI, 300, .inl (fun _ => 0))), (ye, .inl (cI, 60, .inl (fun _ => 0)))] H := hP
  have hD : va_D A [(q, .inr (6, [.ref xo, .ref xd, .ref xf, .ref xm, .ref xr, .ref xw, .ref xs, .ref xc, .int (nI (0)), .int (nI (0)), .int (-1), .int (nI (0)), .ref yf, .ref yt, .int (nI (0)), .null, .null, .int (nI (0))])), (xo, .inl (cI, 1296, .inl (fun _ => 0))), (xd, .inl (cI, 4, .inl (fun _ => 0))), (xf, .inl (cI, 1296, .inl (fun _ => 0))), (xm, .inl (cZ, 1296, .inl (fun _ => 0))), (xr, .inl (cZ, 1296, .inl (fun _ => 0))), (xw, .inl (cI, 1296, .inl (fun _ => 0))), (xs, .inl (cJ, 1296, .inr (.inl (fun _ => 0)))), (xc, .inl (cI, 1296, .inl (fun _ => 0))), (yf, .inl (cI, 300, .inl (fun _ => 0))), (yt, .inl (cI, 300, .inl (fun _ => 0))), (ye, .inl (cI, 60, .inl (fun _ => 0)))] := hD
  refine va_putF (D := d) (ci := 6) (v := .ref ye) (ty := .array .int) (C := RX6) (T := TX6) (N := 18) hx hb hts hin6 tyX6 tyX6_ok nmX6 hown hK hP hD hS 0 rfl rfl 15 (by decide) hfl46 (fun _ h9 => h9) rfl hin rfl (by decide +kernel) rfl rfl (Nat.le_of_ble_eq_true rfl) dX6_init_102 (fun H locs hP hD hS => ?_)
  have hP : va_P d vwCl [(q, .inr (6, [.ref xo, .ref xd, .ref xf, .ref xm, .ref xr, .ref xw, .ref xs, .ref xc, .int (nI (0)), .int (nI (0)), .int (-1), .int (nI (0)), .ref yf, .ref yt, .int (nI (0)), .ref ye, .null, .int (nI (0))])), (xo, .inl (cI, 1296, .inl (fun _ => 0))), (xd, .inl (cI, 4, .inl (fun _ => 0))), (xf, .inl (cI, 1296, .inl (fun _ => 0))), (xm, .inl (cZ, 1296, .inl (fun _ => 0))), (xr, .inl (cZ, 1296, .inl (fun _ => 0))), (xw, .inl (cI, 1296, .inl (fun _ => 0))), (xs, .inl (cJ, 1296, .inr (.inl (fun _ => 0)))), (xc, .inl (cI, 1296, .inl (fun _ => 0))), (yf, .inl (cI, 300, .inl (fun _ => 0))), (yt, .inl (cI, 300, .inl (fun _ => 0))), (ye, .inl (cI, 60, .inl (fun _ => 0)))] H := hP
  have hD : va_D A [(q, .inr (6, [.ref xo, .ref xd, .ref xf, .ref xm, .ref xr, .ref xw, .ref xs, .ref xc, .int (nI (0)), .int (nI (0)), .int (-1), .int (nI (0)), .ref yf, .ref yt, .int (nI (0)), .ref ye, .null, .int (nI (0))])), (xo, .inl (cI, 1296, .inl (fun _ => 0))), (xd, .inl (cI, 4, .inl (fun _ => 0))), (xf, .inl (cI, 1296, .inl (fun _ => 0))), (xm, .inl (cZ, 1296, .inl (fun _ => 0))), (xr, .inl (cZ, 1296, .inl (fun _ => 0))), (xw, .inl (cI, 1296, .inl (fun _ => 0))), (xs, .inl (cJ, 1296, .inr (.inl (fun _ => 0)))), (xc, .inl (cI, 1296, .inl (fun _ => 0))), (yf, .inl (cI, 300, .inl (fun _ => 0))), (yt, .inl (cI, 300, .inl (fun _ => 0))), (ye, .inl (cI, 60, .inl (fun _ => 0)))] := hD
  refine lv_aload_n hx hb dX6_init_105 rfl (lv_at hl 0 rfl) ?_
  refine lv_bipush (v := nI (60)) hx hb dX6_init_106 (by decide) ?_
  refine n_newa (atype := .boolean) (ty := .boolean) (a0 := (60, .inl (fun _ => 0))) hx hb harboolean rfl hK 2 rfl (fun _ _ => rfl) hP hD hS hA (fun _ => rfl) (by decide) (Nat.le_of_ble_eq_true rfl) (Nat.le_of_ble_eq_true rfl) (Nat.le_of_ble_eq_true rfl) dX6_init_108 (fun yw H hP hD hS => ?_)
  have hP : va_P d vwCl [(q, .inr (6, [.ref xo, .ref xd, .ref xf, .ref xm, .ref xr, .ref xw, .ref xs, .ref xc, .int (nI (0)), .int (nI (0)), .int (-1), .int (nI (0)), .ref yf, .ref yt, .int (nI (0)), .ref ye, .null, .int (nI (0))])), (xo, .inl (cI, 1296, .inl (fun _ => 0))), (xd, .inl (cI, 4, .inl (fun _ => 0))), (xf, .inl (cI, 1296, .inl (fun _ => 0))), (xm, .inl (cZ, 1296, .inl (fun _ => 0))), (xr, .inl (cZ, 1296, .inl (fun _ => 0))), (xw, .inl (cI, 1296, .inl (fun _ => 0))), (xs, .inl (cJ, 1296, .inr (.inl (fun _ => 0)))), (xc, .inl (cI, 1296, .inl (fun _ => 0))), (yf, .inl (cI, 300, .inl (fun _ => 0))), (yt, .inl (cI, 300, .inl (fun _ => 0))), (ye, .inl (cI, 60, .inl (fun _ => 0))), (yw, .inl (cZ, 60, .inl (fun _ => 0)))] H := hP
  have hD : va_D A [(q, .inr (6, [.ref xo, .ref xd, .ref xf, .ref xm, .ref xr, .ref xw, .ref xs, .ref xc, .int (nI (0)), .int (nI (0)), .int (-1), .int (nI (0)), .ref yf, .ref yt, .int (nI (0)), .ref ye, .null, .int (nI (0))])), (xo, .inl (cI, 1296, .inl (fun _ => 0))), (xd, .inl (cI, 4, .inl (fun _ => 0))), (xf, .inl (cI, 1296, .inl (fun _ => 0))), (xm, .inl (cZ, 1296, .inl (fun _ => 0))), (xr, .inl (cZ, 1296, .inl (fun _ => 0))), (xw, .inl (cI, 1296, .inl (fun _ => 0))), (xs, .inl (cJ, 1296, .inr (.inl (fun _ => 0)))), (xc, .inl (cI, 1296, .inl (fun _ => 0))), (yf, .inl (cI, 300, .inl (fun _ => 0))), (yt, .inl (cI, 300, .inl (fun _ => 0))), (ye, .inl (cI, 60, .inl (fun _ => 0))), (yw, .inl (cZ, 60, .inl (fun _ => 0)))] := hD
  refine va_putF (D := d) (ci := 6) (v := .ref yw) (ty := .array .boolean) (C := RX6) (T := TX6) (N := 18) hx hb hts hin6 tyX6 tyX6_ok nmX6 hown hK hP hD hS 0 rfl rfl 16 (by decide) hfl49 (fun _ h9 => h9) rfl hin rfl (by decide +kernel) rfl rfl (Nat.le_of_ble_eq_true rfl) dX6_init_110 (fun H locs hP hD hS => ?_)
  have hP : va_P d vwCl [(q, .inr (6, [.ref xo, .ref xd, .ref xf, .ref xm, .ref xr, .ref xw, .ref xs, .ref xc, .int (nI (0)), .int (nI (0)), .int (-1), .int (nI (0)), .ref yf, .ref yt, .int (nI (0)), .ref ye, .ref yw, .int (nI (0))])), (xo, .inl (cI, 1296, .inl (fun _ => 0))), (xd, .inl (cI, 4, .inl (fun _ => 0))), (xf, .inl (cI, 1296, .inl (fun _ => 0))), (xm, .inl (cZ, 1296, .inl (fun _ => 0))), (xr, .inl (cZ, 1296, .inl (fun _ => 0))), (xw, .inl (cI, 1296, .inl (fun _ => 0))), (xs, .inl (cJ, 1296, .inr (.inl (fun _ => 0)))), (xc, .inl (cI, 1296, .inl (fun _ => 0))), (yf, .inl (cI, 300, .inl (fun _ => 0))), (yt, .inl (cI, 300, .inl (fun _ => 0))), (ye, .inl (cI, 60, .inl (fun _ => 0))), (yw, .inl (cZ, 60, .inl (fun _ => 0)))] H := hP
  have hD : va_D A [(q, .inr (6, [.ref xo, .ref xd, .ref xf, .ref xm, .ref xr, .ref xw, .ref xs, .ref xc, .int (nI (0)), .int (nI (0)), .int (-1), .int (nI (0)), .ref yf, .ref yt, .int (nI (0)), .ref ye, .ref yw, .int (nI (0))])), (xo, .inl (cI, 1296, .inl (fun _ => 0))), (xd, .inl (cI, 4, .inl (fun _ => 0))), (xf, .inl (cI, 1296, .inl (fun _ => 0))), (xm, .inl (cZ, 1296, .inl (fun _ => 0))), (xr, .inl (cZ, 1296, .inl (fun _ => 0))), (xw, .inl (cI, 1296, .inl (fun _ => 0))), (xs, .inl (cJ, 1296, .inr (.inl (fun _ => 0)))), (xc, .inl (cI, 1296, .inl (fun _ => 0))), (yf, .inl (cI, 300, .inl (fun _ => 0))), (yt, .inl (cI, 300, .inl (fun _ => 0))), (ye, .inl (cI, 60, .inl (fun _ => 0))), (yw, .inl (cZ, 60, .inl (fun _ => 0)))] := hD
  refine lv_iconst (v := nI (0)) hx hb dX6_init_113 (by decide) ?_
  refine lv_istore_n (lv' := [(1, .int (nI (0))), (0, .ref q)]) hx hb dX6_init_114 rfl hl (by decide) rfl (fun ls hl => ?_)
  refine W.widen (k := 12) (n := 9796) (Nat.le_of_ble_eq_true rfl) (Nat.le_of_ble_eq_true rfl) ?_
  have loop : ∀ (n k : Nat) (g1 h1 : Nat → Int32), k + n = 1296 → (∀ j, j < k → g1 j = nI (form j)) → ∀ (H : Heap) (locs : List Loc), va_P d vwCl [(q, .inr (6, [.ref xo, .ref xd, .ref xf, .ref xm, .ref xr, .ref xw, .ref xs, .ref xc, .int (nI (0)), .int (nI (0)), .int (-1), .int (nI (0)), .ref yf, .ref yt, .int (nI (0)), .ref ye, .ref yw, .int (nI (0))])), (xo, .inl (cI, 1296, .inl (g1))), (xd, .inl (cI, 4, .inl (h1))), (xf, .inl (cI, 1296, .inl (fun _ => 0))), (xm, .inl (cZ, 1296, .inl (fun _ => 0))), (xr, .inl (cZ, 1296, .inl (fun _ => 0))), (xw, .inl (cI, 1296, .inl (fun _ => 0))), (xs, .inl (cJ, 1296, .inr (.inl (fun _ => 0)))), (xc, .inl (cI, 1296, .inl (fun _ => 0))), (yf, .inl (cI, 300, .inl (fun _ => 0))), (yt, .inl (cI, 300, .inl (fun _ => 0))), (ye, .inl (cI, 60, .inl (fun _ => 0))), (yw, .inl (cZ, 60, .inl (fun _ => 0)))] H → va_D A [(q, .inr (6, [.ref xo, .ref xd, .ref xf, .ref xm, .ref xr, .ref xw, .ref xs, .ref xc, .int (nI (0)), .int (nI (0)), .int (-1), .int (nI (0)), .ref yf, .ref yt, .int (nI (0)), .ref ye, .ref yw, .int (nI (0))])), (xo, .inl (cI, 1296, .inl (g1))), (xd, .inl (cI, 4, .inl (h1))), (xf, .inl (cI, 1296, .inl (fun _ => 0))), (xm, .inl (cZ, 1296, .inl (fun _ => 0))), (xr, .inl (cZ, 1296, .inl (fun _ => 0))), (xw, .inl (cI, 1296, .inl (fun _ => 0))), (xs, .inl (cJ, 1296, .inr (.inl (fun _ => 0)))), (xc, .inl (cI, 1296, .inl (fun _ => 0))), (yf, .inl (cI, 300, .inl (fun _ => 0))), (yt, .inl (cI, 300, .inl (fun _ => 0))), (ye, .inl (cI, 60, .inl (fun _ => 0))), (yw, .inl (cZ, 60, .inl (fun _ => 0)))] → va_S A s.heap H locs → ∀ (ls : Array Slot), lv_has ls 2 [(1, .int (nI (k))), (0, .ref q)] → W p l e ({ frames := 3, cells := 12, slots := 9796, locals := 70 } : Room) s m ([.ref q] : List Value).toArray below meth c H locs 12 9796 Q (F0 m 115 ls []) := by
    intro n
    induction n with
    | zero =>
      intro k g1 h1 hk hg H locs hP hD hS ls hl
      refine lv_iload_n hx hb dX6_init_115 rfl (lv_at hl 0 rfl) ?_
      refine lv_sipush (v := nI (1296)) hx hb dX6_init_116 (by decide) ?_
      refine n_icmp_ge (tgt := 139) hx hb dX6_init_119 (by decide) (by omega) (by omega) (fun c_1 => ?_) (fun c_1 => ?_)
      ·
        obtain ⟨hP, hD⟩ := n_cg (ws' := [(q, .inr (6, [.ref xo, .ref xd, .ref xf, .ref xm, .ref xr, .ref xw, .ref xs, .ref xc, .int (nI (0)), .int (nI (0)), .int (-1), .int (nI (0)), .ref yf, .ref yt, .int (nI (0)), .ref ye, .ref yw, .int (nI (0))])), (xo, .inl (cI, 1296, .inl (fun j => nI (form j)))), (xd, .inl (cI, 4, .inl (h1))), (xf, .inl (cI, 1296, .inl (fun _ => 0))), (xm, .inl (cZ, 1296, .inl (fun _ => 0))), (xr, .inl (cZ, 1296, .inl (fun _ => 0))), (xw, .inl (cI, 1296, .inl (fun _ => 0))), (xs, .inl (cJ, 1296, .inr (.inl (fun _ => 0)))), (xc, .inl (cI, 1296, .inl (fun _ => 0))), (yf, .inl (cI, 300, .inl (fun _ => 0))), (yt, .inl (cI, 300, .inl (fun _ => 0))), (ye, .inl (cI, 60, .inl (fun _ => 0))), (yw, .inl (cZ, 60, .inl (fun _ => 0)))]) hP hD 1 rfl (by intro j hj; exact hg j (by omega)) rfl
        subst hQ
        refine W.widen (k := 12) (n := 9796) (Nat.le_refl _) (Nat.le_refl _) ?_
        exact W.vret hx hb hr (fun t ht hW => ⟨⟨(h1, xo, xd, xf, xm, xr, xw, xs, xc, yf, yt, ye, yw), rfl, by rw [ht]; exact hP.sub [0, 1, 2, 3, 4, 5, 6, 7, 8, 9, 10, 11, 12] rfl, hD.sub [0, 1, 2, 3, 4, 5, 6, 7, 8, 9, 10, 11, 12] (by decide) rfl⟩, hS.F ht⟩) hS.2.2 dX6_init_139
      · exact False.elim (by omega)
    | succ n ih =>
      intro k g1 h1 hk hg H locs hP hD hS ls hl
      refine lv_iload_n hx hb dX6_init_115 rfl (lv_at hl 0 rfl) ?_
      refine lv_sipush (v := nI (1296)) hx hb dX6_init_116 (by decide) ?_
      refine n_icmp_ge (tgt := 139) hx hb dX6_init_119 (by decide) (by omega) (by omega) (fun c_2 => ?_) (fun c_2 => ?_)
      · exact False.elim (by omega)
      ·
        refine lv_aload_n hx hb dX6_init_122 rfl (lv_at hl 1 rfl) ?_
        refine va_get (D := d) (ci := 6) (v := .ref xo) (C := RX6) (T := TX6) (N := 18) hx hb hts hin6 hown hK hP 0 rfl rfl 0 (by decide) hfl7 (fun _ h9 => h9) rfl dX6_init_123 ?_
        refine lv_iload_n hx hb dX6_init_126 rfl (lv_at hl 0 rfl) ?_
        refine lv_aload_n hx hb dX6_init_127 rfl (lv_at hl 1 rfl) ?_
        refine lv_iload_n hx hb dX6_init_128 rfl (lv_at hl 0 rfl) ?_
        refine n_upV (As := [.int (nI (k))]) (rest := [.int (nI (k)), .ref xo]) (WC := [(q, .inr (6, [.ref xo, .ref xd, .ref xf, .ref xm, .ref xr, .ref xw, .ref xs, .ref xc, .int (nI (0)), .int (nI (0)), .int (-1), .int (nI (0)), .ref yf, .ref yt, .int (nI (0)), .ref ye, .ref yw, .int (nI (0))])), (xd, .inl (cI, 4, .inl (h1)))]) (WC' := [(q, .inr (6, [.ref xo, .ref xd, .ref xf, .ref xm, .ref xr, .ref xw, .ref xs, .ref xc, .int (nI (0)), .int (nI (0)), .int (-1), .int (nI (0)), .ref yf, .ref yt, .int (nI (0)), .ref ye, .ref yw, .int (nI (0))])), (xd, .inl (cI, 4, .inl (fun j => nI (dig (form k) j))))]) (wr := [(xo, .inl (cI, 1296, .inl (g1))), (xf, .inl (cI, 1296, .inl (fun _ => 0))), (xm, .inl (cZ, 1296, .inl (fun _ => 0))), (xr, .inl (cZ, 1296, .inl (fun _ => 0))), (xw, .inl (cI, 1296, .inl (fun _ => 0))), (xs, .inl (cJ, 1296, .inr (.inl (fun _ => 0)))), (xc, .inl (cI, 1296, .inl (fun _ => 0))), (yf, .inl (cI, 300, .inl (fun _ => 0))), (yt, .inl (cI, 300, .inl (fun _ => 0))), (ye, .inl (cI, 60, .inl (fun _ => 0))), (yw, .inl (cZ, 60, .inl (fun _ => 0)))]) (WS' := [(q, .inr (6, [.ref xo, .ref xd, .ref xf, .ref xm, .ref xr, .ref xw, .ref xs, .ref xc, .int (nI (0)), .int (nI (0)), .int (-1), .int (nI (0)), .ref yf, .ref yt, .int (nI (0)), .ref ye, .ref yw, .int (nI (0))])), (xo, .inl (cI, 1296, .inl (g1))), (xd, .inl (cI, 4, .inl (fun j => nI (dig (form k) j)))), (xf, .inl (cI, 1296, .inl (fun _ => 0))), (xm, .inl (cZ, 1296, .inl (fun _ => 0))), (xr, .inl (cZ, 1296, .inl (fun _ => 0))), (xw, .inl (cI, 1296, .inl (fun _ => 0))), (xs, .inl (cJ, 1296, .inr (.inl (fun _ => 0)))), (xc, .inl (cI, 1296, .inl (fun _ => 0))), (yf, .inl (cI, 300, .inl (fun _ => 0))), (yt, .inl (cI, 300, .inl (fun _ => 0))), (ye, .inl (cI, 60, .inl (fun _ => 0))), (yw, .inl (cZ, 60, .inl (fun _ => 0)))]) ⟨hx, hb, hml, hown, hts⟩ (c_X6_formed l d cI cJ cZ q xo xd xf xm xr xw xs xc yf yt ye yw (nI 0) (nI 0) (-1) (nI 0) (nI 0) (nI 0) k h1 (by omega)) (cwV 1 hts gX6_init_X6_formed rfl rfl rfl (by decide +kernel) ⟨Nat.le_of_ble_eq_true rfl, Nat.le_of_ble_eq_true rfl⟩) (va_recv hK hP (ci := 6) (q0 := 0) rfl rfl) hP hD hS hA (hK) [0, 2] [1, 3, 4, 5, 6, 7, 8, 9, 10, 11, 12] [11, 0, 12, 1, 2, 3, 4, 5, 6, 7, 8, 9, 10] rfl rfl (by decide) ⟨by decide, by decide⟩ (by decide) rfl rfl hl.1 rfl (Nat.le_of_ble_eq_true rfl) dX6_init_129 ⟨Nat.le_of_ble_eq_true rfl, Nat.le_of_ble_eq_true rfl⟩ (fun H locs hP hD hS => ?_)
        show W _ _ _ _ _ _ _ _ _ _ _ _ _ _ _ (F0 m _ ls (.int (nI (form k)) :: [.int (nI (k)), .ref xo]))
        refine n_iast (ws' := [(q, .inr (6, [.ref xo, .ref xd, .ref xf, .ref xm, .ref xr, .ref xw, .ref xs, .ref xc, .int (nI (0)), .int (nI (0)), .int (-1), .int (nI (0)), .ref yf, .ref yt, .int (nI (0)), .ref ye, .ref yw, .int (nI (0))])), (xo, .inl (cI, 1296, .inl (upd g1 k (nI (form k))))), (xd, .inl (cI, 4, .inl (fun j => nI (dig (form k) j)))), (xf, .inl (cI, 1296, .inl (fun _ => 0))), (xm, .inl (cZ, 1296, .inl (fun _ => 0))), (xr, .inl (cZ, 1296, .inl (fun _ => 0))), (xw, .inl (cI, 1296, .inl (fun _ => 0))), (xs, .inl (cJ, 1296, .inr (.inl (fun _ => 0)))), (xc, .inl (cI, 1296, .inl (fun _ => 0))), (yf, .inl (cI, 300, .inl (fun _ => 0))), (yt, .inl (cI, 300, .inl (fun _ => 0))), (ye, .inl (cI, 60, .inl (fun _ => 0))), (yw, .inl (cZ, 60, .inl (fun _ => 0)))]) hx hb hK hP hD hS 1 0 rfl rfl (k := k) (by omega) (by omega) dX6_init_132 rfl (fun H locs hP hD hS => ?_)
        refine lv_iinc (v := nI (k + 1)) (lv' := [(1, .int (nI (k + 1))), (0, .ref q)]) hx hb dX6_init_133 hl (k := 0) rfl (n_inc1 _) (by decide) rfl (fun ls hl => ?_)
        refine lv_goto (tgt := 115) hx hb dX6_init_136 (by decide) ?_
        exact ih (k + 1) _ _ (by omega) (fun j hj => by unfold upd; by_cases h : j = k <;> simp [h]; exact hg j (by omega)) H locs hP hD hS ls (lv_sub hl [0, 1] rfl)
  exact loop 1296 0 _ _ rfl (fun j hj => absurd hj (Nat.not_lt_zero j)) H locs hP hD hS ls (lv_sub hl [0, 1] rfl)

