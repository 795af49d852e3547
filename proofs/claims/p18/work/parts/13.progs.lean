set_option maxHeartbeats 4000000 in
set_option maxRecDepth 100000 in
theorem c_X1_weightOf_0 (l : Launch) (d : va_G) (cI : ClassId)  : nRd l yX1_weightOf wsX1_weightOf ({ frames := 0, cells := 0, slots := 0, locals := 0 } : Room) d [(cI, .int)] [] [.int (nI (0))] (.int (nI (216))) := by
  refine Met.ofW (cc := cX1_weightOf) (maxL := 3) (ret := some .int) (by decide) rfl ?_
  intro p e s m args below meth c s₁ B hml hv
  obtain ⟨rfl, hP, hK⟩ := hv
  have hx := B.exec
  have hb := B.bytes
  have hr := B.returns
  have hts := atoms_spec (ws := wsX1_weightOf) B.pre
  have hown : s.vm.findClass RX1 = some m.cls := findClass_of_methodNamed B.named
  have hlocks := B.notSynchronized
  have hP : va_P d vwCl [] s.heap := hP
  have hl := lv_entry ([.int (nI (0))]) (n := 3) (Nat.le_of_ble_eq_true rfl)
  rw [lg_entry_eq]
  generalize (lg_sl ([.int (nI (0))]) ++ List.replicate (3 - (lg_sl ([.int (nI (0))])).length) Slot.unset).toArray = ls at hl ⊢
  have hl : lv_has ls 3 [(0, .int (nI (0)))] := hl
  refine lv_iconst (v := nI (1)) hx hb dX1_weightOf_0 (by decide) ?_
  refine lv_istore_n (lv' := [(1, .int (nI (1))), (0, .int (nI (0)))]) hx hb dX1_weightOf_1 rfl hl (by decide) rfl (fun ls hl => ?_)
  refine lv_iload_n hx hb dX1_weightOf_2 rfl (lv_at hl 1 rfl) ?_
  refine lv_iconst (v := nI (1)) hx hb dX1_weightOf_3 (by decide) ?_
  refine n_add hx hb dX1_weightOf_4 ?_
  refine lv_istore_n (lv' := [(2, .int (nI (1))), (1, .int (nI (1))), (0, .int (nI (0)))]) hx hb dX1_weightOf_5 rfl hl (by decide) rfl (fun ls hl => ?_)
  refine lv_iload_n hx hb dX1_weightOf_6 rfl (lv_at hl 0 rfl) ?_
  refine lv_iconst (v := nI (4)) hx hb dX1_weightOf_7 (by decide) ?_
  refine n_icmp_ge (tgt := 22) hx hb dX1_weightOf_8 (by decide) (by decide) (by decide) (fun c_1 => ?_) (fun c_1 => ?_)
  · exact absurd c_1 (by decide)
  refine lv_iload_n hx hb dX1_weightOf_11 rfl (lv_at hl 1 rfl) ?_
  refine lv_bipush (v := nI (6)) hx hb dX1_weightOf_12 (by decide) ?_
  refine n_mul hx hb dX1_weightOf_14 ?_
  refine lv_istore_n (lv' := [(1, .int (nI (6))), (2, .int (nI (1))), (0, .int (nI (0)))]) hx hb dX1_weightOf_15 rfl hl (by decide) rfl (fun ls hl => ?_)
  refine lv_iinc (v := nI (2)) (lv' := [(2, .int (nI (2))), (1, .int (nI (6))), (0, .int (nI (0)))]) hx hb dX1_weightOf_16 hl (k := 1) rfl (by decide) (by decide) rfl (fun ls hl => ?_)
  refine lv_goto (tgt := 6) hx hb dX1_weightOf_19 (by decide) ?_
  refine lv_iload_n hx hb dX1_weightOf_6 rfl (lv_at hl 0 rfl) ?_
  refine lv_iconst (v := nI (4)) hx hb dX1_weightOf_7 (by decide) ?_
  refine n_icmp_ge (tgt := 22) hx hb dX1_weightOf_8 (by decide) (by decide) (by decide) (fun c_2 => ?_) (fun c_2 => ?_)
  · exact absurd c_2 (by decide)
  refine lv_iload_n hx hb dX1_weightOf_11 rfl (lv_at hl 1 rfl) ?_
  refine lv_bipush (v := nI (6)) hx hb dX1_weightOf_12 (by decide) ?_
  refine n_mul hx hb dX1_weightOf_14 ?_
  refine lv_istore_n (lv' := [(1, .int (nI (36))), (2, .int (nI (2))), (0, .int (nI (0)))]) hx hb dX1_weightOf_15 rfl hl (by decide) rfl (fun ls hl => ?_)
  refine lv_iinc (v := nI (3)) (lv' := [(2, .int (nI (3))), (1, .int (nI (36))), (0, .int (nI (0)))]) hx hb dX1_weightOf_16 hl (k := 1) rfl (by decide) (by decide) rfl (fun ls hl => ?_)
  refine lv_goto (tgt := 6) hx hb dX1_weightOf_19 (by decide) ?_
  refine lv_iload_n hx hb dX1_weightOf_6 rfl (lv_at hl 0 rfl) ?_
  refine lv_iconst (v := nI (4)) hx hb dX1_weightOf_7 (by decide) ?_
  refine n_icmp_ge (tgt := 22) hx hb dX1_weightOf_8 (by decide) (by decide) (by decide) (fun c_3 => ?_) (fun c_3 => ?_)
  · exact absurd c_3 (by decide)
  refine lv_iload_n hx hb dX1_weightOf_11 rfl (lv_at hl 1 rfl) ?_
  refine lv_bipush (v := nI (6)) hx hb dX1_weightOf_12 (by decide) ?_
  refine n_mul hx hb dX1_weightOf_14 ?_
  refine lv_istore_n (lv' := [(1, .int (nI (216))), (2, .int (nI (3))), (0, .int (nI (0)))]) hx hb dX1_weightOf_15 rfl hl (by decide) rfl (fun ls hl => ?_)
  refine lv_iinc (v := nI (4)) (lv' := [(2, .int (nI (4))), (1, .int (nI (216))), (0, .int (nI (0)))]) hx hb dX1_weightOf_16 hl (k := 1) rfl (by decide) (by decide) rfl (fun ls hl => ?_)
  refine lv_goto (tgt := 6) hx hb dX1_weightOf_19 (by decide) ?_
  refine lv_iload_n hx hb dX1_weightOf_6 rfl (lv_at hl 0 rfl) ?_
  refine lv_iconst (v := nI (4)) hx hb dX1_weightOf_7 (by decide) ?_
  refine n_icmp_ge (tgt := 22) hx hb dX1_weightOf_8 (by decide) (by decide) (by decide) (fun c_4 => ?_) (fun c_4 => ?_)
  rotate_left
  · exact absurd c_4 (by decide)
  refine lv_iload_n hx hb dX1_weightOf_22 rfl (lv_at hl 1 rfl) ?_
  exact W.iret (v := (nI (216))) hx hb hr (fun t ht hW => ⟨rfl, ht⟩) (fun q h => by cases h) dX1_weightOf_23

set_option maxHeartbeats 4000000 in
set_option maxRecDepth 100000 in
theorem c_X1_weightOf_1 (l : Launch) (d : va_G) (cI : ClassId)  : nRd l yX1_weightOf wsX1_weightOf ({ frames := 0, cells := 0, slots := 0, locals := 0 } : Room) d [(cI, .int)] [] [.int (nI (1))] (.int (nI (36))) := by
  refine Met.ofW (cc := cX1_weightOf) (maxL := 3) (ret := some .int) (by decide) rfl ?_
  intro p e s m args below meth c s₁ B hml hv
  obtain ⟨rfl, hP, hK⟩ := hv
  have hx := B.exec
  have hb := B.bytes
  have hr := B.returns
  have hts := atoms_spec (ws := wsX1_weightOf) B.pre
  have hown : s.vm.findClass RX1 = some m.cls := findClass_of_methodNamed B.named
  have hlocks := B.notSynchronized
  have hP : va_P d vwCl [] s.heap := hP
  have hl := lv_entry ([.int (nI (1))]) (n := 3) (Nat.le_of_ble_eq_true rfl)
  rw [lg_entry_eq]
  generalize (lg_sl ([.int (nI (1))]) ++ List.replicate (3 - (lg_sl ([.int (nI (1))])).length) Slot.unset).toArray = ls at hl ⊢
  have hl : lv_has ls 3 [(0, .int (nI (1)))] := hl
  refine lv_iconst (v := nI (1)) hx hb dX1_weightOf_0 (by decide) ?_
  refine lv_istore_n (lv' := [(1, .int (nI (1))), (0, .int (nI (1)))]) hx hb dX1_weightOf_1 rfl hl (by decide) rfl (fun ls hl => ?_)
  refine lv_iload_n hx hb dX1_weightOf_2 rfl (lv_at hl 1 rfl) ?_
  refine lv_iconst (v := nI (1)) hx hb dX1_weightOf_3 (by decide) ?_
  refine n_add hx hb dX1_weightOf_4 ?_
  refine lv_istore_n (lv' := [(2, .int (nI (2))), (1, .int (nI (1))), (0, .int (nI (1)))]) hx hb dX1_weightOf_5 rfl hl (by decide) rfl (fun ls hl => ?_)
  refine lv_iload_n hx hb dX1_weightOf_6 rfl (lv_at hl 0 rfl) ?_
  refine lv_iconst (v := nI (4)) hx hb dX1_weightOf_7 (by decide) ?_
  refine n_icmp_ge (tgt := 22) hx hb dX1_weightOf_8 (by decide) (by decide) (by decide) (fun c_1 => ?_) (fun c_1 => ?_)
  · exact absurd c_1 (by decide)
  refine lv_iload_n hx hb dX1_weightOf_11 rfl (lv_at hl 1 rfl) ?_
  refine lv_bipush (v := nI (6)) hx hb dX1_weightOf_12 (by decide) ?_
  refine n_mul hx hb dX1_weightOf_14 ?_
  refine lv_istore_n (lv' := [(1, .int (nI (6))), (2, .int (nI (2))), (0, .int (nI (1)))]) hx hb dX1_weightOf_15 rfl hl (by decide) rfl (fun ls hl => ?_)
  refine lv_iinc (v := nI (3)) (lv' := [(2, .int (nI (3))), (1, .int (nI (6))), (0, .int (nI (1)))]) hx hb dX1_weightOf_16 hl (k := 1) rfl (by decide) (by decide) rfl (fun ls hl => ?_)
  refine lv_goto (tgt := 6) hx hb dX1_weightOf_19 (by decide) ?_
  refine lv_iload_n hx hb dX1_weightOf_6 rfl (lv_at hl 0 rfl) ?_
  refine lv_iconst (v := nI (4)) hx hb dX1_weightOf_7 (by decide) ?_
  refine n_icmp_ge (tgt := 22) hx hb dX1_weightOf_8 (by decide) (by decide) (by decide) (fun c_2 => ?_) (fun c_2 => ?_)
  · exact absurd c_2 (by decide)
  refine lv_iload_n hx hb dX1_weightOf_11 rfl (lv_at hl 1 rfl) ?_
  refine lv_bipush (v := nI (6)) hx hb dX1_weightOf_12 (by decide) ?_
  refine n_mul hx hb dX1_weightOf_14 ?_
  refine lv_istore_n (lv' := [(1, .int (nI (36))), (2, .int (nI (3))), (0, .int (nI (1)))]) hx hb dX1_weightOf_15 rfl hl (by decide) rfl (fun ls hl => ?_)
  refine lv_iinc (v := nI (4)) (lv' := [(2, .int (nI (4))), (1, .int (nI (36))), (0, .int (nI (1)))]) hx hb dX1_weightOf_16 hl (k := 1) rfl (by decide) (by decide) rfl (fun ls hl => ?_)
  refine lv_goto (tgt := 6) hx hb dX1_weightOf_19 (by decide) ?_
  refine lv_iload_n hx hb dX1_weightOf_6 rfl (lv_at hl 0 rfl) ?_
  refine lv_iconst (v := nI (4)) hx hb dX1_weightOf_7 (by decide) ?_
  refine n_icmp_ge (tgt := 22) hx hb dX1_weightOf_8 (by decide) (by decide) (by decide) (fun c_3 => ?_) (fun c_3 => ?_)
  rotate_left
  · exact absurd c_3 (by decide)
  refine lv_iload_n hx hb dX1_weightOf_22 rfl (lv_at hl 1 rfl) ?_
  exact W.iret (v := (nI (36))) hx hb hr (fun t ht hW => ⟨rfl, ht⟩) (fun q h => by cases h) dX1_weightOf_23

set_option maxHeartbeats 4000000 in
set_option maxRecDepth 100000 in
theorem c_X1_weightOf_2 (l : Launch) (d : va_G) (cI : ClassId)  : nRd l yX1_weightOf wsX1_weightOf ({ frames := 0, cells := 0, slots := 0, locals := 0 } : Room) d [(cI, .int)] [] [.int (nI (2))] (.int (nI (6))) := by
  refine Met.ofW (cc := cX1_weightOf) (maxL := 3) (ret := some .int) (by decide) rfl ?_
  intro p e s m args below meth c s₁ B hml hv
  obtain ⟨rfl, hP, hK⟩ := hv
  have hx := B.exec
  have hb := B.bytes
  have hr := B.returns
  have hts := atoms_spec (ws := wsX1_weightOf) B.pre
  have hown : s.vm.findClass RX1 = some m.cls := findClass_of_methodNamed B.named
  have hlocks := B.notSynchronized
  have hP : va_P d vwCl [] s.heap := hP
  have hl := lv_entry ([.int (nI (2))]) (n := 3) (Nat.le_of_ble_eq_true rfl)
  rw [lg_entry_eq]
  generalize (lg_sl ([.int (nI (2))]) ++ List.replicate (3 - (lg_sl ([.int (nI (2))])).length) Slot.unset).toArray = ls at hl ⊢
  have hl : lv_has ls 3 [(0, .int (nI (2)))] := hl
  refine lv_iconst (v := nI (1)) hx hb dX1_weightOf_0 (by decide) ?_
  refine lv_istore_n (lv' := [(1, .int (nI (1))), (0, .int (nI (2)))]) hx hb dX1_weightOf_1 rfl hl (by decide) rfl (fun ls hl => ?_)
  refine lv_iload_n hx hb dX1_weightOf_2 rfl (lv_at hl 1 rfl) ?_
  refine lv_iconst (v := nI (1)) hx hb dX1_weightOf_3 (by decide) ?_
  refine n_add hx hb dX1_weightOf_4 ?_
  refine lv_istore_n (lv' := [(2, .int (nI (3))), (1, .int (nI (1))), (0, .int (nI (2)))]) hx hb dX1_weightOf_5 rfl hl (by decide) rfl (fun ls hl => ?_)
  refine lv_iload_n hx hb dX1_weightOf_6 rfl (lv_at hl 0 rfl) ?_
  refine lv_iconst (v := nI (4)) hx hb dX1_weightOf_7 (by decide) ?_
  refine n_icmp_ge (tgt := 22) hx hb dX1_weightOf_8 (by decide) (by decide) (by decide) (fun c_1 => ?_) (fun c_1 => ?_)
  · exact absurd c_1 (by decide)
  refine lv_iload_n hx hb dX1_weightOf_11 rfl (lv_at hl 1 rfl) ?_
  refine lv_bipush (v := nI (6)) hx hb dX1_weightOf_12 (by decide) ?_
  refine n_mul hx hb dX1_weightOf_14 ?_
  refine lv_istore_n (lv' := [(1, .int (nI (6))), (2, .int (nI (3))), (0, .int (nI (2)))]) hx hb dX1_weightOf_15 rfl hl (by decide) rfl (fun ls hl => ?_)
  refine lv_iinc (v := nI (4)) (lv' := [(2, .int (nI (4))), (1, .int (nI (6))), (0, .int (nI (2)))]) hx hb dX1_weightOf_16 hl (k := 1) rfl (by decide) (by decide) rfl (fun ls hl => ?_)
  refine lv_goto (tgt := 6) hx hb dX1_weightOf_19 (by decide) ?_
  refine lv_iload_n hx hb dX1_weightOf_6 rfl (lv_at hl 0 rfl) ?_
  refine lv_iconst (v := nI (4)) hx hb dX1_weightOf_7 (by decide) ?_
  refine n_icmp_ge (tgt := 22) hx hb dX1_weightOf_8 (by decide) (by decide) (by decide) (fun c_2 => ?_) (fun c_2 => ?_)
  rotate_left
  · exact absurd c_2 (by decide)
  refine lv_iload_n hx hb dX1_weightOf_22 rfl (lv_at hl 1 rfl) ?_
  exact W.iret (v := (nI (6))) hx hb hr (fun t ht hW => ⟨rfl, ht⟩) (fun q h => by cases h) dX1_weightOf_23

set_option maxHeartbeats 4000000 in
set_option maxRecDepth 100000 in
theorem c_X1_weightOf_3 (l : Launch) (d : va_G) (cI : ClassId)  : nRd l yX1_weightOf wsX1_weightOf ({ frames := 0, cells := 0, slots := 0, locals := 0 } : Room) d [(cI, .int)] [] [.int (nI (3))] (.int (nI (1))) := by
  refine Met.ofW (cc := cX1_weightOf) (maxL := 3) (ret := some .int) (by decide) rfl ?_
  intro p e s m args below meth c s₁ B hml hv
  obtain ⟨rfl, hP, hK⟩ := hv
  have hx := B.exec
  have hb := B.bytes
  have hr := B.returns
  have hts := atoms_spec (ws := wsX1_weightOf) B.pre
  have hown : s.vm.findClass RX1 = some m.cls := findClass_of_methodNamed B.named
  have hlocks := B.notSynchronized
  have hP : va_P d vwCl [] s.heap := hP
  have hl := lv_entry ([.int (nI (3))]) (n := 3) (Nat.le_of_ble_eq_true rfl)
  rw [lg_entry_eq]
  generalize (lg_sl ([.int (nI (3))]) ++ List.replicate (3 - (lg_sl ([.int (nI (3))])).length) Slot.unset).toArray = ls at hl ⊢
  have hl : lv_has ls 3 [(0, .int (nI (3)))] := hl
  refine lv_iconst (v := nI (1)) hx hb dX1_weightOf_0 (by decide) ?_
  refine lv_istore_n (lv' := [(1, .int (nI (1))), (0, .int (nI (3)))]) hx hb dX1_weightOf_1 rfl hl (by decide) rfl (fun ls hl => ?_)
  refine lv_iload_n hx hb dX1_weightOf_2 rfl (lv_at hl 1 rfl) ?_
  refine lv_iconst (v := nI (1)) hx hb dX1_weightOf_3 (by decide) ?_
  refine n_add hx hb dX1_weightOf_4 ?_
  refine lv_istore_n (lv' := [(2, .int (nI (4))), (1, .int (nI (1))), (0, .int (nI (3)))]) hx hb dX1_weightOf_5 rfl hl (by decide) rfl (fun ls hl => ?_)
  refine lv_iload_n hx hb dX1_weightOf_6 rfl (lv_at hl 0 rfl) ?_
  refine lv_iconst (v := nI (4)) hx hb dX1_weightOf_7 (by decide) ?_
  refine n_icmp_ge (tgt := 22) hx hb dX1_weightOf_8 (by decide) (by decide) (by decide) (fun c_1 => ?_) (fun c_1 => ?_)
  rotate_left
  · exact absurd c_1 (by decide)
  refine lv_iload_n hx hb dX1_weightOf_22 rfl (lv_at hl 1 rfl) ?_
  exact W.iret (v := (nI (1))) hx hb hr (fun t ht hW => ⟨rfl, ht⟩) (fun q h => by cases h) dX1_weightOf_23

theorem c_X1_weightOf (l : Launch) (d : va_G) (cI : ClassId) (j : Nat) (hj : j < 4) : nRd l yX1_weightOf wsX1_weightOf ({ frames := 0, cells := 0, slots := 0, locals := 0 } : Room) d [(cI, .int)] [] [.int (nI (j))] (.int (nI (wt j))) := by
  rcases lt4 hj with rfl | rfl | rfl | rfl
  · exact c_X1_weightOf_0 l d cI
  · exact c_X1_weightOf_1 l d cI
  · exact c_X1_weightOf_2 l d cI
  · exact c_X1_weightOf_3 l d cI
/-- a place emptied -/
def wo (c j : Nat) : Nat := c - c / wt j % 6 * wt j
theorem wo_ok (c j : Nat) : c / wt j % 6 * wt j ≤ c := Nat.le_trans (Nat.mul_le_mul_right _ (Nat.mod_le _ _)) (Nat.div_mul_le_self c (wt j))
set_option maxHeartbeats 4000000 in
set_option maxRecDepth 100000 in
/-- a place emptied -/
theorem c_X1_without (l : Launch) (d : va_G) (cI : ClassId) (c0 j : Nat) (hc : c0 < 1296) (hj : j < 4) : nRd l yX1_without wsX1_without ({ frames := 1, cells := 0, slots := 0, locals := 22 } : Room) d [(cI, .int)] [] [.int (nI (c0)), .int (nI (j))] (.int (nI (wo c0 j))) := by
  refine Met.ofW (cc := cX1_without) (maxL := 3) (ret := some .int) (by decide) rfl ?_
  intro p e s m args below meth c s₁ B hml hv
  obtain ⟨rfl, hP, hK⟩ := hv
  have hx := B.exec
  have hb := B.bytes
  have hr := B.returns
  have hts := atoms_spec (ws := wsX1_without) B.pre
  have hown : s.vm.findClass RX1 = some m.cls := findClass_of_methodNamed B.named
  have hlocks := B.notSynchronized
  have hP : va_P d vwCl [] s.heap := hP
  have hl := lv_entry ([.int (nI (c0)), .int (nI (j))]) (n := 3) (Nat.le_of_ble_eq_true rfl)
  rw [lg_entry_eq]
  generalize (lg_sl ([.int (nI (c0)), .int (nI (j))]) ++ List.replicate (3 - (lg_sl ([.int (nI (c0)), .int (nI (j))])).length) Slot.unset).toArray = ls at hl ⊢
  have hl : lv_has ls 3 [(0, .int (nI (c0))), (1, .int (nI (j)))] := hl
  refine lv_iload_n hx hb dX1_without_0 rfl (lv_at hl 1 rfl) ?_
  refine n_rdS (As := [.int (nI (j))]) (rest := []) (WC := []) ⟨hx, hb, hml, hown, hts⟩ (c_X1_weightOf l d cI j hj) (cwS 1 hts gX1_without_X1_weightOf rfl rfl rfl (by decide +kernel) ⟨Nat.le_of_ble_eq_true rfl, Nat.le_of_ble_eq_true rfl⟩) (hP.sub [] rfl) (hK) rfl hl.1 rfl (Nat.le_of_ble_eq_true rfl) dX1_without_1 ⟨Nat.zero_le _, Nat.zero_le _⟩ ?_
  refine lv_istore_n (lv' := [(2, .int (nI (wt j))), (0, .int (nI (c0))), (1, .int (nI (j)))]) hx hb dX1_without_4 rfl hl (by decide) rfl (fun ls hl => ?_)
  refine lv_iload_n hx hb dX1_without_5 rfl (lv_at hl 0 rfl) ?_
  refine n_ifle (tgt := 22) hx hb dX1_without_6 (by decide) (Nat.lt_of_le_of_lt (wt_le j) (by decide)) (fun c_1 => ?_) (fun c_1 => ?_)
  · exact absurd c_1 (Nat.pos_iff_ne_zero.mp (wt_pos j))
  refine lv_iload_n hx hb dX1_without_9 rfl (lv_at hl 1 rfl) ?_
  refine lv_iload_n hx hb dX1_without_10 rfl (lv_at hl 1 rfl) ?_
  refine lv_iload_n hx hb dX1_without_11 rfl (lv_at hl 0 rfl) ?_
  refine n_div hx hb dX1_without_12 (by omega) (wt_pos j) (Nat.lt_of_le_of_lt (wt_le j) (by decide)) ?_
  refine lv_bipush (v := nI (6)) hx hb dX1_without_13 (by decide) ?_
  refine n_rem hx hb dX1_without_15 (Nat.lt_of_le_of_lt (Nat.div_le_self _ _) (by omega)) (by decide) (by decide) ?_
  refine lv_iload_n hx hb dX1_without_16 rfl (lv_at hl 0 rfl) ?_
  refine n_mul hx hb dX1_without_17 ?_
  refine n_sub hx hb dX1_without_18 (wo_ok c0 j) ?_
  refine lv_goto (tgt := 23) hx hb dX1_without_19 (by decide) ?_
  exact W.iret (v := (nI (wo c0 j))) hx hb hr (fun t ht hW => ⟨rfl, ht⟩) (fun q h => by cases h) dX1_without_23

set_option maxHeartbeats 4000000 in
set_option maxRecDepth 100000 in
theorem c_X1_isUsable_1 (l : Launch) (d : va_G) (cI : ClassId) (x y : Nat) (hx6 : x < 6) (hy6 : y < 6) : nRd l yX1_isUsable wsX1_isUsable ({ frames := 0, cells := 0, slots := 0, locals := 0 } : Room) d [(cI, .int)] [] [.int (nI (1)), .int (nI (x)), .int (nI (y))] (.int (nI ((fitB 1 x y).toNat))) := by
  refine Met.ofW (cc := cX1_isUsable) (maxL := 3) (ret := some .boolean) (by decide) rfl ?_
  intro p e s m args below meth c s₁ B hml hv
  obtain ⟨rfl, hP, hK⟩ := hv
  have hx := B.exec
  have hb := B.bytes
  have hr := B.returns
  have hts := atoms_spec (ws := wsX1_isUsable) B.pre
  have hown : s.vm.findClass RX1 = some m.cls := findClass_of_methodNamed B.named
  have hlocks := B.notSynchronized
  have hP : va_P d vwCl [] s.heap := hP
  have hl := lv_entry ([.int (nI (1)), .int (nI (x)), .int (nI (y))]) (n := 3) (Nat.le_of_ble_eq_true rfl)
  rw [lg_entry_eq]
  generalize (lg_sl ([.int (nI (1)), .int (nI (x)), .int (nI (y))]) ++ List.replicate (3 - (lg_sl ([.int (nI (1)), .int (nI (x)), .int (nI (y))])).length) Slot.unset).toArray = ls at hl ⊢
  have hl : lv_has ls 3 [(0, .int (nI (1))), (1, .int (nI (x))), (2, .int (nI (y)))] := hl
  refine lv_iload_n hx hb dX1_isUsable_0 rfl (lv_at hl 0 rfl) ?_
  refine lv_tableIn (x := nI (1)) (off := 27) (tgt := 28) hx hb dX1_isUsable_1 (by decide) (by decide) rfl (by decide) ?_
  refine lv_iload_n hx hb dX1_isUsable_28 rfl (lv_at hl 1 rfl) ?_
  refine n_ifne (tgt := 40) hx hb dX1_isUsable_29 (by decide) (by omega) (fun c_1 => ?_) (fun c_1 => ?_)
  ·
    refine lv_iconst (v := nI (0)) hx hb dX1_isUsable_40 (by decide) ?_
    refine n_top (show (nI (0)) = (nI ((fitB 1 x y).toNat)) from by rw [show fitB 1 x y = false from decide_eq_false (by omega)]; rfl) ?_
    exact W.zret (v := (nI ((fitB 1 x y).toNat))) hx hb hr (by cases fitB 1 x y <;> rfl) (fun t ht hW => ⟨rfl, ht⟩) (fun q h => by cases h) dX1_isUsable_41
  ·
    refine lv_iload_n hx hb dX1_isUsable_32 rfl (lv_at hl 2 rfl) ?_
    refine n_ifeq (tgt := 40) hx hb dX1_isUsable_33 (by decide) (by omega) (fun c_2 => ?_) (fun c_2 => ?_)
    ·
      refine lv_iconst (v := nI (0)) hx hb dX1_isUsable_40 (by decide) ?_
      refine n_top (show (nI (0)) = (nI ((fitB 1 x y).toNat)) from by rw [show fitB 1 x y = false from decide_eq_false (by omega)]; rfl) ?_
      exact W.zret (v := (nI ((fitB 1 x y).toNat))) hx hb hr (by cases fitB 1 x y <;> rfl) (fun t ht hW => ⟨rfl, ht⟩) (fun q h => by cases h) dX1_isUsable_41
    ·
      refine lv_iconst (v := nI (1)) hx hb dX1_isUsable_36 (by decide) ?_
      refine lv_goto (tgt := 41) hx hb dX1_isUsable_37 (by decide) ?_
      refine n_top (show (nI (1)) = (nI ((fitB 1 x y).toNat)) from by rw [show fitB 1 x y = true from decide_eq_true (by omega)]; rfl) ?_
      exact W.zret (v := (nI ((fitB 1 x y).toNat))) hx hb hr (by cases fitB 1 x y <;> rfl) (fun t ht hW => ⟨rfl, ht⟩) (fun q h => by cases h) dX1_isUsable_41

set_option maxHeartbeats 4000000 in
set_option maxRecDepth 100000 in
theorem c_X1_isUsable_2 (l : Launch) (d : va_G) (cI : ClassId) (x y : Nat) (hx6 : x < 6) (hy6 : y < 6) : nRd l yX1_isUsable wsX1_isUsable ({ frames := 0, cells := 0, slots := 0, locals := 0 } : Room) d [(cI, .int)] [] [.int (nI (2)), .int (nI (x)), .int (nI (y))] (.int (nI ((fitB 2 x y).toNat))) := by
  refine Met.ofW (cc := cX1_isUsable) (maxL := 3) (ret := some .boolean) (by decide) rfl ?_
  intro p e s m args below meth c s₁ B hml hv
  obtain ⟨rfl, hP, hK⟩ := hv
  have hx := B.exec
  have hb := B.bytes
  have hr := B.returns
  have hts := atoms_spec (ws := wsX1_isUsable) B.pre
  have hown : s.vm.findClass RX1 = some m.cls := findClass_of_methodNamed B.named
  have hlocks := B.notSynchronized
  have hP : va_P d vwCl [] s.heap := hP
  have hl := lv_entry ([.int (nI (2)), .int (nI (x)), .int (nI (y))]) (n := 3) (Nat.le_of_ble_eq_true rfl)
  rw [lg_entry_eq]
  generalize (lg_sl ([.int (nI (2)), .int (nI (x)), .int (nI (y))]) ++ List.replicate (3 - (lg_sl ([.int (nI (2)), .int (nI (x)), .int (nI (y))])).length) Slot.unset).toArray = ls at hl ⊢
  have hl : lv_has ls 3 [(0, .int (nI (2))), (1, .int (nI (x))), (2, .int (nI (y)))] := hl
  refine lv_iload_n hx hb dX1_isUsable_0 rfl (lv_at hl 0 rfl) ?_
  refine lv_tableIn (x := nI (2)) (off := 41) (tgt := 42) hx hb dX1_isUsable_1 (by decide) (by decide) rfl (by decide) ?_
  refine lv_iload_n hx hb dX1_isUsable_42 rfl (lv_at hl 1 rfl) ?_
  refine lv_iconst (v := nI (5)) hx hb dX1_isUsable_43 (by decide) ?_
  refine n_icmp_ne (tgt := 56) hx hb dX1_isUsable_44 (by decide) (by omega) (by omega) (fun c_1 => ?_) (fun c_1 => ?_)
  ·
    refine lv_iconst (v := nI (0)) hx hb dX1_isUsable_56 (by decide) ?_
    refine n_top (show (nI (0)) = (nI ((fitB 2 x y).toNat)) from by rw [show fitB 2 x y = false from decide_eq_false (by omega)]; rfl) ?_
    exact W.zret (v := (nI ((fitB 2 x y).toNat))) hx hb hr (by cases fitB 2 x y <;> rfl) (fun t ht hW => ⟨rfl, ht⟩) (fun q h => by cases h) dX1_isUsable_57
  ·
    refine lv_iload_n hx hb dX1_isUsable_47 rfl (lv_at hl 2 rfl) ?_
    refine lv_iconst (v := nI (4)) hx hb dX1_isUsable_48 (by decide) ?_
    refine n_icmp_ne (tgt := 56) hx hb dX1_isUsable_49 (by decide) (by omega) (by omega) (fun c_2 => ?_) (fun c_2 => ?_)
    ·
      refine lv_iconst (v := nI (0)) hx hb dX1_isUsable_56 (by decide) ?_
      refine n_top (show (nI (0)) = (nI ((fitB 2 x y).toNat)) from by rw [show fitB 2 x y = false from decide_eq_false (by omega)]; rfl) ?_
      exact W.zret (v := (nI ((fitB 2 x y).toNat))) hx hb hr (by cases fitB 2 x y <;> rfl) (fun t ht hW => ⟨rfl, ht⟩) (fun q h => by cases h) dX1_isUsable_57
    ·
      refine lv_iconst (v := nI (1)) hx hb dX1_isUsable_52 (by decide) ?_
      refine lv_goto (tgt := 57) hx hb dX1_isUsable_53 (by decide) ?_
      refine n_top (show (nI (1)) = (nI ((fitB 2 x y).toNat)) from by rw [show fitB 2 x y = true from decide_eq_true (by omega)]; rfl) ?_
      exact W.zret (v := (nI ((fitB 2 x y).toNat))) hx hb hr (by cases fitB 2 x y <;> rfl) (fun t ht hW => ⟨rfl, ht⟩) (fun q h => by cases h) dX1_isUsable_57

set_option maxHeartbeats 4000000 in
set_option maxRecDepth 100000 in
theorem c_X1_isUsable_3 (l : Launch) (d : va_G) (cI : ClassId) (x y : Nat) (hx6 : x < 6) (hy6 : y < 6) : nRd l yX1_isUsable wsX1_isUsable ({ frames := 0, cells := 0, slots := 0, locals := 0 } : Room) d [(cI, .int)] [] [.int (nI (3)), .int (nI (x)), .int (nI (y))] (.int (nI ((fitB 3 x y).toNat))) := by
  refine Met.ofW (cc := cX1_isUsable) (maxL := 3) (ret := some .boolean) (by decide) rfl ?_
  intro p e s m args below meth c s₁ B hml hv
  obtain ⟨rfl, hP, hK⟩ := hv
  have hx := B.exec
  have hb := B.bytes
  have hr := B.returns
  have hts := atoms_spec (ws := wsX1_isUsable) B.pre
  have hown : s.vm.findClass RX1 = some m.cls := findClass_of_methodNamed B.named
  have hlocks := B.notSynchronized
  have hP : va_P d vwCl [] s.heap := hP
  have hl := lv_entry ([.int (nI (3)), .int (nI (x)), .int (nI (y))]) (n := 3) (Nat.le_of_ble_eq_true rfl)
  rw [lg_entry_eq]
  generalize (lg_sl ([.int (nI (3)), .int (nI (x)), .int (nI (y))]) ++ List.replicate (3 - (lg_sl ([.int (nI (3)), .int (nI (x)), .int (nI (y))])).length) Slot.unset).toArray = ls at hl ⊢
  have hl : lv_has ls 3 [(0, .int (nI (3))), (1, .int (nI (x))), (2, .int (nI (y)))] := hl
  refine lv_iload_n hx hb dX1_isUsable_0 rfl (lv_at hl 0 rfl) ?_
  refine lv_tableIn (x := nI (3)) (off := 57) (tgt := 58) hx hb dX1_isUsable_1 (by decide) (by decide) rfl (by decide) ?_
  refine lv_iload_n hx hb dX1_isUsable_58 rfl (lv_at hl 1 rfl) ?_
  refine lv_iconst (v := nI (3)) hx hb dX1_isUsable_59 (by decide) ?_
  refine n_icmp_ne (tgt := 72) hx hb dX1_isUsable_60 (by decide) (by omega) (by omega) (fun c_1 => ?_) (fun c_1 => ?_)
  ·
    refine lv_iconst (v := nI (0)) hx hb dX1_isUsable_72 (by decide) ?_
    refine n_top (show (nI (0)) = (nI ((fitB 3 x y).toNat)) from by rw [show fitB 3 x y = false from decide_eq_false (by omega)]; rfl) ?_
    exact W.zret (v := (nI ((fitB 3 x y).toNat))) hx hb hr (by cases fitB 3 x y <;> rfl) (fun t ht hW => ⟨rfl, ht⟩) (fun q h => by cases h) dX1_isUsable_73
  ·
    refine lv_iload_n hx hb dX1_isUsable_63 rfl (lv_at hl 2 rfl) ?_
    refine lv_iconst (v := nI (3)) hx hb dX1_isUsable_64 (by decide) ?_
    refine n_icmp_ne (tgt := 72) hx hb dX1_isUsable_65 (by decide) (by omega) (by omega) (fun c_2 => ?_) (fun c_2 => ?_)
    ·
      refine lv_iconst (v := nI (0)) hx hb dX1_isUsable_72 (by decide) ?_
      refine n_top (show (nI (0)) = (nI ((fitB 3 x y).toNat)) from by rw [show fitB 3 x y = false from decide_eq_false (by omega)]; rfl) ?_
      exact W.zret (v := (nI ((fitB 3 x y).toNat))) hx hb hr (by cases fitB 3 x y <;> rfl) (fun t ht hW => ⟨rfl, ht⟩) (fun q h => by cases h) dX1_isUsable_73
    ·
      refine lv_iconst (v := nI (1)) hx hb dX1_isUsable_68 (by decide) ?_
      refine lv_goto (tgt := 73) hx hb dX1_isUsable_69 (by decide) ?_
      refine n_top (show (nI (1)) = (nI ((fitB 3 x y).toNat)) from by rw [show fitB 3 x y = true from decide_eq_true (by omega)]; rfl) ?_
      exact W.zret (v := (nI ((fitB 3 x y).toNat))) hx hb hr (by cases fitB 3 x y <;> rfl) (fun t ht hW => ⟨rfl, ht⟩) (fun q h => by cases h) dX1_isUsable_73

set_option maxHeartbeats 4000000 in
set_option maxRecDepth 100000 in
theorem c_X1_isUsable_4 (l : Launch) (d : va_G) (cI : ClassId) (x y : Nat) (hx6 : x < 6) (hy6 : y < 6) : nRd l yX1_isUsable wsX1_isUsable ({ frames := 0, cells := 0, slots := 0, locals := 0 } : Room) d [(cI, .int)] [] [.int (nI (4)), .int (nI (x)), .int (nI (y))] (.int (nI ((fitB 4 x y).toNat))) := by
  refine Met.ofW (cc := cX1_isUsable) (maxL := 3) (ret := some .boolean) (by decide) rfl ?_
  intro p e s m args below meth c s₁ B hml hv
  obtain ⟨rfl, hP, hK⟩ := hv
  have hx := B.exec
  have hb := B.bytes
  have hr := B.returns
  have hts := atoms_spec (ws := wsX1_isUsable) B.pre
  have hown : s.vm.findClass RX1 = some m.cls := findClass_of_methodNamed B.named
  have hlocks := B.notSynchronized
  have hP : va_P d vwCl [] s.heap := hP
  have hl := lv_entry ([.int (nI (4)), .int (nI (x)), .int (nI (y))]) (n := 3) (Nat.le_of_ble_eq_true rfl)
  rw [lg_entry_eq]
  generalize (lg_sl ([.int (nI (4)), .int (nI (x)), .int (nI (y))]) ++ List.replicate (3 - (lg_sl ([.int (nI (4)), .int (nI (x)), .int (nI (y))])).length) Slot.unset).toArray = ls at hl ⊢
  have hl : lv_has ls 3 [(0, .int (nI (4))), (1, .int (nI (x))), (2, .int (nI (y)))] := hl
  refine lv_iload_n hx hb dX1_isUsable_0 rfl (lv_at hl 0 rfl) ?_
  refine lv_tableOut (x := nI (4)) (tgt := 74) hx hb dX1_isUsable_1 (by decide) (by decide) ?_
  refine lv_iload_n hx hb dX1_isUsable_74 rfl (lv_at hl 1 rfl) ?_
  refine lv_iconst (v := nI (2)) hx hb dX1_isUsable_75 (by decide) ?_
  refine n_icmp_ne (tgt := 88) hx hb dX1_isUsable_76 (by decide) (by omega) (by omega) (fun c_1 => ?_) (fun c_1 => ?_)
  ·
    refine lv_iconst (v := nI (0)) hx hb dX1_isUsable_88 (by decide) ?_
    refine n_top (show (nI (0)) = (nI ((fitB 4 x y).toNat)) from by rw [show fitB 4 x y = false from decide_eq_false (by omega)]; rfl) ?_
    exact W.zret (v := (nI ((fitB 4 x y).toNat))) hx hb hr (by cases fitB 4 x y <;> rfl) (fun t ht hW => ⟨rfl, ht⟩) (fun q h => by cases h) dX1_isUsable_89
  ·
    refine lv_iload_n hx hb dX1_isUsable_79 rfl (lv_at hl 2 rfl) ?_
    refine lv_iconst (v := nI (1)) hx hb dX1_isUsable_80 (by decide) ?_
    refine n_icmp_ne (tgt := 88) hx hb dX1_isUsable_81 (by decide) (by omega) (by omega) (fun c_2 => ?_) (fun c_2 => ?_)
    ·
      refine lv_iconst (v := nI (0)) hx hb dX1_isUsable_88 (by decide) ?_
      refine n_top (show (nI (0)) = (nI ((fitB 4 x y).toNat)) from by rw [show fitB 4 x y = false from decide_eq_false (by omega)]; rfl) ?_
      exact W.zret (v := (nI ((fitB 4 x y).toNat))) hx hb hr (by cases fitB 4 x y <;> rfl) (fun t ht hW => ⟨rfl, ht⟩) (fun q h => by cases h) dX1_isUsable_89
    ·
      refine lv_iconst (v := nI (1)) hx hb dX1_isUsable_84 (by decide) ?_
      refine lv_goto (tgt := 89) hx hb dX1_isUsable_85 (by decide) ?_
      refine n_top (show (nI (1)) = (nI ((fitB 4 x y).toNat)) from by rw [show fitB 4 x y = true from decide_eq_true (by omega)]; rfl) ?_
      exact W.zret (v := (nI ((fitB 4 x y).toNat))) hx hb hr (by cases fitB 4 x y <;> rfl) (fun t ht hW => ⟨rfl, ht⟩) (fun q h => by cases h) dX1_isUsable_89

theorem c_X1_isUsable (l : Launch) (d : va_G) (cI : ClassId) (r x y : Nat) (hr : r < 4) (hx6 : x < 6) (hy6 : y < 6) : nRd l yX1_isUsable wsX1_isUsable ({ frames := 0, cells := 0, slots := 0, locals := 0 } : Room) d [(cI, .int)] [] [.int (nI (r + 1)), .int (nI (x)), .int (nI (y))] (.int (nI ((fitB (r + 1) x y).toNat))) := by
  rcases lt4 hr with rfl | rfl | rfl | rfl
  · exact c_X1_isUsable_1 l d cI x y hx6 hy6
  · exact c_X1_isUsable_2 l d cI x y hx6 hy6
  · exact c_X1_isUsable_3 l d cI x y hx6 hy6
  · exact c_X1_isUsable_4 l d cI x y hx6 hy6
set_option maxHeartbeats 4000000 in
set_option maxRecDepth 100000 in
/-- the places of a code -/
theorem c_X1_unpack (l : Launch) (d : va_G) (cI : ClassId) (q a c0 : Nat) (f : Nat → Int32) (hc : c0 < 1296) : nUp l yX1_unpack wsX1_unpack ({ frames := 1, cells := 0, slots := 0, locals := 22 } : Room) d [(cI, .int)] [(q, .inr (2, [.ref a])), (a, .inl (cI, 4, .inl (f)))] [(q, .inr (2, [.ref a])), (a, .inl (cI, 4, .inl (fun j => nI (dig c0 j))))] [.int (nI (c0)), .ref q] none := by
  intro sz
  refine Met.ofW (cc := cX1_unpack) (maxL := 4) (ret := none) (by decide) rfl ?_
  intro p e s m args below meth c s₁ B hml hv
  obtain ⟨rfl, hsz, hP, hK, hD0⟩ := hv
  have hx := B.exec
  have hb := B.bytes
  have hr := B.returns
  have hts := atoms_spec (ws := wsX1_unpack) B.pre
  have hown : s.vm.findClass RX1 = some m.cls := findClass_of_methodNamed B.named
  have hlocks := B.notSynchronized
  subst hsz
  have hD := hD0.self (sz := s.heap.size)
  generalize hAe : va_A [(q, .inr (2, [.ref a])), (a, .inl (cI, 4, .inl (f)))] s.heap.size = A at hD ⊢
  have hA : ∀ q : Nat, s.heap.size ≤ q → A q := fun q h => by rw [← hAe]; exact Or.inr h
  have hS : va_S A s.heap s.heap [] := va_S.rf
  have hP : va_P d vwCl [(q, .inr (2, [.ref a])), (a, .inl (cI, 4, .inl (f)))] s.heap := hP
  have hl := lv_entry ([.int (nI (c0)), .ref q]) (n := 4) (Nat.le_of_ble_eq_true rfl)
  rw [lg_entry_eq]
  generalize (lg_sl ([.int (nI (c0)), .ref q]) ++ List.replicate (4 - (lg_sl ([.int (nI (c0)), .ref q])).length) Slot.unset).toArray = ls at hl ⊢
  have hl : lv_has ls 4 [(0, .int (nI (c0))), (1, .ref q)] := hl
  refine lv_iload_n hx hb dX1_unpack_0 rfl (lv_at hl 0 rfl) ?_
  refine lv_istore_n (lv' := [(2, .int (nI (c0))), (0, .int (nI (c0))), (1, .ref q)]) hx hb dX1_unpack_1 rfl hl (by decide) rfl (fun ls hl => ?_)
  refine lv_iconst (v := nI (3)) hx hb dX1_unpack_2 (by decide) ?_
  refine lv_istore_n (lv' := [(3, .int (nI (3))), (2, .int (nI (c0))), (0, .int (nI (c0))), (1, .ref q)]) hx hb dX1_unpack_3 rfl hl (by decide) rfl (fun ls hl => ?_)
  refine lv_iload_n hx hb dX1_unpack_4 rfl (lv_at hl 0 rfl) ?_
  refine n_iflt (tgt := 28) hx hb dX1_unpack_5 (by decide) (by decide) ?_
  refine lv_aload_n hx hb dX1_unpack_8 rfl (lv_at hl 3 rfl) ?_
  refine lv_iload_n hx hb dX1_unpack_9 rfl (lv_at hl 0 rfl) ?_
  refine lv_iload_n hx hb dX1_unpack_10 rfl (lv_at hl 1 rfl) ?_
  refine lv_bipush (v := nI (6)) hx hb dX1_unpack_11 (by decide) ?_
  refine n_rem hx hb dX1_unpack_13 (by omega) (by decide) (by decide) ?_
  refine n_upV (As := [.int (nI (3)), .int (nI (c0 % 6))]) (rest := []) (WC := [(q, .inr (2, [.ref a])), (a, .inl (cI, 4, .inl (f)))]) (WC' := [(q, .inr (2, [.ref a])), (a, .inl (cI, 4, .inl (upd f 3 (nI (c0 % 6)))))]) (wr := []) (WS' := [(q, .inr (2, [.ref a])), (a, .inl (cI, 4, .inl (upd f 3 (nI (c0 % 6)))))]) ⟨hx, hb, hml, hown, hts⟩ (c_X2_set l d cI q a 4 f 3 (nI (c0 % 6)) (by decide) (by decide)) (cwV 2 hts gX1_unpack_X2_set rfl rfl rfl (by decide +kernel) ⟨Nat.le_of_ble_eq_true rfl, Nat.le_of_ble_eq_true rfl⟩) (va_recv hK hP (ci := 2) (q0 := 0) rfl rfl) hP hD hS hA (hK) [0, 1] [] [0, 1] rfl rfl (by decide) ⟨by decide, by decide⟩ (by decide) rfl rfl hl.1 rfl (Nat.le_of_ble_eq_true rfl) dX1_unpack_14 ⟨Nat.zero_le _, Nat.zero_le _⟩ (fun H locs hP hD hS => ?_)
  show W _ _ _ _ _ _ _ _ _ _ _ _ _ _ _ (F0 m _ ls [])
  refine lv_iload_n hx hb dX1_unpack_17 rfl (lv_at hl 1 rfl) ?_
  refine lv_bipush (v := nI (6)) hx hb dX1_unpack_18 (by decide) ?_
  refine n_div hx hb dX1_unpack_20 (by omega) (by decide) (by decide) ?_
  refine lv_istore_n (lv' := [(2, .int (nI (c0 / 6))), (3, .int (nI (3))), (0, .int (nI (c0))), (1, .ref q)]) hx hb dX1_unpack_21 rfl hl (by decide) rfl (fun ls hl => ?_)
  refine lv_iinc (v := nI (2)) (lv' := [(3, .int (nI (2))), (2, .int (nI (c0 / 6))), (0, .int (nI (c0))), (1, .ref q)]) hx hb dX1_unpack_22 hl (k := 1) rfl (by decide) (by decide) rfl (fun ls hl => ?_)
  refine lv_goto (tgt := 4) hx hb dX1_unpack_25 (by decide) ?_
  refine lv_iload_n hx hb dX1_unpack_4 rfl (lv_at hl 0 rfl) ?_
  refine n_iflt (tgt := 28) hx hb dX1_unpack_5 (by decide) (by decide) ?_
  refine lv_aload_n hx hb dX1_unpack_8 rfl (lv_at hl 3 rfl) ?_
  refine lv_iload_n hx hb dX1_unpack_9 rfl (lv_at hl 0 rfl) ?_
  refine lv_iload_n hx hb dX1_unpack_10 rfl (lv_at hl 1 rfl) ?_
  refine lv_bipush (v := nI (6)) hx hb dX1_unpack_11 (by decide) ?_
  refine n_rem hx hb dX1_unpack_13 (by omega) (by decide) (by decide) ?_
  refine n_upV (As := [.int (nI (2)), .int (nI ((c0 / 6) % 6))]) (rest := []) (WC := [(q, .inr (2, [.ref a])), (a, .inl (cI, 4, .inl (upd f 3 (nI (c0 % 6)))))]) (WC' := [(q, .inr (2, [.ref a])), (a, .inl (cI, 4, .inl (upd (upd f 3 (nI (c0 % 6))) 2 (nI ((c0 / 6) % 6)))))]) (wr := []) (WS' := [(q, .inr (2, [.ref a])), (a, .inl (cI, 4, .inl (upd (upd f 3 (nI (c0 % 6))) 2 (nI ((c0 / 6) % 6)))))]) ⟨hx, hb, hml, hown, hts⟩ (c_X2_set l d cI q a 4 (upd f 3 (nI (c0 % 6))) 2 (nI ((c0 / 6) % 6)) (by decide) (by decide)) (cwV 2 hts gX1_unpack_X2_set rfl rfl rfl (by decide +kernel) ⟨Nat.le_of_ble_eq_true rfl, Nat.le_of_ble_eq_true rfl⟩) (va_recv hK hP (ci := 2) (q0 := 0) rfl rfl) hP hD hS hA (hK) [0, 1] [] [0, 1] rfl rfl (by decide) ⟨by decide, by decide⟩ (by decide) rfl rfl hl.1 rfl (Nat.le_of_ble_eq_true rfl) dX1_unpack_14 ⟨Nat.zero_le _, Nat.zero_le _⟩ (fun H locs hP hD hS => ?_)
  show W _ _ _ _ _ _ _ _ _ _ _ _ _ _ _ (F0 m _ ls [])
  refine lv_iload_n hx hb dX1_unpack_17 rfl (lv_at hl 1 rfl) ?_
  refine lv_bipush (v := nI (6)) hx hb dX1_unpack_18 (by decide) ?_
  refine n_div hx hb dX1_unpack_20 (by omega) (by decide) (by decide) ?_
  refine lv_istore_n (lv' := [(2, .int (nI ((c0 / 6) / 6))), (3, .int (nI (2))), (0, .int (nI (c0))), (1, .ref q)]) hx hb dX1_unpack_21 rfl hl (by decide) rfl (fun ls hl => ?_)
  refine lv_iinc (v := nI (1)) (lv' := [(3, .int (nI (1))), (2, .int (nI ((c0 / 6) / 6))), (0, .int (nI (c0))), (1, .ref q)]) hx hb dX1_unpack_22 hl (k := 1) rfl (by decide) (by decide) rfl (fun ls hl => ?_)
  refine lv_goto (tgt := 4) hx hb dX1_unpack_25 (by decide) ?_
  refine lv_iload_n hx hb dX1_unpack_4 rfl (lv_at hl 0 rfl) ?_
  refine n_iflt (tgt := 28) hx hb dX1_unpack_5 (by decide) (by decide) ?_
  refine lv_aload_n hx hb dX1_unpack_8 rfl (lv_at hl 3 rfl) ?_
  refine lv_iload_n hx hb dX1_unpack_9 rfl (lv_at hl 0 rfl) ?_
  refine lv_iload_n hx hb dX1_unpack_10 rfl (lv_at hl 1 rfl) ?_
  refine lv_bipush (v := nI (6)) hx hb dX1_unpack_11 (by decide) ?_
  refine n_rem hx hb dX1_unpack_13 (by omega) (by decide) (by decide) ?_
  refine n_upV (As := [.int (nI (1)), .int (nI (((c0 / 6) / 6) % 6))]) (rest := []) (WC := [(q, .inr (2, [.ref a])), (a, .inl (cI, 4, .inl (upd (upd f 3 (nI (c0 % 6))) 2 (nI ((c0 / 6) % 6)))))]) (WC' := [(q, .inr (2, [.ref a])), (a, .inl (cI, 4, .inl (upd (upd (upd f 3 (nI (c0 % 6))) 2 (nI ((c0 / 6) % 6))) 1 (nI (((c0 / 6) / 6) % 6)))))]) (wr := []) (WS' := [(q, .inr (2, [.ref a])), (a, .inl (cI, 4, .inl (upd (upd (upd f 3 (nI (c0 % 6))) 2 (nI ((c0 / 6) % 6))) 1 (nI (((c0 / 6) / 6) % 6)))))]) ⟨hx, hb, hml, hown, hts⟩ (c_X2_set l d cI q a 4 (upd (upd f 3 (nI (c0 % 6))) 2 (nI ((c0 / 6) % 6))) 1 (nI (((c0 / 6) / 6) % 6)) (by decide) (by decide)) (cwV 2 hts gX1_unpack_X2_set rfl rfl rfl (by decide +kernel) ⟨Nat.le_of_ble_eq_true rfl, Nat.le_of_ble_eq_true rfl⟩) (va_recv hK hP (ci := 2) (q0 := 0) rfl rfl) hP hD hS hA (hK) [0, 1] [] [0, 1] rfl rfl (by decide) ⟨by decide, by decide⟩ (by decide) rfl rfl hl.1 rfl (Nat.le_of_ble_eq_true rfl) dX1_unpack_14 ⟨Nat.zero_le _, Nat.zero_le _⟩ (fun H locs hP hD hS => ?_)
  show W _ _ _ _ _ _ _ _ _ _ _ _ _ _ _ (F0 m _ ls [])
  refine lv_iload_n hx hb dX1_unpack_17 rfl (lv_at hl 1 rfl) ?_
  refine lv_bipush (v := nI (6)) hx hb dX1_unpack_18 (by decide) ?_
  refine n_div hx hb dX1_unpack_20 (by omega) (by decide) (by decide) ?_
  refine lv_istore_n (lv' := [(2, .int (nI (((c0 / 6) / 6) / 6))), (3, .int (nI (1))), (0, .int (nI (c0))), (1, .ref q)]) hx hb dX1_unpack_21 rfl hl (by decide) rfl (fun ls hl => ?_)
  refine lv_iinc (v := nI (0)) (lv' := [(3, .int (nI (0))), (2, .int (nI (((c0 / 6) / 6) / 6))), (0, .int (nI (c0))), (1, .ref q)]) hx hb dX1_unpack_22 hl (k := 1) rfl (by decide) (by decide) rfl (fun ls hl => ?_)
  refine lv_goto (tgt := 4) hx hb dX1_unpack_25 (by decide) ?_
  refine lv_iload_n hx hb dX1_unpack_4 rfl (lv_at hl 0 rfl) ?_
  refine n_iflt (tgt := 28) hx hb dX1_unpack_5 (by decide) (by decide) ?_
  refine lv_aload_n hx hb dX1_unpack_8 rfl (lv_at hl 3 rfl) ?_
  refine lv_iload_n hx hb dX1_unpack_9 rfl (lv_at hl 0 rfl) ?_
  refine lv_iload_n hx hb dX1_unpack_10 rfl (lv_at hl 1 rfl) ?_
  refine lv_bipush (v := nI (6)) hx hb dX1_unpack_11 (by decide) ?_
  refine n_rem hx hb dX1_unpack_13 (by omega) (by decide) (by decide) ?_
  refine n_upV (As := [.int (nI (0)), .int (nI ((((c0 / 6) / 6) / 6) % 6))]) (rest := []) (WC := [(q, .inr (2, [.ref a])), (a, .inl (cI, 4, .inl (upd (upd (upd f 3 (nI (c0 % 6))) 2 (nI ((c0 / 6) % 6))) 1 (nI (((c0 / 6) / 6) % 6)))))]) (WC' := [(q, .inr (2, [.ref a])), (a, .inl (cI, 4, .inl (upd (upd (upd (upd f 3 (nI (c0 % 6))) 2 (nI ((c0 / 6) % 6))) 1 (nI (((c0 / 6) / 6) % 6))) 0 (nI ((((c0 / 6) / 6) / 6) % 6)))))]) (wr := []) (WS' := [(q, .inr (2, [.ref a])), (a, .inl (cI, 4, .inl (upd (upd (upd (upd f 3 (nI (c0 % 6))) 2 (nI ((c0 / 6) % 6))) 1 (nI (((c0 / 6) / 6) % 6))) 0 (nI ((((c0 / 6) / 6) / 6) % 6)))))]) ⟨hx, hb, hml, hown, hts⟩ (c_X2_set l d cI q a 4 (upd (upd (upd f 3 (nI (c0 % 6))) 2 (nI ((c0 / 6) % 6))) 1 (nI (((c0 / 6) / 6) % 6))) 0 (nI ((((c0 / 6) / 6) / 6) % 6)) (by decide) (by decide)) (cwV 2 hts gX1_unpack_X2_set rfl rfl rfl (by decide +kernel) ⟨Nat.le_of_ble_eq_true rfl, Nat.le_of_ble_eq_true rfl⟩) (va_recv hK hP (ci := 2) (q0 := 0) rfl rfl) hP hD hS hA (hK) [0, 1] [] [0, 1] rfl rfl (by decide) ⟨by decide, by decide⟩ (by decide) rfl rfl hl.1 rfl (Nat.le_of_ble_eq_true rfl) dX1_unpack_14 ⟨Nat.zero_le _, Nat.zero_le _⟩ (fun H locs hP hD hS => ?_)
  show W _ _ _ _ _ _ _ _ _ _ _ _ _ _ _ (F0 m _ ls [])
  refine lv_iload_n hx hb dX1_unpack_17 rfl (lv_at hl 1 rfl) ?_
  refine lv_bipush (v := nI (6)) hx hb dX1_unpack_18 (by decide) ?_
  refine n_div hx hb dX1_unpack_20 (by omega) (by decide) (by decide) ?_
  refine lv_istore_n (lv' := [(2, .int (nI ((((c0 / 6) / 6) / 6) / 6))), (3, .int (nI (0))), (0, .int (nI (c0))), (1, .ref q)]) hx hb dX1_unpack_21 rfl hl (by decide) rfl (fun ls hl => ?_)
  refine lv_iinc (v := (-1)) (lv' := [(3, .int (-1)), (2, .int (nI ((((c0 / 6) / 6) / 6) / 6))), (0, .int (nI (c0))), (1, .ref q)]) hx hb dX1_unpack_22 hl (k := 1) rfl (by decide) (by decide) rfl (fun ls hl => ?_)
  refine lv_goto (tgt := 4) hx hb dX1_unpack_25 (by decide) ?_
  refine lv_iload_n hx hb dX1_unpack_4 rfl (lv_at hl 0 rfl) ?_
  refine lv_if_lt (tgt := 28) hx hb dX1_unpack_5 (by decide) (fun c_5 => ?_) (fun c_5 => ?_)
  rotate_left
  · exact absurd c_5 (fun h => h (by decide))
  obtain ⟨hP, hD⟩ := n_cg (ws' := [(q, .inr (2, [.ref a])), (a, .inl (cI, 4, .inl (fun j => nI (dig c0 j))))]) hP hD 1 rfl (by intro j hj; rcases lt4 hj with rfl | rfl | rfl | rfl <;> simp only [upd, dig, wt] <;> simp <;> (try (congr 1; omega))) rfl
  exact W.vret hx hb hr (fun t ht hW => ⟨⟨rfl, by rw [ht]; exact hP, hD⟩, hS.F ht⟩) hS.2.2 dX1_unpack_28

set_option maxHeartbeats 4000000 in
set_option maxRecDepth 100000 in
/-- the code of the places -/
theorem c_X1_pack (l : Launch) (d : va_G) (cI : ClassId) (q a c0 : Nat) (hc : c0 < 1296) : nRd l yX1_pack wsX1_pack ({ frames := 1, cells := 0, slots := 0, locals := 21 } : Room) d [(cI, .int)] [(q, .inr (2, [.ref a])), (a, .inl (cI, 4, .inl (fun j => nI (dig c0 j))))] [.ref q] (.int (nI (c0))) := by
  refine Met.ofW (cc := cX1_pack) (maxL := 3) (ret := some .int) (by decide) rfl ?_
  intro p e s m args below meth c s₁ B hml hv
  obtain ⟨rfl, hP, hK⟩ := hv
  have hx := B.exec
  have hb := B.bytes
  have hr := B.returns
  have hts := atoms_spec (ws := wsX1_pack) B.pre
  have hown : s.vm.findClass RX1 = some m.cls := findClass_of_methodNamed B.named
  have hlocks := B.notSynchronized
  have hP : va_P d vwCl [(q, .inr (2, [.ref a])), (a, .inl (cI, 4, .inl (fun j => nI (dig c0 j))))] s.heap := hP
  have hl := lv_entry ([.ref q]) (n := 3) (Nat.le_of_ble_eq_true rfl)
  rw [lg_entry_eq]
  generalize (lg_sl ([.ref q]) ++ List.replicate (3 - (lg_sl ([.ref q])).length) Slot.unset).toArray = ls at hl ⊢
  have hl : lv_has ls 3 [(0, .ref q)] := hl
  refine lv_iconst (v := nI (0)) hx hb dX1_pack_0 (by decide) ?_
  refine lv_istore_n (lv' := [(1, .int (nI (0))), (0, .ref q)]) hx hb dX1_pack_1 rfl hl (by decide) rfl (fun ls hl => ?_)
  refine lv_iconst (v := nI (0)) hx hb dX1_pack_2 (by decide) ?_
  refine lv_istore_n (lv' := [(2, .int (nI (0))), (1, .int (nI (0))), (0, .ref q)]) hx hb dX1_pack_3 rfl hl (by decide) rfl (fun ls hl => ?_)
  refine lv_iload_n hx hb dX1_pack_4 rfl (lv_at hl 0 rfl) ?_
  refine lv_iconst (v := nI (4)) hx hb dX1_pack_5 (by decide) ?_
  refine n_icmp_ge (tgt := 26) hx hb dX1_pack_6 (by decide) (by decide) (by decide) (fun c_1 => ?_) (fun c_1 => ?_)
  · exact absurd c_1 (by decide)
  refine lv_iload_n hx hb dX1_pack_9 rfl (lv_at hl 1 rfl) ?_
  refine lv_bipush (v := nI (6)) hx hb dX1_pack_10 (by decide) ?_
  refine n_mul hx hb dX1_pack_12 ?_
  refine lv_aload_n hx hb dX1_pack_13 rfl (lv_at hl 2 rfl) ?_
  refine lv_iload_n hx hb dX1_pack_14 rfl (lv_at hl 0 rfl) ?_
  refine n_rdV (As := [.int (nI (0))]) (rest := [.int (nI (0))]) (WC := [(q, .inr (2, [.ref a])), (a, .inl (cI, 4, .inl (fun j => nI (dig c0 j))))]) ⟨hx, hb, hml, hown, hts⟩ (c_X2_get l d cI q a 4 (fun j => nI (dig c0 j)) 0 (by decide) (by decide)) (cwV 1 hts gX1_pack_X2_get rfl rfl rfl (by decide +kernel) ⟨Nat.le_of_ble_eq_true rfl, Nat.le_of_ble_eq_true rfl⟩) (va_recv hK hP (ci := 2) (q0 := 0) rfl rfl) (hP.sub [0, 1] rfl) (hK) rfl hl.1 rfl (Nat.le_of_ble_eq_true rfl) dX1_pack_15 ⟨Nat.zero_le _, Nat.zero_le _⟩ ?_
  refine n_add hx hb dX1_pack_18 ?_
  refine lv_istore_n (lv' := [(1, .int (nI (0 + (dig c0 0)))), (2, .int (nI (0))), (0, .ref q)]) hx hb dX1_pack_19 rfl hl (by decide) rfl (fun ls hl => ?_)
  refine lv_iinc (v := nI (1)) (lv' := [(2, .int (nI (1))), (1, .int (nI (0 + (dig c0 0)))), (0, .ref q)]) hx hb dX1_pack_20 hl (k := 1) rfl (by decide) (by decide) rfl (fun ls hl => ?_)
  refine lv_goto (tgt := 4) hx hb dX1_pack_23 (by decide) ?_
  refine lv_iload_n hx hb dX1_pack_4 rfl (lv_at hl 0 rfl) ?_
  refine lv_iconst (v := nI (4)) hx hb dX1_pack_5 (by decide) ?_
  refine n_icmp_ge (tgt := 26) hx hb dX1_pack_6 (by decide) (by decide) (by decide) (fun c_2 => ?_) (fun c_2 => ?_)
  · exact absurd c_2 (by decide)
  refine lv_iload_n hx hb dX1_pack_9 rfl (lv_at hl 1 rfl) ?_
  refine lv_bipush (v := nI (6)) hx hb dX1_pack_10 (by decide) ?_
  refine n_mul hx hb dX1_pack_12 ?_
  refine lv_aload_n hx hb dX1_pack_13 rfl (lv_at hl 2 rfl) ?_
  refine lv_iload_n hx hb dX1_pack_14 rfl (lv_at hl 0 rfl) ?_
  refine n_rdV (As := [.int (nI (1))]) (rest := [.int (nI ((0 + (dig c0 0)) * 6))]) (WC := [(q, .inr (2, [.ref a])), (a, .inl (cI, 4, .inl (fun j => nI (dig c0 j))))]) ⟨hx, hb, hml, hown, hts⟩ (c_X2_get l d cI q a 4 (fun j => nI (dig c0 j)) 1 (by decide) (by decide)) (cwV 1 hts gX1_pack_X2_get rfl rfl rfl (by decide +kernel) ⟨Nat.le_of_ble_eq_true rfl, Nat.le_of_ble_eq_true rfl⟩) (va_recv hK hP (ci := 2) (q0 := 0) rfl rfl) (hP.sub [0, 1] rfl) (hK) rfl hl.1 rfl (Nat.le_of_ble_eq_true rfl) dX1_pack_15 ⟨Nat.zero_le _, Nat.zero_le _⟩ ?_
  refine n_add hx hb dX1_pack_18 ?_
  refine lv_istore_n (lv' := [(1, .int (nI (((0 + (dig c0 0)) * 6) + (dig c0 1)))), (2, .int (nI (1))), (0, .ref q)]) hx hb dX1_pack_19 rfl hl (by decide) rfl (fun ls hl => ?_)
  refine lv_iinc (v := nI (2)) (lv' := [(2, .int (nI (2))), (1, .int (nI (((0 + (dig c0 0)) * 6) + (dig c0 1)))), (0, .ref q)]) hx hb dX1_pack_20 hl (k := 1) rfl (by decide) (by decide) rfl (fun ls hl => ?_)
  refine lv_goto (tgt := 4) hx hb dX1_pack_23 (by decide) ?_
  refine lv_iload_n hx hb dX1_pack_4 rfl (lv_at hl 0 rfl) ?_
  refine lv_iconst (v := nI (4)) hx hb dX1_pack_5 (by decide) ?_
  refine n_icmp_ge (tgt := 26) hx hb dX1_pack_6 (by decide) (by decide) (by decide) (fun c_3 => ?_) (fun c_3 => ?_)
  · exact absurd c_3 (by decide)
  refine lv_iload_n hx hb dX1_pack_9 rfl (lv_at hl 1 rfl) ?_
  refine lv_bipush (v := nI (6)) hx hb dX1_pack_10 (by decide) ?_
  refine n_mul hx hb dX1_pack_12 ?_
  refine lv_aload_n hx hb dX1_pack_13 rfl (lv_at hl 2 rfl) ?_
  refine lv_iload_n hx hb dX1_pack_14 rfl (lv_at hl 0 rfl) ?_
  refine n_rdV (As := [.int (nI (2))]) (rest := [.int (nI ((((0 + (dig c0 0)) * 6) + (dig c0 1)) * 6))]) (WC := [(q, .inr (2, [.ref a])), (a, .inl (cI, 4, .inl (fun j => nI (dig c0 j))))]) ⟨hx, hb, hml, hown, hts⟩ (c_X2_get l d cI q a 4 (fun j => nI (dig c0 j)) 2 (by decide) (by decide)) (cwV 1 hts gX1_pack_X2_get rfl rfl rfl (by decide +kernel) ⟨Nat.le_of_ble_eq_true rfl, Nat.le_of_ble_eq_true rfl⟩) (va_recv hK hP (ci := 2) (q0 := 0) rfl rfl) (hP.sub [0, 1] rfl) (hK) rfl hl.1 rfl (Nat.le_of_ble_eq_true rfl) dX1_pack_15 ⟨Nat.zero_le _, Nat.zero_le _⟩ ?_
  refine n_add hx hb dX1_pack_18 ?_
  refine lv_istore_n (lv' := [(1, .int (nI (((((0 + (dig c0 0)) * 6) + (dig c0 1)) * 6) + (dig c0 2)))), (2, .int (nI (2))), (0, .ref q)]) hx hb dX1_pack_19 rfl hl (by decide) rfl (fun ls hl => ?_)
  refine lv_iinc (v := nI (3)) (lv' := [(2, .int (nI (3))), (1, .int (nI (((((0 + (dig c0 0)) * 6) + (dig c0 1)) * 6) + (dig c0 2)))), (0, .ref q)]) hx hb dX1_pack_20 hl (k := 1) rfl (by decide) (by decide) rfl (fun ls hl => ?_)
  refine lv_goto (tgt := 4) hx hb dX1_pack_23 (by decide) ?_
  refine lv_iload_n hx hb dX1_pack_4 rfl (lv_at hl 0 rfl) ?_
  refine lv_iconst (v := nI (4)) hx hb dX1_pack_5 (by decide) ?_
  refine n_icmp_ge (tgt := 26) hx hb dX1_pack_6 (by decide) (by decide) (by decide) (fun c_4 => ?_) (fun c_4 => ?_)
  · exact absurd c_4 (by decide)
  refine lv_iload_n hx hb dX1_pack_9 rfl (lv_at hl 1 rfl) ?_
  refine lv_bipush (v := nI (6)) hx hb dX1_pack_10 (by decide) ?_
  refine n_mul hx hb dX1_pack_12 ?_
  refine lv_aload_n hx hb dX1_pack_13 rfl (lv_at hl 2 rfl) ?_
  refine lv_iload_n hx hb dX1_pack_14 rfl (lv_at hl 0 rfl) ?_
  refine n_rdV (As := [.int (nI (3))]) (rest := [.int (nI ((((((0 + (dig c0 0)) * 6) + (dig c0 1)) * 6) + (dig c0 2)) * 6))]) (WC := [(q, .inr (2, [.ref a])), (a, .inl (cI, 4, .inl (fun j => nI (dig c0 j))))]) ⟨hx, hb, hml, hown, hts⟩ (c_X2_get l d cI q a 4 (fun j => nI (dig c0 j)) 3 (by decide) (by decide)) (cwV 1 hts gX1_pack_X2_get rfl rfl rfl (by decide +kernel) ⟨Nat.le_of_ble_eq_true rfl, Nat.le_of_ble_eq_true rfl⟩) (va_recv hK hP (ci := 2) (q0 := 0) rfl rfl) (hP.sub [0, 1] rfl) (hK) rfl hl.1 rfl (Nat.le_of_ble_eq_true rfl) dX1_pack_15 ⟨Nat.zero_le _, Nat.zero_le _⟩ ?_
  refine n_add hx hb dX1_pack_18 ?_
  refine lv_istore_n (lv' := [(1, .int (nI (((((((0 + (dig c0 0)) * 6) + (dig c0 1)) * 6) + (dig c0 2)) * 6) + (dig c0 3)))), (2, .int (nI (3))), (0, .ref q)]) hx hb dX1_pack_19 rfl hl (by decide) rfl (fun ls hl => ?_)
  refine lv_iinc (v := nI (4)) (lv' := [(2, .int (nI (4))), (1, .int (nI (((((((0 + (dig c0 0)) * 6) + (dig c0 1)) * 6) + (dig c0 2)) * 6) + (dig c0 3)))), (0, .ref q)]) hx hb dX1_pack_20 hl (k := 1) rfl (by decide) (by decide) rfl (fun ls hl => ?_)
  refine lv_goto (tgt := 4) hx hb dX1_pack_23 (by decide) ?_
  refine lv_iload_n hx hb dX1_pack_4 rfl (lv_at hl 0 rfl) ?_
  refine lv_iconst (v := nI (4)) hx hb dX1_pack_5 (by decide) ?_
  refine n_icmp_ge (tgt := 26) hx hb dX1_pack_6 (by decide) (by decide) (by decide) (fun c_5 => ?_) (fun c_5 => ?_)
  rotate_left
  · exact absurd c_5 (by decide)
  refine lv_iload_n hx hb dX1_pack_26 rfl (lv_at hl 1 rfl) ?_
  refine n_top (show (nI (((((((0 + (dig c0 0)) * 6) + (dig c0 1)) * 6) + (dig c0 2)) * 6) + (dig c0 3))) = (nI (c0)) from congrArg nI (by have h := pack_eq hc; omega)) ?_
  exact W.iret (v := (nI (c0))) hx hb hr (fun t ht hW => ⟨rfl, ht⟩) (fun q h => by cases h) dX1_pack_27

set_option maxHeartbeats 4000000 in
set_option maxRecDepth 100000 in
theorem c_X1_use_1 (l : Launch) (d : va_G) (cI : ClassId) (q a c0 pl : Nat) (hc : c0 < 1296) (hpl : pl < 3) (hf : fkb c0 (pl) = true) : nUp l yX1_use wsX1_use ({ frames := 1, cells := 0, slots := 0, locals := 22 } : Room) d [(cI, .int)] [(q, .inr (2, [.ref a])), (a, .inl (cI, 4, .inl (fun j => nI (dig c0 j))))] [(q, .inr (2, [.ref a])), (a, .inl (cI, 4, .inl (fun j => nI (dig (stp c0 (pl)) j))))] [.int (nI (1)), .ref q, .int (nI (pl))] none := by
  intro sz
  refine Met.ofW (cc := cX1_use) (maxL := 5) (ret := none) (by decide) rfl ?_
  intro p e s m args below meth c s₁ B hml hv
  obtain ⟨rfl, hsz, hP, hK, hD0⟩ := hv
  have hx := B.exec
  have hb := B.bytes
  have hr := B.returns
  have hts := atoms_spec (ws := wsX1_use) B.pre
  have hown : s.vm.findClass RX1 = some m.cls := findClass_of_methodNamed B.named
  have hlocks := B.notSynchronized
  subst hsz
  have hD := hD0.self (sz := s.heap.size)
  generalize hAe : va_A [(q, .inr (2, [.ref a])), (a, .inl (cI, 4, .inl (fun j => nI (dig c0 j))))] s.heap.size = A at hD ⊢
  have hA : ∀ q : Nat, s.heap.size ≤ q → A q := fun q h => by rw [← hAe]; exact Or.inr h
  have hS : va_S A s.heap s.heap [] := va_S.rf
  have hP : va_P d vwCl [(q, .inr (2, [.ref a])), (a, .inl (cI, 4, .inl (fun j => nI (dig c0 j))))] s.heap := hP
  have hl := lv_entry ([.int (nI (1)), .ref q, .int (nI (pl))]) (n := 5) (Nat.le_of_ble_eq_true rfl)
  rw [lg_entry_eq]
  generalize (lg_sl ([.int (nI (1)), .ref q, .int (nI (pl))]) ++ List.replicate (5 - (lg_sl ([.int (nI (1)), .ref q, .int (nI (pl))])).length) Slot.unset).toArray = ls at hl ⊢
  have hl : lv_has ls 5 [(0, .int (nI (1))), (1, .ref q), (2, .int (nI (pl)))] := hl
  refine lv_aload_n hx hb dX1_use_0 rfl (lv_at hl 1 rfl) ?_
  refine lv_iload_n hx hb dX1_use_1 rfl (lv_at hl 2 rfl) ?_
  refine n_rdV (As := [.int (nI (pl))]) (rest := []) (WC := [(q, .inr (2, [.ref a])), (a, .inl (cI, 4, .inl (fun j => nI (dig c0 j))))]) ⟨hx, hb, hml, hown, hts⟩ (c_X2_get l d cI q a 4 (fun j => nI (dig c0 j)) pl (by omega) (by decide)) (cwV 1 hts gX1_use_X2_get rfl rfl rfl (by decide +kernel) ⟨Nat.le_of_ble_eq_true rfl, Nat.le_of_ble_eq_true rfl⟩) (va_recv hK hP (ci := 2) (q0 := 0) rfl rfl) (hP.sub [0, 1] rfl) (hK) rfl hl.1 rfl (Nat.le_of_ble_eq_true rfl) dX1_use_2 ⟨Nat.zero_le _, Nat.zero_le _⟩ ?_
  refine lv_istore_n (lv' := [(3, .int (nI (dig c0 pl))), (0, .int (nI (1))), (1, .ref q), (2, .int (nI (pl)))]) hx hb dX1_use_5 rfl hl (by decide) rfl (fun ls hl => ?_)
  refine lv_aload_n hx hb dX1_use_6 rfl (lv_at hl 2 rfl) ?_
  refine lv_iload_n hx hb dX1_use_7 rfl (lv_at hl 3 rfl) ?_
  refine lv_iconst (v := nI (1)) hx hb dX1_use_8 (by decide) ?_
  refine n_add hx hb dX1_use_9 ?_
  refine n_rdV (As := [.int (nI (pl + 1))]) (rest := []) (WC := [(q, .inr (2, [.ref a])), (a, .inl (cI, 4, .inl (fun j => nI (dig c0 j))))]) ⟨hx, hb, hml, hown, hts⟩ (c_X2_get l d cI q a 4 (fun j => nI (dig c0 j)) (pl + 1) (by omega) (by decide)) (cwV 1 hts gX1_use_X2_get rfl rfl rfl (by decide +kernel) ⟨Nat.le_of_ble_eq_true rfl, Nat.le_of_ble_eq_true rfl⟩) (va_recv hK hP (ci := 2) (q0 := 0) rfl rfl) (hP.sub [0, 1] rfl) (hK) rfl hl.1 rfl (Nat.le_of_ble_eq_true rfl) dX1_use_10 ⟨Nat.zero_le _, Nat.zero_le _⟩ ?_
  refine lv_istore (lv' := [(4, .int (nI (dig c0 (pl + 1)))), (3, .int (nI (dig c0 pl))), (0, .int (nI (1))), (1, .ref q), (2, .int (nI (pl)))]) hx hb dX1_use_13 hl (by decide) rfl (fun ls hl => ?_)
  refine lv_iload_n hx hb dX1_use_15 rfl (lv_at hl 2 rfl) ?_
  refine lv_tableIn (x := nI (1)) (off := 28) (tgt := 44) hx hb dX1_use_16 (by decide) (by decide) rfl (by decide) ?_
  refine lv_aload_n hx hb dX1_use_44 rfl (lv_at hl 3 rfl) ?_
  refine lv_iload_n hx hb dX1_use_45 rfl (lv_at hl 4 rfl) ?_
  refine lv_iload hx hb dX1_use_46 (lv_at hl 0 rfl) ?_
  refine n_upV (As := [.int (nI (pl)), .int (nI (dig c0 (pl + 1)))]) (rest := []) (WC := [(q, .inr (2, [.ref a])), (a, .inl (cI, 4, .inl (fun j => nI (dig c0 j))))]) (WC' := [(q, .inr (2, [.ref a])), (a, .inl (cI, 4, .inl (upd (fun j => nI (dig c0 j)) pl (nI (dig c0 (pl + 1))))))]) (wr := []) (WS' := [(q, .inr (2, [.ref a])), (a, .inl (cI, 4, .inl (upd (fun j => nI (dig c0 j)) pl (nI (dig c0 (pl + 1))))))]) ⟨hx, hb, hml, hown, hts⟩ (c_X2_set l d cI q a 4 (fun j => nI (dig c0 j)) pl (nI (dig c0 (pl + 1))) (by omega) (by decide)) (cwV 2 hts gX1_use_X2_set rfl rfl rfl (by decide +kernel) ⟨Nat.le_of_ble_eq_true rfl, Nat.le_of_ble_eq_true rfl⟩) (va_recv hK hP (ci := 2) (q0 := 0) rfl rfl) hP hD hS hA (hK) [0, 1] [] [0, 1] rfl rfl (by decide) ⟨by decide, by decide⟩ (by decide) rfl rfl hl.1 rfl (Nat.le_of_ble_eq_true rfl) dX1_use_48 ⟨Nat.zero_le _, Nat.zero_le _⟩ (fun H locs hP hD hS => ?_)
  show W _ _ _ _ _ _ _ _ _ _ _ _ _ _ _ (F0 m _ ls [])
  refine lv_aload_n hx hb dX1_use_51 rfl (lv_at hl 3 rfl) ?_
  refine lv_iload_n hx hb dX1_use_52 rfl (lv_at hl 4 rfl) ?_
  refine lv_iconst (v := nI (1)) hx hb dX1_use_53 (by decide) ?_
  refine n_add hx hb dX1_use_54 ?_
  refine lv_iload_n hx hb dX1_use_55 rfl (lv_at hl 1 rfl) ?_
  refine n_upV (As := [.int (nI (pl + 1)), .int (nI (dig c0 pl))]) (rest := []) (WC := [(q, .inr (2, [.ref a])), (a, .inl (cI, 4, .inl (upd (fun j => nI (dig c0 j)) pl (nI (dig c0 (pl + 1))))))]) (WC' := [(q, .inr (2, [.ref a])), (a, .inl (cI, 4, .inl (upd (upd (fun j => nI (dig c0 j)) pl (nI (dig c0 (pl + 1)))) (pl + 1) (nI (dig c0 pl)))))]) (wr := []) (WS' := [(q, .inr (2, [.ref a])), (a, .inl (cI, 4, .inl (upd (upd (fun j => nI (dig c0 j)) pl (nI (dig c0 (pl + 1)))) (pl + 1) (nI (dig c0 pl)))))]) ⟨hx, hb, hml, hown, hts⟩ (c_X2_set l d cI q a 4 (upd (fun j => nI (dig c0 j)) pl (nI (dig c0 (pl + 1)))) (pl + 1) (nI (dig c0 pl)) (by omega) (by decide)) (cwV 2 hts gX1_use_X2_set rfl rfl rfl (by decide +kernel) ⟨Nat.le_of_ble_eq_true rfl, Nat.le_of_ble_eq_true rfl⟩) (va_recv hK hP (ci := 2) (q0 := 0) rfl rfl) hP hD hS hA (hK) [0, 1] [] [0, 1] rfl rfl (by decide) ⟨by decide, by decide⟩ (by decide) rfl rfl hl.1 rfl (Nat.le_of_ble_eq_true rfl) dX1_use_56 ⟨Nat.zero_le _, Nat.zero_le _⟩ (fun H locs hP hD hS => ?_)
  show W _ _ _ _ _ _ _ _ _ _ _ _ _ _ _ (F0 m _ ls [])
  refine lv_goto (tgt := 87) hx hb dX1_use_59 (by decide) ?_
  obtain ⟨hP, hD⟩ := n_cg (ws' := [(q, .inr (2, [.ref a])), (a, .inl (cI, 4, .inl (fun j => nI (dig (stp c0 (pl)) j))))]) hP hD 1 rfl (by intro j hj; have h := (stp_ok hc (show pl < 12 from by omega) hf).2 j hj; rw [show (pl) % 3 = pl from by omega] at h; rw [if_pos (by omega)] at h; rw [h]; unfold upd; by_cases h1 : j = pl + 1 <;> by_cases h2 : j = pl <;> simp [h1, h2] <;> omega) rfl
  exact W.vret hx hb hr (fun t ht hW => ⟨⟨rfl, by rw [ht]; exact hP, hD⟩, hS.F ht⟩) hS.2.2 dX1_use_87

set_option maxHeartbeats 4000000 in
set_option maxRecDepth 100000 in
theorem c_X1_use_2 (l : Launch) (d : va_G) (cI : ClassId) (q a c0 pl : Nat) (hc : c0 < 1296) (hpl : pl < 3) (hf : fkb c0 (3 + pl) = true) : nUp l yX1_use wsX1_use ({ frames := 1, cells := 0, slots := 0, locals := 22 } : Room) d [(cI, .int)] [(q, .inr (2, [.ref a])), (a, .inl (cI, 4, .inl (fun j => nI (dig c0 j))))] [(q, .inr (2, [.ref a])), (a, .inl (cI, 4, .inl (fun j => nI (dig (stp c0 (3 + pl)) j))))] [.int (nI (2)), .ref q, .int (nI (pl))] none := by
  intro sz
  refine Met.ofW (cc := cX1_use) (maxL := 5) (ret := none) (by decide) rfl ?_
  intro p e s m args below meth c s₁ B hml hv
  obtain ⟨rfl, hsz, hP, hK, hD0⟩ := hv
  have hx := B.exec
  have hb := B.bytes
  have hr := B.returns
  have hts := atoms_spec (ws := wsX1_use) B.pre
  have hown : s.vm.findClass RX1 = some m.cls := findClass_of_methodNamed B.named
  have hlocks := B.notSynchronized
  subst hsz
  have hD := hD0.self (sz := s.heap.size)
  generalize hAe : va_A [(q, .inr (2, [.ref a])), (a, .inl (cI, 4, .inl (fun j => nI (dig c0 j))))] s.heap.size = A at hD ⊢
  have hA : ∀ q : Nat, s.heap.size ≤ q → A q := fun q h => by rw [← hAe]; exact Or.inr h
  have hS : va_S A s.heap s.heap [] := va_S.rf
  have hP : va_P d vwCl [(q, .inr (2, [.ref a])), (a, .inl (cI, 4, .inl (fun j => nI (dig c0 j))))] s.heap := hP
  have hl := lv_entry ([.int (nI (2)), .ref q, .int (nI (pl))]) (n := 5) (Nat.le_of_ble_eq_true rfl)
  rw [lg_entry_eq]
  generalize (lg_sl ([.int (nI (2)), .ref q, .int (nI (pl))]) ++ List.replicate (5 - (lg_sl ([.int (nI (2)), .ref q, .int (nI (pl))])).length) Slot.unset).toArray = ls at hl ⊢
  have hl : lv_has ls 5 [(0, .int (nI (2))), (1, .ref q), (2, .int (nI (pl)))] := hl
  refine lv_aload_n hx hb dX1_use_0 rfl (lv_at hl 1 rfl) ?_
  refine lv_iload_n hx hb dX1_use_1 rfl (lv_at hl 2 rfl) ?_
  refine n_rdV (As := [.int (nI (pl))]) (rest := []) (WC := [(q, .inr (2, [.ref a])), (a, .inl (cI, 4, .inl (fun j => nI (dig c0 j))))]) ⟨hx, hb, hml, hown, hts⟩ (c_X2_get l d cI q a 4 (fun j => nI (dig c0 j)) pl (by omega) (by decide)) (cwV 1 hts gX1_use_X2_get rfl rfl rfl (by decide +kernel) ⟨Nat.le_of_ble_eq_true rfl, Nat.le_of_ble_eq_true rfl⟩) (va_recv hK hP (ci := 2) (q0 := 0) rfl rfl) (hP.sub [0, 1] rfl) (hK) rfl hl.1 rfl (Nat.le_of_ble_eq_true rfl) dX1_use_2 ⟨Nat.zero_le _, Nat.zero_le _⟩ ?_
  refine lv_istore_n (lv' := [(3, .int (nI (dig c0 pl))), (0, .int (nI (2))), (1, .ref q), (2, .int (nI (pl)))]) hx hb dX1_use_5 rfl hl (by decide) rfl (fun ls hl => ?_)
  refine lv_aload_n hx hb dX1_use_6 rfl (lv_at hl 2 rfl) ?_
  refine lv_iload_n hx hb dX1_use_7 rfl (lv_at hl 3 rfl) ?_
  refine lv_iconst (v := nI (1)) hx hb dX1_use_8 (by decide) ?_
  refine n_add hx hb dX1_use_9 ?_
  refine n_rdV (As := [.int (nI (pl + 1))]) (rest := []) (WC := [(q, .inr (2, [.ref a])), (a, .inl (cI, 4, .inl (fun j => nI (dig c0 j))))]) ⟨hx, hb, hml, hown, hts⟩ (c_X2_get l d cI q a 4 (fun j => nI (dig c0 j)) (pl + 1) (by omega) (by decide)) (cwV 1 hts gX1_use_X2_get rfl rfl rfl (by decide +kernel) ⟨Nat.le_of_ble_eq_true rfl, Nat.le_of_ble_eq_true rfl⟩) (va_recv hK hP (ci := 2) (q0 := 0) rfl rfl) (hP.sub [0, 1] rfl) (hK) rfl hl.1 rfl (Nat.le_of_ble_eq_true rfl) dX1_use_10 ⟨Nat.zero_le _, Nat.zero_le _⟩ ?_
  refine lv_istore (lv' := [(4, .int (nI (dig c0 (pl + 1)))), (3, .int (nI (dig c0 pl))), (0, .int (nI (2))), (1, .ref q), (2, .int (nI (pl)))]) hx hb dX1_use_13 hl (by decide) rfl (fun ls hl => ?_)
  refine lv_iload_n hx hb dX1_use_15 rfl (lv_at hl 2 rfl) ?_
  refine lv_tableIn (x := nI (2)) (off := 28) (tgt := 44) hx hb dX1_use_16 (by decide) (by decide) rfl (by decide) ?_
  refine lv_aload_n hx hb dX1_use_44 rfl (lv_at hl 3 rfl) ?_
  refine lv_iload_n hx hb dX1_use_45 rfl (lv_at hl 4 rfl) ?_
  refine lv_iload hx hb dX1_use_46 (lv_at hl 0 rfl) ?_
  refine n_upV (As := [.int (nI (pl)), .int (nI (dig c0 (pl + 1)))]) (rest := []) (WC := [(q, .inr (2, [.ref a])), (a, .inl (cI, 4, .inl (fun j => nI (dig c0 j))))]) (WC' := [(q, .inr (2, [.ref a])), (a, .inl (cI, 4, .inl (upd (fun j => nI (dig c0 j)) pl (nI (dig c0 (pl + 1))))))]) (wr := []) (WS' := [(q, .inr (2, [.ref a])), (a, .inl (cI, 4, .inl (upd (fun j => nI (dig c0 j)) pl (nI (dig c0 (pl + 1))))))]) ⟨hx, hb, hml, hown, hts⟩ (c_X2_set l d cI q a 4 (fun j => nI (dig c0 j)) pl (nI (dig c0 (pl + 1))) (by omega) (by decide)) (cwV 2 hts gX1_use_X2_set rfl rfl rfl (by decide +kernel) ⟨Nat.le_of_ble_eq_true rfl, Nat.le_of_ble_eq_true rfl⟩) (va_recv hK hP (ci := 2) (q0 := 0) rfl rfl) hP hD hS hA (hK) [0, 1] [] [0, 1] rfl rfl (by decide) ⟨by decide, by decide⟩ (by decide) rfl rfl hl.1 rfl (Nat.le_of_ble_eq_true rfl) dX1_use_48 ⟨Nat.zero_le _, Nat.zero_le _⟩ (fun H locs hP hD hS => ?_)
  show W _ _ _ _ _ _ _ _ _ _ _ _ _ _ _ (F0 m _ ls [])
  refine lv_aload_n hx hb dX1_use_51 rfl (lv_at hl 3 rfl) ?_
  refine lv_iload_n hx hb dX1_use_52 rfl (lv_at hl 4 rfl) ?_
  refine lv_iconst (v := nI (1)) hx hb dX1_use_53 (by decide) ?_
  refine n_add hx hb dX1_use_54 ?_
  refine lv_iload_n hx hb dX1_use_55 rfl (lv_at hl 1 rfl) ?_
  refine n_upV (As := [.int (nI (pl + 1)), .int (nI (dig c0 pl))]) (rest := []) (WC := [(q, .inr (2, [.ref a])), (a, .inl (cI, 4, .inl (upd (fun j => nI (dig c0 j)) pl (nI (dig c0 (pl + 1))))))]) (WC' := [(q, .inr (2, [.ref a])), (a, .inl (cI, 4, .inl (upd (upd (fun j => nI (dig c0 j)) pl (nI (dig c0 (pl + 1)))) (pl + 1) (nI (dig c0 pl)))))]) (wr := []) (WS' := [(q, .inr (2, [.ref a])), (a, .inl (cI, 4, .inl (upd (upd (fun j => nI (dig c0 j)) pl (nI (dig c0 (pl + 1)))) (pl + 1) (nI (dig c0 pl)))))]) ⟨hx, hb, hml, hown, hts⟩ (c_X2_set l d cI q a 4 (upd (fun j => nI (dig c0 j)) pl (nI (dig c0 (pl + 1)))) (pl + 1) (nI (dig c0 pl)) (by omega) (by decide)) (cwV 2 hts gX1_use_X2_set rfl rfl rfl (by decide +kernel) ⟨Nat.le_of_ble_eq_true rfl, Nat.le_of_ble_eq_true rfl⟩) (va_recv hK hP (ci := 2) (q0 := 0) rfl rfl) hP hD hS hA (hK) [0, 1] [] [0, 1] rfl rfl (by decide) ⟨by decide, by decide⟩ (by decide) rfl rfl hl.1 rfl (Nat.le_of_ble_eq_true rfl) dX1_use_56 ⟨Nat.zero_le _, Nat.zero_le _⟩ (fun H locs hP hD hS => ?_)
  show W _ _ _ _ _ _ _ _ _ _ _ _ _ _ _ (F0 m _ ls [])
  refine lv_goto (tgt := 87) hx hb dX1_use_59 (by decide) ?_
  obtain ⟨hP, hD⟩ := n_cg (ws' := [(q, .inr (2, [.ref a])), (a, .inl (cI, 4, .inl (fun j => nI (dig (stp c0 (3 + pl)) j))))]) hP hD 1 rfl (by intro j hj; have h := (stp_ok hc (show 3 + pl < 12 from by omega) hf).2 j hj; rw [show (3 + pl) % 3 = pl from by omega] at h; rw [if_pos (by omega)] at h; rw [h]; unfold upd; by_cases h1 : j = pl + 1 <;> by_cases h2 : j = pl <;> simp [h1, h2] <;> omega) rfl
  exact W.vret hx hb hr (fun t ht hW => ⟨⟨rfl, by rw [ht]; exact hP, hD⟩, hS.F ht⟩) hS.2.2 dX1_use_87

set_option maxHeartbeats 4000000 in
set_option maxRecDepth 100000 in
theorem c_X1_use_3 (l : Launch) (d : va_G) (cI : ClassId) (q a c0 pl : Nat) (hc : c0 < 1296) (hpl : pl < 3) (hf : fkb c0 (6 + pl) = true) : nUp l yX1_use wsX1_use ({ frames := 1, cells := 0, slots := 0, locals := 22 } : Room) d [(cI, .int)] [(q, .inr (2, [.ref a])), (a, .inl (cI, 4, .inl (fun j => nI (dig c0 j))))] [(q, .inr (2, [.ref a])), (a, .inl (cI, 4, .inl (fun j => nI (dig (stp c0 (6 + pl)) j))))] [.int (nI (3)), .ref q, .int (nI (pl))] none := by
  intro sz
  refine Met.ofW (cc := cX1_use) (maxL := 5) (ret := none) (by decide) rfl ?_
  intro p e s m args below meth c s₁ B hml hv
  obtain ⟨rfl, hsz, hP, hK, hD0⟩ := hv
  have hx := B.exec
  have hb := B.bytes
  have hr := B.returns
  have hts := atoms_spec (ws := wsX1_use) B.pre
  have hown : s.vm.findClass RX1 = some m.cls := findClass_of_methodNamed B.named
  have hlocks := B.notSynchronized
  subst hsz
  have hD := hD0.self (sz := s.heap.size)
  generalize hAe : va_A [(q, .inr (2, [.ref a])), (a, .inl (cI, 4, .inl (fun j => nI (dig c0 j))))] s.heap.size = A at hD ⊢
  have hA : ∀ q : Nat, s.heap.size ≤ q → A q := fun q h => by rw [← hAe]; exact Or.inr h
  have hS : va_S A s.heap s.heap [] := va_S.rf
  have hP : va_P d vwCl [(q, .inr (2, [.ref a])), (a, .inl (cI, 4, .inl (fun j => nI (dig c0 j))))] s.heap := hP
  have hl := lv_entry ([.int (nI (3)), .ref q, .int (nI (pl))]) (n := 5) (Nat.le_of_ble_eq_true rfl)
  rw [lg_entry_eq]
  generalize (lg_sl ([.int (nI (3)), .ref q, .int (nI (pl))]) ++ List.replicate (5 - (lg_sl ([.int (nI (3)), .ref q, .int (nI (pl))])).length) Slot.unset).toArray = ls at hl ⊢
  have hl : lv_has ls 5 [(0, .int (nI (3))), (1, .ref q), (2, .int (nI (pl)))] := hl
  refine lv_aload_n hx hb dX1_use_0 rfl (lv_at hl 1 rfl) ?_
  refine lv_iload_n hx hb dX1_use_1 rfl (lv_at hl 2 rfl) ?_
  refine n_rdV (As := [.int (nI (pl))]) (rest := []) (WC := [(q, .inr (2, [.ref a])), (a, .inl (cI, 4, .inl (fun j => nI (dig c0 j))))]) ⟨hx, hb, hml, hown, hts⟩ (c_X2_get l d cI q a 4 (fun j => nI (dig c0 j)) pl (by omega) (by decide)) (cwV 1 hts gX1_use_X2_get rfl rfl rfl (by decide +kernel) ⟨Nat.le_of_ble_eq_true rfl, Nat.le_of_ble_eq_true rfl⟩) (va_recv hK hP (ci := 2) (q0 := 0) rfl rfl) (hP.sub [0, 1] rfl) (hK) rfl hl.1 rfl (Nat.le_of_ble_eq_true rfl) dX1_use_2 ⟨Nat.zero_le _, Nat.zero_le _⟩ ?_
  refine lv_istore_n (lv' := [(3, .int (nI (dig c0 pl))), (0, .int (nI (3))), (1, .ref q), (2, .int (nI (pl)))]) hx hb dX1_use_5 rfl hl (by decide) rfl (fun ls hl => ?_)
  refine lv_aload_n hx hb dX1_use_6 rfl (lv_at hl 2 rfl) ?_
  refine lv_iload_n hx hb dX1_use_7 rfl (lv_at hl 3 rfl) ?_
  refine lv_iconst (v := nI (1)) hx hb dX1_use_8 (by decide) ?_
  refine n_add hx hb dX1_use_9 ?_
  refine n_rdV (As := [.int (nI (pl + 1))]) (rest := []) (WC := [(q, .inr (2, [.ref a])), (a, .inl (cI, 4, .inl (fun j => nI (dig c0 j))))]) ⟨hx, hb, hml, hown, hts⟩ (c_X2_get l d cI q a 4 (fun j => nI (dig c0 j)) (pl + 1) (by omega) (by decide)) (cwV 1 hts gX1_use_X2_get rfl rfl rfl (by decide +kernel) ⟨Nat.le_of_ble_eq_true rfl, Nat.le_of_ble_eq_true rfl⟩) (va_recv hK hP (ci := 2) (q0 := 0) rfl rfl) (hP.sub [0, 1] rfl) (hK) rfl hl.1 rfl (Nat.le_of_ble_eq_true rfl) dX1_use_10 ⟨Nat.zero_le _, Nat.zero_le _⟩ ?_
  refine lv_istore (lv' := [(4, .int (nI (dig c0 (pl + 1)))), (3, .int (nI (dig c0 pl))), (0, .int (nI (3))), (1, .ref q), (2, .int (nI (pl)))]) hx hb dX1_use_13 hl (by decide) rfl (fun ls hl => ?_)
  refine lv_iload_n hx hb dX1_use_15 rfl (lv_at hl 2 rfl) ?_
  refine lv_tableIn (x := nI (3)) (off := 46) (tgt := 62) hx hb dX1_use_16 (by decide) (by decide) rfl (by decide) ?_
  refine lv_aload_n hx hb dX1_use_62 rfl (lv_at hl 3 rfl) ?_
  refine lv_iload_n hx hb dX1_use_63 rfl (lv_at hl 4 rfl) ?_
  refine lv_iconst (v := nI (1)) hx hb dX1_use_64 (by decide) ?_
  refine n_add hx hb dX1_use_65 ?_
  refine lv_iconst (v := nI (0)) hx hb dX1_use_66 (by decide) ?_
  refine n_upV (As := [.int (nI (pl + 1)), .int (nI (0))]) (rest := []) (WC := [(q, .inr (2, [.ref a])), (a, .inl (cI, 4, .inl (fun j => nI (dig c0 j))))]) (WC' := [(q, .inr (2, [.ref a])), (a, .inl (cI, 4, .inl (upd (fun j => nI (dig c0 j)) (pl + 1) (nI (0)))))]) (wr := []) (WS' := [(q, .inr (2, [.ref a])), (a, .inl (cI, 4, .inl (upd (fun j => nI (dig c0 j)) (pl + 1) (nI (0)))))]) ⟨hx, hb, hml, hown, hts⟩ (c_X2_set l d cI q a 4 (fun j => nI (dig c0 j)) (pl + 1) (nI (0)) (by omega) (by decide)) (cwV 2 hts gX1_use_X2_set rfl rfl rfl (by decide +kernel) ⟨Nat.le_of_ble_eq_true rfl, Nat.le_of_ble_eq_true rfl⟩) (va_recv hK hP (ci := 2) (q0 := 0) rfl rfl) hP hD hS hA (hK) [0, 1] [] [0, 1] rfl rfl (by decide) ⟨by decide, by decide⟩ (by decide) rfl rfl hl.1 rfl (Nat.le_of_ble_eq_true rfl) dX1_use_67 ⟨Nat.zero_le _, Nat.zero_le _⟩ (fun H locs hP hD hS => ?_)
  show W _ _ _ _ _ _ _ _ _ _ _ _ _ _ _ (F0 m _ ls [])
  refine lv_goto (tgt := 87) hx hb dX1_use_70 (by decide) ?_
  obtain ⟨hP, hD⟩ := n_cg (ws' := [(q, .inr (2, [.ref a])), (a, .inl (cI, 4, .inl (fun j => nI (dig (stp c0 (6 + pl)) j))))]) hP hD 1 rfl (by intro j hj; have h := (stp_ok hc (show 6 + pl < 12 from by omega) hf).2 j hj; rw [show (6 + pl) % 3 = pl from by omega] at h; rw [if_neg (by omega), if_pos (by omega)] at h; rw [h]; unfold upd; by_cases h1 : j = pl + 1 <;> by_cases h2 : j = pl <;> simp [h1, h2] <;> omega) rfl
  exact W.vret hx hb hr (fun t ht hW => ⟨⟨rfl, by rw [ht]; exact hP, hD⟩, hS.F ht⟩) hS.2.2 dX1_use_87

set_option maxHeartbeats 4000000 in
set_option maxRecDepth 100000 in
theorem c_X1_use_4 (l : Launch) (d : va_G) (cI : ClassId) (q a c0 pl : Nat) (hc : c0 < 1296) (hpl : pl < 3) (hf : fkb c0 (9 + pl) = true) : nUp l yX1_use wsX1_use ({ frames := 1, cells := 0, slots := 0, locals := 22 } : Room) d [(cI, .int)] [(q, .inr (2, [.ref a])), (a, .inl (cI, 4, .inl (fun j => nI (dig c0 j))))] [(q, .inr (2, [.ref a])), (a, .inl (cI, 4, .inl (fun j => nI (dig (stp c0 (9 + pl)) j))))] [.int (nI (4)), .ref q, .int (nI (pl))] none := by
  intro sz
  refine Met.ofW (cc := cX1_use) (maxL := 5) (ret := none) (by decide) rfl ?_
  intro p e s m args below meth c s₁ B hml hv
  obtain ⟨rfl, hsz, hP, hK, hD0⟩ := hv
  have hx := B.exec
  have hb := B.bytes
  have hr := B.returns
  have hts := atoms_spec (ws := wsX1_use) B.pre
  have hown : s.vm.findClass RX1 = some m.cls := findClass_of_methodNamed B.named
  have hlocks := B.notSynchronized
  subst hsz
  have hD := hD0.self (sz := s.heap.size)
  generalize hAe : va_A [(q, .inr (2, [.ref a])), (a, .inl (cI, 4, .inl (fun j => nI (dig c0 j))))] s.heap.size = A at hD ⊢
  have hA : ∀ q : Nat, s.heap.size ≤ q → A q := fun q h => by rw [← hAe]; exact Or.inr h
  have hS : va_S A s.heap s.heap [] := va_S.rf
  have hP : va_P d vwCl [(q, .inr (2, [.ref a])), (a, .inl (cI, 4, .inl (fun j => nI (dig c0 j))))] s.heap := hP
  have hl := lv_entry ([.int (nI (4)), .ref q, .int (nI (pl))]) (n := 5) (Nat.le_of_ble_eq_true rfl)
  rw [lg_entry_eq]
  generalize (lg_sl ([.int (nI (4)), .ref q, .int (nI (pl))]) ++ List.replicate (5 - (lg_sl ([.int (nI (4)), .ref q, .int (nI (pl))])).length) Slot.unset).toArray = ls at hl ⊢
  have hl : lv_has ls 5 [(0, .int (nI (4))), (1, .ref q), (2, .int (nI (pl)))] := hl
  refine lv_aload_n hx hb dX1_use_0 rfl (lv_at hl 1 rfl) ?_
  refine lv_iload_n hx hb dX1_use_1 rfl (lv_at hl 2 rfl) ?_
  refine n_rdV (As := [.int (nI (pl))]) (rest := []) (WC := [(q, .inr (2, [.ref a])), (a, .inl (cI, 4, .inl (fun j => nI (dig c0 j))))]) ⟨hx, hb, hml, hown, hts⟩ (c_X2_get l d cI q a 4 (fun j => nI (dig c0 j)) pl (by omega) (by decide)) (cwV 1 hts gX1_use_X2_get rfl rfl rfl (by decide +kernel) ⟨Nat.le_of_ble_eq_true rfl, Nat.le_of_ble_eq_true rfl⟩) (va_recv hK hP (ci := 2) (q0 := 0) rfl rfl) (hP.sub [0, 1] rfl) (hK) rfl hl.1 rfl (Nat.le_of_ble_eq_true rfl) dX1_use_2 ⟨Nat.zero_le _, Nat.zero_le _⟩ ?_
  refine lv_istore_n (lv' := [(3, .int (nI (dig c0 pl))), (0, .int (nI (4))), (1, .ref q), (2, .int (nI (pl)))]) hx hb dX1_use_5 rfl hl (by decide) rfl (fun ls hl => ?_)
  refine lv_aload_n hx hb dX1_use_6 rfl (lv_at hl 2 rfl) ?_
  refine lv_iload_n hx hb dX1_use_7 rfl (lv_at hl 3 rfl) ?_
  refine lv_iconst (v := nI (1)) hx hb dX1_use_8 (by decide) ?_
  refine n_add hx hb dX1_use_9 ?_
  refine n_rdV (As := [.int (nI (pl + 1))]) (rest := []) (WC := [(q, .inr (2, [.ref a])), (a, .inl (cI, 4, .inl (fun j => nI (dig c0 j))))]) ⟨hx, hb, hml, hown, hts⟩ (c_X2_get l d cI q a 4 (fun j => nI (dig c0 j)) (pl + 1) (by omega) (by decide)) (cwV 1 hts gX1_use_X2_get rfl rfl rfl (by decide +kernel) ⟨Nat.le_of_ble_eq_true rfl, Nat.le_of_ble_eq_true rfl⟩) (va_recv hK hP (ci := 2) (q0 := 0) rfl rfl) (hP.sub [0, 1] rfl) (hK) rfl hl.1 rfl (Nat.le_of_ble_eq_true rfl) dX1_use_10 ⟨Nat.zero_le _, Nat.zero_le _⟩ ?_
  refine lv_istore (lv' := [(4, .int (nI (dig c0 (pl + 1)))), (3, .int (nI (dig c0 pl))), (0, .int (nI (4))), (1, .ref q), (2, .int (nI (pl)))]) hx hb dX1_use_13 hl (by decide) rfl (fun ls hl => ?_)
  refine lv_iload_n hx hb dX1_use_15 rfl (lv_at hl 2 rfl) ?_
  refine lv_tableOut (x := nI (4)) (tgt := 73) hx hb dX1_use_16 (by decide) (by decide) ?_
  refine lv_aload_n hx hb dX1_use_73 rfl (lv_at hl 3 rfl) ?_
  refine lv_iload_n hx hb dX1_use_74 rfl (lv_at hl 4 rfl) ?_
  refine lv_iconst (v := nI (0)) hx hb dX1_use_75 (by decide) ?_
  refine n_upV (As := [.int (nI (pl)), .int (nI (0))]) (rest := []) (WC := [(q, .inr (2, [.ref a])), (a, .inl (cI, 4, .inl (fun j => nI (dig c0 j))))]) (WC' := [(q, .inr (2, [.ref a])), (a, .inl (cI, 4, .inl (upd (fun j => nI (dig c0 j)) pl (nI (0)))))]) (wr := []) (WS' := [(q, .inr (2, [.ref a])), (a, .inl (cI, 4, .inl (upd (fun j => nI (dig c0 j)) pl (nI (0)))))]) ⟨hx, hb, hml, hown, hts⟩ (c_X2_set l d cI q a 4 (fun j => nI (dig c0 j)) pl (nI (0)) (by omega) (by decide)) (cwV 2 hts gX1_use_X2_set rfl rfl rfl (by decide +kernel) ⟨Nat.le_of_ble_eq_true rfl, Nat.le_of_ble_eq_true rfl⟩) (va_recv hK hP (ci := 2) (q0 := 0) rfl rfl) hP hD hS hA (hK) [0, 1] [] [0, 1] rfl rfl (by decide) ⟨by decide, by decide⟩ (by decide) rfl rfl hl.1 rfl (Nat.le_of_ble_eq_true rfl) dX1_use_76 ⟨Nat.zero_le _, Nat.zero_le _⟩ (fun H locs hP hD hS => ?_)
  show W _ _ _ _ _ _ _ _ _ _ _ _ _ _ _ (F0 m _ ls [])
  refine lv_aload_n hx hb dX1_use_79 rfl (lv_at hl 3 rfl) ?_
  refine lv_iload_n hx hb dX1_use_80 rfl (lv_at hl 4 rfl) ?_
  refine lv_iconst (v := nI (1)) hx hb dX1_use_81 (by decide) ?_
  refine n_add hx hb dX1_use_82 ?_
  refine lv_iconst (v := nI (0)) hx hb dX1_use_83 (by decide) ?_
  refine n_upV (As := [.int (nI (pl + 1)), .int (nI (0))]) (rest := []) (WC := [(q, .inr (2, [.ref a])), (a, .inl (cI, 4, .inl (upd (fun j => nI (dig c0 j)) pl (nI (0)))))]) (WC' := [(q, .inr (2, [.ref a])), (a, .inl (cI, 4, .inl (upd (upd (fun j => nI (dig c0 j)) pl (nI (0))) (pl + 1) (nI (0)))))]) (wr := []) (WS' := [(q, .inr (2, [.ref a])), (a, .inl (cI, 4, .inl (upd (upd (fun j => nI (dig c0 j)) pl (nI (0))) (pl + 1) (nI (0)))))]) ⟨hx, hb, hml, hown, hts⟩ (c_X2_set l d cI q a 4 (upd (fun j => nI (dig c0 j)) pl (nI (0))) (pl + 1) (nI (0)) (by omega) (by decide)) (cwV 2 hts gX1_use_X2_set rfl rfl rfl (by decide +kernel) ⟨Nat.le_of_ble_eq_true rfl, Nat.le_of_ble_eq_true rfl⟩) (va_recv hK hP (ci := 2) (q0 := 0) rfl rfl) hP hD hS hA (hK) [0, 1] [] [0, 1] rfl rfl (by decide) ⟨by decide, by decide⟩ (by decide) rfl rfl hl.1 rfl (Nat.le_of_ble_eq_true rfl) dX1_use_84 ⟨Nat.zero_le _, Nat.zero_le _⟩ (fun H locs hP hD hS => ?_)
  show W _ _ _ _ _ _ _ _ _ _ _ _ _ _ _ (F0 m _ ls [])
  obtain ⟨hP, hD⟩ := n_cg (ws' := [(q, .inr (2, [.ref a])), (a, .inl (cI, 4, .inl (fun j => nI (dig (stp c0 (9 + pl)) j))))]) hP hD 1 rfl (by intro j hj; have h := (stp_ok hc (show 9 + pl < 12 from by omega) hf).2 j hj; rw [show (9 + pl) % 3 = pl from by omega] at h; rw [if_neg (by omega), if_neg (by omega)] at h; rw [h]; unfold upd; by_cases h1 : j = pl + 1 <;> by_cases h2 : j = pl <;> simp [h1, h2] <;> omega) rfl
  exact W.vret hx hb hr (fun t ht hW => ⟨⟨rfl, by rw [ht]; exact hP, hD⟩, hS.F ht⟩) hS.2.2 dX1_use_87

theorem c_X1_use (l : Launch) (d : va_G) (cI : ClassId) (q a c0 pl rr : Nat) (hc : c0 < 1296) (hpl : pl < 3) (hr4 : rr < 4) (hf : fkb c0 (3 * rr + pl) = true) : nUp l yX1_use wsX1_use ({ frames := 1, cells := 0, slots := 0, locals := 22 } : Room) d [(cI, .int)] [(q, .inr (2, [.ref a])), (a, .inl (cI, 4, .inl (fun j => nI (dig c0 j))))] [(q, .inr (2, [.ref a])), (a, .inl (cI, 4, .inl (fun j => nI (dig (stp c0 (3 * rr + pl)) j))))] [.int (nI (rr + 1)), .ref q, .int (nI pl)] none := by
  rcases lt4 hr4 with rfl | rfl | rfl | rfl
  · rw [show 3 * 0 + pl = pl from by omega] at hf ⊢; exact c_X1_use_1 l d cI q a c0 pl hc hpl hf
  · exact c_X1_use_2 l d cI q a c0 pl hc hpl hf
  · exact c_X1_use_3 l d cI q a c0 pl hc hpl hf
  · exact c_X1_use_4 l d cI q a c0 pl hc hpl hf
set_option maxHeartbeats 4000000 in
set_option maxRecDepth 100000 in
/-- one use of a rule, if one can be used -/
theorem c_X1_rewriteOnce (l : Launch) (d : va_G) (cI : ClassId) (q a c0 : Nat) (hc : c0 < 1296) : nUp l yX1_rewriteOnce wsX1_rewriteOnce ({ frames := 2, cells := 0, slots := 0, locals := 46 } : Room) d [(cI, .int)] [(q, .inr (2, [.ref a])), (a, .inl (cI, 4, .inl (fun j => nI (dig c0 j))))] [(q, .inr (2, [.ref a])), (a, .inl (cI, 4, .inl (fun j => nI (dig (nx c0) j))))] [.ref q] (some (.int (nI ((chg c0).toNat)))) := by
  intro sz
  refine Met.ofW (cc := cX1_rewriteOnce) (maxL := 3) (ret := some .boolean) (by decide) rfl ?_
  intro p e s m args below meth c s₁ B hml hv
  obtain ⟨rfl, hsz, hP, hK, hD0⟩ := hv
  have hx := B.exec
  have hb := B.bytes
  have hr := B.returns
  have hts := atoms_spec (ws := wsX1_rewriteOnce) B.pre
  have hown : s.vm.findClass RX1 = some m.cls := findClass_of_methodNamed B.named
  have hlocks := B.notSynchronized
  subst hsz
  have hD := hD0.self (sz := s.heap.size)
  generalize hAe : va_A [(q, .inr (2, [.ref a])), (a, .inl (cI, 4, .inl (fun j => nI (dig c0 j))))] s.heap.size = A at hD ⊢
  have hA : ∀ q : Nat, s.heap.size ≤ q → A q := fun q h => by rw [← hAe]; exact Or.inr h
  have hS : va_S A s.heap s.heap [] := va_S.rf
  have hP : va_P d vwCl [(q, .inr (2, [.ref a])), (a, .inl (cI, 4, .inl (fun j => nI (dig c0 j))))] s.heap := hP
  have hl := lv_entry ([.ref q]) (n := 3) (Nat.le_of_ble_eq_true rfl)
  rw [lg_entry_eq]
  generalize (lg_sl ([.ref q]) ++ List.replicate (3 - (lg_sl ([.ref q])).length) Slot.unset).toArray = ls at hl ⊢
  have hl : lv_has ls 3 [(0, .ref q)] := hl
  refine n_nameQ (fun Q hQ => ?_)
  refine lv_iconst (v := nI (1)) hx hb dX1_rewriteOnce_0 (by decide) ?_
  refine lv_istore_n (lv' := [(1, .int (nI (1))), (0, .ref q)]) hx hb dX1_rewriteOnce_1 rfl hl (by decide) rfl (fun ls hl => ?_)
  refine lv_iload_n hx hb dX1_rewriteOnce_2 rfl (lv_at hl 0 rfl) ?_
  refine lv_iconst (v := nI (4)) hx hb dX1_rewriteOnce_3 (by decide) ?_
  refine n_icmp_gt (tgt := 55) hx hb dX1_rewriteOnce_4 (by decide) (by decide) (by decide) (fun c_1 => ?_) (fun c_1 => ?_)
  · exact absurd c_1 (by decide)
  refine lv_iconst (v := nI (0)) hx hb dX1_rewriteOnce_7 (by decide) ?_
  refine lv_istore_n (lv' := [(2, .int (nI (0))), (1, .int (nI (1))), (0, .ref q)]) hx hb dX1_rewriteOnce_8 rfl hl (by decide) rfl (fun ls hl => ?_)
  have loop : ∀ (n pl rr : Nat), pl + 4 * rr + n = 16 → pl ≤ 3 → rr ≤ 3 → nxo c0 = nxF c0 (12 - (3 * rr + pl)) (3 * rr + pl) → ∀ (ls : Array Slot), lv_has ls 3 [(2, .int (nI (pl))), (1, .int (nI (rr + 1))), (0, .ref q)] → W p l e ({ frames := 2, cells := 0, slots := 0, locals := 46 } : Room) s m ([.ref q] : List Value).toArray below meth c s.heap [] 0 0 Q (F0 m 9 ls []) := by
    intro n
    induction n with
    | zero => intro pl rr h1 h2 h3; exact absurd h1 (by omega)
    | succ n ih =>
      intro pl rr h1 h2 h3 hnx ls hl
      refine lv_iload_n hx hb dX1_rewriteOnce_9 rfl (lv_at hl 0 rfl) ?_
      refine lv_iconst (v := nI (1)) hx hb dX1_rewriteOnce_10 (by decide) ?_
      refine n_add hx hb dX1_rewriteOnce_11 ?_
      refine lv_iconst (v := nI (4)) hx hb dX1_rewriteOnce_12 (by decide) ?_
      refine n_icmp_ge (tgt := 49) hx hb dX1_rewriteOnce_13 (by decide) (by omega) (by omega) (fun c_2 => ?_) (fun c_2 => ?_)
      ·
        refine lv_iinc (v := nI ((rr + 1) + 1)) (lv' := [(1, .int (nI ((rr + 1) + 1))), (2, .int (nI (pl))), (0, .ref q)]) hx hb dX1_rewriteOnce_49 hl (k := 1) rfl (n_inc1 _) (by decide) rfl (fun ls hl => ?_)
        refine lv_goto (tgt := 2) hx hb dX1_rewriteOnce_52 (by decide) ?_
        refine lv_iload_n hx hb dX1_rewriteOnce_2 rfl (lv_at hl 0 rfl) ?_
        refine lv_iconst (v := nI (4)) hx hb dX1_rewriteOnce_3 (by decide) ?_
        refine n_icmp_gt (tgt := 55) hx hb dX1_rewriteOnce_4 (by decide) (by omega) (by omega) (fun c_3 => ?_) (fun c_3 => ?_)
        ·
          have hn0 : nxo c0 = none := by rw [hnx, show 3 * rr + pl = 12 from by omega]; rfl
          refine lv_iconst (v := nI (0)) hx hb dX1_rewriteOnce_55 (by decide) ?_
          subst hQ
          rw [show nx c0 = c0 from by unfold nx; rw [hn0]; rfl]
          refine n_top (show (nI (0)) = (nI ((chg c0).toNat)) from by rw [show chg c0 = false from by unfold chg; rw [hn0]; rfl]; rfl) ?_
          exact W.zret (v := (nI ((chg c0).toNat))) hx hb hr (by cases chg c0 <;> rfl) (fun t ht hW => ⟨⟨rfl, by rw [ht]; exact hP, hD⟩, hS.F ht⟩) hS.2.2 dX1_rewriteOnce_56
        ·
          refine lv_iconst (v := nI (0)) hx hb dX1_rewriteOnce_7 (by decide) ?_
          refine lv_istore_n (lv' := [(2, .int (nI (0))), (1, .int (nI ((rr + 1) + 1))), (0, .ref q)]) hx hb dX1_rewriteOnce_8 rfl hl (by decide) rfl (fun ls hl => ?_)
          exact ih 0 (rr + 1) (by omega) (by omega) (by omega) (by rw [hnx, show 3 * rr + pl = 3 * (rr + 1) + 0 from by omega]) ls (lv_sub hl [0, 1, 2] rfl)
      ·
        refine lv_iload_n hx hb dX1_rewriteOnce_16 rfl (lv_at hl 1 rfl) ?_
        refine lv_aload_n hx hb dX1_rewriteOnce_17 rfl (lv_at hl 2 rfl) ?_
        refine lv_iload_n hx hb dX1_rewriteOnce_18 rfl (lv_at hl 0 rfl) ?_
        refine n_rdV (As := [.int (nI (pl))]) (rest := [.int (nI (rr + 1))]) (WC := [(q, .inr (2, [.ref a])), (a, .inl (cI, 4, .inl (fun j => nI (dig c0 j))))]) ⟨hx, hb, hml, hown, hts⟩ (c_X2_get l d cI q a 4 (fun j => nI (dig c0 j)) pl (by omega) (by decide)) (cwV 1 hts gX1_rewriteOnce_X2_get rfl rfl rfl (by decide +kernel) ⟨Nat.le_of_ble_eq_true rfl, Nat.le_of_ble_eq_true rfl⟩) (va_recv hK hP (ci := 2) (q0 := 0) rfl rfl) (hP.sub [0, 1] rfl) (hK) rfl hl.1 rfl (Nat.le_of_ble_eq_true rfl) dX1_rewriteOnce_19 ⟨Nat.zero_le _, Nat.zero_le _⟩ ?_
        refine lv_aload_n hx hb dX1_rewriteOnce_22 rfl (lv_at hl 2 rfl) ?_
        refine lv_iload_n hx hb dX1_rewriteOnce_23 rfl (lv_at hl 0 rfl) ?_
        refine lv_iconst (v := nI (1)) hx hb dX1_rewriteOnce_24 (by decide) ?_
        refine n_add hx hb dX1_rewriteOnce_25 ?_
        refine n_rdV (As := [.int (nI (pl + 1))]) (rest := [.int (nI (dig c0 pl)), .int (nI (rr + 1))]) (WC := [(q, .inr (2, [.ref a])), (a, .inl (cI, 4, .inl (fun j => nI (dig c0 j))))]) ⟨hx, hb, hml, hown, hts⟩ (c_X2_get l d cI q a 4 (fun j => nI (dig c0 j)) (pl + 1) (by omega) (by decide)) (cwV 1 hts gX1_rewriteOnce_X2_get rfl rfl rfl (by decide +kernel) ⟨Nat.le_of_ble_eq_true rfl, Nat.le_of_ble_eq_true rfl⟩) (va_recv hK hP (ci := 2) (q0 := 0) rfl rfl) (hP.sub [0, 1] rfl) (hK) rfl hl.1 rfl (Nat.le_of_ble_eq_true rfl) dX1_rewriteOnce_26 ⟨Nat.zero_le _, Nat.zero_le _⟩ ?_
        refine n_rdS (As := [.int (nI (rr + 1)), .int (nI (dig c0 pl)), .int (nI (dig c0 (pl + 1)))]) (rest := []) (WC := []) ⟨hx, hb, hml, hown, hts⟩ (c_X1_isUsable l d cI rr (dig c0 pl) (dig c0 (pl + 1)) (by omega) (dig_lt _ _) (dig_lt _ _)) (cwS 3 hts gX1_rewriteOnce_X1_isUsable rfl rfl rfl (by decide +kernel) ⟨Nat.le_of_ble_eq_true rfl, Nat.le_of_ble_eq_true rfl⟩) (hP.sub [] rfl) (hK) rfl hl.1 rfl (Nat.le_of_ble_eq_true rfl) dX1_rewriteOnce_29 ⟨Nat.zero_le _, Nat.zero_le _⟩ ?_
        have hk3 : (3 * rr + pl) / 3 = rr := by omega
        have hk4 : (3 * rr + pl) % 3 = pl := by omega
        have hfk : fkb c0 (3 * rr + pl) = fitB (rr + 1) (dig c0 pl) (dig c0 (pl + 1)) := by unfold fkb; rw [hk3, hk4, Nat.add_comm 1 rr]
        have hn1 : 12 - (3 * rr + pl) = (12 - (3 * rr + (pl + 1))) + 1 := by omega
        refine n_ifeq (tgt := 43) hx hb dX1_rewriteOnce_32 (by decide) (by cases fitB (rr + 1) (dig c0 pl) (dig c0 (pl + 1)) <;> decide) (fun c_4 => ?_) (fun c_4 => ?_)
        ·
          have hff : fkb c0 (3 * rr + pl) = false := by rw [hfk]; cases hz : fitB (rr + 1) (dig c0 pl) (dig c0 (pl + 1)) with | false => rfl | true => rw [hz] at c_4; exact absurd c_4 (by decide)
          refine lv_iinc (v := nI (pl + 1)) (lv' := [(2, .int (nI (pl + 1))), (1, .int (nI (rr + 1))), (0, .ref q)]) hx hb dX1_rewriteOnce_43 hl (k := 0) rfl (n_inc1 _) (by decide) rfl (fun ls hl => ?_)
          refine lv_goto (tgt := 9) hx hb dX1_rewriteOnce_46 (by decide) ?_
          exact ih (pl + 1) rr (by omega) (by omega) (by omega) (by rw [hnx, hn1]; show (if fkb c0 (3 * rr + pl) = true then _ else _) = _; rw [hff]; rfl) ls (lv_sub hl [0, 1, 2] rfl)
        ·
          have hff : fkb c0 (3 * rr + pl) = true := by rw [hfk]; cases hz : fitB (rr + 1) (dig c0 pl) (dig c0 (pl + 1)) with | true => rfl | false => rw [hz] at c_4; exact absurd rfl c_4
          have hn0 : nxo c0 = some (stp c0 (3 * rr + pl)) := by rw [hnx, hn1]; show (if fkb c0 (3 * rr + pl) = true then _ else _) = _; rw [hff]; rfl
          refine lv_iload_n hx hb dX1_rewriteOnce_35 rfl (lv_at hl 1 rfl) ?_
          refine lv_aload_n hx hb dX1_rewriteOnce_36 rfl (lv_at hl 2 rfl) ?_
          refine lv_iload_n hx hb dX1_rewriteOnce_37 rfl (lv_at hl 0 rfl) ?_
          refine n_upS (As := [.int (nI (rr + 1)), .ref q, .int (nI (pl))]) (rest := []) (WC := [(q, .inr (2, [.ref a])), (a, .inl (cI, 4, .inl (fun j => nI (dig c0 j))))]) (WC' := [(q, .inr (2, [.ref a])), (a, .inl (cI, 4, .inl (fun j => nI (dig (stp c0 (3 * rr + pl)) j))))]) (wr := []) (WS' := [(q, .inr (2, [.ref a])), (a, .inl (cI, 4, .inl (fun j => nI (dig (stp c0 (3 * rr + pl)) j))))]) ⟨hx, hb, hml, hown, hts⟩ (c_X1_use l d cI q a c0 pl rr hc (by omega) (by omega) hff) (cwS 3 hts gX1_rewriteOnce_X1_use rfl rfl rfl (by decide +kernel) ⟨Nat.le_of_ble_eq_true rfl, Nat.le_of_ble_eq_true rfl⟩) hP hD hS hA (hK) [0, 1] [] [0, 1] rfl rfl (by decide) ⟨by decide, by decide⟩ (by decide) rfl rfl hl.1 rfl (Nat.le_of_ble_eq_true rfl) dX1_rewriteOnce_38 ⟨Nat.zero_le _, Nat.zero_le _⟩ (fun H locs hP hD hS => ?_)
          show W _ _ _ _ _ _ _ _ _ _ _ _ _ _ _ (F0 m _ ls [])
          refine lv_iconst (v := nI (1)) hx hb dX1_rewriteOnce_41 (by decide) ?_
          subst hQ
          rw [show nx c0 = stp c0 (3 * rr + pl) from by unfold nx; rw [hn0]; rfl]
          refine n_top (show (nI (1)) = (nI ((chg c0).toNat)) from by rw [show chg c0 = true from by unfold chg; rw [hn0]; rfl]; rfl) ?_
          exact W.zret (v := (nI ((chg c0).toNat))) hx hb hr (by cases chg c0 <;> rfl) (fun t ht hW => ⟨⟨rfl, by rw [ht]; exact hP, hD⟩, hS.F ht⟩) hS.2.2 dX1_rewriteOnce_42
  exact loop 16 0 0 (by omega) (by omega) (by omega) rfl ls (lv_sub hl [0, 1, 2] rfl)

set_option maxHeartbeats 4000000 in
set_option maxRecDepth 100000 in
/-- the form of a code -/
theorem c_X1_reduce (l : Launch) (d : va_G) (cI : ClassId) (q a c0 : Nat) (f : Nat → Int32) (hc : c0 < 1296) : nUp l yX1_reduce wsX1_reduce ({ frames := 3, cells := 0, slots := 0, locals := 68 } : Room) d [(cI, .int)] [(q, .inr (2, [.ref a])), (a, .inl (cI, 4, .inl (f)))] [(q, .inr (2, [.ref a])), (a, .inl (cI, 4, .inl (fun j => nI (dig (form c0) j))))] [.int (nI (c0)), .ref q] (some (.int (nI (form c0)))) := by
  intro sz
  refine Met.ofW (cc := cX1_reduce) (maxL := 4) (ret := some .int) (by decide) rfl ?_
  intro p e s m args below meth c s₁ B hml hv
  obtain ⟨rfl, hsz, hP, hK, hD0⟩ := hv
  have hx := B.exec
  have hb := B.bytes
  have hr := B.returns
  have hts := atoms_spec (ws := wsX1_reduce) B.pre
  have hown : s.vm.findClass RX1 = some m.cls := findClass_of_methodNamed B.named
  have hlocks := B.notSynchronized
  subst hsz
  have hD := hD0.self (sz := s.heap.size)
  generalize hAe : va_A [(q, .inr (2, [.ref a])), (a, .inl (cI, 4, .inl (f)))] s.heap.size = A at hD ⊢
  have hA : ∀ q : Nat, s.heap.size ≤ q → A q := fun q h => by rw [← hAe]; exact Or.inr h
  have hS : va_S A s.heap s.heap [] := va_S.rf
  have hP : va_P d vwCl [(q, .inr (2, [.ref a])), (a, .inl (cI, 4, .inl (f)))] s.heap := hP
  have hl := lv_entry ([.int (nI (c0)), .ref q]) (n := 4) (Nat.le_of_ble_eq_true rfl)
  rw [lg_entry_eq]
  generalize (lg_sl ([.int (nI (c0)), .ref q]) ++ List.replicate (4 - (lg_sl ([.int (nI (c0)), .ref q])).length) Slot.unset).toArray = ls at hl ⊢
  have hl : lv_has ls 4 [(0, .int (nI (c0))), (1, .ref q)] := hl
  refine n_nameQ (fun Q hQ => ?_)
  refine lv_iload_n hx hb dX1_reduce_0 rfl (lv_at hl 0 rfl) ?_
  refine lv_aload_n hx hb dX1_reduce_1 rfl (lv_at hl 1 rfl) ?_
  refine n_upS (As := [.int (nI (c0)), .ref q]) (rest := []) (WC := [(q, .inr (2, [.ref a])), (a, .inl (cI, 4, .inl (f)))]) (WC' := [(q, .inr (2, [.ref a])), (a, .inl (cI, 4, .inl (fun j => nI (dig c0 j))))]) (wr := []) (WS' := [(q, .inr (2, [.ref a])), (a, .inl (cI, 4, .inl (fun j => nI (dig c0 j))))]) ⟨hx, hb, hml, hown, hts⟩ (c_X1_unpack l d cI q a c0 f hc) (cwS 2 hts gX1_reduce_X1_unpack rfl rfl rfl (by decide +kernel) ⟨Nat.le_of_ble_eq_true rfl, Nat.le_of_ble_eq_true rfl⟩) hP hD hS hA (hK) [0, 1] [] [0, 1] rfl rfl (by decide) ⟨by decide, by decide⟩ (by decide) rfl rfl hl.1 rfl (Nat.le_of_ble_eq_true rfl) dX1_reduce_2 ⟨Nat.zero_le _, Nat.zero_le _⟩ (fun H locs hP hD hS => ?_)
  show W _ _ _ _ _ _ _ _ _ _ _ _ _ _ _ (F0 m _ ls [])
  refine lv_iconst (v := nI (1)) hx hb dX1_reduce_5 (by decide) ?_
  refine lv_istore_n (lv' := [(2, .int (nI (1))), (0, .int (nI (c0))), (1, .ref q)]) hx hb dX1_reduce_6 rfl hl (by decide) rfl (fun ls hl => ?_)
  refine lv_iconst (v := nI (0)) hx hb dX1_reduce_7 (by decide) ?_
  refine lv_istore_n (lv' := [(3, .int (nI (0))), (2, .int (nI (1))), (0, .int (nI (c0))), (1, .ref q)]) hx hb dX1_reduce_8 rfl hl (by decide) rfl (fun ls hl => ?_)
  have loop : ∀ (n x u : Nat) (g : Bool), x < 1296 → u + n < 1000 → nfF n x = form c0 → tm n x = true → (g = false → x = form c0) → ∀ (H : Heap) (locs : List Loc), va_P d vwCl [(q, .inr (2, [.ref a])), (a, .inl (cI, 4, .inl (fun j => nI (dig x j))))] H → va_D A [(q, .inr (2, [.ref a])), (a, .inl (cI, 4, .inl (fun j => nI (dig x j))))] → va_S A s.heap H locs → ∀ (ls : Array Slot), lv_has ls 4 [(3, .int (nI (u))), (2, .int (nI (g.toNat))), (1, .ref q)] → W p l e ({ frames := 3, cells := 0, slots := 0, locals := 68 } : Room) s m ([.int (nI (c0)), .ref q] : List Value).toArray below meth c H locs 0 0 Q (F0 m 9 ls []) := by
    intro n
    induction n with
    | zero =>
      intro x u g hx1 h2 h3 h4 hg H locs hP hD hS ls hl
      have hch : chg x = false := by cases hz : chg x with | false => rfl | true => unfold tm at h4; rw [hz] at h4; exact absurd h4 (by decide)
      have hnx : nx x = x := by cases hz : nxo x with | none => unfold nx; rw [hz]; rfl | some y => unfold chg at hch; rw [hz] at hch; exact Bool.noConfusion hch
      refine lv_iload_n hx hb dX1_reduce_9 rfl (lv_at hl 1 rfl) ?_
      refine n_ifeq (tgt := 31) hx hb dX1_reduce_10 (by decide) (by cases g <;> decide) (fun c_1 => ?_) (fun c_1 => ?_)
      ·
        have hxf : x = form c0 := hg (by cases hz : g with | false => rfl | true => rw [hz] at c_1; exact absurd c_1 (by decide))
        refine lv_aload_n hx hb dX1_reduce_31 rfl (lv_at hl 2 rfl) ?_
        refine n_rdS (As := [.ref q]) (rest := []) (WC := [(q, .inr (2, [.ref a])), (a, .inl (cI, 4, .inl (fun j => nI (dig x j))))]) ⟨hx, hb, hml, hown, hts⟩ (c_X1_pack l d cI q a x hx1) (cwS 1 hts gX1_reduce_X1_pack rfl rfl rfl (by decide +kernel) ⟨Nat.le_of_ble_eq_true rfl, Nat.le_of_ble_eq_true rfl⟩) (hP.sub [0, 1] rfl) (hK) rfl hl.1 rfl (Nat.le_of_ble_eq_true rfl) dX1_reduce_32 ⟨Nat.zero_le _, Nat.zero_le _⟩ ?_
        subst hQ
        rw [← hxf]
        exact W.iret (v := (nI x)) hx hb hr (fun t ht hW => ⟨⟨rfl, by rw [ht]; exact hP, hD⟩, hS.F ht⟩) hS.2.2 dX1_reduce_35
      ·
        refine lv_iload_n hx hb dX1_reduce_13 rfl (lv_at hl 0 rfl) ?_
        refine lv_sipush (v := nI (1000)) hx hb dX1_reduce_14 (by decide) ?_
        refine n_icmp_ge (tgt := 31) hx hb dX1_reduce_17 (by decide) (by omega) (by omega) (fun c_2 => ?_) (fun c_2 => ?_)
        · exact absurd c_2 (by omega)
        refine lv_aload_n hx hb dX1_reduce_20 rfl (lv_at hl 2 rfl) ?_
        refine n_upS (As := [.ref q]) (rest := []) (WC := [(q, .inr (2, [.ref a])), (a, .inl (cI, 4, .inl (fun j => nI (dig x j))))]) (WC' := [(q, .inr (2, [.ref a])), (a, .inl (cI, 4, .inl (fun j => nI (dig (nx x) j))))]) (wr := []) (WS' := [(q, .inr (2, [.ref a])), (a, .inl (cI, 4, .inl (fun j => nI (dig (nx x) j))))]) ⟨hx, hb, hml, hown, hts⟩ (c_X1_rewriteOnce l d cI q a x hx1) (cwS 1 hts gX1_reduce_X1_rewriteOnce rfl rfl rfl (by decide +kernel) ⟨Nat.le_of_ble_eq_true rfl, Nat.le_of_ble_eq_true rfl⟩) hP hD hS hA (hK) [0, 1] [] [0, 1] rfl rfl (by decide) ⟨by decide, by decide⟩ (by decide) rfl rfl hl.1 rfl (Nat.le_of_ble_eq_true rfl) dX1_reduce_21 ⟨Nat.zero_le _, Nat.zero_le _⟩ (fun H locs hP hD hS => ?_)
        show W _ _ _ _ _ _ _ _ _ _ _ _ _ _ _ (F0 m _ ls (.int (nI ((chg x).toNat)) :: []))
        refine lv_istore_n (lv' := [(2, .int (nI ((chg x).toNat))), (3, .int (nI (u))), (1, .ref q)]) hx hb dX1_reduce_24 rfl hl (by decide) rfl (fun ls hl => ?_)
        refine lv_iinc (v := nI (u + 1)) (lv' := [(3, .int (nI (u + 1))), (2, .int (nI ((chg x).toNat))), (1, .ref q)]) hx hb dX1_reduce_25 hl (k := 1) rfl (n_inc1 _) (by decide) rfl (fun ls hl => ?_)
        refine lv_goto (tgt := 9) hx hb dX1_reduce_28 (by decide) ?_
        rw [hnx] at hP hD
        rw [hch] at hl
        have hl : lv_has ls 4 [(3, .int (nI (u + 1))), (2, .int (nI (0))), (1, .ref q)] := hl
        refine lv_iload_n hx hb dX1_reduce_9 rfl (lv_at hl 1 rfl) ?_
        refine n_ifeq (tgt := 31) hx hb dX1_reduce_10 (by decide) (by decide) (fun c_3 => ?_) (fun c_3 => ?_)
        rotate_left
        · exact absurd c_3 (by decide)
        refine lv_aload_n hx hb dX1_reduce_31 rfl (lv_at hl 2 rfl) ?_
        have hxf : x = form c0 := h3
        refine n_rdS (As := [.ref q]) (rest := []) (WC := [(q, .inr (2, [.ref a])), (a, .inl (cI, 4, .inl (fun j => nI (dig x j))))]) ⟨hx, hb, hml, hown, hts⟩ (c_X1_pack l d cI q a x hx1) (cwS 1 hts gX1_reduce_X1_pack rfl rfl rfl (by decide +kernel) ⟨Nat.le_of_ble_eq_true rfl, Nat.le_of_ble_eq_true rfl⟩) (hP.sub [0, 1] rfl) (hK) rfl hl.1 rfl (Nat.le_of_ble_eq_true rfl) dX1_reduce_32 ⟨Nat.zero_le _, Nat.zero_le _⟩ ?_
        subst hQ
        rw [← hxf]
        exact W.iret (v := (nI x)) hx hb hr (fun t ht hW => ⟨⟨rfl, by rw [ht]; exact hP, hD⟩, hS.F ht⟩) hS.2.2 dX1_reduce_35
    | succ n ih =>
      intro x u g hx1 h2 h3 h4 hg H locs hP hD hS ls hl
      refine lv_iload_n hx hb dX1_reduce_9 rfl (lv_at hl 1 rfl) ?_
      refine n_ifeq (tgt := 31) hx hb dX1_reduce_10 (by decide) (by cases g <;> decide) (fun c_4 => ?_) (fun c_4 => ?_)
      ·
        have hxf : x = form c0 := hg (by cases hz : g with | false => rfl | true => rw [hz] at c_4; exact absurd c_4 (by decide))
        refine lv_aload_n hx hb dX1_reduce_31 rfl (lv_at hl 2 rfl) ?_
        refine n_rdS (As := [.ref q]) (rest := []) (WC := [(q, .inr (2, [.ref a])), (a, .inl (cI, 4, .inl (fun j => nI (dig x j))))]) ⟨hx, hb, hml, hown, hts⟩ (c_X1_pack l d cI q a x hx1) (cwS 1 hts gX1_reduce_X1_pack rfl rfl rfl (by decide +kernel) ⟨Nat.le_of_ble_eq_true rfl, Nat.le_of_ble_eq_true rfl⟩) (hP.sub [0, 1] rfl) (hK) rfl hl.1 rfl (Nat.le_of_ble_eq_true rfl) dX1_reduce_32 ⟨Nat.zero_le _, Nat.zero_le _⟩ ?_
        subst hQ
        rw [← hxf]
        exact W.iret (v := (nI x)) hx hb hr (fun t ht hW => ⟨⟨rfl, by rw [ht]; exact hP, hD⟩, hS.F ht⟩) hS.2.2 dX1_reduce_35
      ·
        refine lv_iload_n hx hb dX1_reduce_13 rfl (lv_at hl 0 rfl) ?_
        refine lv_sipush (v := nI (1000)) hx hb dX1_reduce_14 (by decide) ?_
        refine n_icmp_ge (tgt := 31) hx hb dX1_reduce_17 (by decide) (by omega) (by omega) (fun c_5 => ?_) (fun c_5 => ?_)
        · exact absurd c_5 (by omega)
        refine lv_aload_n hx hb dX1_reduce_20 rfl (lv_at hl 2 rfl) ?_
        refine n_upS (As := [.ref q]) (rest := []) (WC := [(q, .inr (2, [.ref a])), (a, .inl (cI, 4, .inl (fun j => nI (dig x j))))]) (WC' := [(q, .inr (2, [.ref a])), (a, .inl (cI, 4, .inl (fun j => nI (dig (nx x) j))))]) (wr := []) (WS' := [(q, .inr (2, [.ref a])), (a, .inl (cI, 4, .inl (fun j => nI (dig (nx x) j))))]) ⟨hx, hb, hml, hown, hts⟩ (c_X1_rewriteOnce l d cI q a x hx1) (cwS 1 hts gX1_reduce_X1_rewriteOnce rfl rfl rfl (by decide +kernel) ⟨Nat.le_of_ble_eq_true rfl, Nat.le_of_ble_eq_true rfl⟩) hP hD hS hA (hK) [0, 1] [] [0, 1] rfl rfl (by decide) ⟨by decide, by decide⟩ (by decide) rfl rfl hl.1 rfl (Nat.le_of_ble_eq_true rfl) dX1_reduce_21 ⟨Nat.zero_le _, Nat.zero_le _⟩ (fun H locs hP hD hS => ?_)
        show W _ _ _ _ _ _ _ _ _ _ _ _ _ _ _ (F0 m _ ls (.int (nI ((chg x).toNat)) :: []))
        refine lv_istore_n (lv' := [(2, .int (nI ((chg x).toNat))), (3, .int (nI (u))), (1, .ref q)]) hx hb dX1_reduce_24 rfl hl (by decide) rfl (fun ls hl => ?_)
        refine lv_iinc (v := nI (u + 1)) (lv' := [(3, .int (nI (u + 1))), (2, .int (nI ((chg x).toNat))), (1, .ref q)]) hx hb dX1_reduce_25 hl (k := 1) rfl (n_inc1 _) (by decide) rfl (fun ls hl => ?_)
        refine lv_goto (tgt := 9) hx hb dX1_reduce_28 (by decide) ?_
        cases hz : chg x with
        | true =>
          rw [hz] at hl
          exact ih (nx x) (u + 1) true (nx_lt hx1) (by omega) (by rw [← h3]; show _ = (if chg x = true then _ else _); rw [hz]; rfl) (by have h5 : (if chg x = true then tm n (nx x) else true) = true := h4; rw [hz] at h5; exact h5) (fun h => by cases h) H locs hP hD hS ls (lv_sub hl [0, 1, 2] rfl)
        | false =>
          have hnx : nx x = x := by cases hy : nxo x with | none => unfold nx; rw [hy]; rfl | some y => unfold chg at hz; rw [hy] at hz; exact Bool.noConfusion hz
          have hxf : x = form c0 := by rw [← h3]; show x = (if chg x = true then _ else _); rw [hz]; rfl
          rw [hnx] at hP hD
          rw [hz] at hl
          have hl : lv_has ls 4 [(3, .int (nI (u + 1))), (2, .int (nI (0))), (1, .ref q)] := hl
          refine lv_iload_n hx hb dX1_reduce_9 rfl (lv_at hl 1 rfl) ?_
          refine n_ifeq (tgt := 31) hx hb dX1_reduce_10 (by decide) (by decide) (fun c_6 => ?_) (fun c_6 => ?_)
          rotate_left
          · exact absurd c_6 (by decide)
          refine lv_aload_n hx hb dX1_reduce_31 rfl (lv_at hl 2 rfl) ?_
          refine n_rdS (As := [.ref q]) (rest := []) (WC := [(q, .inr (2, [.ref a])), (a, .inl (cI, 4, .inl (fun j => nI (dig x j))))]) ⟨hx, hb, hml, hown, hts⟩ (c_X1_pack l d cI q a x hx1) (cwS 1 hts gX1_reduce_X1_pack rfl rfl rfl (by decide +kernel) ⟨Nat.le_of_ble_eq_true rfl, Nat.le_of_ble_eq_true rfl⟩) (hP.sub [0, 1] rfl) (hK) rfl hl.1 rfl (Nat.le_of_ble_eq_true rfl) dX1_reduce_32 ⟨Nat.zero_le _, Nat.zero_le _⟩ ?_
          subst hQ
          rw [← hxf]
          exact W.iret (v := (nI x)) hx hb hr (fun t ht hW => ⟨⟨rfl, by rw [ht]; exact hP, hD⟩, hS.F ht⟩) hS.2.2 dX1_reduce_35
  exact loop 40 c0 0 true hc (by omega) rfl (tm_40 hc) (fun h => by cases h) H locs hP hD hS ls (lv_sub hl [0, 1, 3] rfl)

