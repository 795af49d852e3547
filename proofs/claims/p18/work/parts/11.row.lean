set_option maxHeartbeats 4000000 in
set_option maxRecDepth 100000 in
/-- reads -/
theorem c_X2_get (l : Launch) (d : va_G) (cI : ClassId) (q a n : Nat) (f : Nat → Int32) (k : Nat) (hk : k < n) (hn : n < 2147483648) : nRd l yX2_get wsX2_get ({ frames := 0, cells := 0, slots := 0, locals := 0 } : Room) d [(cI, .int)] [(q, .inr (2, [.ref a])), (a, .inl (cI, n, .inl (f)))] [.ref q, .int (nI (k))] (.int (f k)) := by
  refine Met.ofW (cc := cX2_get) (maxL := 2) (ret := some .int) (by decide) rfl ?_
  intro p e s m args below meth c s₁ B hml hv
  obtain ⟨rfl, hP, hK⟩ := hv
  have hx := B.exec
  have hb := B.bytes
  have hr := B.returns
  have hts := atoms_spec (ws := wsX2_get) B.pre
  have hown : s.vm.findClass RX2 = some m.cls := findClass_of_methodNamed B.named
  have hlocks := B.notSynchronized
  have hfl7 := hts (.fieldLink RX2 7 "Nudgelane$Row" "cells" "[I") (by decide +kernel)
  have hin2 : ∀ w ∈ u_ws RX2 TX2 1, w ∈ wsX2_get := by decide +kernel
  have hP : va_P d vwCl [(q, .inr (2, [.ref a])), (a, .inl (cI, n, .inl (f)))] s.heap := hP
  have hl := lv_entry ([.ref q, .int (nI (k))]) (n := 2) (Nat.le_of_ble_eq_true rfl)
  rw [lg_entry_eq]
  generalize (lg_sl ([.ref q, .int (nI (k))]) ++ List.replicate (2 - (lg_sl ([.ref q, .int (nI (k))])).length) Slot.unset).toArray = ls at hl ⊢
  have hl : lv_has ls 2 [(0, .ref q), (1, .int (nI (k)))] := hl
  refine lv_iload_n hx hb dX2_get_0 rfl (lv_at hl 1 rfl) ?_
  refine n_iflt (tgt := 22) hx hb dX2_get_1 (by decide) (by omega) ?_
  refine lv_iload_n hx hb dX2_get_4 rfl (lv_at hl 1 rfl) ?_
  refine lv_aload_n hx hb dX2_get_5 rfl (lv_at hl 0 rfl) ?_
  refine va_get (D := d) (ci := 2) (v := .ref a) (C := RX2) (T := TX2) (N := 1) hx hb hts hin2 hown hK hP 0 rfl rfl 0 (by decide) hfl7 (fun _ h9 => h9) rfl dX2_get_6 ?_
  refine va_alen hx hb hK hP 1 0 rfl rfl (v := nI (n)) rfl dX2_get_9 ?_
  refine n_icmp_ge (tgt := 22) hx hb dX2_get_10 (by decide) (by omega) (by omega) (fun c_2 => ?_) (fun c_2 => ?_)
  · exact absurd c_2 (by omega)
  refine lv_aload_n hx hb dX2_get_13 rfl (lv_at hl 0 rfl) ?_
  refine va_get (D := d) (ci := 2) (v := .ref a) (C := RX2) (T := TX2) (N := 1) hx hb hts hin2 hown hK hP 0 rfl rfl 0 (by decide) hfl7 (fun _ h9 => h9) rfl dX2_get_14 ?_
  refine lv_iload_n hx hb dX2_get_17 rfl (lv_at hl 1 rfl) ?_
  refine n_iald hx hb hK hP 1 0 rfl rfl (k := k) (by omega) (by omega) dX2_get_18 ?_
  refine lv_goto (tgt := 23) hx hb dX2_get_19 (by decide) ?_
  exact W.iret (v := (f k)) hx hb hr (fun t ht hW => ⟨rfl, ht⟩) (fun q h => by cases h) dX2_get_23

set_option maxHeartbeats 4000000 in
set_option maxRecDepth 100000 in
/-- writes -/
theorem c_X2_set (l : Launch) (d : va_G) (cI : ClassId) (q a n : Nat) (f : Nat → Int32) (k : Nat) (x : Int32) (hk : k < n) (hn : n < 2147483648) : nUp l yX2_set wsX2_set ({ frames := 0, cells := 0, slots := 0, locals := 0 } : Room) d [(cI, .int)] [(q, .inr (2, [.ref a])), (a, .inl (cI, n, .inl (f)))] [(q, .inr (2, [.ref a])), (a, .inl (cI, n, .inl (upd f k x)))] [.ref q, .int (nI (k)), .int (x)] none := by
  intro sz
  refine Met.ofW (cc := cX2_set) (maxL := 3) (ret := none) (by decide) rfl ?_
  intro p e s m args below meth c s₁ B hml hv
  obtain ⟨rfl, hsz, hP, hK, hD0⟩ := hv
  have hx := B.exec
  have hb := B.bytes
  have hr := B.returns
  have hts := atoms_spec (ws := wsX2_set) B.pre
  have hown : s.vm.findClass RX2 = some m.cls := findClass_of_methodNamed B.named
  have hlocks := B.notSynchronized
  have hfl7 := hts (.fieldLink RX2 7 "Nudgelane$Row" "cells" "[I") (by decide +kernel)
  have hin2 : ∀ w ∈ u_ws RX2 TX2 1, w ∈ wsX2_set := by decide +kernel
  subst hsz
  have hD := hD0.self (sz := s.heap.size)
  generalize hAe : va_A [(q, .inr (2, [.ref a])), (a, .inl (cI, n, .inl (f)))] s.heap.size = A at hD ⊢
  have hA : ∀ q : Nat, s.heap.size ≤ q → A q := fun q h => by rw [← hAe]; exact Or.inr h
  have hS : va_S A s.heap s.heap [] := va_S.rf
  have hP : va_P d vwCl [(q, .inr (2, [.ref a])), (a, .inl (cI, n, .inl (f)))] s.heap := hP
  have hl := lv_entry ([.ref q, .int (nI (k)), .int (x)]) (n := 3) (Nat.le_of_ble_eq_true rfl)
  rw [lg_entry_eq]
  generalize (lg_sl ([.ref q, .int (nI (k)), .int (x)]) ++ List.replicate (3 - (lg_sl ([.ref q, .int (nI (k)), .int (x)])).length) Slot.unset).toArray = ls at hl ⊢
  have hl : lv_has ls 3 [(0, .ref q), (1, .int (nI (k))), (2, .int (x))] := hl
  refine lv_iload_n hx hb dX2_set_0 rfl (lv_at hl 1 rfl) ?_
  refine n_iflt (tgt := 20) hx hb dX2_set_1 (by decide) (by omega) ?_
  refine lv_iload_n hx hb dX2_set_4 rfl (lv_at hl 1 rfl) ?_
  refine lv_aload_n hx hb dX2_set_5 rfl (lv_at hl 0 rfl) ?_
  refine va_get (D := d) (ci := 2) (v := .ref a) (C := RX2) (T := TX2) (N := 1) hx hb hts hin2 hown hK hP 0 rfl rfl 0 (by decide) hfl7 (fun _ h9 => h9) rfl dX2_set_6 ?_
  refine va_alen hx hb hK hP 1 0 rfl rfl (v := nI (n)) rfl dX2_set_9 ?_
  refine n_icmp_ge (tgt := 20) hx hb dX2_set_10 (by decide) (by omega) (by omega) (fun c_2 => ?_) (fun c_2 => ?_)
  · exact absurd c_2 (by omega)
  refine lv_aload_n hx hb dX2_set_13 rfl (lv_at hl 0 rfl) ?_
  refine va_get (D := d) (ci := 2) (v := .ref a) (C := RX2) (T := TX2) (N := 1) hx hb hts hin2 hown hK hP 0 rfl rfl 0 (by decide) hfl7 (fun _ h9 => h9) rfl dX2_set_14 ?_
  refine lv_iload_n hx hb dX2_set_17 rfl (lv_at hl 1 rfl) ?_
  refine lv_iload_n hx hb dX2_set_18 rfl (lv_at hl 2 rfl) ?_
  refine n_iast (ws' := [(q, .inr (2, [.ref a])), (a, .inl (cI, n, .inl (upd f k (x))))]) hx hb hK hP hD hS 1 0 rfl rfl (k := k) (by omega) (by omega) dX2_set_19 rfl (fun H locs hP hD hS => ?_)
  exact W.vret hx hb hr (fun t ht hW => ⟨⟨rfl, by rw [ht]; exact hP, hD⟩, hS.F ht⟩) hS.2.2 dX2_set_20

set_option maxHeartbeats 4000000 in
set_option maxRecDepth 100000 in
/-- adds -/
theorem c_X2_add (l : Launch) (d : va_G) (cI : ClassId) (q a n : Nat) (f : Nat → Int32) (k : Nat) (x : Int32) (hk : k < n) (hn : n < 2147483648) : nUp l yX2_add wsX2_add ({ frames := 1, cells := 0, slots := 0, locals := 22 } : Room) d [(cI, .int)] [(q, .inr (2, [.ref a])), (a, .inl (cI, n, .inl (f)))] [(q, .inr (2, [.ref a])), (a, .inl (cI, n, .inl (upd f k (f k + x))))] [.ref q, .int (nI (k)), .int (x)] none := by
  intro sz
  refine Met.ofW (cc := cX2_add) (maxL := 3) (ret := none) (by decide) rfl ?_
  intro p e s m args below meth c s₁ B hml hv
  obtain ⟨rfl, hsz, hP, hK, hD0⟩ := hv
  have hx := B.exec
  have hb := B.bytes
  have hr := B.returns
  have hts := atoms_spec (ws := wsX2_add) B.pre
  have hown : s.vm.findClass RX2 = some m.cls := findClass_of_methodNamed B.named
  have hlocks := B.notSynchronized
  subst hsz
  have hD := hD0.self (sz := s.heap.size)
  generalize hAe : va_A [(q, .inr (2, [.ref a])), (a, .inl (cI, n, .inl (f)))] s.heap.size = A at hD ⊢
  have hA : ∀ q : Nat, s.heap.size ≤ q → A q := fun q h => by rw [← hAe]; exact Or.inr h
  have hS : va_S A s.heap s.heap [] := va_S.rf
  have hP : va_P d vwCl [(q, .inr (2, [.ref a])), (a, .inl (cI, n, .inl (f)))] s.heap := hP
  have hl := lv_entry ([.ref q, .int (nI (k)), .int (x)]) (n := 3) (Nat.le_of_ble_eq_true rfl)
  rw [lg_entry_eq]
  generalize (lg_sl ([.ref q, .int (nI (k)), .int (x)]) ++ List.replicate (3 - (lg_sl ([.ref q, .int (nI (k)), .int (x)])).length) Slot.unset).toArray = ls at hl ⊢
  have hl : lv_has ls 3 [(0, .ref q), (1, .int (nI (k))), (2, .int (x))] := hl
  refine lv_aload_n hx hb dX2_add_0 rfl (lv_at hl 0 rfl) ?_
  refine lv_iload_n hx hb dX2_add_1 rfl (lv_at hl 1 rfl) ?_
  refine lv_aload_n hx hb dX2_add_2 rfl (lv_at hl 0 rfl) ?_
  refine lv_iload_n hx hb dX2_add_3 rfl (lv_at hl 1 rfl) ?_
  refine n_rdV (As := [.int (nI (k))]) (rest := [.int (nI (k)), .ref q]) (WC := [(q, .inr (2, [.ref a])), (a, .inl (cI, n, .inl (f)))]) ⟨hx, hb, hml, hown, hts⟩ (c_X2_get l d cI q a n f k hk hn) (cwV 1 hts gX2_add_X2_get rfl rfl rfl (by decide +kernel) ⟨Nat.le_of_ble_eq_true rfl, Nat.le_of_ble_eq_true rfl⟩) (va_recv hK hP (ci := 2) (q0 := 0) rfl rfl) (hP.sub [0, 1] rfl) (hK) rfl hl.1 rfl (Nat.le_of_ble_eq_true rfl) dX2_add_4 ⟨Nat.zero_le _, Nat.zero_le _⟩ ?_
  refine lv_iload_n hx hb dX2_add_7 rfl (lv_at hl 2 rfl) ?_
  refine lv_iadd hx hb dX2_add_8 ?_
  refine n_upV (As := [.int (nI (k)), .int ((f k) + (x))]) (rest := []) (WC := [(q, .inr (2, [.ref a])), (a, .inl (cI, n, .inl (f)))]) (WC' := [(q, .inr (2, [.ref a])), (a, .inl (cI, n, .inl (upd f k (f k + x))))]) (wr := []) (WS' := [(q, .inr (2, [.ref a])), (a, .inl (cI, n, .inl (upd f k (f k + x))))]) ⟨hx, hb, hml, hown, hts⟩ (c_X2_set l d cI q a n f k (f k + x) hk hn) (cwV 2 hts gX2_add_X2_set rfl rfl rfl (by decide +kernel) ⟨Nat.le_of_ble_eq_true rfl, Nat.le_of_ble_eq_true rfl⟩) (va_recv hK hP (ci := 2) (q0 := 0) rfl rfl) hP hD hS hA (hK) [0, 1] [] [0, 1] rfl rfl (by decide) ⟨by decide, by decide⟩ (by decide) rfl rfl hl.1 rfl (Nat.le_of_ble_eq_true rfl) dX2_add_9 ⟨Nat.zero_le _, Nat.zero_le _⟩ (fun H locs hP hD hS => ?_)
  show W _ _ _ _ _ _ _ _ _ _ _ _ _ _ _ (F0 m _ ls [])
  exact W.vret hx hb hr (fun t ht hW => ⟨⟨rfl, by rw [ht]; exact hP, hD⟩, hS.F ht⟩) hS.2.2 dX2_add_12
