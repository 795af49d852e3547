set_option maxHeartbeats 4000000 in
set_option maxRecDepth 100000 in
theorem c_X2_init (l : Launch) (d : va_G) (cI : ClassId) (q : Nat) (n : Nat) (hn0 : 0 < n) (hn : n < 134217728) : nNw (S := Nat) l yX2_init wsX2_init ({ frames := 1, cells := 1, slots := n, locals := 12 } : Room) d [(cI, .int)] q 2 [.null] [.int (nI (n))] 1 n (fun a => [(q, .inr (2, [.ref a])), (a, .inl (cI, n, .inl (fun _ => 0)))]) := by
  intro sz
  refine Met.ofW (cc := cX2_init) (maxL := 2) (ret := none) (by decide) rfl ?_
  intro p e s m args below meth c s₁ B hml hv
  obtain ⟨rfl, hsz, hP, hK, hD0⟩ := hv
  have hx := B.exec
  have hb := B.bytes
  have hr := B.returns
  have hts := atoms_spec (ws := wsX2_init) B.pre
  have hown : s.vm.findClass RX2 = some m.cls := findClass_of_methodNamed B.named
  have hlocks := B.notSynchronized
  have hin : meth.name = "<init>" := (name_of_methodNamed B.named B.method).1
  have harint := hts (.arrayClass .int) (by decide +kernel)
  have hfl7 := hts (.fieldLink RX2 7 "Nudgelane$Row" "cells" "[I") (by decide +kernel)
  have hin2 : ∀ w ∈ u_ws RX2 TX2 1, w ∈ wsX2_init := by decide +kernel
  subst hsz
  have hD := hD0.self (sz := s.heap.size)
  generalize hAe : va_A [(q, .inr (2, [.null]))] s.heap.size = A at hD ⊢
  have hA : ∀ q : Nat, s.heap.size ≤ q → A q := fun q h => by rw [← hAe]; exact Or.inr h
  have hS : va_S A s.heap s.heap [] := va_S.rf
  have hP : va_P d vwCl [(q, .inr (2, [.null]))] s.heap := hP
  have hl := lv_entry ([.ref q, .int (nI (n))]) (n := 2) (Nat.le_of_ble_eq_true rfl)
  rw [lg_entry_eq]
  generalize (lg_sl ([.ref q, .int (nI (n))]) ++ List.replicate (2 - (lg_sl ([.ref q, .int (nI (n))])).length) Slot.unset).toArray = ls at hl ⊢
  have hl : lv_has ls 2 [(0, .ref q), (1, .int (nI (n)))] := hl
  refine lv_aload_n hx hb dX2_init_0 rfl (lv_at hl 0 rfl) ?_
  refine W.objInit hx hb hown (hts (.methodLink RX2 1 objectInit) (by decide +kernel)) (hts (.instanceMethod objectInit) (by decide +kernel)) (hts (.code objectInit ⟨#[0xb1]⟩ 1 none) (List.mem_of_getElem? (i := 3) rfl)) rfl (by rw [hml]; exact hl.1) rfl dX2_init_1 (Nat.le_of_ble_eq_true rfl) (Nat.le_of_ble_eq_true rfl) ?_
  refine W.eq (g2 := F0 m 4 ls []) rfl ?_
  refine lv_aload_n hx hb dX2_init_4 rfl (lv_at hl 0 rfl) ?_
  refine lv_iload_n hx hb dX2_init_5 rfl (lv_at hl 1 rfl) ?_
  refine n_ifle (tgt := 13) hx hb dX2_init_6 (by decide) (by omega) (fun c_1 => ?_) (fun c_1 => ?_)
  · exact absurd c_1 (by omega)
  refine lv_iload_n hx hb dX2_init_9 rfl (lv_at hl 1 rfl) ?_
  refine lv_goto (tgt := 14) hx hb dX2_init_10 (by decide) ?_
  refine n_newa (atype := .int) (ty := .int) (a0 := (n, .inl (fun _ => 0))) hx hb harint rfl hK 0 rfl (fun _ _ => rfl) hP hD hS hA (fun _ => rfl) (by omega) (by show n * 4 ≤ 536870912; omega) (by show 0 + 1 ≤ 1; decide) (by show 0 + n ≤ n; omega) dX2_init_14 (fun a H hP hD hS => ?_)
  have hP : va_P d vwCl [(q, .inr (2, [.null])), (a, .inl (cI, n, .inl (fun _ => 0)))] H := hP
  have hD : va_D A [(q, .inr (2, [.null])), (a, .inl (cI, n, .inl (fun _ => 0)))] := hD
  refine va_putF (D := d) (ci := 2) (v := .ref a) (ty := .array .int) (C := RX2) (T := TX2) (N := 1) hx hb hts hin2 tyX2 tyX2_ok nmX2 hown hK hP hD hS 0 rfl rfl 0 (by decide) hfl7 (fun _ h9 => h9) rfl hin rfl (by decide +kernel) rfl rfl (Nat.le_of_ble_eq_true rfl) dX2_init_16 (fun H locs hP hD hS => ?_)
  have hP : va_P d vwCl [(q, .inr (2, [.ref a])), (a, .inl (cI, n, .inl (fun _ => 0)))] H := hP
  have hD : va_D A [(q, .inr (2, [.ref a])), (a, .inl (cI, n, .inl (fun _ => 0)))] := hD
  refine W.widen (k := 1) (n := n) (by omega) (by omega) ?_
  exact W.vret hx hb hr (fun t ht hW => ⟨⟨a, rfl, by rw [ht]; exact hP.sub [0, 1] rfl, hD.sub [0, 1] (by decide) rfl⟩, hS.F ht⟩) hS.2.2 dX2_init_19

set_option maxHeartbeats 4000000 in
set_option maxRecDepth 100000 in
theorem c_X3_init (l : Launch) (d : va_G) (cI : ClassId) (q : Nat)  : nNw (S := Nat × Nat × Nat × Nat) l yX3_init wsX3_init ({ frames := 2, cells := 4, slots := 2594, locals := 33 } : Room) d [(cI, .int)] q 3 [.null, .null] [] 4 2594 (fun u => match u with | (k, ka, g, ga) => [(q, .inr (3, [.ref k, .ref g])), (k, .inr (2, [.ref ka])), (ka, .inl (cI, 1296, .inl (fun _ => 0))), (g, .inr (2, [.ref ga])), (ga, .inl (cI, 1296, .inl (fun _ => 0)))]) := by
  intro sz
  refine Met.ofW (cc := cX3_init) (maxL := 1) (ret := none) (by decide) rfl ?_
  intro p e s m args below meth c s₁ B hml hv
  obtain ⟨rfl, hsz, hP, hK, hD0⟩ := hv
  have hx := B.exec
  have hb := B.bytes
  have hr := B.returns
  have hts := atoms_spec (ws := wsX3_init) B.pre
  have hown : s.vm.findClass RX3 = some m.cls := findClass_of_methodNamed B.named
  have hlocks := B.notSynchronized
  have hin : meth.name = "<init>" := (name_of_methodNamed B.named B.method).1
  have hfl14 := hts (.fieldLink RX3 14 "Nudgelane$Ways" "known" "LNudgelane$Row;") (by decide +kernel)
  have hfl20 := hts (.fieldLink RX3 20 "Nudgelane$Ways" "queue" "LNudgelane$Row;") (by decide +kernel)
  have hin2 : ∀ w ∈ u_ws RX2 TX2 1, w ∈ wsX3_init := by decide +kernel
  have hin3 : ∀ w ∈ u_ws RX3 TX3 2, w ∈ wsX3_init := by decide +kernel
  subst hsz
  have hD := hD0.self (sz := s.heap.size)
  generalize hAe : va_A [(q, .inr (3, [.null, .null]))] s.heap.size = A at hD ⊢
  have hA : ∀ q : Nat, s.heap.size ≤ q → A q := fun q h => by rw [← hAe]; exact Or.inr h
  have hS : va_S A s.heap s.heap [] := va_S.rf
  have hP : va_P d vwCl [(q, .inr (3, [.null, .null]))] s.heap := hP
  have hl := lv_entry ([.ref q]) (n := 1) (Nat.le_of_ble_eq_true rfl)
  rw [lg_entry_eq]
  generalize (lg_sl ([.ref q]) ++ List.replicate (1 - (lg_sl ([.ref q])).length) Slot.unset).toArray = ls at hl ⊢
  have hl : lv_has ls 1 [(0, .ref q)] := hl
  refine lv_aload_n hx hb dX3_init_0 rfl (lv_at hl 0 rfl) ?_
  refine W.objInit hx hb hown (hts (.methodLink RX3 3 objectInit) (by decide +kernel)) (hts (.instanceMethod objectInit) (by decide +kernel)) (hts (.code objectInit ⟨#[0xb1]⟩ 1 none) (List.mem_of_getElem? (i := 3) rfl)) rfl (by rw [hml]; exact hl.1) rfl dX3_init_1 (Nat.le_of_ble_eq_true rfl) (Nat.le_of_ble_eq_true rfl) ?_
  refine W.eq (g2 := F0 m 4 ls []) rfl ?_
  refine lv_aload_n hx hb dX3_init_4 rfl (lv_at hl 0 rfl) ?_
  refine va_new (ci := 2) (fs := [.null]) (C := RX2) (T := TX2) (N := 1) hx hb hts hin2 tyX2 tyX2_ok hown (hts (.classLink RX3 9 RX2) (by decide +kernel)) (hts (.instantiable RX2 1) (by decide +kernel)) (hts (.initialized RX2) (by decide +kernel)) hK hP hD hS hA rfl (fun j hj => by match j, hj with | 0, _ => rfl | n + 1, h => exact absurd h (by omega)) (Nat.le_of_ble_eq_true rfl) (Nat.le_of_ble_eq_true rfl) dX3_init_5 (fun k H hP hD hS => ?_)
  have hP : va_P d vwCl [(q, .inr (3, [.null, .null])), (k, .inr (2, [.null]))] H := hP
  have hD : va_D A [(q, .inr (3, [.null, .null])), (k, .inr (2, [.null]))] := hD
  refine lv_dup hx hb dX3_init_8 rfl ?_
  refine lv_sipush (v := nI (1296)) hx hb dX3_init_9 (by decide) ?_
  refine n_nwI (As := [.int (nI (1296))]) (rest := [.ref k, .ref q]) (wr := [(q, .inr (3, [.null, .null]))]) ⟨hx, hb, hml, hown, hts⟩ (c_X2_init l d cI k 1296 (by decide) (by decide)) (cwI 1 hts gX3_init_X2_init rfl rfl rfl (hts (.initialized RX2) (by decide +kernel)) (hts (.methodLink RX3 11 yX2_init) (by decide +kernel)) (hts (.instanceMethod yX2_init) (by decide +kernel)) rfl (by decide +kernel) ⟨Nat.le_of_ble_eq_true rfl, Nat.le_of_ble_eq_true rfl⟩) hP hD hS hA hK 1 [0] rfl rfl (by decide) (by decide) rfl hl.1 rfl (Nat.le_of_ble_eq_true rfl) dX3_init_12 ⟨Nat.le_of_ble_eq_true rfl, Nat.le_of_ble_eq_true rfl⟩ (fun ka H locs hP hD hS => ?_)
  have hP : va_P d vwCl [(q, .inr (3, [.null, .null])), (k, .inr (2, [.ref ka])), (ka, .inl (cI, 1296, .inl (fun _ => 0)))] H := hP
  have hD : va_D A [(q, .inr (3, [.null, .null])), (k, .inr (2, [.ref ka])), (ka, .inl (cI, 1296, .inl (fun _ => 0)))] := hD
  refine va_putF (D := d) (ci := 3) (v := .ref k) (ty := .object "Nudgelane$Row") (C := RX3) (T := TX3) (N := 2) hx hb hts hin3 tyX3 tyX3_ok nmX3 hown hK hP hD hS 0 rfl rfl 0 (by decide) hfl14 (fun _ h9 => h9) rfl hin rfl (by decide +kernel) rfl rfl (Nat.le_of_ble_eq_true rfl) dX3_init_15 (fun H locs hP hD hS => ?_)
  have hP : va_P d vwCl [(q, .inr (3, [.ref k, .null])), (k, .inr (2, [.ref ka])), (ka, .inl (cI, 1296, .inl (fun _ => 0)))] H := hP
  have hD : va_D A [(q, .inr (3, [.ref k, .null])), (k, .inr (2, [.ref ka])), (ka, .inl (cI, 1296, .inl (fun _ => 0)))] := hD
  refine lv_aload_n hx hb dX3_init_18 rfl (lv_at hl 0 rfl) ?_
  refine va_new (ci := 2) (fs := [.null]) (C := RX2) (T := TX2) (N := 1) hx hb hts hin2 tyX2 tyX2_ok hown (hts (.classLink RX3 9 RX2) (by decide +kernel)) (hts (.instantiable RX2 1) (by decide +kernel)) (hts (.initialized RX2) (by decide +kernel)) hK hP hD hS hA rfl (fun j hj => by match j, hj with | 0, _ => rfl | n + 1, h => exact absurd h (by omega)) (Nat.le_of_ble_eq_true rfl) (Nat.le_of_ble_eq_true rfl) dX3_init_19 (fun g H hP hD hS => ?_)
  have hP : va_P d vwCl [(q, .inr (3, [.ref k, .null])), (k, .inr (2, [.ref ka])), (ka, .inl (cI, 1296, .inl (fun _ => 0))), (g, .inr (2, [.null]))] H := hP
  have hD : va_D A [(q, .inr (3, [.ref k, .null])), (k, .inr (2, [.ref ka])), (ka, .inl (cI, 1296, .inl (fun _ => 0))), (g, .inr (2, [.null]))] := hD
  refine lv_dup hx hb dX3_init_22 rfl ?_
  refine lv_sipush (v := nI (1296)) hx hb dX3_init_23 (by decide) ?_
  refine n_nwI (As := [.int (nI (1296))]) (rest := [.ref g, .ref q]) (wr := [(q, .inr (3, [.ref k, .null])), (k, .inr (2, [.ref ka])), (ka, .inl (cI, 1296, .inl (fun _ => 0)))]) ⟨hx, hb, hml, hown, hts⟩ (c_X2_init l d cI g 1296 (by decide) (by decide)) (cwI 1 hts gX3_init_X2_init rfl rfl rfl (hts (.initialized RX2) (by decide +kernel)) (hts (.methodLink RX3 11 yX2_init) (by decide +kernel)) (hts (.instanceMethod yX2_init) (by decide +kernel)) rfl (by decide +kernel) ⟨Nat.le_of_ble_eq_true rfl, Nat.le_of_ble_eq_true rfl⟩) hP hD hS hA hK 3 [0, 1, 2] rfl rfl (by decide) (by decide) rfl hl.1 rfl (Nat.le_of_ble_eq_true rfl) dX3_init_26 ⟨Nat.le_of_ble_eq_true rfl, Nat.le_of_ble_eq_true rfl⟩ (fun ga H locs hP hD hS => ?_)
  have hP : va_P d vwCl [(q, .inr (3, [.ref k, .null])), (k, .inr (2, [.ref ka])), (ka, .inl (cI, 1296, .inl (fun _ => 0))), (g, .inr (2, [.ref ga])), (ga, .inl (cI, 1296, .inl (fun _ => 0)))] H := hP
  have hD : va_D A [(q, .inr (3, [.ref k, .null])), (k, .inr (2, [.ref ka])), (ka, .inl (cI, 1296, .inl (fun _ => 0))), (g, .inr (2, [.ref ga])), (ga, .inl (cI, 1296, .inl (fun _ => 0)))] := hD
  refine va_putF (D := d) (ci := 3) (v := .ref g) (ty := .object "Nudgelane$Row") (C := RX3) (T := TX3) (N := 2) hx hb hts hin3 tyX3 tyX3_ok nmX3 hown hK hP hD hS 0 rfl rfl 1 (by decide) hfl20 (fun _ h9 => h9) rfl hin rfl (by decide +kernel) rfl rfl (Nat.le_of_ble_eq_true rfl) dX3_init_29 (fun H locs hP hD hS => ?_)
  have hP : va_P d vwCl [(q, .inr (3, [.ref k, .ref g])), (k, .inr (2, [.ref ka])), (ka, .inl (cI, 1296, .inl (fun _ => 0))), (g, .inr (2, [.ref ga])), (ga, .inl (cI, 1296, .inl (fun _ => 0)))] H := hP
  have hD : va_D A [(q, .inr (3, [.ref k, .ref g])), (k, .inr (2, [.ref ka])), (ka, .inl (cI, 1296, .inl (fun _ => 0))), (g, .inr (2, [.ref ga])), (ga, .inl (cI, 1296, .inl (fun _ => 0)))] := hD
  refine W.widen (k := 4) (n := 2594) (Nat.le_of_ble_eq_true rfl) (Nat.le_of_ble_eq_true rfl) ?_
  exact W.vret hx hb hr (fun t ht hW => ⟨⟨(k, ka, g, ga), rfl, by rw [ht]; exact hP.sub [0, 1, 2, 3, 4] rfl, hD.sub [0, 1, 2, 3, 4] (by decide) rfl⟩, hS.F ht⟩) hS.2.2 dX3_init_32

set_option maxHeartbeats 4000000 in
set_option maxRecDepth 100000 in
theorem c_X4_init (l : Launch) (d : va_G) (cI : ClassId) (q : Nat)  : nNw (S := Nat × Nat × Nat × Nat) l yX4_init wsX4_init ({ frames := 2, cells := 4, slots := 2594, locals := 33 } : Room) d [(cI, .int)] q 4 [.null, .null] [] 4 2594 (fun u => match u with | (k, ka, g, ga) => [(q, .inr (4, [.ref k, .ref g])), (k, .inr (2, [.ref ka])), (ka, .inl (cI, 1296, .inl (fun _ => 0))), (g, .inr (2, [.ref ga])), (ga, .inl (cI, 1296, .inl (fun _ => 0)))]) := by
  intro sz
  refine Met.ofW (cc := cX4_init) (maxL := 1) (ret := none) (by decide) rfl ?_
  intro p e s m args below meth c s₁ B hml hv
  obtain ⟨rfl, hsz, hP, hK, hD0⟩ := hv
  have hx := B.exec
  have hb := B.bytes
  have hr := B.returns
  have hts := atoms_spec (ws := wsX4_init) B.pre
  have hown : s.vm.findClass RX4 = some m.cls := findClass_of_methodNamed B.named
  have hlocks := B.notSynchronized
  have hin : meth.name = "<init>" := (name_of_methodNamed B.named B.method).1
  have hfl14 := hts (.fieldLink RX4 14 "Nudgelane$Worths" "worthNow" "LNudgelane$Row;") (by decide +kernel)
  have hfl20 := hts (.fieldLink RX4 20 "Nudgelane$Worths" "sums" "LNudgelane$Row;") (by decide +kernel)
  have hin2 : ∀ w ∈ u_ws RX2 TX2 1, w ∈ wsX4_init := by decide +kernel
  have hin4 : ∀ w ∈ u_ws RX4 TX4 2, w ∈ wsX4_init := by decide +kernel
  subst hsz
  have hD := hD0.self (sz := s.heap.size)
  generalize hAe : va_A [(q, .inr (4, [.null, .null]))] s.heap.size = A at hD ⊢
  have hA : ∀ q : Nat, s.heap.size ≤ q → A q := fun q h => by rw [← hAe]; exact Or.inr h
  have hS : va_S A s.heap s.heap [] := va_S.rf
  have hP : va_P d vwCl [(q, .inr (4, [.null, .null]))] s.heap := hP
  have hl := lv_entry ([.ref q]) (n := 1) (Nat.le_of_ble_eq_true rfl)
  rw [lg_entry_eq]
  generalize (lg_sl ([.ref q]) ++ List.replicate (1 - (lg_sl ([.ref q])).length) Slot.unset).toArray = ls at hl ⊢
  have hl : lv_has ls 1 [(0, .ref q)] := hl
  refine lv_aload_n hx hb dX4_init_0 rfl (lv_at hl 0 rfl) ?_
  refine W.objInit hx hb hown (hts (.methodLink RX4 3 objectInit) (by decide +kernel)) (hts (.instanceMethod objectInit) (by decide +kernel)) (hts (.code objectInit ⟨#[0xb1]⟩ 1 none) (List.mem_of_getElem? (i := 3) rfl)) rfl (by rw [hml]; exact hl.1) rfl dX4_init_1 (Nat.le_of_ble_eq_true rfl) (Nat.le_of_ble_eq_true rfl) ?_
  refine W.eq (g2 := F0 m 4 ls []) rfl ?_
  refine lv_aload_n hx hb dX4_init_4 rfl (lv_at hl 0 rfl) ?_
  refine va_new (ci := 2) (fs := [.null]) (C := RX2) (T := TX2) (N := 1) hx hb hts hin2 tyX2 tyX2_ok hown (hts (.classLink RX4 9 RX2) (by decide +kernel)) (hts (.instantiable RX2 1) (by decide +kernel)) (hts (.initialized RX2) (by decide +kernel)) hK hP hD hS hA rfl (fun j hj => by match j, hj with | 0, _ => rfl | n + 1, h => exact absurd h (by omega)) (Nat.le_of_ble_eq_true rfl) (Nat.le_of_ble_eq_true rfl) dX4_init_5 (fun k H hP hD hS => ?_)
  have hP : va_P d vwCl [(q, .inr (4, [.null, .null])), (k, .inr (2, [.null]))] H := hP
  have hD : va_D A [(q, .inr (4, [.null, .null])), (k, .inr (2, [.null]))] := hD
  refine lv_dup hx hb dX4_init_8 rfl ?_
  refine lv_sipush (v := nI (1296)) hx hb dX4_init_9 (by decide) ?_
  refine n_nwI (As := [.int (nI (1296))]) (rest := [.ref k, .ref q]) (wr := [(q, .inr (4, [.null, .null]))]) ⟨hx, hb, hml, hown, hts⟩ (c_X2_init l d cI k 1296 (by decide) (by decide)) (cwI 1 hts gX4_init_X2_init rfl rfl rfl (hts (.initialized RX2) (by decide +kernel)) (hts (.methodLink RX4 11 yX2_init) (by decide +kernel)) (hts (.instanceMethod yX2_init) (by decide +kernel)) rfl (by decide +kernel) ⟨Nat.le_of_ble_eq_true rfl, Nat.le_of_ble_eq_true rfl⟩) hP hD hS hA hK 1 [0] rfl rfl (by decide) (by decide) rfl hl.1 rfl (Nat.le_of_ble_eq_true rfl) dX4_init_12 ⟨Nat.le_of_ble_eq_true rfl, Nat.le_of_ble_eq_true rfl⟩ (fun ka H locs hP hD hS => ?_)
  have hP : va_P d vwCl [(q, .inr (4, [.null, .null])), (k, .inr (2, [.ref ka])), (ka, .inl (cI, 1296, .inl (fun _ => 0)))] H := hP
  have hD : va_D A [(q, .inr (4, [.null, .null])), (k, .inr (2, [.ref ka])), (ka, .inl (cI, 1296, .inl (fun _ => 0)))] := hD
  refine va_putF (D := d) (ci := 4) (v := .ref k) (ty := .object "Nudgelane$Row") (C := RX4) (T := TX4) (N := 2) hx hb hts hin4 tyX4 tyX4_ok nmX4 hown hK hP hD hS 0 rfl rfl 0 (by decide) hfl14 (fun _ h9 => h9) rfl hin rfl (by decide +kernel) rfl rfl (Nat.le_of_ble_eq_true rfl) dX4_init_15 (fun H locs hP hD hS => ?_)
  have hP : va_P d vwCl [(q, .inr (4, [.ref k, .null])), (k, .inr (2, [.ref ka])), (ka, .inl (cI, 1296, .inl (fun _ => 0)))] H := hP
  have hD : va_D A [(q, .inr (4, [.ref k, .null])), (k, .inr (2, [.ref ka])), (ka, .inl (cI, 1296, .inl (fun _ => 0)))] := hD
  refine lv_aload_n hx hb dX4_init_18 rfl (lv_at hl 0 rfl) ?_
  refine va_new (ci := 2) (fs := [.null]) (C := RX2) (T := TX2) (N := 1) hx hb hts hin2 tyX2 tyX2_ok hown (hts (.classLink RX4 9 RX2) (by decide +kernel)) (hts (.instantiable RX2 1) (by decide +kernel)) (hts (.initialized RX2) (by decide +kernel)) hK hP hD hS hA rfl (fun j hj => by match j, hj with | 0, _ => rfl | n + 1, h => exact absurd h (by omega)) (Nat.le_of_ble_eq_true rfl) (Nat.le_of_ble_eq_true rfl) dX4_init_19 (fun g H hP hD hS => ?_)
  have hP : va_P d vwCl [(q, .inr (4, [.ref k, .null])), (k, .inr (2, [.ref ka])), (ka, .inl (cI, 1296, .inl (fun _ => 0))), (g, .inr (2, [.null]))] H := hP
  have hD : va_D A [(q, .inr (4, [.ref k, .null])), (k, .inr (2, [.ref ka])), (ka, .inl (cI, 1296, .inl (fun _ => 0))), (g, .inr (2, [.null]))] := hD
  refine lv_dup hx hb dX4_init_22 rfl ?_
  refine lv_sipush (v := nI (1296)) hx hb dX4_init_23 (by decide) ?_
  refine n_nwI (As := [.int (nI (1296))]) (rest := [.ref g, .ref q]) (wr := [(q, .inr (4, [.ref k, .null])), (k, .inr (2, [.ref ka])), (ka, .inl (cI, 1296, .inl (fun _ => 0)))]) ⟨hx, hb, hml, hown, hts⟩ (c_X2_init l d cI g 1296 (by decide) (by decide)) (cwI 1 hts gX4_init_X2_init rfl rfl rfl (hts (.initialized RX2) (by decide +kernel)) (hts (.methodLink RX4 11 yX2_init) (by decide +kernel)) (hts (.instanceMethod yX2_init) (by decide +kernel)) rfl (by decide +kernel) ⟨Nat.le_of_ble_eq_true rfl, Nat.le_of_ble_eq_true rfl⟩) hP hD hS hA hK 3 [0, 1, 2] rfl rfl (by decide) (by decide) rfl hl.1 rfl (Nat.le_of_ble_eq_true rfl) dX4_init_26 ⟨Nat.le_of_ble_eq_true rfl, Nat.le_of_ble_eq_true rfl⟩ (fun ga H locs hP hD hS => ?_)
  have hP : va_P d vwCl [(q, .inr (4, [.ref k, .null])), (k, .inr (2, [.ref ka])), (ka, .inl (cI, 1296, .inl (fun _ => 0))), (g, .inr (2, [.ref ga])), (ga, .inl (cI, 1296, .inl (fun _ => 0)))] H := hP
  have hD : va_D A [(q, .inr (4, [.ref k, .null])), (k, .inr (2, [.ref ka])), (ka, .inl (cI, 1296, .inl (fun _ => 0))), (g, .inr (2, [.ref ga])), (ga, .inl (cI, 1296, .inl (fun _ => 0)))] := hD
  refine va_putF (D := d) (ci := 4) (v := .ref g) (ty := .object "Nudgelane$Row") (C := RX4) (T := TX4) (N := 2) hx hb hts hin4 tyX4 tyX4_ok nmX4 hown hK hP hD hS 0 rfl rfl 1 (by decide) hfl20 (fun _ h9 => h9) rfl hin rfl (by decide +kernel) rfl rfl (Nat.le_of_ble_eq_true rfl) dX4_init_29 (fun H locs hP hD hS => ?_)
  have hP : va_P d vwCl [(q, .inr (4, [.ref k, .ref g])), (k, .inr (2, [.ref ka])), (ka, .inl (cI, 1296, .inl (fun _ => 0))), (g, .inr (2, [.ref ga])), (ga, .inl (cI, 1296, .inl (fun _ => 0)))] H := hP
  have hD : va_D A [(q, .inr (4, [.ref k, .ref g])), (k, .inr (2, [.ref ka])), (ka, .inl (cI, 1296, .inl (fun _ => 0))), (g, .inr (2, [.ref ga])), (ga, .inl (cI, 1296, .inl (fun _ => 0)))] := hD
  refine W.widen (k := 4) (n := 2594) (Nat.le_of_ble_eq_true rfl) (Nat.le_of_ble_eq_true rfl) ?_
  exact W.vret hx hb hr (fun t ht hW => ⟨⟨(k, ka, g, ga), rfl, by rw [ht]; exact hP.sub [0, 1, 2, 3, 4] rfl, hD.sub [0, 1, 2, 3, 4] (by decide) rfl⟩, hS.F ht⟩) hS.2.2 dX4_init_32

set_option maxHeartbeats 4000000 in
set_option maxRecDepth 100000 in
theorem c_X0_init (l : Launch) (d : va_G) (cI : ClassId) (q : Nat)  : nNw (S := Nat × Nat × Nat × Nat × Nat × Nat × Nat × Nat × Nat × Nat × Nat × Nat) l yX0_init wsX0_init ({ frames := 2, cells := 12, slots := 4854, locals := 33 } : Room) d [(cI, .int)] q 0 [.null, .null, .null, .null, .null, .null, .int (nI (0)), .int (nI (0)), .int (nI (0)), .int (nI (0)), .int (nI (0))] [] 12 4854 (fun u => match u with | (f, fa, x, xa, v, va, g, ga, k, ka, z, za) => [(q, .inr (0, [.ref f, .ref x, .ref v, .ref g, .ref k, .ref z, .int (nI (0)), .int (nI (0)), .int (nI (0)), .int (-1), .int (nI (0))])), (f, .inr (2, [.ref fa])), (fa, .inl (cI, 300, .inl (fun _ => 0))), (x, .inr (2, [.ref xa])), (xa, .inl (cI, 300, .inl (fun _ => 0))), (v, .inr (2, [.ref va])), (va, .inl (cI, 1296, .inl (fun _ => 0))), (g, .inr (2, [.ref ga])), (ga, .inl (cI, 1296, .inl (fun _ => 0))), (k, .inr (2, [.ref ka])), (ka, .inl (cI, 1296, .inl (fun _ => 0))), (z, .inr (2, [.ref za])), (za, .inl (cI, 360, .inl (fun _ => 0)))]) := by
  intro sz
  refine Met.ofW (cc := cX0_init) (maxL := 1) (ret := none) (by decide) rfl ?_
  intro p e s m args below meth c s₁ B hml hv
  obtain ⟨rfl, hsz, hP, hK, hD0⟩ := hv
  have hx := B.exec
  have hb := B.bytes
  have hr := B.returns
  have hts := atoms_spec (ws := wsX0_init) B.pre
  have hown : s.vm.findClass RX0 = some m.cls := findClass_of_methodNamed B.named
  have hlocks := B.notSynchronized
  have hin : meth.name = "<init>" := (name_of_methodNamed B.named B.method).1
  have hfl14 := hts (.fieldLink RX0 14 "Nudgelane$Attempts" "froms" "LNudgelane$Row;") (by decide +kernel)
  have hfl20 := hts (.fieldLink RX0 20 "Nudgelane$Attempts" "tos" "LNudgelane$Row;") (by decide +kernel)
  have hfl23 := hts (.fieldLink RX0 23 "Nudgelane$Attempts" "leavings" "LNudgelane$Row;") (by decide +kernel)
  have hfl26 := hts (.fieldLink RX0 26 "Nudgelane$Attempts" "rightEnds" "LNudgelane$Row;") (by decide +kernel)
  have hfl29 := hts (.fieldLink RX0 29 "Nudgelane$Attempts" "metMarks" "LNudgelane$Row;") (by decide +kernel)
  have hfl32 := hts (.fieldLink RX0 32 "Nudgelane$Attempts" "metForms" "LNudgelane$Row;") (by decide +kernel)
  have hfl35 := hts (.fieldLink RX0 35 "Nudgelane$Attempts" "here" "I") (by decide +kernel)
  have hin0 : ∀ w ∈ u_ws RX0 TX0 11, w ∈ wsX0_init := by decide +kernel
  have hin2 : ∀ w ∈ u_ws RX2 TX2 1, w ∈ wsX0_init := by decide +kernel
  subst hsz
  have hD := hD0.self (sz := s.heap.size)
  generalize hAe : va_A [(q, .inr (0, [.null, .null, .null, .null, .null, .null, .int (nI (0)), .int (nI (0)), .int (nI (0)), .int (nI (0)), .int (nI (0))]))] s.heap.size = A at hD ⊢
  have hA : ∀ q : Nat, s.heap.size ≤ q → A q := fun q h => by rw [← hAe]; exact Or.inr h
  have hS : va_S A s.heap s.heap [] := va_S.rf
  have hP : va_P d vwCl [(q, .inr (0, [.null, .null, .null, .null, .null, .null, .int (nI (0)), .int (nI (0)), .int (nI (0)), .int (nI (0)), .int (nI (0))]))] s.heap := hP
  have hl := lv_entry ([.ref q]) (n := 1) (Nat.le_of_ble_eq_true rfl)
  rw [lg_entry_eq]
  generalize (lg_sl ([.ref q]) ++ List.replicate (1 - (lg_sl ([.ref q])).length) Slot.unset).toArray = ls at hl ⊢
  have hl : lv_has ls 1 [(0, .ref q)] := hl
  refine lv_aload_n hx hb dX0_init_0 rfl (lv_at hl 0 rfl) ?_
  refine W.objInit hx hb hown (hts (.methodLink RX0 3 objectInit) (by decide +kernel)) (hts (.instanceMethod objectInit) (by decide +kernel)) (hts (.code objectInit ⟨#[0xb1]⟩ 1 none) (List.mem_of_getElem? (i := 3) rfl)) rfl (by rw [hml]; exact hl.1) rfl dX0_init_1 (Nat.le_of_ble_eq_true rfl) (Nat.le_of_ble_eq_true rfl) ?_
  refine W.eq (g2 := F0 m 4 ls []) rfl ?_
  refine lv_aload_n hx hb dX0_init_4 rfl (lv_at hl 0 rfl) ?_
  refine va_new (ci := 2) (fs := [.null]) (C := RX2) (T := TX2) (N := 1) hx hb hts hin2 tyX2 tyX2_ok hown (hts (.classLink RX0 9 RX2) (by decide +kernel)) (hts (.instantiable RX2 1) (by decide +kernel)) (hts (.initialized RX2) (by decide +kernel)) hK hP hD hS hA rfl (fun j hj => by match j, hj with | 0, _ => rfl | n + 1, h => exact absurd h (by omega)) (Nat.le_of_ble_eq_true rfl) (Nat.le_of_ble_eq_true rfl) dX0_init_5 (fun f H hP hD hS => ?_)
  have hP : va_P d vwCl [(q, .inr (0, [.null, .null, .null, .null, .null, .null, .int (nI (0)), .int (nI (0)), .int (nI (0)), .int (nI (0)), .int (nI (0))])), (f, .inr (2, [.null]))] H := hP
  have hD : va_D A [(q, .inr (0, [.null, .null, .null, .null, .null, .null, .int (nI (0)), .int (nI (0)), .int (nI (0)), .int (nI (0)), .int (nI (0))])), (f, .inr (2, [.null]))] := hD
  refine lv_dup hx hb dX0_init_8 rfl ?_
  refine lv_sipush (v := nI (300)) hx hb dX0_init_9 (by decide) ?_
  refine n_nwI (As := [.int (nI (300))]) (rest := [.ref f, .ref q]) (wr := [(q, .inr (0, [.null, .null, .null, .null, .null, .null, .int (nI (0)), .int (nI (0)), .int (nI (0)), .int (nI (0)), .int (nI (0))]))]) ⟨hx, hb, hml, hown, hts⟩ (c_X2_init l d cI f 300 (by decide) (by decide)) (cwI 1 hts gX0_init_X2_init rfl rfl rfl (hts (.initialized RX2) (by decide +kernel)) (hts (.methodLink RX0 11 yX2_init) (by decide +kernel)) (hts (.instanceMethod yX2_init) (by decide +kernel)) rfl (by decide +kernel) ⟨Nat.le_of_ble_eq_true rfl, Nat.le_of_ble_eq_true rfl⟩) hP hD hS hA hK 1 [0] rfl rfl (by decide) (by decide) rfl hl.1 rfl (Nat.le_of_ble_eq_true rfl) dX0_init_12 ⟨Nat.le_of_ble_eq_true rfl, Nat.le_of_ble_eq_true rfl⟩ (fun fa H locs hP hD hS => ?_)
  have hP : va_P d vwCl [(q, .inr (0, [.null, .null, .null, .null, .null, .null, .int (nI (0)), .int (nI (0)), .int (nI (0)), .int (nI (0)), .int (nI (0))])), (f, .inr (2, [.ref fa])), (fa, .inl (cI, 300, .inl (fun _ => 0)))] H := hP
  have hD : va_D A [(q, .inr (0, [.null, .null, .null, .null, .null, .null, .int (nI (0)), .int (nI (0)), .int (nI (0)), .int (nI (0)), .int (nI (0))])), (f, .inr (2, [.ref fa])), (fa, .inl (cI, 300, .inl (fun _ => 0)))] := hD
  refine va_putF (D := d) (ci := 0) (v := .ref f) (ty := .object "Nudgelane$Row") (C := RX0) (T := TX0) (N := 11) hx hb hts hin0 tyX0 tyX0_ok nmX0 hown hK hP hD hS 0 rfl rfl 0 (by decide) hfl14 (fun _ h9 => h9) rfl hin rfl (by decide +kernel) rfl rfl (Nat.le_of_ble_eq_true rfl) dX0_init_15 (fun H locs hP hD hS => ?_)
  have hP : va_P d vwCl [(q, .inr (0, [.ref f, .null, .null, .null, .null, .null, .int (nI (0)), .int (nI (0)), .int (nI (0)), .int (nI (0)), .int (nI (0))])), (f, .inr (2, [.ref fa])), (fa, .inl (cI, 300, .inl (fun _ => 0)))] H := hP
  have hD : va_D A [(q, .inr (0, [.ref f, .null, .null, .null, .null, .null, .int (nI (0)), .int (nI (0)), .int (nI (0)), .int (nI (0)), .int (nI (0))])), (f, .inr (2, [.ref fa])), (fa, .inl (cI, 300, .inl (fun _ => 0)))] := hD
  refine lv_aload_n hx hb dX0_init_18 rfl (lv_at hl 0 rfl) ?_
  refine va_new (ci := 2) (fs := [.null]) (C := RX2) (T := TX2) (N := 1) hx hb hts hin2 tyX2 tyX2_ok hown (hts (.classLink RX0 9 RX2) (by decide +kernel)) (hts (.instantiable RX2 1) (by decide +kernel)) (hts (.initialized RX2) (by decide +kernel)) hK hP hD hS hA rfl (fun j hj => by match j, hj with | 0, _ => rfl | n + 1, h => exact absurd h (by omega)) (Nat.le_of_ble_eq_true rfl) (Nat.le_of_ble_eq_true rfl) dX0_init_19 (fun x H hP hD hS => ?_)
  have hP : va_P d vwCl [(q, .inr (0, [.ref f, .null, .null, .null, .null, .null, .int (nI (0)), .int (nI (0)), .int (nI (0)), .int (nI (0)), .int (nI (0))])), (f, .inr (2, [.ref fa])), (fa, .inl (cI, 300, .inl (fun _ => 0))), (x, .inr (2, [.null]))] H := hP
  have hD : va_D A [(q, .inr (0, [.ref f, .null, .null, .null, .null, .null, .int (nI (0)), .int (nI (0)), .int (nI (0)), .int (nI (0)), .int (nI (0))])), (f, .inr (2, [.ref fa])), (fa, .inl (cI, 300, .inl (fun _ => 0))), (x, .inr (2, [.null]))] := hD
  refine lv_dup hx hb dX0_init_22 rfl ?_
  refine lv_sipush (v := nI (300)) hx hb dX0_init_23 (by decide) ?_
  refine n_nwI (As := [.int (nI (300))]) (rest := [.ref x, .ref q]) (wr := [(q, .inr (0, [.ref f, .null, .null, .null, .null, .null, .int (nI (0)), .int (nI (0)), .int (nI (0)), .int (nI (0)), .int (nI (0))])), (f, .inr (2, [.ref fa])), (fa, .inl (cI, 300, .inl (fun _ => 0)))]) ⟨hx, hb, hml, hown, hts⟩ (c_X2_init l d cI x 300 (by decide) (by decide)) (cwI 1 hts gX0_init_X2_init rfl rfl rfl (hts (.initialized RX2) (by decide +kernel)) (hts (.methodLink RX0 11 yX2_init) (by decide +kernel)) (hts (.instanceMethod yX2_init) (by decide +kernel)) rfl (by decide +kernel) ⟨Nat.le_of_ble_eq_true rfl, Nat.le_of_ble_eq_true rfl⟩) hP hD hS hA hK 3 [0, 1, 2] rfl rfl (by decide) (by decide) rfl hl.1 rfl (Nat.le_of_ble_eq_true rfl) dX0_init_26 ⟨Nat.le_of_ble_eq_true rfl, Nat.le_of_ble_eq_true rfl⟩ (fun xa H locs hP hD hS => ?_)
  have hP : va_P d vwCl [(q, .inr (0, [.ref f, .null, .null, .null, .null, .null, .int (nI (0)), .int (nI (0)), .int (nI (0)), .int (nI (0)), .int (nI (0))])), (f, .inr (2, [.ref fa])), (fa, .inl (cI, 300, .inl (fun _ => 0))), (x, .inr (2, [.ref xa])), (xa, .inl (cI, 300, .inl (fun _ => 0)))] H := hP
  have hD : va_D A [(q, .inr (0, [.ref f, .null, .null, .null, .null, .null, .int (nI (0)), .int (nI (0)), .int (nI (0)), .int (nI (0)), .int (nI (0))])), (f, .inr (2, [.ref fa])), (fa, .inl (cI, 300, .inl (fun _ => 0))), (x, .inr (2, [.ref xa])), (xa, .inl (cI, 300, .inl (fun _ => 0)))] := hD
  refine va_putF (D := d) (ci := 0) (v := .ref x) (ty := .object "Nudgelane$Row") (C := RX0) (T := TX0) (N := 11) hx hb hts hin0 tyX0 tyX0_ok nmX0 hown hK hP hD hS 0 rfl rfl 1 (by decide) hfl20 (fun _ h9 => h9) rfl hin rfl (by decide +kernel) rfl rfl (Nat.le_of_ble_eq_true rfl) dX0_init_29 (fun H locs hP hD hS => ?_)
  have hP : va_P d vwCl [(q, .inr (0, [.ref f, .ref x, .null, .null, .null, .null, .int (nI (0)), .int (nI (0)), .int (nI (0)), .int (nI (0)), .int (nI (0))])), (f, .inr (2, [.ref fa])), (fa, .inl (cI, 300, .inl (fun _ => 0))), (x, .inr (2, [.ref xa])), (xa, .inl (cI, 300, .inl (fun _ => 0)))] H := hP
  have hD : va_D A [(q, .inr (0, [.ref f, .ref x, .null, .null, .null, .null, .int (nI (0)), .int (nI (0)), .int (nI (0)), .int (nI (0)), .int (nI (0))])), (f, .inr (2, [.ref fa])), (fa, .inl (cI, 300, .inl (fun _ => 0))), (x, .inr (2, [.ref xa])), (xa, .inl (cI, 300, .inl (fun _ => 0)))] := hD
  refine lv_aload_n hx hb dX0_init_32 rfl (lv_at hl 0 rfl) ?_
  refine va_new (ci := 2) (fs := [.null]) (C := RX2) (T := TX2) (N := 1) hx hb hts hin2 tyX2 tyX2_ok hown (hts (.classLink RX0 9 RX2) (by decide +kernel)) (hts (.instantiable RX2 1) (by decide +kernel)) (hts (.initialized RX2) (by decide +kernel)) hK hP hD hS hA rfl (fun j hj => by match j, hj with | 0, _ => rfl | n + 1, h => exact absurd h (by omega)) (Nat.le_of_ble_eq_true rfl) (Nat.le_of_ble_eq_true rfl) dX0_init_33 (fun v H hP hD hS => ?_)
  have hP : va_P d vwCl [(q, .inr (0, [.ref f, .ref x, .null, .null, .null, .null, .int (nI (0)), .int (nI (0)), .int (nI (0)), .int (nI (0)), .int (nI (0))])), (f, .inr (2, [.ref fa])), (fa, .inl (cI, 300, .inl (fun _ => 0))), (x, .inr (2, [.ref xa])), (xa, .inl (cI, 300, .inl (fun _ => 0))), (v, .inr (2, [.null]))] H := hP
  have hD : va_D A [(q, .inr (0, [.ref f, .ref x, .null, .null, .null, .null, .int (nI (0)), .int (nI (0)), .int (nI (0)), .int (nI (0)), .int (nI (0))])), (f, .inr (2, [.ref fa])), (fa, .inl (cI, 300, .inl (fun _ => 0))), (x, .inr (2, [.ref xa])), (xa, .inl (cI, 300, .inl (fun _ => 0))), (v, .inr (2, [.null]))] := hD
  refine lv_dup hx hb dX0_init_36 rfl ?_
  refine lv_sipush (v := nI (1296)) hx hb dX0_init_37 (by decide) ?_
  refine n_nwI (As := [.int (nI (1296))]) (rest := [.ref v, .ref q]) (wr := [(q, .inr (0, [.ref f, .ref x, .null, .null, .null, .null, .int (nI (0)), .int (nI (0)), .int (nI (0)), .int (nI (0)), .int (nI (0))])), (f, .inr (2, [.ref fa])), (fa, .inl (cI, 300, .inl (fun _ => 0))), (x, .inr (2, [.ref xa])), (xa, .inl (cI, 300, .inl (fun _ => 0)))]) ⟨hx, hb, hml, hown, hts⟩ (c_X2_init l d cI v 1296 (by decide) (by decide)) (cwI 1 hts gX0_init_X2_init rfl rfl rfl (hts (.initialized RX2) (by decide +kernel)) (hts (.methodLink RX0 11 yX2_init) (by decide +kernel)) (hts (.instanceMethod yX2_init) (by decide +kernel)) rfl (by decide +kernel) ⟨Nat.le_of_ble_eq_true rfl, Nat.le_of_ble_eq_true rfl⟩) hP hD hS hA hK 5 [0, 1, 2, 3, 4] rfl rfl (by decide) (by decide) rfl hl.1 rfl (Nat.le_of_ble_eq_true rfl) dX0_init_40 ⟨Nat.le_of_ble_eq_true rfl, Nat.le_of_ble_eq_true rfl⟩ (fun va H locs hP hD hS => ?_)
  have hP : va_P d vwCl [(q, .inr (0, [.ref f, .ref x, .null, .null, .null, .null, .int (nI (0)), .int (nI (0)), .int (nI (0)), .int (nI (0)), .int (nI (0))])), (f, .inr (2, [.ref fa])), (fa, .inl (cI, 300, .inl (fun _ => 0))), (x, .inr (2, [.ref xa])), (xa, .inl (cI, 300, .inl (fun _ => 0))), (v, .inr (2, [.ref va])), (va, .inl (cI, 1296, .inl (fun _ => 0)))] H := hP
  have hD : va_D A [(q, .inr (0, [.ref f, .ref x, .null, .null, .null, .null, .int (nI (0)), .int (nI (0)), .int (nI (0)), .int (nI (0)), .int (nI (0))])), (f, .inr (2, [.ref fa])), (fa, .inl (cI, 300, .inl (fun _ => 0))), (x, .inr (2, [.ref xa])), (xa, .inl (cI, 300, .inl (fun _ => 0))), (v, .inr (2, [.ref va])), (va, .inl (cI, 1296, .inl (fun _ => 0)))] := hD
  refine va_putF (D := d) (ci := 0) (v := .ref v) (ty := .object "Nudgelane$Row") (C := RX0) (T := TX0) (N := 11) hx hb hts hin0 tyX0 tyX0_ok nmX0 hown hK hP hD hS 0 rfl rfl 2 (by decide) hfl23 (fun _ h9 => h9) rfl hin rfl (by decide +kernel) rfl rfl (Nat.le_of_ble_eq_true rfl) dX0_init_43 (fun H locs hP hD hS => ?_)
  have hP : va_P d vwCl [(q, .inr (0, [.ref f, .ref x, .ref v, .null, .null, .null, .int (nI (0)), .int (nI (0)), .int (nI (0)), .int (nI (0)), .int (nI (0))])), (f, .inr (2, [.ref fa])), (fa, .inl (cI, 300, .inl (fun _ => 0))), (x, .inr (2, [.ref xa])), (xa, .inl (cI, 300, .inl (fun _ => 0))), (v, .inr (2, [.ref va])), (va, .inl (cI, 1296, .inl (fun _ => 0)))] H := hP
  have hD : va_D A [(q, .inr (0, [.ref f, .ref x, .ref v, .null, .null, .null, .int (nI (0)), .int (nI (0)), .int (nI (0)), .int (nI (0)), .int (nI (0))])), (f, .inr (2, [.ref fa])), (fa, .inl (cI, 300, .inl (fun _ => 0))), (x, .inr (2, [.ref xa])), (xa, .inl (cI, 300, .inl (fun _ => 0))), (v, .inr (2, [.ref va])), (va, .inl (cI, 1296, .inl (fun _ => 0)))] := hD
  refine lv_aload_n hx hb dX0_init_46 rfl (lv_at hl 0 rfl) ?_
  refine va_new (ci := 2) (fs := [.null]) (C := RX2) (T := TX2) (N := 1) hx hb hts hin2 tyX2 tyX2_ok hown (hts (.classLink RX0 9 RX2) (by decide +kernel)) (hts (.instantiable RX2 1) (by decide +kernel)) (hts (.initialized RX2) (by decide +kernel)) hK hP hD hS hA rfl (fun j hj => by match j, hj with | 0, _ => rfl | n + 1, h => exact absurd h (by omega)) (Nat.le_of_ble_eq_true rfl) (Nat.le_of_ble_eq_true rfl) dX0_init_47 (fun g H hP hD hS => ?_)
  have hP : va_P d vwCl [(q, .inr (0, [.ref f, .ref x, .ref v, .null, .null, .null, .int (nI (0)), .int (nI (0)), .int (nI (0)), .int (nI (0)), .int (nI (0))])), (f, .inr (2, [.ref fa])), (fa, .inl (cI, 300, .inl (fun _ => 0))), (x, .inr (2, [.ref xa])), (xa, .inl (cI, 300, .inl (fun _ => 0))), (v, .inr (2, [.ref va])), (va, .inl (cI, 1296, .inl (fun _ => 0))), (g, .inr (2, [.null]))] H := hP
  have hD : va_D A [(q, .inr (0, [.ref f, .ref x, .ref v, .null, .null, .null, .int (nI (0)), .int (nI (0)), .int (nI (0)), .int (nI (0)), .int (nI (0))])), (f, .inr (2, [.ref fa])), (fa, .inl (cI, 300, .inl (fun _ => 0))), (x, .inr (2, [.ref xa])), (xa, .inl (cI, 300, .inl (fun _ => 0))), (v, .inr (2, [.ref va])), (va, .inl (cI, 1296, .inl (fun _ => 0))), (g, .inr (2, [.null]))] := hD
  refine lv_dup hx hb dX0_init_50 rfl ?_
  refine lv_sipush (v := nI (1296)) hx hb dX0_init_51 (by decide) ?_
  refine n_nwI (As := [.int (nI (1296))]) (rest := [.ref g, .ref q]) (wr := [(q, .inr (0, [.ref f, .ref x, .ref v, .null, .null, .null, .int (nI (0)), .int (nI (0)), .int (nI (0)), .int (nI (0)), .int (nI (0))])), (f, .inr (2, [.ref fa])), (fa, .inl (cI, 300, .inl (fun _ => 0))), (x, .inr (2, [.ref xa])), (xa, .inl (cI, 300, .inl (fun _ => 0))), (v, .inr (2, [.ref va])), (va, .inl (cI, 1296, .inl (fun _ => 0)))]) ⟨hx, hb, hml, hown, hts⟩ (c_X2_init l d cI g 1296 (by decide) (by decide)) (cwI 1 hts gX0_init_X2_init rfl rfl rfl (hts (.initialized RX2) (by decide +kernel)) (hts (.methodLink RX0 11 yX2_init) (by decide +kernel)) (hts (.instanceMethod yX2_init) (by decide +kernel)) rfl (by decide +kernel) ⟨Nat.le_of_ble_eq_true rfl, Nat.le_of_ble_eq_true rfl⟩) hP hD hS hA hK 7 [0, 1, 2, 3, 4, 5, 6] rfl rfl (by decide) (by decide) rfl hl.1 rfl (Nat.le_of_ble_eq_true rfl) dX0_init_54 ⟨Nat.le_of_ble_eq_true rfl, Nat.le_of_ble_eq_true rfl⟩ (fun ga H locs hP hD hS => ?_)
  have hP : va_P d vwCl [(q, .inr (0, [.ref f, .ref x, .ref v, .null, .null, .null, .int (nI (0)), .int (nI (0)), .int (nI (0)), .int (nI (0)), .int (nI (0))])), (f, .inr (2, [.ref fa])), (fa, .inl (cI, 300, .inl (fun _ => 0))), (x, .inr (2, [.ref xa])), (xa, .inl (cI, 300, .inl (fun _ => 0))), (v, .inr (2, [.ref va])), (va, .inl (cI, 1296, .inl (fun _ => 0))), (g, .inr (2, [.ref ga])), (ga, .inl (cI, 1296, .inl (fun _ => 0)))] H := hP
  have hD : va_D A [(q, .inr (0, [.ref f, .ref x, .ref v, .null, .null, .null, .int (nI (0)), .int (nI (0)), .int (nI (0)), .int (nI (0)), .int (nI (0))])), (f, .inr (2, [.ref fa])), (fa, .inl (cI, 300, .inl (fun _ => 0))), (x, .inr (2, [.ref xa])), (xa, .inl (cI, 300, .inl (fun _ => 0))), (v, .inr (2, [.ref va])), (va, .inl (cI, 1296, .inl (fun _ => 0))), (g, .inr (2, [.ref ga])), (ga, .inl (cI, 1296, .inl (fun _ => 0)))] := hD
  refine va_putF (D := d) (ci := 0) (v := .ref g) (ty := .object "Nudgelane$Row") (C := RX0) (T := TX0) (N := 11) hx hb hts hin0 tyX0 tyX0_ok nmX0 hown hK hP hD hS 0 rfl rfl 3 (by decide) hfl26 (fun _ h9 => h9) rfl hin rfl (by decide +kernel) rfl rfl (Nat.le_of_ble_eq_true rfl) dX0_init_57 (fun H locs hP hD hS => ?_)
  have hP : va_P d vwCl [(q, .inr (0, [.ref f, .ref x, .ref v, .ref g, .null, .null, .int (nI (0)), .int (nI (0)), .int (nI (0)), .int (nI (0)), .int (nI (0))])), (f, .inr (2, [.ref fa])), (fa, .inl (cI, 300, .inl (fun _ => 0))), (x, .inr (2, [.ref xa])), (xa, .inl (cI, 300, .inl (fun _ => 0))), (v, .inr (2, [.ref va])), (va, .inl (cI, 1296, .inl (fun _ => 0))), (g, .inr (2, [.ref ga])), (ga, .inl (cI, 1296, .inl (fun _ => 0)))] H := hP
  have hD : va_D A [(q, .inr (0, [.ref f, .ref x, .ref v, .ref g, .null, .null, .int (nI (0)), .int (nI (0)), .int (nI (0)), .int (nI (0)), .int (nI (0))])), (f, .inr (2, [.ref fa])), (fa, .inl (cI, 300, .inl (fun _ => 0))), (x, .inr (2, [.ref xa])), (xa, .inl (cI, 300, .inl (fun _ => 0))), (v, .inr (2, [.ref va])), (va, .inl (cI, 1296, .inl (fun _ => 0))), (g, .inr (2, [.ref ga])), (ga, .inl (cI, 1296, .inl (fun _ => 0)))] := hD
  refine lv_aload_n hx hb dX0_init_60 rfl (lv_at hl 0 rfl) ?_
  refine va_new (ci := 2) (fs := [.null]) (C := RX2) (T := TX2) (N := 1) hx hb hts hin2 tyX2 tyX2_ok hown (hts (.classLink RX0 9 RX2) (by decide +kernel)) (hts (.instantiable RX2 1) (by decide +kernel)) (hts (.initialized RX2) (by decide +kernel)) hK hP hD hS hA rfl (fun j hj => by match j, hj with | 0, _ => rfl | n + 1, h => exact absurd h (by omega)) (Nat.le_of_ble_eq_true rfl) (Nat.le_of_ble_eq_true rfl) dX0_init_61 (fun k H hP hD hS => ?_)
  have hP : va_P d vwCl [(q, .inr (0, [.ref f, .ref x, .ref v, .ref g, .null, .null, .int (nI (0)), .int (nI (0)), .int (nI (0)), .int (nI (0)), .int (nI (0))])), (f, .inr (2, [.ref fa])), (fa, .inl (cI, 300, .inl (fun _ => 0))), (x, .inr (2, [.ref xa])), (xa, .inl (cI, 300, .inl (fun _ => 0))), (v, .inr (2, [.ref va])), (va, .inl (cI, 1296, .inl (fun _ => 0))), (g, .inr (2, [.ref ga])), (ga, .inl (cI, 1296, .inl (fun _ => 0))), (k, .inr (2, [.null]))] H := hP
  have hD : va_D A [(q, .inr (0, [.ref f, .ref x, .ref v, .ref g, .null, .null, .int (nI (0)), .int (nI (0)), .int (nI (0)), .int (nI (0)), .int (nI (0))])), (f, .inr (2, [.ref fa])), (fa, .inl (cI, 300, .inl (fun _ => 0))), (x, .inr (2, [.ref xa])), (xa, .inl (cI, 300, .inl (fun _ => 0))), (v, .inr (2, [.ref va])), (va, .inl (cI, 1296, .inl (fun _ => 0))), (g, .inr (2, [.ref ga])), (ga, .inl (cI, 1296, .inl (fun _ => 0))), (k, .inr (2, [.null]))] := hD
  refine lv_dup hx hb dX0_init_64 rfl ?_
  refine lv_sipush (v := nI (1296)) hx hb dX0_init_65 (by decide) ?_
  refine n_nwI (As := [.int (nI (1296))]) (rest := [.ref k, .ref q]) (wr := [(q, .inr (0, [.ref f, .ref x, .ref v, .ref g, .null, .null, .int (nI (0)), .int (nI (0)), .int (nI (0)), .int (nI (0)), .int (nI (0))])), (f, .inr (2, [.ref fa])), (fa, .inl (cI, 300, .inl (fun _ => 0))), (x, .inr (2, [.ref xa])), (xa, .inl (cI, 300, .inl (fun _ => 0))), (v, .inr (2, [.ref va])), (va, .inl (cI, 1296, .inl (fun _ => 0))), (g, .inr (2, [.ref ga])), (ga, .inl (cI, 1296, .inl (fun _ => 0)))]) ⟨hx, hb, hml, hown, hts⟩ (c_X2_init l d cI k 1296 (by decide) (by decide)) (cwI 1 hts gX0_init_X2_init rfl rfl rfl (hts (.initialized RX2) (by decide +kernel)) (hts (.methodLink RX0 11 yX2_init) (by decide +kernel)) (hts (.instanceMethod yX2_init) (by decide +kernel)) rfl (by decide +kernel) ⟨Nat.le_of_ble_eq_true rfl, Nat.le_of_ble_eq_true rfl⟩) hP hD hS hA hK 9 [0, 1, 2, 3, 4, 5, 6, 7, 8] rfl rfl (by decide) (by decide) rfl hl.1 rfl (Nat.le_of_ble_eq_true rfl) dX0_init_68 ⟨Nat.le_of_ble_eq_true rfl, Nat.le_of_ble_eq_true rfl⟩ (fun ka H locs hP hD hS => ?_)
  have hP : va_P d vwCl [(q, .inr (0, [.ref f, .ref x, .ref v, .ref g, .null, .null, .int (nI (0)), .int (nI (0)), .int (nI (0)), .int (nI (0)), .int (nI (0))])), (f, .inr (2, [.ref fa])), (fa, .inl (cI, 300, .inl (fun _ => 0))), (x, .inr (2, [.ref xa])), (xa, .inl (cI, 300, .inl (fun _ => 0))), (v, .inr (2, [.ref va])), (va, .inl (cI, 1296, .inl (fun _ => 0))), (g, .inr (2, [.ref ga])), (ga, .inl (cI, 1296, .inl (fun _ => 0))), (k, .inr (2, [.ref ka])), (ka, .inl (cI, 1296, .inl (fun _ => 0)))] H := hP
  have hD : va_D A [(q, .inr (0, [.ref f, .ref x, .ref v, .ref g, .null, .null, .int (nI (0)), .int (nI (0)), .int (nI (0)), .int (nI (0)), .int (nI (0))])), (f, .inr (2, [.ref fa])), (fa, .inl (cI, 300, .inl (fun _ => 0))), (x, .inr (2, [.ref xa])), (xa, .inl (cI, 300, .inl (fun _ => 0))), (v, .inr (2, [.ref va])), (va, .inl (cI, 1296, .inl (fun _ => 0))), (g, .inr (2, [.ref ga])), (ga, .inl (cI, 1296, .inl (fun _ => 0))), (k, .inr (2, [.ref ka])), (ka, .inl (cI, 1296, .inl (fun _ => 0)))] := hD
  refine va_putF (D := d) (ci := 0) (v := .ref k) (ty := .object "Nudgelane$Row") (C := RX0) (T := TX0) (N := 11) hx hb hts hin0 tyX0 tyX0_ok nmX0 hown hK hP hD hS 0 rfl rfl 4 (by decide) hfl29 (fun _ h9 => h9) rfl hin rfl (by decide +kernel) rfl rfl (Nat.le_of_ble_eq_true rfl) dX0_init_71 (fun H locs hP hD hS => ?_)
  have hP : va_P d vwCl [(q, .inr (0, [.ref f, .ref x, .ref v, .ref g, .ref k, .null, .int (nI (0)), .int (nI (0)), .int (nI (0)), .int (nI (0)), .int (nI (0))])), (f, .inr (2, [.ref fa])), (fa, .inl (cI, 300, .inl (fun _ => 0))), (x, .inr (2, [.ref xa])), (xa, .inl (cI, 300, .inl (fun _ => 0))), (v, .inr (2, [.ref va])), (va, .inl (cI, 1296, .inl (fun _ => 0))), (g, .inr (2, [.ref ga])), (ga, .inl (cI, 1296, .inl (fun _ => 0))), (k, .inr (2, [.ref ka])), (ka, .inl (cI, 1296, .inl (fun _ => 0)))] H := hP
  have hD : va_D A [(q, .inr (0, [.ref f, .ref x, .ref v, .ref g, .ref k, .null, .int (nI (0)), .int (nI (0)), .int (nI (0)), .int (nI (0)), .int (nI (0))])), (f, .inr (2, [.ref fa])), (fa, .inl (cI, 300, .inl (fun _ => 0))), (x, .inr (2, [.ref xa])), (xa, .inl (cI, 300, .inl (fun _ => 0))), (v, .inr (2, [.ref va])), (va, .inl (cI, 1296, .inl (fun _ => 0))), (g, .inr (2, [.ref ga])), (ga, .inl (cI, 1296, .inl (fun _ => 0))), (k, .inr (2, [.ref ka])), (ka, .inl (cI, 1296, .inl (fun _ => 0)))] := hD
  refine lv_aload_n hx hb dX0_init_74 rfl (lv_at hl 0 rfl) ?_
  refine va_new (ci := 2) (fs := [.null]) (C := RX2) (T := TX2) (N := 1) hx hb hts hin2 tyX2 tyX2_ok hown (hts (.classLink RX0 9 RX2) (by decide +kernel)) (hts (.instantiable RX2 1) (by decide +kernel)) (hts (.initialized RX2) (by decide +kernel)) hK hP hD hS hA rfl (fun j hj => by match j, hj with | 0, _ => rfl | n + 1, h => exact absurd h (by omega)) (Nat.le_of_ble_eq_true rfl) (Nat.le_of_ble_eq_true rfl) dX0_init_75 (fun z H hP hD hS => ?_)
  have hP : va_P d vwCl [(q, .inr (0, [.ref f, .ref x, .ref v, .ref g, .ref k, .null, .int (nI (0)), .int (nI (0)), .int (nI (0)), .int (nI (0)), .int (nI (0))])), (f, .inr (2, [.ref fa])), (fa, .inl (cI, 300, .inl (fun _ => 0))), (x, .inr (2, [.ref xa])), (xa, .inl (cI, 300, .inl (fun _ => 0))), (v, .inr (2, [.ref va])), (va, .inl (cI, 1296, .inl (fun _ => 0))), (g, .inr (2, [.ref ga])), (ga, .inl (cI, 1296, .inl (fun _ => 0))), (k, .inr (2, [.ref ka])), (ka, .inl (cI, 1296, .inl (fun _ => 0))), (z, .inr (2, [.null]))] H := hP
  have hD : va_D A [(q, .inr (0, [.ref f, .ref x, .ref v, .ref g, .ref k, .null, .int (nI (0)), .int (nI (0)), .int (nI (0)), .int (nI (0)), .int (nI (0))])), (f, .inr (2, [.ref fa])), (fa, .inl (cI, 300, .inl (fun _ => 0))), (x, .inr (2, [.ref xa])), (xa, .inl (cI, 300, .inl (fun _ => 0))), (v, .inr (2, [.ref va])), (va, .inl (cI, 1296, .inl (fun _ => 0))), (g, .inr (2, [.ref ga])), (ga, .inl (cI, 1296, .inl (fun _ => 0))), (k, .inr (2, [.ref ka])), (ka, .inl (cI, 1296, .inl (fun _ => 0))), (z, .inr (2, [.null]))] := hD
  refine lv_dup hx hb dX0_init_78 rfl ?_
  refine lv_sipush (v := nI (360)) hx hb dX0_init_79 (by decide) ?_
  refine n_nwI (As := [.int (nI (360))]) (rest := [.ref z, .ref q]) (wr := [(q, .inr (0, [.ref f, .ref x, .ref v, .ref g, .ref k, .null, .int (nI (0)), .int (nI (0)), .int (nI (0)), .int (nI (0)), .int (nI (0))])), (f, .inr (2, [.ref fa])), (fa, .inl (cI, 300, .inl (fun _ => 0))), (x, .inr (2, [.ref xa])), (xa, .inl (cI, 300, .inl (fun _ => 0))), (v, .inr (2, [.ref va])), (va, .inl (cI, 1296, .inl (fun _ => 0))), (g, .inr (2, [.ref ga])), (ga, .inl (cI, 1296, .inl (fun _ => 0))), (k, .inr (2, [.ref ka])), (ka, .inl (cI, 1296, .inl (fun _ => 0)))]) ⟨hx, hb, hml, hown, hts⟩ (c_X2_init l d cI z 360 (by decide) (by decide)) (cwI 1 hts gX0_init_X2_init rfl rfl rfl (hts (.initialized RX2) (by decide +kernel)) (hts (.methodLink RX0 11 yX2_init) (by decide +kernel)) (hts (.instanceMethod yX2_init) (by decide +kernel)) rfl (by decide +kernel) ⟨Nat.le_of_ble_eq_true rfl, Nat.le_of_ble_eq_true rfl⟩) hP hD hS hA hK 11 [0, 1, 2, 3, 4, 5, 6, 7, 8, 9, 10] rfl rfl (by decide) (by decide) rfl hl.1 rfl (Nat.le_of_ble_eq_true rfl) dX0_init_82 ⟨Nat.le_of_ble_eq_true rfl, Nat.le_of_ble_eq_true rfl⟩ (fun za H locs hP hD hS => ?_)
  have hP : va_P d vwCl [(q, .inr (0, [.ref f, .ref x, .ref v, .ref g, .ref k, .null, .int (nI (0)), .int (nI (0)), .int (nI (0)), .int (nI (0)), .int (nI (0))])), (f, .inr (2, [.ref fa])), (fa, .inl (cI, 300, .inl (fun _ => 0))), (x, .inr (2, [.ref xa])), (xa, .inl (cI, 300, .inl (fun _ => 0))), (v, .inr (2, [.ref va])), (va, .inl (cI, 1296, .inl (fun _ => 0))), (g, .inr (2, [.ref ga])), (ga, .inl (cI, 1296, .inl (fun _ => 0))), (k, .inr (2, [.ref ka])), (ka, .inl (cI, 1296, .inl (fun _ => 0))), (z, .inr (2, [.ref za])), (za, .inl (cI, 360, .inl (fun _ => 0)))] H := hP
  have hD : va_D A [(q, .inr (0, [.ref f, .ref x, .ref v, .ref g, .ref k, .null, .int (nI (0)), .int (nI (0)), .int (nI (0)), .int (nI (0)), .int (nI (0))])), (f, .inr (2, [.ref fa])), (fa, .inl (cI, 300, .inl (fun _ => 0))), (x, .inr (2, [.ref xa])), (xa, .inl (cI, 300, .inl (fun _ => 0))), (v, .inr (2, [.ref va])), (va, .inl (cI, 1296, .inl (fun _ => 0))), (g, .inr (2, [.ref ga])), (ga, .inl (cI, 1296, .inl (fun _ => 0))), (k, .inr (2, [.ref ka])), (ka, .inl (cI, 1296, .inl (fun _ => 0))), (z, .inr (2, [.ref za])), (za, .inl (cI, 360, .inl (fun _ => 0)))] := hD
  refine va_putF (D := d) (ci := 0) (v := .ref z) (ty := .object "Nudgelane$Row") (C := RX0) (T := TX0) (N := 11) hx hb hts hin0 tyX0 tyX0_ok nmX0 hown hK hP hD hS 0 rfl rfl 5 (by decide) hfl32 (fun _ h9 => h9) rfl hin rfl (by decide +kernel) rfl rfl (Nat.le_of_ble_eq_true rfl) dX0_init_85 (fun H locs hP hD hS => ?_)
  have hP : va_P d vwCl [(q, .inr (0, [.ref f, .ref x, .ref v, .ref g, .ref k, .ref z, .int (nI (0)), .int (nI (0)), .int (nI (0)), .int (nI (0)), .int (nI (0))])), (f, .inr (2, [.ref fa])), (fa, .inl (cI, 300, .inl (fun _ => 0))), (x, .inr (2, [.ref xa])), (xa, .inl (cI, 300, .inl (fun _ => 0))), (v, .inr (2, [.ref va])), (va, .inl (cI, 1296, .inl (fun _ => 0))), (g, .inr (2, [.ref ga])), (ga, .inl (cI, 1296, .inl (fun _ => 0))), (k, .inr (2, [.ref ka])), (ka, .inl (cI, 1296, .inl (fun _ => 0))), (z, .inr (2, [.ref za])), (za, .inl (cI, 360, .inl (fun _ => 0)))] H := hP
  have hD : va_D A [(q, .inr (0, [.ref f, .ref x, .ref v, .ref g, .ref k, .ref z, .int (nI (0)), .int (nI (0)), .int (nI (0)), .int (nI (0)), .int (nI (0))])), (f, .inr (2, [.ref fa])), (fa, .inl (cI, 300, .inl (fun _ => 0))), (x, .inr (2, [.ref xa])), (xa, .inl (cI, 300, .inl (fun _ => 0))), (v, .inr (2, [.ref va])), (va, .inl (cI, 1296, .inl (fun _ => 0))), (g, .inr (2, [.ref ga])), (ga, .inl (cI, 1296, .inl (fun _ => 0))), (k, .inr (2, [.ref ka])), (ka, .inl (cI, 1296, .inl (fun _ => 0))), (z, .inr (2, [.ref za])), (za, .inl (cI, 360, .inl (fun _ => 0)))] := hD
  refine lv_aload_n hx hb dX0_init_88 rfl (lv_at hl 0 rfl) ?_
  refine lv_iconst (v := (-1)) hx hb dX0_init_89 (by decide) ?_
  refine va_put (D := d) (ci := 0) (v := .int (-1)) (ty := .int) (C := RX0) (T := TX0) (N := 11) hx hb hts hin0 tyX0 tyX0_ok nmX0 hown hK hP hD hS 0 rfl rfl 9 (by decide) hfl35 (fun _ h9 => h9) rfl (by decide +kernel) rfl rfl (Nat.le_of_ble_eq_true rfl) dX0_init_90 (fun H locs hP hD hS => ?_)
  have hP : va_P d vwCl [(q, .inr (0, [.ref f, .ref x, .ref v, .ref g, .ref k, .ref z, .int (nI (0)), .int (nI (0)), .int (nI (0)), .int (-1), .int (nI (0))])), (f, .inr (2, [.ref fa])), (fa, .inl (cI, 300, .inl (fun _ => 0))), (x, .inr (2, [.ref xa])), (xa, .inl (cI, 300, .inl (fun _ => 0))), (v, .inr (2, [.ref va])), (va, .inl (cI, 1296, .inl (fun _ => 0))), (g, .inr (2, [.ref ga])), (ga, .inl (cI, 1296, .inl (fun _ => 0))), (k, .inr (2, [.ref ka])), (ka, .inl (cI, 1296, .inl (fun _ => 0))), (z, .inr (2, [.ref za])), (za, .inl (cI, 360, .inl (fun _ => 0)))] H := hP
  have hD : va_D A [(q, .inr (0, [.ref f, .ref x, .ref v, .ref g, .ref k, .ref z, .int (nI (0)), .int (nI (0)), .int (nI (0)), .int (-1), .int (nI (0))])), (f, .inr (2, [.ref fa])), (fa, .inl (cI, 300, .inl (fun _ => 0))), (x, .inr (2, [.ref xa])), (xa, .inl (cI, 300, .inl (fun _ => 0))), (v, .inr (2, [.ref va])), (va, .inl (cI, 1296, .inl (fun _ => 0))), (g, .inr (2, [.ref ga])), (ga, .inl (cI, 1296, .inl (fun _ => 0))), (k, .inr (2, [.ref ka])), (ka, .inl (cI, 1296, .inl (fun _ => 0))), (z, .inr (2, [.ref za])), (za, .inl (cI, 360, .inl (fun _ => 0)))] := hD
  refine W.widen (k := 12) (n := 4854) (Nat.le_of_ble_eq_true rfl) (Nat.le_of_ble_eq_true rfl) ?_
  exact W.vret hx hb hr (fun t ht hW => ⟨⟨(f, fa, x, xa, v, va, g, ga, k, ka, z, za), rfl, by rw [ht]; exact hP.sub [0, 1, 2, 3, 4, 5, 6, 7, 8, 9, 10, 11, 12] rfl, hD.sub [0, 1, 2, 3, 4, 5, 6, 7, 8, 9, 10, 11, 12] (by decide) rfl⟩, hS.F ht⟩) hS.2.2 dX0_init_93

set_option maxHeartbeats 4000000 in
set_option maxRecDepth 100000 in
/-- the form of every code -/
theorem c_X1_init (l : Launch) (d : va_G) (cI : ClassId) (q : Nat)  : nNw (S := Nat × Nat) l yX1_init wsX1_init ({ frames := 4, cells := 4, slots := 1302, locals := 91 } : Room) d [(cI, .int)] q 1 [.null] [] 4 1302 (fun u => match u with | (f, fa) => [(q, .inr (1, [.ref f])), (f, .inr (2, [.ref fa])), (fa, .inl (cI, 1296, .inl (fun j => nI (form j))))]) := by
  intro sz
  refine Met.ofW (cc := cX1_init) (maxL := 3) (ret := none) (by decide) rfl ?_
  intro p e s m args below meth c s₁ B hml hv
  obtain ⟨rfl, hsz, hP, hK, hD0⟩ := hv
  have hx := B.exec
  have hb := B.bytes
  have hr := B.returns
  have hts := atoms_spec (ws := wsX1_init) B.pre
  have hown : s.vm.findClass RX1 = some m.cls := findClass_of_methodNamed B.named
  have hlocks := B.notSynchronized
  have hin : meth.name = "<init>" := (name_of_methodNamed B.named B.method).1
  have hfl14 := hts (.fieldLink RX1 14 "Nudgelane$Programs" "forms" "LNudgelane$Row;") (by decide +kernel)
  have hin1 : ∀ w ∈ u_ws RX1 TX1 1, w ∈ wsX1_init := by decide +kernel
  have hin2 : ∀ w ∈ u_ws RX2 TX2 1, w ∈ wsX1_init := by decide +kernel
  subst hsz
  have hD := hD0.self (sz := s.heap.size)
  generalize hAe : va_A [(q, .inr (1, [.null]))] s.heap.size = A at hD ⊢
  have hA : ∀ q : Nat, s.heap.size ≤ q → A q := fun q h => by rw [← hAe]; exact Or.inr h
  have hS : va_S A s.heap s.heap [] := va_S.rf
  have hP : va_P d vwCl [(q, .inr (1, [.null]))] s.heap := hP
  have hl := lv_entry ([.ref q]) (n := 3) (Nat.le_of_ble_eq_true rfl)
  rw [lg_entry_eq]
  generalize (lg_sl ([.ref q]) ++ List.replicate (3 - (lg_sl ([.ref q])).length) Slot.unset).toArray = ls at hl ⊢
  have hl : lv_has ls 3 [(0, .ref q)] := hl
  refine n_nameQ (fun Q hQ => ?_)
  refine lv_aload_n hx hb dX1_init_0 rfl (lv_at hl 0 rfl) ?_
  refine W.objInit hx hb hown (hts (.methodLink RX1 3 objectInit) (by decide +kernel)) (hts (.instanceMethod objectInit) (by decide +kernel)) (hts (.code objectInit ⟨#[0xb1]⟩ 1 none) (List.mem_of_getElem? (i := 3) rfl)) rfl (by rw [hml]; exact hl.1) rfl dX1_init_1 (Nat.le_of_ble_eq_true rfl) (Nat.le_of_ble_eq_true rfl) ?_
  refine W.eq (g2 := F0 m 4 ls []) rfl ?_
  refine lv_aload_n hx hb dX1_init_4 rfl (lv_at hl 0 rfl) ?_
  refine va_new (ci := 2) (fs := [.null]) (C := RX2) (T := TX2) (N := 1) hx hb hts hin2 tyX2 tyX2_ok hown (hts (.classLink RX1 9 RX2) (by decide +kernel)) (hts (.instantiable RX2 1) (by decide +kernel)) (hts (.initialized RX2) (by decide +kernel)) hK hP hD hS hA rfl (fun j hj => by match j, hj with | 0, _ => rfl | n + 1, h => exact absurd h (by omega)) (Nat.le_of_ble_eq_true rfl) (Nat.le_of_ble_eq_true rfl) dX1_init_5 (fun f H hP hD hS => ?_)
  have hP : va_P d vwCl [(q, .inr (1, [.null])), (f, .inr (2, [.null]))] H := hP
  have hD : va_D A [(q, .inr (1, [.null])), (f, .inr (2, [.null]))] := hD
  refine lv_dup hx hb dX1_init_8 rfl ?_
  refine lv_sipush (v := nI (1296)) hx hb dX1_init_9 (by decide) ?_
  refine n_nwI (As := [.int (nI (1296))]) (rest := [.ref f, .ref q]) (wr := [(q, .inr (1, [.null]))]) ⟨hx, hb, hml, hown, hts⟩ (c_X2_init l d cI f 1296 (by decide) (by decide)) (cwI 1 hts gX1_init_X2_init rfl rfl rfl (hts (.initialized RX2) (by decide +kernel)) (hts (.methodLink RX1 11 yX2_init) (by decide +kernel)) (hts (.instanceMethod yX2_init) (by decide +kernel)) rfl (by decide +kernel) ⟨Nat.le_of_ble_eq_true rfl, Nat.le_of_ble_eq_true rfl⟩) hP hD hS hA hK 1 [0] rfl rfl (by decide) (by decide) rfl hl.1 rfl (Nat.le_of_ble_eq_true rfl) dX1_init_12 ⟨Nat.le_of_ble_eq_true rfl, Nat.le_of_ble_eq_true rfl⟩ (fun fa H locs hP hD hS => ?_)
  have hP : va_P d vwCl [(q, .inr (1, [.null])), (f, .inr (2, [.ref fa])), (fa, .inl (cI, 1296, .inl (fun _ => 0)))] H := hP
  have hD : va_D A [(q, .inr (1, [.null])), (f, .inr (2, [.ref fa])), (fa, .inl (cI, 1296, .inl (fun _ => 0)))] := hD
  refine va_putF (D := d) (ci := 1) (v := .ref f) (ty := .object "Nudgelane$Row") (C := RX1) (T := TX1) (N := 1) hx hb hts hin1 tyX1 tyX1_ok nmX1 hown hK hP hD hS 0 rfl rfl 0 (by decide) hfl14 (fun _ h9 => h9) rfl hin rfl (by decide +kernel) rfl rfl (Nat.le_of_ble_eq_true rfl) dX1_init_15 (fun H locs hP hD hS => ?_)
  have hP : va_P d vwCl [(q, .inr (1, [.ref f])), (f, .inr (2, [.ref fa])), (fa, .inl (cI, 1296, .inl (fun _ => 0)))] H := hP
  have hD : va_D A [(q, .inr (1, [.ref f])), (f, .inr (2, [.ref fa])), (fa, .inl (cI, 1296, .inl (fun _ => 0)))] := hD
  refine va_new (ci := 2) (fs := [.null]) (C := RX2) (T := TX2) (N := 1) hx hb hts hin2 tyX2 tyX2_ok hown (hts (.classLink RX1 9 RX2) (by decide +kernel)) (hts (.instantiable RX2 1) (by decide +kernel)) (hts (.initialized RX2) (by decide +kernel)) hK hP hD hS hA rfl (fun j hj => by match j, hj with | 0, _ => rfl | n + 1, h => exact absurd h (by omega)) (Nat.le_of_ble_eq_true rfl) (Nat.le_of_ble_eq_true rfl) dX1_init_18 (fun g H hP hD hS => ?_)
  have hP : va_P d vwCl [(q, .inr (1, [.ref f])), (f, .inr (2, [.ref fa])), (fa, .inl (cI, 1296, .inl (fun _ => 0))), (g, .inr (2, [.null]))] H := hP
  have hD : va_D A [(q, .inr (1, [.ref f])), (f, .inr (2, [.ref fa])), (fa, .inl (cI, 1296, .inl (fun _ => 0))), (g, .inr (2, [.null]))] := hD
  refine lv_dup hx hb dX1_init_21 rfl ?_
  refine lv_iconst (v := nI (4)) hx hb dX1_init_22 (by decide) ?_
  refine n_nwI (As := [.int (nI (4))]) (rest := [.ref g]) (wr := [(q, .inr (1, [.ref f])), (f, .inr (2, [.ref fa])), (fa, .inl (cI, 1296, .inl (fun _ => 0)))]) ⟨hx, hb, hml, hown, hts⟩ (c_X2_init l d cI g 4 (by decide) (by decide)) (cwI 1 hts gX1_init_X2_init rfl rfl rfl (hts (.initialized RX2) (by decide +kernel)) (hts (.methodLink RX1 11 yX2_init) (by decide +kernel)) (hts (.instanceMethod yX2_init) (by decide +kernel)) rfl (by decide +kernel) ⟨Nat.le_of_ble_eq_true rfl, Nat.le_of_ble_eq_true rfl⟩) hP hD hS hA hK 3 [0, 1, 2] rfl rfl (by decide) (by decide) rfl hl.1 rfl (Nat.le_of_ble_eq_true rfl) dX1_init_23 ⟨Nat.le_of_ble_eq_true rfl, Nat.le_of_ble_eq_true rfl⟩ (fun ga H locs hP hD hS => ?_)
  have hP : va_P d vwCl [(q, .inr (1, [.ref f])), (f, .inr (2, [.ref fa])), (fa, .inl (cI, 1296, .inl (fun _ => 0))), (g, .inr (2, [.ref ga])), (ga, .inl (cI, 4, .inl (fun _ => 0)))] H := hP
  have hD : va_D A [(q, .inr (1, [.ref f])), (f, .inr (2, [.ref fa])), (fa, .inl (cI, 1296, .inl (fun _ => 0))), (g, .inr (2, [.ref ga])), (ga, .inl (cI, 4, .inl (fun _ => 0)))] := hD
  refine lv_astore_n (lv' := [(1, .ref g), (0, .ref q)]) hx hb dX1_init_26 rfl hl (by decide) rfl (fun ls hl => ?_)
  refine lv_iconst (v := nI (0)) hx hb dX1_init_27 (by decide) ?_
  refine lv_istore_n (lv' := [(2, .int (nI (0))), (1, .ref g), (0, .ref q)]) hx hb dX1_init_28 rfl hl (by decide) rfl (fun ls hl => ?_)
  refine W.widen (k := 4) (n := 1302) (Nat.le_of_ble_eq_true rfl) (Nat.le_of_ble_eq_true rfl) ?_
  have loop : ∀ (n k : Nat) (g1 h1 : Nat → Int32), k + n = 1296 → (∀ j, j < k → g1 j = nI (form j)) → ∀ (H : Heap) (locs : List Loc), va_P d vwCl [(q, .inr (1, [.ref f])), (f, .inr (2, [.ref fa])), (fa, .inl (cI, 1296, .inl (g1))), (g, .inr (2, [.ref ga])), (ga, .inl (cI, 4, .inl (h1)))] H → va_D A [(q, .inr (1, [.ref f])), (f, .inr (2, [.ref fa])), (fa, .inl (cI, 1296, .inl (g1))), (g, .inr (2, [.ref ga])), (ga, .inl (cI, 4, .inl (h1)))] → va_S A s.heap H locs → ∀ (ls : Array Slot), lv_has ls 3 [(2, .int (nI (k))), (1, .ref g), (0, .ref q)] → W p l e ({ frames := 4, cells := 4, slots := 1302, locals := 91 } : Room) s m ([.ref q] : List Value).toArray below meth c H locs 4 1302 Q (F0 m 29 ls []) := by
    intro n
    induction n with
    | zero =>
      intro k g1 h1 hk hg H locs hP hD hS ls hl
      refine lv_iload_n hx hb dX1_init_29 rfl (lv_at hl 0 rfl) ?_
      refine lv_sipush (v := nI (1296)) hx hb dX1_init_30 (by decide) ?_
      refine n_icmp_ge (tgt := 55) hx hb dX1_init_33 (by decide) (by omega) (by omega) (fun c_1 => ?_) (fun c_1 => ?_)
      ·
        obtain ⟨hP, hD⟩ := n_cg (ws' := [(q, .inr (1, [.ref f])), (f, .inr (2, [.ref fa])), (fa, .inl (cI, 1296, .inl (fun j => nI (form j)))), (g, .inr (2, [.ref ga])), (ga, .inl (cI, 4, .inl (h1)))]) hP hD 2 rfl (by intro j hj; exact hg j (by omega)) rfl
        subst hQ
        refine W.widen (k := 4) (n := 1302) (Nat.le_refl _) (Nat.le_refl _) ?_
        exact W.vret hx hb hr (fun t ht hW => ⟨⟨(f, fa), rfl, by rw [ht]; exact hP.sub [0, 1, 2] rfl, hD.sub [0, 1, 2] (by decide) rfl⟩, hS.F ht⟩) hS.2.2 dX1_init_55
      · exact False.elim (by omega)
    | succ n ih =>
      intro k g1 h1 hk hg H locs hP hD hS ls hl
      refine lv_iload_n hx hb dX1_init_29 rfl (lv_at hl 0 rfl) ?_
      refine lv_sipush (v := nI (1296)) hx hb dX1_init_30 (by decide) ?_
      refine n_icmp_ge (tgt := 55) hx hb dX1_init_33 (by decide) (by omega) (by omega) (fun c_2 => ?_) (fun c_2 => ?_)
      · exact False.elim (by omega)
      ·
        refine lv_aload_n hx hb dX1_init_36 rfl (lv_at hl 2 rfl) ?_
        refine va_get (D := d) (ci := 1) (v := .ref f) (C := RX1) (T := TX1) (N := 1) hx hb hts hin1 hown hK hP 0 rfl rfl 0 (by decide) hfl14 (fun _ h9 => h9) rfl dX1_init_37 ?_
        refine lv_iload_n hx hb dX1_init_40 rfl (lv_at hl 0 rfl) ?_
        refine lv_iload_n hx hb dX1_init_41 rfl (lv_at hl 0 rfl) ?_
        refine lv_aload_n hx hb dX1_init_42 rfl (lv_at hl 1 rfl) ?_
        refine n_upS (As := [.int (nI (k)), .ref g]) (rest := [.int (nI (k)), .ref f]) (WC := [(g, .inr (2, [.ref ga])), (ga, .inl (cI, 4, .inl (h1)))]) (WC' := [(g, .inr (2, [.ref ga])), (ga, .inl (cI, 4, .inl (fun j => nI (dig (form k) j))))]) (wr := [(q, .inr (1, [.ref f])), (f, .inr (2, [.ref fa])), (fa, .inl (cI, 1296, .inl (g1)))]) (WS' := [(q, .inr (1, [.ref f])), (f, .inr (2, [.ref fa])), (fa, .inl (cI, 1296, .inl (g1))), (g, .inr (2, [.ref ga])), (ga, .inl (cI, 4, .inl (fun j => nI (dig (form k) j))))]) ⟨hx, hb, hml, hown, hts⟩ (c_X1_reduce l d cI g ga k h1 (by omega)) (cwS 2 hts gX1_init_X1_reduce rfl rfl rfl (by decide +kernel) ⟨Nat.le_of_ble_eq_true rfl, Nat.le_of_ble_eq_true rfl⟩) hP hD hS hA (hK) [3, 4] [0, 1, 2] [0, 1, 2, 3, 4] rfl rfl (by decide) ⟨by decide, by decide⟩ (by decide) rfl rfl hl.1 rfl (Nat.le_of_ble_eq_true rfl) dX1_init_43 ⟨Nat.le_of_ble_eq_true rfl, Nat.le_of_ble_eq_true rfl⟩ (fun H locs hP hD hS => ?_)
        show W _ _ _ _ _ _ _ _ _ _ _ _ _ _ _ (F0 m _ ls (.int (nI (form k)) :: [.int (nI (k)), .ref f]))
        refine n_upV (As := [.int (nI (k)), .int (nI (form k))]) (rest := []) (WC := [(f, .inr (2, [.ref fa])), (fa, .inl (cI, 1296, .inl (g1)))]) (WC' := [(f, .inr (2, [.ref fa])), (fa, .inl (cI, 1296, .inl (upd g1 k (nI (form k)))))]) (wr := [(q, .inr (1, [.ref f])), (g, .inr (2, [.ref ga])), (ga, .inl (cI, 4, .inl (fun j => nI (dig (form k) j))))]) (WS' := [(q, .inr (1, [.ref f])), (f, .inr (2, [.ref fa])), (fa, .inl (cI, 1296, .inl (upd g1 k (nI (form k))))), (g, .inr (2, [.ref ga])), (ga, .inl (cI, 4, .inl (fun j => nI (dig (form k) j))))]) ⟨hx, hb, hml, hown, hts⟩ (c_X2_set l d cI f fa 1296 g1 k (nI (form k)) (by omega) (by decide)) (cwV 2 hts gX1_init_X2_set rfl rfl rfl (by decide +kernel) ⟨Nat.le_of_ble_eq_true rfl, Nat.le_of_ble_eq_true rfl⟩) (va_recv hK hP (ci := 2) (q0 := 1) rfl rfl) hP hD hS hA (hK) [1, 2] [0, 3, 4] [0, 3, 4, 1, 2] rfl rfl (by decide) ⟨by decide, by decide⟩ (by decide) rfl rfl hl.1 rfl (Nat.le_of_ble_eq_true rfl) dX1_init_46 ⟨Nat.le_of_ble_eq_true rfl, Nat.le_of_ble_eq_true rfl⟩ (fun H locs hP hD hS => ?_)
        show W _ _ _ _ _ _ _ _ _ _ _ _ _ _ _ (F0 m _ ls [])
        refine lv_iinc (v := nI (k + 1)) (lv' := [(2, .int (nI (k + 1))), (1, .ref g), (0, .ref q)]) hx hb dX1_init_49 hl (k := 0) rfl (n_inc1 _) (by decide) rfl (fun ls hl => ?_)
        refine lv_goto (tgt := 29) hx hb dX1_init_52 (by decide) ?_
        exact ih (k + 1) _ _ (by omega) (fun j hj => by unfold upd; by_cases h : j = k <;> simp [h]; exact hg j (by omega)) H locs hP hD hS ls (lv_sub hl [0, 1, 2] rfl)
  exact loop 1296 0 _ _ rfl (fun j hj => absurd hj (Nat.not_lt_zero j)) H locs (hP.sub [0, 1, 2, 3, 4] rfl) (hD.sub [0, 1, 2, 3, 4] (by decide) rfl) hS ls (lv_sub hl [0, 1, 2] rfl)

set_option maxHeartbeats 4000000 in
set_option maxRecDepth 100000 in
/-- a new object -/
theorem c_X5_init (l : Launch) (d : va_G) (cI : ClassId) (q : Nat)  : nNw (S := Nat × Nat × Nat × Nat × (Nat × Nat) × (Nat × Nat × Nat × Nat) × (Nat × Nat × Nat × Nat × Nat × Nat × Nat × Nat × Nat × Nat × Nat × Nat) × (Nat × Nat × Nat × Nat)) l yX5_init wsX5_init ({ frames := 5, cells := 28, slots := 11360, locals := 113 } : Room) d [(cI, .int)] q 5 [.null, .null, .null, .null] [] 28 11360 (fun u => match u with | (p1, w1, a1, z1, (p1f, p1fa), (w1k, w1ka, w1g, w1ga), (a1f, a1fa, a1x, a1xa, a1v, a1va, a1g, a1ga, a1k, a1ka, a1z, a1za), (z1k, z1ka, z1g, z1ga)) => [(q, .inr (5, [.ref p1, .ref w1, .ref a1, .ref z1])), (p1, .inr (1, [.ref p1f])), (p1f, .inr (2, [.ref p1fa])), (p1fa, .inl (cI, 1296, .inl (fun j => nI (form j)))), (w1, .inr (3, [.ref w1k, .ref w1g])), (w1k, .inr (2, [.ref w1ka])), (w1ka, .inl (cI, 1296, .inl (fun _ => 0))), (w1g, .inr (2, [.ref w1ga])), (w1ga, .inl (cI, 1296, .inl (fun _ => 0))), (a1, .inr (0, [.ref a1f, .ref a1x, .ref a1v, .ref a1g, .ref a1k, .ref a1z, .int (nI (0)), .int (nI (0)), .int (nI (0)), .int (-1), .int (nI (0))])), (a1f, .inr (2, [.ref a1fa])), (a1fa, .inl (cI, 300, .inl (fun _ => 0))), (a1x, .inr (2, [.ref a1xa])), (a1xa, .inl (cI, 300, .inl (fun _ => 0))), (a1v, .inr (2, [.ref a1va])), (a1va, .inl (cI, 1296, .inl (fun _ => 0))), (a1g, .inr (2, [.ref a1ga])), (a1ga, .inl (cI, 1296, .inl (fun _ => 0))), (a1k, .inr (2, [.ref a1ka])), (a1ka, .inl (cI, 1296, .inl (fun _ => 0))), (a1z, .inr (2, [.ref a1za])), (a1za, .inl (cI, 360, .inl (fun _ => 0))), (z1, .inr (4, [.ref z1k, .ref z1g])), (z1k, .inr (2, [.ref z1ka])), (z1ka, .inl (cI, 1296, .inl (fun _ => 0))), (z1g, .inr (2, [.ref z1ga])), (z1ga, .inl (cI, 1296, .inl (fun _ => 0)))]) := by
  intro sz
  refine Met.ofW (cc := cX5_init) (maxL := 1) (ret := none) (by decide) rfl ?_
  intro p e s m args below meth c s₁ B hml hv
  obtain ⟨rfl, hsz, hP, hK, hD0⟩ := hv
  have hx := B.exec
  have hb := B.bytes
  have hr := B.returns
  have hts := atoms_spec (ws := wsX5_init) B.pre
  have hown : s.vm.findClass RX5 = some m.cls := findClass_of_methodNamed B.named
  have hlocks := B.notSynchronized
  have hin : meth.name = "<init>" := (name_of_methodNamed B.named B.method).1
  have hfl10 := hts (.fieldLink RX5 10 "Nudgelane" "programs" "LNudgelane$Programs;") (by decide +kernel)
  have hfl19 := hts (.fieldLink RX5 19 "Nudgelane" "ways" "LNudgelane$Ways;") (by decide +kernel)
  have hfl26 := hts (.fieldLink RX5 26 "Nudgelane" "attempts" "LNudgelane$Attempts;") (by decide +kernel)
  have hfl33 := hts (.fieldLink RX5 33 "Nudgelane" "worths" "LNudgelane$Worths;") (by decide +kernel)
  have hin0 : ∀ w ∈ u_ws RX0 TX0 11, w ∈ wsX5_init := by decide +kernel
  have hin1 : ∀ w ∈ u_ws RX1 TX1 1, w ∈ wsX5_init := by decide +kernel
  have hin3 : ∀ w ∈ u_ws RX3 TX3 2, w ∈ wsX5_init := by decide +kernel
  have hin4 : ∀ w ∈ u_ws RX4 TX4 2, w ∈ wsX5_init := by decide +kernel
  have hin5 : ∀ w ∈ u_ws RX5 TX5 4, w ∈ wsX5_init := by decide +kernel
  subst hsz
  have hD := hD0.self (sz := s.heap.size)
  generalize hAe : va_A [(q, .inr (5, [.null, .null, .null, .null]))] s.heap.size = A at hD ⊢
  have hA : ∀ q : Nat, s.heap.size ≤ q → A q := fun q h => by rw [← hAe]; exact Or.inr h
  have hS : va_S A s.heap s.heap [] := va_S.rf
  have hP : va_P d vwCl [(q, .inr (5, [.null, .null, .null, .null]))] s.heap := hP
  have hl := lv_entry ([.ref q]) (n := 1) (Nat.le_of_ble_eq_true rfl)
  rw [lg_entry_eq]
  generalize (lg_sl ([.ref q]) ++ List.replicate (1 - (lg_sl ([.ref q])).length) Slot.unset).toArray = ls at hl ⊢
  have hl : lv_has ls 1 [(0, .ref q)] := hl
  refine lv_aload_n hx hb dX5_init_0 rfl (lv_at hl 0 rfl) ?_
  refine W.objInit hx hb hown (hts (.methodLink RX5 1 objectInit) (by decide +kernel)) (hts (.instanceMethod objectInit) (by decide +kernel)) (hts (.code objectInit ⟨#[0xb1]⟩ 1 none) (List.mem_of_getElem? (i := 3) rfl)) rfl (by rw [hml]; exact hl.1) rfl dX5_init_1 (Nat.le_of_ble_eq_true rfl) (Nat.le_of_ble_eq_true rfl) ?_
  refine W.eq (g2 := F0 m 4 ls []) rfl ?_
  refine lv_aload_n hx hb dX5_init_4 rfl (lv_at hl 0 rfl) ?_
  refine va_new (ci := 1) (fs := [.null]) (C := RX1) (T := TX1) (N := 1) hx hb hts hin1 tyX1 tyX1_ok hown (hts (.classLink RX5 7 RX1) (by decide +kernel)) (hts (.instantiable RX1 1) (by decide +kernel)) (hts (.initialized RX1) (by decide +kernel)) hK hP hD hS hA rfl (fun j hj => by match j, hj with | 0, _ => rfl | n + 1, h => exact absurd h (by omega)) (Nat.le_of_ble_eq_true rfl) (Nat.le_of_ble_eq_true rfl) dX5_init_5 (fun p1 H hP hD hS => ?_)
  have hP : va_P d vwCl [(q, .inr (5, [.null, .null, .null, .null])), (p1, .inr (1, [.null]))] H := hP
  have hD : va_D A [(q, .inr (5, [.null, .null, .null, .null])), (p1, .inr (1, [.null]))] := hD
  refine lv_dup hx hb dX5_init_8 rfl ?_
  refine n_nwI (As := []) (rest := [.ref p1, .ref q]) (wr := [(q, .inr (5, [.null, .null, .null, .null]))]) ⟨hx, hb, hml, hown, hts⟩ (c_X1_init l d cI p1) (cwI 0 hts gX5_init_X1_init rfl rfl rfl (hts (.initialized RX1) (by decide +kernel)) (hts (.methodLink RX5 9 yX1_init) (by decide +kernel)) (hts (.instanceMethod yX1_init) (by decide +kernel)) rfl (by decide +kernel) ⟨Nat.le_of_ble_eq_true rfl, Nat.le_of_ble_eq_true rfl⟩) hP hD hS hA hK 1 [0] rfl rfl (by decide) (by decide) rfl hl.1 rfl (Nat.le_of_ble_eq_true rfl) dX5_init_9 ⟨Nat.le_of_ble_eq_true rfl, Nat.le_of_ble_eq_true rfl⟩ (fun u H locs hP hD hS => ?_)
  obtain ⟨p1f, p1fa⟩ := u
  have hP : va_P d vwCl [(q, .inr (5, [.null, .null, .null, .null])), (p1, .inr (1, [.ref p1f])), (p1f, .inr (2, [.ref p1fa])), (p1fa, .inl (cI, 1296, .inl (fun j => nI (form j))))] H := hP
  have hD : va_D A [(q, .inr (5, [.null, .null, .null, .null])), (p1, .inr (1, [.ref p1f])), (p1f, .inr (2, [.ref p1fa])), (p1fa, .inl (cI, 1296, .inl (fun j => nI (form j))))] := hD
  refine va_putF (D := d) (ci := 5) (v := .ref p1) (ty := .object "Nudgelane$Programs") (C := RX5) (T := TX5) (N := 4) hx hb hts hin5 tyX5 tyX5_ok nmX5 hown hK hP hD hS 0 rfl rfl 0 (by decide) hfl10 (fun _ h9 => h9) rfl hin rfl (by decide +kernel) rfl rfl (Nat.le_of_ble_eq_true rfl) dX5_init_12 (fun H locs hP hD hS => ?_)
  have hP : va_P d vwCl [(q, .inr (5, [.ref p1, .null, .null, .null])), (p1, .inr (1, [.ref p1f])), (p1f, .inr (2, [.ref p1fa])), (p1fa, .inl (cI, 1296, .inl (fun j => nI (form j))))] H := hP
  have hD : va_D A [(q, .inr (5, [.ref p1, .null, .null, .null])), (p1, .inr (1, [.ref p1f])), (p1f, .inr (2, [.ref p1fa])), (p1fa, .inl (cI, 1296, .inl (fun j => nI (form j))))] := hD
  refine lv_aload_n hx hb dX5_init_15 rfl (lv_at hl 0 rfl) ?_
  refine va_new (ci := 3) (fs := [.null, .null]) (C := RX3) (T := TX3) (N := 2) hx hb hts hin3 tyX3 tyX3_ok hown (hts (.classLink RX5 16 RX3) (by decide +kernel)) (hts (.instantiable RX3 2) (by decide +kernel)) (hts (.initialized RX3) (by decide +kernel)) hK hP hD hS hA rfl (fun j hj => by match j, hj with | 0, _ => rfl | 1, _ => rfl | n + 2, h => exact absurd h (by omega)) (Nat.le_of_ble_eq_true rfl) (Nat.le_of_ble_eq_true rfl) dX5_init_16 (fun w1 H hP hD hS => ?_)
  have hP : va_P d vwCl [(q, .inr (5, [.ref p1, .null, .null, .null])), (p1, .inr (1, [.ref p1f])), (p1f, .inr (2, [.ref p1fa])), (p1fa, .inl (cI, 1296, .inl (fun j => nI (form j)))), (w1, .inr (3, [.null, .null]))] H := hP
  have hD : va_D A [(q, .inr (5, [.ref p1, .null, .null, .null])), (p1, .inr (1, [.ref p1f])), (p1f, .inr (2, [.ref p1fa])), (p1fa, .inl (cI, 1296, .inl (fun j => nI (form j)))), (w1, .inr (3, [.null, .null]))] := hD
  refine lv_dup hx hb dX5_init_19 rfl ?_
  refine n_nwI (As := []) (rest := [.ref w1, .ref q]) (wr := [(q, .inr (5, [.ref p1, .null, .null, .null])), (p1, .inr (1, [.ref p1f])), (p1f, .inr (2, [.ref p1fa])), (p1fa, .inl (cI, 1296, .inl (fun j => nI (form j))))]) ⟨hx, hb, hml, hown, hts⟩ (c_X3_init l d cI w1) (cwI 0 hts gX5_init_X3_init rfl rfl rfl (hts (.initialized RX3) (by decide +kernel)) (hts (.methodLink RX5 18 yX3_init) (by decide +kernel)) (hts (.instanceMethod yX3_init) (by decide +kernel)) rfl (by decide +kernel) ⟨Nat.le_of_ble_eq_true rfl, Nat.le_of_ble_eq_true rfl⟩) hP hD hS hA hK 4 [0, 1, 2, 3] rfl rfl (by decide) (by decide) rfl hl.1 rfl (Nat.le_of_ble_eq_true rfl) dX5_init_20 ⟨Nat.le_of_ble_eq_true rfl, Nat.le_of_ble_eq_true rfl⟩ (fun u H locs hP hD hS => ?_)
  obtain ⟨w1k, w1ka, w1g, w1ga⟩ := u
  have hP : va_P d vwCl [(q, .inr (5, [.ref p1, .null, .null, .null])), (p1, .inr (1, [.ref p1f])), (p1f, .inr (2, [.ref p1fa])), (p1fa, .inl (cI, 1296, .inl (fun j => nI (form j)))), (w1, .inr (3, [.ref w1k, .ref w1g])), (w1k, .inr (2, [.ref w1ka])), (w1ka, .inl (cI, 1296, .inl (fun _ => 0))), (w1g, .inr (2, [.ref w1ga])), (w1ga, .inl (cI, 1296, .inl (fun _ => 0)))] H := hP
  have hD : va_D A [(q, .inr (5, [.ref p1, .null, .null, .null])), (p1, .inr (1, [.ref p1f])), (p1f, .inr (2, [.ref p1fa])), (p1fa, .inl (cI, 1296, .inl (fun j => nI (form j)))), (w1, .inr (3, [.ref w1k, .ref w1g])), (w1k, .inr (2, [.ref w1ka])), (w1ka, .inl (cI, 1296, .inl (fun _ => 0))), (w1g, .inr (2, [.ref w1ga])), (w1ga, .inl (cI, 1296, .inl (fun _ => 0)))] := hD
  refine va_putF (D := d) (ci := 5) (v := .ref w1) (ty := .object "Nudgelane$Ways") (C := RX5) (T := TX5) (N := 4) hx hb hts hin5 tyX5 tyX5_ok nmX5 hown hK hP hD hS 0 rfl rfl 1 (by decide) hfl19 (fun _ h9 => h9) rfl hin rfl (by decide +kernel) rfl rfl (Nat.le_of_ble_eq_true rfl) dX5_init_23 (fun H locs hP hD hS => ?_)
  have hP : va_P d vwCl [(q, .inr (5, [.ref p1, .ref w1, .null, .null])), (p1, .inr (1, [.ref p1f])), (p1f, .inr (2, [.ref p1fa])), (p1fa, .inl (cI, 1296, .inl (fun j => nI (form j)))), (w1, .inr (3, [.ref w1k, .ref w1g])), (w1k, .inr (2, [.ref w1ka])), (w1ka, .inl (cI, 1296, .inl (fun _ => 0))), (w1g, .inr (2, [.ref w1ga])), (w1ga, .inl (cI, 1296, .inl (fun _ => 0)))] H := hP
  have hD : va_D A [(q, .inr (5, [.ref p1, .ref w1, .null, .null])), (p1, .inr (1, [.ref p1f])), (p1f, .inr (2, [.ref p1fa])), (p1fa, .inl (cI, 1296, .inl (fun j => nI (form j)))), (w1, .inr (3, [.ref w1k, .ref w1g])), (w1k, .inr (2, [.ref w1ka])), (w1ka, .inl (cI, 1296, .inl (fun _ => 0))), (w1g, .inr (2, [.ref w1ga])), (w1ga, .inl (cI, 1296, .inl (fun _ => 0)))] := hD
  refine lv_aload_n hx hb dX5_init_26 rfl (lv_at hl 0 rfl) ?_
  refine va_new (ci := 0) (fs := [.null, .null, .null, .null, .null, .null, .int (nI (0)), .int (nI (0)), .int (nI (0)), .int (nI (0)), .int (nI (0))]) (C := RX0) (T := TX0) (N := 11) hx hb hts hin0 tyX0 tyX0_ok hown (hts (.classLink RX5 23 RX0) (by decide +kernel)) (hts (.instantiable RX0 11) (by decide +kernel)) (hts (.initialized RX0) (by decide +kernel)) hK hP hD hS hA rfl (fun j hj => by match j, hj with | 0, _ => rfl | 1, _ => rfl | 2, _ => rfl | 3, _ => rfl | 4, _ => rfl | 5, _ => rfl | 6, _ => rfl | 7, _ => rfl | 8, _ => rfl | 9, _ => rfl | 10, _ => rfl | n + 11, h => exact absurd h (by omega)) (Nat.le_of_ble_eq_true rfl) (Nat.le_of_ble_eq_true rfl) dX5_init_27 (fun a1 H hP hD hS => ?_)
  have hP : va_P d vwCl [(q, .inr (5, [.ref p1, .ref w1, .null, .null])), (p1, .inr (1, [.ref p1f])), (p1f, .inr (2, [.ref p1fa])), (p1fa, .inl (cI, 1296, .inl (fun j => nI (form j)))), (w1, .inr (3, [.ref w1k, .ref w1g])), (w1k, .inr (2, [.ref w1ka])), (w1ka, .inl (cI, 1296, .inl (fun _ => 0))), (w1g, .inr (2, [.ref w1ga])), (w1ga, .inl (cI, 1296, .inl (fun _ => 0))), (a1, .inr (0, [.null, .null, .null, .null, .null, .null, .int (nI (0)), .int (nI (0)), .int (nI (0)), .int (nI (0)), .int (nI (0))]))] H := hP
  have hD : va_D A [(q, .inr (5, [.ref p1, .ref w1, .null, .null])), (p1, .inr (1, [.ref p1f])), (p1f, .inr (2, [.ref p1fa])), (p1fa, .inl (cI, 1296, .inl (fun j => nI (form j)))), (w1, .inr (3, [.ref w1k, .ref w1g])), (w1k, .inr (2, [.ref w1ka])), (w1ka, .inl (cI, 1296, .inl (fun _ => 0))), (w1g, .inr (2, [.ref w1ga])), (w1ga, .inl (cI, 1296, .inl (fun _ => 0))), (a1, .inr (0, [.null, .null, .null, .null, .null, .null, .int (nI (0)), .int (nI (0)), .int (nI (0)), .int (nI (0)), .int (nI (0))]))] := hD
  refine lv_dup hx hb dX5_init_30 rfl ?_
  refine n_nwI (As := []) (rest := [.ref a1, .ref q]) (wr := [(q, .inr (5, [.ref p1, .ref w1, .null, .null])), (p1, .inr (1, [.ref p1f])), (p1f, .inr (2, [.ref p1fa])), (p1fa, .inl (cI, 1296, .inl (fun j => nI (form j)))), (w1, .inr (3, [.ref w1k, .ref w1g])), (w1k, .inr (2, [.ref w1ka])), (w1ka, .inl (cI, 1296, .inl (fun _ => 0))), (w1g, .inr (2, [.ref w1ga])), (w1ga, .inl (cI, 1296, .inl (fun _ => 0)))]) ⟨hx, hb, hml, hown, hts⟩ (c_X0_init l d cI a1) (cwI 0 hts gX5_init_X0_init rfl rfl rfl (hts (.initialized RX0) (by decide +kernel)) (hts (.methodLink RX5 25 yX0_init) (by decide +kernel)) (hts (.instanceMethod yX0_init) (by decide +kernel)) rfl (by decide +kernel) ⟨Nat.le_of_ble_eq_true rfl, Nat.le_of_ble_eq_true rfl⟩) hP hD hS hA hK 9 [0, 1, 2, 3, 4, 5, 6, 7, 8] rfl rfl (by decide) (by decide) rfl hl.1 rfl (Nat.le_of_ble_eq_true rfl) dX5_init_31 ⟨Nat.le_of_ble_eq_true rfl, Nat.le_of_ble_eq_true rfl⟩ (fun u H locs hP hD hS => ?_)
  obtain ⟨a1f, a1fa, a1x, a1xa, a1v, a1va, a1g, a1ga, a1k, a1ka, a1z, a1za⟩ := u
  have hP : va_P d vwCl [(q, .inr (5, [.ref p1, .ref w1, .null, .null])), (p1, .inr (1, [.ref p1f])), (p1f, .inr (2, [.ref p1fa])), (p1fa, .inl (cI, 1296, .inl (fun j => nI (form j)))), (w1, .inr (3, [.ref w1k, .ref w1g])), (w1k, .inr (2, [.ref w1ka])), (w1ka, .inl (cI, 1296, .inl (fun _ => 0))), (w1g, .inr (2, [.ref w1ga])), (w1ga, .inl (cI, 1296, .inl (fun _ => 0))), (a1, .inr (0, [.ref a1f, .ref a1x, .ref a1v, .ref a1g, .ref a1k, .ref a1z, .int (nI (0)), .int (nI (0)), .int (nI (0)), .int (-1), .int (nI (0))])), (a1f, .inr (2, [.ref a1fa])), (a1fa, .inl (cI, 300, .inl (fun _ => 0))), (a1x, .inr (2, [.ref a1xa])), (a1xa, .inl (cI, 300, .inl (fun _ => 0))), (a1v, .inr (2, [.ref a1va])), (a1va, .inl (cI, 1296, .inl (fun _ => 0))), (a1g, .inr (2, [.ref a1ga])), (a1ga, .inl (cI, 1296, .inl (fun _ => 0))), (a1k, .inr (2, [.ref a1ka])), (a1ka, .inl (cI, 1296, .inl (fun _ => 0))), (a1z, .inr (2, [.ref a1za])), (a1za, .inl (cI, 360, .inl (fun _ => 0)))] H := hP
  have hD : va_D A [(q, .inr (5, [.ref p1, .ref w1, .null, .null])), (p1, .inr (1, [.ref p1f])), (p1f, .inr (2, [.ref p1fa])), (p1fa, .inl (cI, 1296, .inl (fun j => nI (form j)))), (w1, .inr (3, [.ref w1k, .ref w1g])), (w1k, .inr (2, [.ref w1ka])), (w1ka, .inl (cI, 1296, .inl (fun _ => 0))), (w1g, .inr (2, [.ref w1ga])), (w1ga, .inl (cI, 1296, .inl (fun _ => 0))), (a1, .inr (0, [.ref a1f, .ref a1x, .ref a1v, .ref a1g, .ref a1k, .ref a1z, .int (nI (0)), .int (nI (0)), .int (nI (0)), .int (-1), .int (nI (0))])), (a1f, .inr (2, [.ref a1fa])), (a1fa, .inl (cI, 300, .inl (fun _ => 0))), (a1x, .inr (2, [.ref a1xa])), (a1xa, .inl (cI, 300, .inl (fun _ => 0))), (a1v, .inr (2, [.ref a1va])), (a1va, .inl (cI, 1296, .inl (fun _ => 0))), (a1g, .inr (2, [.ref a1ga])), (a1ga, .inl (cI, 1296, .inl (fun _ => 0))), (a1k, .inr (2, [.ref a1ka])), (a1ka, .inl (cI, 1296, .inl (fun _ => 0))), (a1z, .inr (2, [.ref a1za])), (a1za, .inl (cI, 360, .inl (fun _ => 0)))] := hD
  refine va_putF (D := d) (ci := 5) (v := .ref a1) (ty := .object "Nudgelane$Attempts") (C := RX5) (T := TX5) (N := 4) hx hb hts hin5 tyX5 tyX5_ok nmX5 hown hK hP hD hS 0 rfl rfl 2 (by decide) hfl26 (fun _ h9 => h9) rfl hin rfl (by decide +kernel) rfl rfl (Nat.le_of_ble_eq_true rfl) dX5_init_34 (fun H locs hP hD hS => ?_)
  have hP : va_P d vwCl [(q, .inr (5, [.ref p1, .ref w1, .ref a1, .null])), (p1, .inr (1, [.ref p1f])), (p1f, .inr (2, [.ref p1fa])), (p1fa, .inl (cI, 1296, .inl (fun j => nI (form j)))), (w1, .inr (3, [.ref w1k, .ref w1g])), (w1k, .inr (2, [.ref w1ka])), (w1ka, .inl (cI, 1296, .inl (fun _ => 0))), (w1g, .inr (2, [.ref w1ga])), (w1ga, .inl (cI, 1296, .inl (fun _ => 0))), (a1, .inr (0, [.ref a1f, .ref a1x, .ref a1v, .ref a1g, .ref a1k, .ref a1z, .int (nI (0)), .int (nI (0)), .int (nI (0)), .int (-1), .int (nI (0))])), (a1f, .inr (2, [.ref a1fa])), (a1fa, .inl (cI, 300, .inl (fun _ => 0))), (a1x, .inr (2, [.ref a1xa])), (a1xa, .inl (cI, 300, .inl (fun _ => 0))), (a1v, .inr (2, [.ref a1va])), (a1va, .inl (cI, 1296, .inl (fun _ => 0))), (a1g, .inr (2, [.ref a1ga])), (a1ga, .inl (cI, 1296, .inl (fun _ => 0))), (a1k, .inr (2, [.ref a1ka])), (a1ka, .inl (cI, 1296, .inl (fun _ => 0))), (a1z, .inr (2, [.ref a1za])), (a1za, .inl (cI, 360, .inl (fun _ => 0)))] H := hP
  have hD : va_D A [(q, .inr (5, [.ref p1, .ref w1, .ref a1, .null])), (p1, .inr (1, [.ref p1f])), (p1f, .inr (2, [.ref p1fa])), (p1fa, .inl (cI, 1296, .inl (fun j => nI (form j)))), (w1, .inr (3, [.ref w1k, .ref w1g])), (w1k, .inr (2, [.ref w1ka])), (w1ka, .inl (cI, 1296, .inl (fun _ => 0))), (w1g, .inr (2, [.ref w1ga])), (w1ga, .inl (cI, 1296, .inl (fun _ => 0))), (a1, .inr (0, [.ref a1f, .ref a1x, .ref a1v, .ref a1g, .ref a1k, .ref a1z, .int (nI (0)), .int (nI (0)), .int (nI (0)), .int (-1), .int (nI (0))])), (a1f, .inr (2, [.ref a1fa])), (a1fa, .inl (cI, 300, .inl (fun _ => 0))), (a1x, .inr (2, [.ref a1xa])), (a1xa, .inl (cI, 300, .inl (fun _ => 0))), (a1v, .inr (2, [.ref a1va])), (a1va, .inl (cI, 1296, .inl (fun _ => 0))), (a1g, .inr (2, [.ref a1ga])), (a1ga, .inl (cI, 1296, .inl (fun _ => 0))), (a1k, .inr (2, [.ref a1ka])), (a1ka, .inl (cI, 1296, .inl (fun _ => 0))), (a1z, .inr (2, [.ref a1za])), (a1za, .inl (cI, 360, .inl (fun _ => 0)))] := hD
  refine lv_aload_n hx hb dX5_init_37 rfl (lv_at hl 0 rfl) ?_
  refine va_new (ci := 4) (fs := [.null, .null]) (C := RX4) (T := TX4) (N := 2) hx hb hts hin4 tyX4 tyX4_ok hown (hts (.classLink RX5 30 RX4) (by decide +kernel)) (hts (.instantiable RX4 2) (by decide +kernel)) (hts (.initialized RX4) (by decide +kernel)) hK hP hD hS hA rfl (fun j hj => by match j, hj with | 0, _ => rfl | 1, _ => rfl | n + 2, h => exact absurd h (by omega)) (Nat.le_of_ble_eq_true rfl) (Nat.le_of_ble_eq_true rfl) dX5_init_38 (fun z1 H hP hD hS => ?_)
  have hP : va_P d vwCl [(q, .inr (5, [.ref p1, .ref w1, .ref a1, .null])), (p1, .inr (1, [.ref p1f])), (p1f, .inr (2, [.ref p1fa])), (p1fa, .inl (cI, 1296, .inl (fun j => nI (form j)))), (w1, .inr (3, [.ref w1k, .ref w1g])), (w1k, .inr (2, [.ref w1ka])), (w1ka, .inl (cI, 1296, .inl (fun _ => 0))), (w1g, .inr (2, [.ref w1ga])), (w1ga, .inl (cI, 1296, .inl (fun _ => 0))), (a1, .inr (0, [.ref a1f, .ref a1x, .ref a1v, .ref a1g, .ref a1k, .ref a1z, .int (nI (0)), .int (nI (0)), .int (nI (0)), .int (-1), .int (nI (0))])), (a1f, .inr (2, [.ref a1fa])), (a1fa, .inl (cI, 300, .inl (fun _ => 0))), (a1x, .inr (2, [.ref a1xa])), (a1xa, .inl (cI, 300, .inl (fun _ => 0))), (a1v, .inr (2, [.ref a1va])), (a1va, .inl (cI, 1296, .inl (fun _ => 0))), (a1g, .inr (2, [.ref a1ga])), (a1ga, .inl (cI, 1296, .inl (fun _ => 0))), (a1k, .inr (2, [.ref a1ka])), (a1ka, .inl (cI, 1296, .inl (fun _ => 0))), (a1z, .inr (2, [.ref a1za])), (a1za, .inl (cI, 360, .inl (fun _ => 0))), (z1, .inr (4, [.null, .null]))] H := hP
  have hD : va_D A [(q, .inr (5, [.ref p1, .ref w1, .ref a1, .null])), (p1, .inr (1, [.ref p1f])), (p1f, .inr (2, [.ref p1fa])), (p1fa, .inl (cI, 1296, .inl (fun j => nI (form j)))), (w1, .inr (3, [.ref w1k, .ref w1g])), (w1k, .inr (2, [.ref w1ka])), (w1ka, .inl (cI, 1296, .inl (fun _ => 0))), (w1g, .inr (2, [.ref w1ga])), (w1ga, .inl (cI, 1296, .inl (fun _ => 0))), (a1, .inr (0, [.ref a1f, .ref a1x, .ref a1v, .ref a1g, .ref a1k, .ref a1z, .int (nI (0)), .int (nI (0)), .int (nI (0)), .int (-1), .int (nI (0))])), (a1f, .inr (2, [.ref a1fa])), (a1fa, .inl (cI, 300, .inl (fun _ => 0))), (a1x, .inr (2, [.ref a1xa])), (a1xa, .inl (cI, 300, .inl (fun _ => 0))), (a1v, .inr (2, [.ref a1va])), (a1va, .inl (cI, 1296, .inl (fun _ => 0))), (a1g, .inr (2, [.ref a1ga])), (a1ga, .inl (cI, 1296, .inl (fun _ => 0))), (a1k, .inr (2, [.ref a1ka])), (a1ka, .inl (cI, 1296, .inl (fun _ => 0))), (a1z, .inr (2, [.ref a1za])), (a1za, .inl (cI, 360, .inl (fun _ => 0))), (z1, .inr (4, [.null, .null]))] := hD
  refine lv_dup hx hb dX5_init_41 rfl ?_
  refine n_nwI (As := []) (rest := [.ref z1, .ref q]) (wr := [(q, .inr (5, [.ref p1, .ref w1, .ref a1, .null])), (p1, .inr (1, [.ref p1f])), (p1f, .inr (2, [.ref p1fa])), (p1fa, .inl (cI, 1296, .inl (fun j => nI (form j)))), (w1, .inr (3, [.ref w1k, .ref w1g])), (w1k, .inr (2, [.ref w1ka])), (w1ka, .inl (cI, 1296, .inl (fun _ => 0))), (w1g, .inr (2, [.ref w1ga])), (w1ga, .inl (cI, 1296, .inl (fun _ => 0))), (a1, .inr (0, [.ref a1f, .ref a1x, .ref a1v, .ref a1g, .ref a1k, .ref a1z, .int (nI (0)), .int (nI (0)), .int (nI (0)), .int (-1), .int (nI (0))])), (a1f, .inr (2, [.ref a1fa])), (a1fa, .inl (cI, 300, .inl (fun _ => 0))), (a1x, .inr (2, [.ref a1xa])), (a1xa, .inl (cI, 300, .inl (fun _ => 0))), (a1v, .inr (2, [.ref a1va])), (a1va, .inl (cI, 1296, .inl (fun _ => 0))), (a1g, .inr (2, [.ref a1ga])), (a1ga, .inl (cI, 1296, .inl (fun _ => 0))), (a1k, .inr (2, [.ref a1ka])), (a1ka, .inl (cI, 1296, .inl (fun _ => 0))), (a1z, .inr (2, [.ref a1za])), (a1za, .inl (cI, 360, .inl (fun _ => 0)))]) ⟨hx, hb, hml, hown, hts⟩ (c_X4_init l d cI z1) (cwI 0 hts gX5_init_X4_init rfl rfl rfl (hts (.initialized RX4) (by decide +kernel)) (hts (.methodLink RX5 32 yX4_init) (by decide +kernel)) (hts (.instanceMethod yX4_init) (by decide +kernel)) rfl (by decide +kernel) ⟨Nat.le_of_ble_eq_true rfl, Nat.le_of_ble_eq_true rfl⟩) hP hD hS hA hK 22 [0, 1, 2, 3, 4, 5, 6, 7, 8, 9, 10, 11, 12, 13, 14, 15, 16, 17, 18, 19, 20, 21] rfl rfl (by decide) (by decide) rfl hl.1 rfl (Nat.le_of_ble_eq_true rfl) dX5_init_42 ⟨Nat.le_of_ble_eq_true rfl, Nat.le_of_ble_eq_true rfl⟩ (fun u H locs hP hD hS => ?_)
  obtain ⟨z1k, z1ka, z1g, z1ga⟩ := u
  have hP : va_P d vwCl [(q, .inr (5, [.ref p1, .ref w1, .ref a1, .null])), (p1, .inr (1, [.ref p1f])), (p1f, .inr (2, [.ref p1fa])), (p1fa, .inl (cI, 1296, .inl (fun j => nI (form j)))), (w1, .inr (3, [.ref w1k, .ref w1g])), (w1k, .inr (2, [.ref w1ka])), (w1ka, .inl (cI, 1296, .inl (fun _ => 0))), (w1g, .inr (2, [.ref w1ga])), (w1ga, .inl (cI, 1296, .inl (fun _ => 0))), (a1, .inr (0, [.ref a1f, .ref a1x, .ref a1v, .ref a1g, .ref a1k, .ref a1z, .int (nI (0)), .int (nI (0)), .int (nI (0)), .int (-1), .int (nI (0))])), (a1f, .inr (2, [.ref a1fa])), (a1fa, .inl (cI, 300, .inl (fun _ => 0))), (a1x, .inr (2, [.ref a1xa])), (a1xa, .inl (cI, 300, .inl (fun _ => 0))), (a1v, .inr (2, [.ref a1va])), (a1va, .inl (cI, 1296, .inl (fun _ => 0))), (a1g, .inr (2, [.ref a1ga])), (a1ga, .inl (cI, 1296, .inl (fun _ => 0))), (a1k, .inr (2, [.ref a1ka])), (a1ka, .inl (cI, 1296, .inl (fun _ => 0))), (a1z, .inr (2, [.ref a1za])), (a1za, .inl (cI, 360, .inl (fun _ => 0))), (z1, .inr (4, [.ref z1k, .ref z1g])), (z1k, .inr (2, [.ref z1ka])), (z1ka, .inl (cI, 1296, .inl (fun _ => 0))), (z1g, .inr (2, [.ref z1ga])), (z1ga, .inl (cI, 1296, .inl (fun _ => 0)))] H := hP
  have hD : va_D A [(q, .inr (5, [.ref p1, .ref w1, .ref a1, .null])), (p1, .inr (1, [.ref p1f])), (p1f, .inr (2, [.ref p1fa])), (p1fa, .inl (cI, 1296, .inl (fun j => nI (form j)))), (w1, .inr (3, [.ref w1k, .ref w1g])), (w1k, .inr (2, [.ref w1ka])), (w1ka, .inl (cI, 1296, .inl (fun _ => 0))), (w1g, .inr (2, [.ref w1ga])), (w1ga, .inl (cI, 1296, .inl (fun _ => 0))), (a1, .inr (0, [.ref a1f, .ref a1x, .ref a1v, .ref a1g, .ref a1k, .ref a1z, .int (nI (0)), .int (nI (0)), .int (nI (0)), .int (-1), .int (nI (0))])), (a1f, .inr (2, [.ref a1fa])), (a1fa, .inl (cI, 300, .inl (fun _ => 0))), (a1x, .inr (2, [.ref a1xa])), (a1xa, .inl (cI, 300, .inl (fun _ => 0))), (a1v, .inr (2, [.ref a1va])), (a1va, .inl (cI, 1296, .inl (fun _ => 0))), (a1g, .inr (2, [.ref a1ga])), (a1ga, .inl (cI, 1296, .inl (fun _ => 0))), (a1k, .inr (2, [.ref a1ka])), (a1ka, .inl (cI, 1296, .inl (fun _ => 0))), (a1z, .inr (2, [.ref a1za])), (a1za, .inl (cI, 360, .inl (fun _ => 0))), (z1, .inr (4, [.ref z1k, .ref z1g])), (z1k, .inr (2, [.ref z1ka])), (z1ka, .inl (cI, 1296, .inl (fun _ => 0))), (z1g, .inr (2, [.ref z1ga])), (z1ga, .inl (cI, 1296, .inl (fun _ => 0)))] := hD
  refine va_putF (D := d) (ci := 5) (v := .ref z1) (ty := .object "Nudgelane$Worths") (C := RX5) (T := TX5) (N := 4) hx hb hts hin5 tyX5 tyX5_ok nmX5 hown hK hP hD hS 0 rfl rfl 3 (by decide) hfl33 (fun _ h9 => h9) rfl hin rfl (by decide +kernel) rfl rfl (Nat.le_of_ble_eq_true rfl) dX5_init_45 (fun H locs hP hD hS => ?_)
  have hP : va_P d vwCl [(q, .inr (5, [.ref p1, .ref w1, .ref a1, .ref z1])), (p1, .inr (1, [.ref p1f])), (p1f, .inr (2, [.ref p1fa])), (p1fa, .inl (cI, 1296, .inl (fun j => nI (form j)))), (w1, .inr (3, [.ref w1k, .ref w1g])), (w1k, .inr (2, [.ref w1ka])), (w1ka, .inl (cI, 1296, .inl (fun _ => 0))), (w1g, .inr (2, [.ref w1ga])), (w1ga, .inl (cI, 1296, .inl (fun _ => 0))), (a1, .inr (0, [.ref a1f, .ref a1x, .ref a1v, .ref a1g, .ref a1k, .ref a1z, .int (nI (0)), .int (nI (0)), .int (nI (0)), .int (-1), .int (nI (0))])), (a1f, .inr (2, [.ref a1fa])), (a1fa, .inl (cI, 300, .inl (fun _ => 0))), (a1x, .inr (2, [.ref a1xa])), (a1xa, .inl (cI, 300, .inl (fun _ => 0))), (a1v, .inr (2, [.ref a1va])), (a1va, .inl (cI, 1296, .inl (fun _ => 0))), (a1g, .inr (2, [.ref a1ga])), (a1ga, .inl (cI, 1296, .inl (fun _ => 0))), (a1k, .inr (2, [.ref a1ka])), (a1ka, .inl (cI, 1296, .inl (fun _ => 0))), (a1z, .inr (2, [.ref a1za])), (a1za, .inl (cI, 360, .inl (fun _ => 0))), (z1, .inr (4, [.ref z1k, .ref z1g])), (z1k, .inr (2, [.ref z1ka])), (z1ka, .inl (cI, 1296, .inl (fun _ => 0))), (z1g, .inr (2, [.ref z1ga])), (z1ga, .inl (cI, 1296, .inl (fun _ => 0)))] H := hP
  have hD : va_D A [(q, .inr (5, [.ref p1, .ref w1, .ref a1, .ref z1])), (p1, .inr (1, [.ref p1f])), (p1f, .inr (2, [.ref p1fa])), (p1fa, .inl (cI, 1296, .inl (fun j => nI (form j)))), (w1, .inr (3, [.ref w1k, .ref w1g])), (w1k, .inr (2, [.ref w1ka])), (w1ka, .inl (cI, 1296, .inl (fun _ => 0))), (w1g, .inr (2, [.ref w1ga])), (w1ga, .inl (cI, 1296, .inl (fun _ => 0))), (a1, .inr (0, [.ref a1f, .ref a1x, .ref a1v, .ref a1g, .ref a1k, .ref a1z, .int (nI (0)), .int (nI (0)), .int (nI (0)), .int (-1), .int (nI (0))])), (a1f, .inr (2, [.ref a1fa])), (a1fa, .inl (cI, 300, .inl (fun _ => 0))), (a1x, .inr (2, [.ref a1xa])), (a1xa, .inl (cI, 300, .inl (fun _ => 0))), (a1v, .inr (2, [.ref a1va])), (a1va, .inl (cI, 1296, .inl (fun _ => 0))), (a1g, .inr (2, [.ref a1ga])), (a1ga, .inl (cI, 1296, .inl (fun _ => 0))), (a1k, .inr (2, [.ref a1ka])), (a1ka, .inl (cI, 1296, .inl (fun _ => 0))), (a1z, .inr (2, [.ref a1za])), (a1za, .inl (cI, 360, .inl (fun _ => 0))), (z1, .inr (4, [.ref z1k, .ref z1g])), (z1k, .inr (2, [.ref z1ka])), (z1ka, .inl (cI, 1296, .inl (fun _ => 0))), (z1g, .inr (2, [.ref z1ga])), (z1ga, .inl (cI, 1296, .inl (fun _ => 0)))] := hD
  refine W.widen (k := 28) (n := 11360) (Nat.le_of_ble_eq_true rfl) (Nat.le_of_ble_eq_true rfl) ?_
  exact W.vret hx hb hr (fun t ht hW => ⟨⟨(p1, w1, a1, z1, (p1f, p1fa), (w1k, w1ka, w1g, w1ga), (a1f, a1fa, a1x, a1xa, a1v, a1va, a1g, a1ga, a1k, a1ka, a1z, a1za), (z1k, z1ka, z1g, z1ga)), rfl, by rw [ht]; exact hP.sub [0, 1, 2, 3, 4, 5, 6, 7, 8, 9, 10, 11, 12, 13, 14, 15, 16, 17, 18, 19, 20, 21, 22, 23, 24, 25, 26] rfl, hD.sub [0, 1, 2, 3, 4, 5, 6, 7, 8, 9, 10, 11, 12, 13, 14, 15, 16, 17, 18, 19, 20, 21, 22, 23, 24, 25, 26] (by decide) rfl⟩, hS.F ht⟩) hS.2.2 dX5_init_48

