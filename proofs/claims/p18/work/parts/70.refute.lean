def lw_P (b : Addr) (xs : List Int32) (args : Array Value) (s : State) : Prop := args = #[.ref b] ∧ s.IntsAt b xs ∧ xs.length ≤ 2048 ∧ (Jvm.Cond.and given_1 narrow_1).before args s = true
theorem lw_pre_spec {args : Array Value} {s : State} (h : (Jvm.Cond.and given_1 narrow_1).before args s = true) (hr : rest_1_c.before args s = true) : ∃ (b : Addr) (xs : List Int32), lw_P b xs args s := by
  have hs := flat_of_before _ h
  have hq := flat_of_before _ hr
  have hc : (Cond.count 1).before args s = true := hs _ (by decide +kernel)
  have harr : (Cond.arrayOf (.arg 0) .int).before args s = true := hs _ (by decide +kernel)
  have hle : (Cond.le (.length (.arg 0)) (.int 2048)).before args s = true := hs _ (by decide +kernel)
  have hlen : (Cond.isInt (.length (.arg 0))).before args s = true := hq _ (by decide +kernel)
  have hall : (Cond.all (.arg 0) (.isInt (.elem (.arg 0) (.index 0)))).before args s = true := hq _ (by decide +kernel)
  obtain ⟨b, xs, hb, hx⟩ := State.ints_of_pre rfl harr hlen hall
  have hsm : xs.length < 2 ^ 31 := hx.choose_spec.2.2.2
  have hev : (Term.length (.arg 0)).eval args s none [] s = some (.int xs.length.toInt32) := hx.length_eval hb
  have hv := Cond.le_ints hev (show (Term.int 2048).eval args s none [] s = some (.int 2048) from rfl)
  have hd : xs.length.toInt32 ≤ 2048 := by
    simpa [Cond.before, Cond.holds, hv] using hle
  have hN : xs.length ≤ 2048 := (Int32.ofNat_le_ofNat hsm (by decide)).mp (show Int32.ofNat xs.length ≤ Int32.ofNat 2048 from hd)
  exact ⟨b, xs, Cond.one_arg hc (show args[0]? = some (.ref b) from hb), hx, hN, h⟩
set_option maxHeartbeats 4000000 in
set_option maxRecDepth 100000 in
/-- from the law's entry, on any script: before its first call 18,094 new slots and more stand -/
theorem law_grows {p : Program} {e : Env} {s : State} {m : MethodId} {below : List Frame} {meth : Method} {c : Code} (l : Launch) {b : Nat} (hx : p.tables.exec = Jvm.exec) (hb : c.code = cL_law) (hml : c.maxLocals = 7) (hown : s.vm.findClass RL = some m.cls) (htb : ∀ w ∈ lw_tbl, w.before #[Value.ref b] s = true) : W p l e ({ frames := 11, cells := 1076, slots := 40000, locals := 392 } : Room) s m #[Value.ref b] below meth c s.heap [] 0 0 (fun t => s.slotsUsed + 18094 ≤ t.slotsUsed ∧ Within t below) (entryFrame m ([Value.ref b] : List Value).toArray 7) := by
  have hts : ∀ w ∈ wsL_law, w.before #[Value.ref b] s = true := fun w h => htb w (wsL_law_in w h)
  have hin5 : ∀ w ∈ u_ws RX5 TX5 4, w ∈ wsL_law := inlX5
  have hin6 : ∀ w ∈ u_ws RX6 TX6 18, w ∈ wsL_law := inlX6
  obtain ⟨c0, iS0, hKn0⟩ := u_known (C := RX0) (T := TX0) (N := 11) (n := 11) htb wsX00_in (hts (.instantiable RX0 11) (by decide +kernel))
  obtain ⟨c1, iS1, hKn1⟩ := u_known (C := RX1) (T := TX1) (N := 1) (n := 1) htb wsX10_in (hts (.instantiable RX1 1) (by decide +kernel))
  obtain ⟨c2, iS2, hKn2⟩ := u_known (C := RX2) (T := TX2) (N := 1) (n := 1) htb wsX20_in (hts (.instantiable RX2 1) (by decide +kernel))
  obtain ⟨c3, iS3, hKn3⟩ := u_known (C := RX3) (T := TX3) (N := 2) (n := 2) htb wsX30_in (hts (.instantiable RX3 2) (by decide +kernel))
  obtain ⟨c4, iS4, hKn4⟩ := u_known (C := RX4) (T := TX4) (N := 2) (n := 2) htb wsX40_in (hts (.instantiable RX4 2) (by decide +kernel))
  obtain ⟨c5, iS5, hKn5⟩ := u_known (C := RX5) (T := TX5) (N := 4) (n := 4) htb wsX50_in (hts (.instantiable RX5 4) (by decide +kernel))
  obtain ⟨c6, iS6, hKn6⟩ := u_known (C := RX6) (T := TX6) (N := 18) (n := 18) htb wsX60_in (hts (.instantiable RX6 18) (by decide +kernel))
  obtain ⟨dC, dI, hKc⟩ : ∃ (dC : Nat → ClassId) (dI : Nat → Nat → Nat), ∀ (k : Nat) (q : vw_C), vwCl[k]? = some q → u_Kn s q.1 q.2.1 q.2.2 (dC k) (dI k) := by
    refine ⟨fun k => match k with | 0 => c0 | 1 => c1 | 2 => c2 | 3 => c3 | 4 => c4 | 5 => c5 | _ => c6, fun k => match k with | 0 => iS0 | 1 => iS1 | 2 => iS2 | 3 => iS3 | 4 => iS4 | 5 => iS5 | _ => iS6, ?_⟩
    intro k q hq
    match k, hq with
    | 0, hq => cases hq; exact hKn0
    | 1, hq => cases hq; exact hKn1
    | 2, hq => cases hq; exact hKn2
    | 3, hq => cases hq; exact hKn3
    | 4, hq => cases hq; exact hKn4
    | 5, hq => cases hq; exact hKn5
    | 6, hq => cases hq; exact hKn6
    | k + 7, hq => simp [vwCl] at hq
  obtain ⟨cI, aI1, aI2⟩ := n_arr (hts (.arrayClass .int) (by decide +kernel))
  obtain ⟨cJ, aJ1, aJ2⟩ := n_arr (hts (.arrayClass .long) (by decide +kernel))
  obtain ⟨cZ, aZ1, aZ2⟩ := n_arr (hts (.arrayClass .boolean) (by decide +kernel))
  have hA : ∀ q : Nat, s.heap.size ≤ q → (fun q : Nat => s.heap.size ≤ q) q := fun _ h => h
  have hS : va_S (fun q : Nat => s.heap.size ≤ q) s.heap s.heap [] := va_S.rf
  have hK : va_K (dC, dI) vwCl [(cI, .int), (cJ, .long), (cZ, .boolean)] s := ⟨hKc, fun k q h => by
    match k, h with
    | 0, h => cases h; exact ⟨aI1, aI2⟩
    | 1, h => cases h; exact ⟨aJ1, aJ2⟩
    | 2, h => cases h; exact ⟨aZ1, aZ2⟩
    | k + 3, h => simp at h⟩
  have hP : va_P (dC, dI) vwCl [] s.heap := fun k q h => by simp at h
  have hD : va_D (fun q : Nat => s.heap.size ≤ q) [] := ⟨fun i j p q h => by simp at h, fun k q h => by simp at h⟩
  have hl := lv_entry ([.ref b]) (n := 7) (Nat.le_of_ble_eq_true rfl)
  rw [lg_entry_eq]
  generalize (lg_sl ([.ref b]) ++ List.replicate (7 - (lg_sl ([.ref b])).length) Slot.unset).toArray = ls at hl ⊢
  have hl : lv_has ls 7 [(0, .ref b)] := hl
  refine va_new (ci := 5) (fs := [.null, .null, .null, .null]) (C := RX5) (T := TX5) (N := 4) hx hb hts hin5 tyX5 tyX5_ok hown (hts (.classLink RL 8 RX5) (by decide +kernel)) (hts (.instantiable RX5 4) (by decide +kernel)) (hts (.initialized RX5) (by decide +kernel)) hK hP hD hS hA rfl (fun j hj => by match j, hj with | 0, _ => rfl | 1, _ => rfl | 2, _ => rfl | 3, _ => rfl | n + 4, h => exact absurd h (by omega)) (Nat.le_of_ble_eq_true rfl) (Nat.le_of_ble_eq_true rfl) dL_law_0 (fun q5 H hP hD hS => ?_)
  have hP : va_P (dC, dI) vwCl [(q5, .inr (5, [.null, .null, .null, .null]))] H := hP
  have hD : va_D (fun q : Nat => s.heap.size ≤ q) [(q5, .inr (5, [.null, .null, .null, .null]))] := hD
  refine lv_dup hx hb dL_law_3 rfl ?_
  refine n_nwI (As := []) (rest := [.ref q5]) (wr := []) ⟨hx, hb, hml, hown, hts⟩ (c_X5_init l (dC, dI) cI q5) (cwI 0 hts gL_law_X5_init rfl rfl rfl (hts (.initialized RX5) (by decide +kernel)) (hts (.methodLink RL 67 yX5_init) (by decide +kernel)) (hts (.instanceMethod yX5_init) (by decide +kernel)) rfl (by decide +kernel) ⟨Nat.le_of_ble_eq_true rfl, Nat.le_of_ble_eq_true rfl⟩) hP hD hS hA (hK.sub [0] rfl) 0 [] rfl rfl (by decide) (by decide) rfl hl.1 rfl (Nat.le_of_ble_eq_true rfl) dL_law_4 ⟨Nat.le_of_ble_eq_true rfl, Nat.le_of_ble_eq_true rfl⟩ (fun u H locs hP hD hS => ?_)
  obtain ⟨p1, w1, a1, z1, ⟨p1f, p1fa⟩, ⟨w1k, w1ka, w1g, w1ga⟩, ⟨a1f, a1fa, a1x, a1xa, a1v, a1va, a1g, a1ga, a1k, a1ka, a1z, a1za⟩, ⟨z1k, z1ka, z1g, z1ga⟩⟩ := u
  have hP : va_P (dC, dI) vwCl [(q5, .inr (5, [.ref p1, .ref w1, .ref a1, .ref z1])), (p1, .inr (1, [.ref p1f])), (p1f, .inr (2, [.ref p1fa])), (p1fa, .inl (cI, 1296, .inl (fun j => nI (form j)))), (w1, .inr (3, [.ref w1k, .ref w1g])), (w1k, .inr (2, [.ref w1ka])), (w1ka, .inl (cI, 1296, .inl (fun _ => 0))), (w1g, .inr (2, [.ref w1ga])), (w1ga, .inl (cI, 1296, .inl (fun _ => 0))), (a1, .inr (0, [.ref a1f, .ref a1x, .ref a1v, .ref a1g, .ref a1k, .ref a1z, .int (nI (0)), .int (nI (0)), .int (nI (0)), .int (-1), .int (nI (0))])), (a1f, .inr (2, [.ref a1fa])), (a1fa, .inl (cI, 300, .inl (fun _ => 0))), (a1x, .inr (2, [.ref a1xa])), (a1xa, .inl (cI, 300, .inl (fun _ => 0))), (a1v, .inr (2, [.ref a1va])), (a1va, .inl (cI, 1296, .inl (fun _ => 0))), (a1g, .inr (2, [.ref a1ga])), (a1ga, .inl (cI, 1296, .inl (fun _ => 0))), (a1k, .inr (2, [.ref a1ka])), (a1ka, .inl (cI, 1296, .inl (fun _ => 0))), (a1z, .inr (2, [.ref a1za])), (a1za, .inl (cI, 360, .inl (fun _ => 0))), (z1, .inr (4, [.ref z1k, .ref z1g])), (z1k, .inr (2, [.ref z1ka])), (z1ka, .inl (cI, 1296, .inl (fun _ => 0))), (z1g, .inr (2, [.ref z1ga])), (z1ga, .inl (cI, 1296, .inl (fun _ => 0)))] H := hP
  have hD : va_D (fun q : Nat => s.heap.size ≤ q) [(q5, .inr (5, [.ref p1, .ref w1, .ref a1, .ref z1])), (p1, .inr (1, [.ref p1f])), (p1f, .inr (2, [.ref p1fa])), (p1fa, .inl (cI, 1296, .inl (fun j => nI (form j)))), (w1, .inr (3, [.ref w1k, .ref w1g])), (w1k, .inr (2, [.ref w1ka])), (w1ka, .inl (cI, 1296, .inl (fun _ => 0))), (w1g, .inr (2, [.ref w1ga])), (w1ga, .inl (cI, 1296, .inl (fun _ => 0))), (a1, .inr (0, [.ref a1f, .ref a1x, .ref a1v, .ref a1g, .ref a1k, .ref a1z, .int (nI (0)), .int (nI (0)), .int (nI (0)), .int (-1), .int (nI (0))])), (a1f, .inr (2, [.ref a1fa])), (a1fa, .inl (cI, 300, .inl (fun _ => 0))), (a1x, .inr (2, [.ref a1xa])), (a1xa, .inl (cI, 300, .inl (fun _ => 0))), (a1v, .inr (2, [.ref a1va])), (a1va, .inl (cI, 1296, .inl (fun _ => 0))), (a1g, .inr (2, [.ref a1ga])), (a1ga, .inl (cI, 1296, .inl (fun _ => 0))), (a1k, .inr (2, [.ref a1ka])), (a1ka, .inl (cI, 1296, .inl (fun _ => 0))), (a1z, .inr (2, [.ref a1za])), (a1za, .inl (cI, 360, .inl (fun _ => 0))), (z1, .inr (4, [.ref z1k, .ref z1g])), (z1k, .inr (2, [.ref z1ka])), (z1ka, .inl (cI, 1296, .inl (fun _ => 0))), (z1g, .inr (2, [.ref z1ga])), (z1ga, .inl (cI, 1296, .inl (fun _ => 0)))] := hD
  refine lv_astore_n (lv' := [(1, .ref q5), (0, .ref b)]) hx hb dL_law_7 rfl hl (by decide) rfl (fun ls hl => ?_)
  refine va_new (ci := 6) (fs := [.null, .null, .null, .null, .null, .null, .null, .null, .int (nI (0)), .int (nI (0)), .int (nI (0)), .int (nI (0)), .null, .null, .int (nI (0)), .null, .null, .int (nI (0))]) (C := RX6) (T := TX6) (N := 18) hx hb hts hin6 tyX6 tyX6_ok hown (hts (.classLink RL 68 RX6) (by decide +kernel)) (hts (.instantiable RX6 18) (by decide +kernel)) (hts (.initialized RX6) (by decide +kernel)) hK hP hD hS hA rfl (fun j hj => by match j, hj with | 0, _ => rfl | 1, _ => rfl | 2, _ => rfl | 3, _ => rfl | 4, _ => rfl | 5, _ => rfl | 6, _ => rfl | 7, _ => rfl | 8, _ => rfl | 9, _ => rfl | 10, _ => rfl | 11, _ => rfl | 12, _ => rfl | 13, _ => rfl | 14, _ => rfl | 15, _ => rfl | 16, _ => rfl | 17, _ => rfl | n + 18, h => exact absurd h (by omega)) (Nat.le_of_ble_eq_true rfl) (Nat.le_of_ble_eq_true rfl) dL_law_8 (fun q6 H hP hD hS => ?_)
  have hP : va_P (dC, dI) vwCl [(q5, .inr (5, [.ref p1, .ref w1, .ref a1, .ref z1])), (p1, .inr (1, [.ref p1f])), (p1f, .inr (2, [.ref p1fa])), (p1fa, .inl (cI, 1296, .inl (fun j => nI (form j)))), (w1, .inr (3, [.ref w1k, .ref w1g])), (w1k, .inr (2, [.ref w1ka])), (w1ka, .inl (cI, 1296, .inl (fun _ => 0))), (w1g, .inr (2, [.ref w1ga])), (w1ga, .inl (cI, 1296, .inl (fun _ => 0))), (a1, .inr (0, [.ref a1f, .ref a1x, .ref a1v, .ref a1g, .ref a1k, .ref a1z, .int (nI (0)), .int (nI (0)), .int (nI (0)), .int (-1), .int (nI (0))])), (a1f, .inr (2, [.ref a1fa])), (a1fa, .inl (cI, 300, .inl (fun _ => 0))), (a1x, .inr (2, [.ref a1xa])), (a1xa, .inl (cI, 300, .inl (fun _ => 0))), (a1v, .inr (2, [.ref a1va])), (a1va, .inl (cI, 1296, .inl (fun _ => 0))), (a1g, .inr (2, [.ref a1ga])), (a1ga, .inl (cI, 1296, .inl (fun _ => 0))), (a1k, .inr (2, [.ref a1ka])), (a1ka, .inl (cI, 1296, .inl (fun _ => 0))), (a1z, .inr (2, [.ref a1za])), (a1za, .inl (cI, 360, .inl (fun _ => 0))), (z1, .inr (4, [.ref z1k, .ref z1g])), (z1k, .inr (2, [.ref z1ka])), (z1ka, .inl (cI, 1296, .inl (fun _ => 0))), (z1g, .inr (2, [.ref z1ga])), (z1ga, .inl (cI, 1296, .inl (fun _ => 0))), (q6, .inr (6, [.null, .null, .null, .null, .null, .null, .null, .null, .int (nI (0)), .int (nI (0)), .int (nI (0)), .int (nI (0)), .null, .null, .int (nI (0)), .null, .null, .int (nI (0))]))] H := hP
  have hD : va_D (fun q : Nat => s.heap.size ≤ q) [(q5, .inr (5, [.ref p1, .ref w1, .ref a1, .ref z1])), (p1, .inr (1, [.ref p1f])), (p1f, .inr (2, [.ref p1fa])), (p1fa, .inl (cI, 1296, .inl (fun j => nI (form j)))), (w1, .inr (3, [.ref w1k, .ref w1g])), (w1k, .inr (2, [.ref w1ka])), (w1ka, .inl (cI, 1296, .inl (fun _ => 0))), (w1g, .inr (2, [.ref w1ga])), (w1ga, .inl (cI, 1296, .inl (fun _ => 0))), (a1, .inr (0, [.ref a1f, .ref a1x, .ref a1v, .ref a1g, .ref a1k, .ref a1z, .int (nI (0)), .int (nI (0)), .int (nI (0)), .int (-1), .int (nI (0))])), (a1f, .inr (2, [.ref a1fa])), (a1fa, .inl (cI, 300, .inl (fun _ => 0))), (a1x, .inr (2, [.ref a1xa])), (a1xa, .inl (cI, 300, .inl (fun _ => 0))), (a1v, .inr (2, [.ref a1va])), (a1va, .inl (cI, 1296, .inl (fun _ => 0))), (a1g, .inr (2, [.ref a1ga])), (a1ga, .inl (cI, 1296, .inl (fun _ => 0))), (a1k, .inr (2, [.ref a1ka])), (a1ka, .inl (cI, 1296, .inl (fun _ => 0))), (a1z, .inr (2, [.ref a1za])), (a1za, .inl (cI, 360, .inl (fun _ => 0))), (z1, .inr (4, [.ref z1k, .ref z1g])), (z1k, .inr (2, [.ref z1ka])), (z1ka, .inl (cI, 1296, .inl (fun _ => 0))), (z1g, .inr (2, [.ref z1ga])), (z1ga, .inl (cI, 1296, .inl (fun _ => 0))), (q6, .inr (6, [.null, .null, .null, .null, .null, .null, .null, .null, .int (nI (0)), .int (nI (0)), .int (nI (0)), .int (nI (0)), .null, .null, .int (nI (0)), .null, .null, .int (nI (0))]))] := hD
  refine lv_dup hx hb dL_law_11 rfl ?_
  refine n_nwI (As := []) (rest := [.ref q6]) (wr := [(q5, .inr (5, [.ref p1, .ref w1, .ref a1, .ref z1])), (p1, .inr (1, [.ref p1f])), (p1f, .inr (2, [.ref p1fa])), (p1fa, .inl (cI, 1296, .inl (fun j => nI (form j)))), (w1, .inr (3, [.ref w1k, .ref w1g])), (w1k, .inr (2, [.ref w1ka])), (w1ka, .inl (cI, 1296, .inl (fun _ => 0))), (w1g, .inr (2, [.ref w1ga])), (w1ga, .inl (cI, 1296, .inl (fun _ => 0))), (a1, .inr (0, [.ref a1f, .ref a1x, .ref a1v, .ref a1g, .ref a1k, .ref a1z, .int (nI (0)), .int (nI (0)), .int (nI (0)), .int (-1), .int (nI (0))])), (a1f, .inr (2, [.ref a1fa])), (a1fa, .inl (cI, 300, .inl (fun _ => 0))), (a1x, .inr (2, [.ref a1xa])), (a1xa, .inl (cI, 300, .inl (fun _ => 0))), (a1v, .inr (2, [.ref a1va])), (a1va, .inl (cI, 1296, .inl (fun _ => 0))), (a1g, .inr (2, [.ref a1ga])), (a1ga, .inl (cI, 1296, .inl (fun _ => 0))), (a1k, .inr (2, [.ref a1ka])), (a1ka, .inl (cI, 1296, .inl (fun _ => 0))), (a1z, .inr (2, [.ref a1za])), (a1za, .inl (cI, 360, .inl (fun _ => 0))), (z1, .inr (4, [.ref z1k, .ref z1g])), (z1k, .inr (2, [.ref z1ka])), (z1ka, .inl (cI, 1296, .inl (fun _ => 0))), (z1g, .inr (2, [.ref z1ga])), (z1ga, .inl (cI, 1296, .inl (fun _ => 0)))]) ⟨hx, hb, hml, hown, hts⟩ (c_X6_init l (dC, dI) cI cJ cZ q6) (cwI 0 hts gL_law_X6_init rfl rfl rfl (hts (.initialized RX6) (by decide +kernel)) (hts (.methodLink RL 70 yX6_init) (by decide +kernel)) (hts (.instanceMethod yX6_init) (by decide +kernel)) rfl (by decide +kernel) ⟨Nat.le_of_ble_eq_true rfl, Nat.le_of_ble_eq_true rfl⟩) hP hD hS hA hK 27 [0, 1, 2, 3, 4, 5, 6, 7, 8, 9, 10, 11, 12, 13, 14, 15, 16, 17, 18, 19, 20, 21, 22, 23, 24, 25, 26] rfl rfl (by decide) (by decide) rfl hl.1 rfl (Nat.le_of_ble_eq_true rfl) dL_law_12 ⟨Nat.le_of_ble_eq_true rfl, Nat.le_of_ble_eq_true rfl⟩ (fun u H locs hP hD hS => ?_)
  obtain ⟨h1, xo, xd, xf, xm, xr, xw, xs, xc, yf, yt, ye, yw⟩ := u
  have hP : va_P (dC, dI) vwCl [(q5, .inr (5, [.ref p1, .ref w1, .ref a1, .ref z1])), (p1, .inr (1, [.ref p1f])), (p1f, .inr (2, [.ref p1fa])), (p1fa, .inl (cI, 1296, .inl (fun j => nI (form j)))), (w1, .inr (3, [.ref w1k, .ref w1g])), (w1k, .inr (2, [.ref w1ka])), (w1ka, .inl (cI, 1296, .inl (fun _ => 0))), (w1g, .inr (2, [.ref w1ga])), (w1ga, .inl (cI, 1296, .inl (fun _ => 0))), (a1, .inr (0, [.ref a1f, .ref a1x, .ref a1v, .ref a1g, .ref a1k, .ref a1z, .int (nI (0)), .int (nI (0)), .int (nI (0)), .int (-1), .int (nI (0))])), (a1f, .inr (2, [.ref a1fa])), (a1fa, .inl (cI, 300, .inl (fun _ => 0))), (a1x, .inr (2, [.ref a1xa])), (a1xa, .inl (cI, 300, .inl (fun _ => 0))), (a1v, .inr (2, [.ref a1va])), (a1va, .inl (cI, 1296, .inl (fun _ => 0))), (a1g, .inr (2, [.ref a1ga])), (a1ga, .inl (cI, 1296, .inl (fun _ => 0))), (a1k, .inr (2, [.ref a1ka])), (a1ka, .inl (cI, 1296, .inl (fun _ => 0))), (a1z, .inr (2, [.ref a1za])), (a1za, .inl (cI, 360, .inl (fun _ => 0))), (z1, .inr (4, [.ref z1k, .ref z1g])), (z1k, .inr (2, [.ref z1ka])), (z1ka, .inl (cI, 1296, .inl (fun _ => 0))), (z1g, .inr (2, [.ref z1ga])), (z1ga, .inl (cI, 1296, .inl (fun _ => 0))), (q6, .inr (6, [.ref xo, .ref xd, .ref xf, .ref xm, .ref xr, .ref xw, .ref xs, .ref xc, .int (nI (0)), .int (nI (0)), .int (-1), .int (nI (0)), .ref yf, .ref yt, .int (nI (0)), .ref ye, .ref yw, .int (nI (0))])), (xo, .inl (cI, 1296, .inl (fun j => nI (form j)))), (xd, .inl (cI, 4, .inl (h1))), (xf, .inl (cI, 1296, .inl (fun _ => 0))), (xm, .inl (cZ, 1296, .inl (fun _ => 0))), (xr, .inl (cZ, 1296, .inl (fun _ => 0))), (xw, .inl (cI, 1296, .inl (fun _ => 0))), (xs, .inl (cJ, 1296, .inr (.inl (fun _ => 0)))), (xc, .inl (cI, 1296, .inl (fun _ => 0))), (yf, .inl (cI, 300, .inl (fun _ => 0))), (yt, .inl (cI, 300, .inl (fun _ => 0))), (ye, .inl (cI, 60, .inl (fun _ => 0))), (yw, .inl (cZ, 60, .inl (fun _ => 0)))] H := hP
  have hD : va_D (fun q : Nat => s.heap.size ≤ q) [(q5, .inr (5, [.ref p1, .ref w1, .ref a1, .ref z1])), (p1, .inr (1, [.ref p1f])), (p1f, .inr (2, [.ref p1fa])), (p1fa, .inl (cI, 1296, .inl (fun j => nI (form j)))), (w1, .inr (3, [.ref w1k, .ref w1g])), (w1k, .inr (2, [.ref w1ka])), (w1ka, .inl (cI, 1296, .inl (fun _ => 0))), (w1g, .inr (2, [.ref w1ga])), (w1ga, .inl (cI, 1296, .inl (fun _ => 0))), (a1, .inr (0, [.ref a1f, .ref a1x, .ref a1v, .ref a1g, .ref a1k, .ref a1z, .int (nI (0)), .int (nI (0)), .int (nI (0)), .int (-1), .int (nI (0))])), (a1f, .inr (2, [.ref a1fa])), (a1fa, .inl (cI, 300, .inl (fun _ => 0))), (a1x, .inr (2, [.ref a1xa])), (a1xa, .inl (cI, 300, .inl (fun _ => 0))), (a1v, .inr (2, [.ref a1va])), (a1va, .inl (cI, 1296, .inl (fun _ => 0))), (a1g, .inr (2, [.ref a1ga])), (a1ga, .inl (cI, 1296, .inl (fun _ => 0))), (a1k, .inr (2, [.ref a1ka])), (a1ka, .inl (cI, 1296, .inl (fun _ => 0))), (a1z, .inr (2, [.ref a1za])), (a1za, .inl (cI, 360, .inl (fun _ => 0))), (z1, .inr (4, [.ref z1k, .ref z1g])), (z1k, .inr (2, [.ref z1ka])), (z1ka, .inl (cI, 1296, .inl (fun _ => 0))), (z1g, .inr (2, [.ref z1ga])), (z1ga, .inl (cI, 1296, .inl (fun _ => 0))), (q6, .inr (6, [.ref xo, .ref xd, .ref xf, .ref xm, .ref xr, .ref xw, .ref xs, .ref xc, .int (nI (0)), .int (nI (0)), .int (-1), .int (nI (0)), .ref yf, .ref yt, .int (nI (0)), .ref ye, .ref yw, .int (nI (0))])), (xo, .inl (cI, 1296, .inl (fun j => nI (form j)))), (xd, .inl (cI, 4, .inl (h1))), (xf, .inl (cI, 1296, .inl (fun _ => 0))), (xm, .inl (cZ, 1296, .inl (fun _ => 0))), (xr, .inl (cZ, 1296, .inl (fun _ => 0))), (xw, .inl (cI, 1296, .inl (fun _ => 0))), (xs, .inl (cJ, 1296, .inr (.inl (fun _ => 0)))), (xc, .inl (cI, 1296, .inl (fun _ => 0))), (yf, .inl (cI, 300, .inl (fun _ => 0))), (yt, .inl (cI, 300, .inl (fun _ => 0))), (ye, .inl (cI, 60, .inl (fun _ => 0))), (yw, .inl (cZ, 60, .inl (fun _ => 0)))] := hD
  refine n_big hP hD ?_
  simp only [List.map_cons, List.map_nil, nsz, List.sum_cons, List.sum_nil]
  omega

set_option maxHeartbeats 4000000 in
/-- THE PRINTED ROOM: with a start as the Statement's own witness says, the first half of what is owed is false -/
theorem room_false (hw : WitnessClaimed_1) : ¬ Claimed_1_1 := by
  intro hC
  obtain ⟨p, e, s, m, args, below, hL, hWd, hadm, hleast, hcas, hclk, hf, hargs, hheap, happ, hcalls, hrest, hpre⟩ := hw
  obtain ⟨e2, he2⟩ : ∃ e2 : Env, e2 = { e with platform := { e.platform with maxSlots := e.platform.maxSlots + 40000 } } := ⟨_, rfl⟩
  have hadm2 : launch0.admits e2 := by
    subst he2
    obtain ⟨a1, a2, a3, a4, a5, a6, a7, a8, a9, a10, a11, a12, a13, a14, a15, a16, a17⟩ := hadm
    exact ⟨a1, a2, a3, a4, by show ({ e.platform with maxSlots := _ } : Platform) = _; rw [a5], a6, a7, Nat.le_trans a8 (Nat.le_add_right _ _), a9, a10, a11, a12, a13, a14, a15, a16, a17⟩
  have happ2 := (Spec.applies_iff hf).mp happ
  obtain ⟨b1, b2, b3, b4, b5, b6, b7, b8⟩ := happ2
  have hroom : ∀ n : Nat, n ≤ 40000 → s.hasRoom e2.platform { frames := 11, cells := 1076, slots := n, locals := 392 } = true := fun n hn => by
    subst he2
    have h7 : s.hasRoom e.platform room_1 = true := b7
    simp only [State.hasRoom, Bool.and_eq_true, decide_eq_true_eq] at h7 ⊢
    obtain ⟨⟨⟨⟨r1, r2⟩, r3⟩, r4⟩, r5⟩ := h7
    exact ⟨⟨⟨⟨r1, r2⟩, r3⟩, by show s.slotsUsed + n ≤ e.platform.maxSlots + 40000; have r6 : s.slotsUsed + 18093 ≤ e.platform.maxSlots := r4; omega⟩, r5⟩
  have hap : (headSpec (Jvm.Cond.code x code maxLocals ret :: tables_1) room_1).applies x e2.platform s = true := (Spec.applies_iff hf).mpr ⟨b1, b2, b3, b4, b5, b6, hroom 18093 (by decide), b8⟩
  obtain ⟨n, o, w1, w2, w3, -, w4⟩ := hC launch0 rfl hL hWd p e2 hadm2 (by rw [he2]; exact hcas) (by rw [he2]; exact hclk) s m args below hf hargs hheap hap ⟨hcalls, hrest, hpre⟩
  obtain ⟨b, xs, rfl, -, -, hgv⟩ := lw_pre_spec hpre hrest
  have hts0 : ∀ c ∈ (Jvm.Cond.code x code maxLocals ret :: tables_1), c.before #[Value.ref b] s = true := atoms_spec (ws := Jvm.Cond.code x code maxLocals ret :: tables_1) b8
  have htb : ∀ w ∈ lw_tbl, w.before #[Value.ref b] s = true := k2_hts_sels lw_privs (fun w hw => hts0 w (List.mem_cons_of_mem _ hw)) lw_privs_ok
  have hown : s.vm.findClass RL = some m.cls := findClass_of_methodNamed b4
  obtain ⟨meth, c, hmeth, hcode, hbytes, hlocals, hret, hlocks, -, -⟩ := Cond.code_spec b4 (hts0 _ List.mem_cons_self)
  have hcur := State.cur_lt_of_frames hf
  have hf1 : (s.setFrames (.java (entryFrame m #[Value.ref b] maxLocals) :: below)).frames = .java (entryFrame m #[Value.ref b] maxLocals) :: below := State.frames_setFrames _ hcur
  have ht1 := State.topJava?_of_frames hf1
  have hat : At (s.setFrames (.java (entryFrame m #[Value.ref b] maxLocals) :: below)) m c below :=
    ⟨by rw [ht1]; rfl, ⟨[], by rw [hf1]; rfl⟩, b1, by simpa using b2, by simpa using b3, by rw [State.code?_eq]; simp [State.setFrames, hmeth, hcode], State.plainMethod.of_named (s := s) (plainFor_of_name (by decide)) b4 hmeth⟩
  have hripe : s.classRipe m = true := by
    rw [State.ripe_iff, Bool.and_eq_true] at b6
    exact b6.1
  have hfull : e2.platform.stackFull (s.setFrames below).me (s.setFrames below).frames c.maxLocals = false := by
    obtain ⟨-, h1, -, h2⟩ := State.hasRoom_stack (hroom 40000 (by decide))
    rw [hf, List.length_cons] at h1
    rw [State.localsInUse_invoking hf hmeth hcode] at h2
    have hw := stackUse_le_stackWeight below
    rw [State.frames_setFrames _ hcur]
    exact Platform.stackFull_eq_false (by rw [State.stackLimits_setFrames]; omega) (by rw [State.stackLimits_setFrames]; omega)
  have hstep : (stepThread p.tables e2 s).1 = (s.setFrames (.java (entryFrame m #[Value.ref b] maxLocals) :: below)).setTop (entryFrame m #[Value.ref b] maxLocals) := by
    rw [stepThread_invoking hf, (doInvoke_java (s := s.setFrames below) (e := e2) (meth := meth) (code := c) hmeth hcode hlocks hfull).1, State.setTop_self ht1]
    simp only [State.pushFrame, State.frames_setFrames _ hcur, State.setFrames_setFrames, hlocals, entryFrame]
  have B : BodyLoose p launch0 x (headSpec (Jvm.Cond.code x code maxLocals ret :: tables_1) ({ frames := 11, cells := 1076, slots := 40000, locals := 392 } : Room)) code maxLocals ret e2 s m #[Value.ref b] below meth c (s.setFrames (.java (entryFrame m #[Value.ref b] maxLocals) :: below)) :=
    ⟨hadm2, by rw [he2]; exact hcas, by rw [he2]; exact hclk, by cases p <;> rfl, hf, b4, b5, hripe, hroom 40000 (by decide), b8, hmeth, hret, hlocks, hbytes, rfl, hat⟩
  obtain ⟨t, st, g1, g2⟩ := law_grows (p := p) (e := e2) (meth := meth) (c := c) (below := below) launch0 B.exec hbytes hlocals hown htb (s.setFrames (.java (entryFrame m #[Value.ref b] maxLocals) :: below)) rfl (Stand.of_body B)
  obtain ⟨k, hk, hkw⟩ := Steps.head (tb := p.tables) (e := e2) ⟨b1, b2, b3⟩ ⟨[.invoking m #[Value.ref b]], hf, by simp, by simp⟩ (hstep ▸ st)
  have hend : (stepsAlone p.tables e2 n s).slotsUsed ≤ s.slotsUsed + 18093 := by
    obtain ⟨-, -, hs⟩ := w4
    have h1 : (stepsAlone p.tables e2 n s).slotsUsed = s.slotsUsed + _ := hs.2.2.2.1
    have h2 := hs.2.2.2.2.1
    rw [h1]
    exact Nat.add_le_add_left h2 _
  rcases Nat.lt_or_ge k n with q | q
  · obtain ⟨j, rfl⟩ := Nat.exists_eq_add_of_le (Nat.le_of_lt q)
    have h3 := (stepsAlone_heap_grows_add p.tables e2 k j s).2
    rw [hk] at h3
    omega
  · have hwn : Within (stepsAlone p.tables e2 n s) below := by
      rcases Nat.lt_or_ge n k with q2 | q2
      · exact hkw n q2
      · rw [show n = k from Nat.le_antisymm q q2, hk]; exact g2
    exact Ended.not_within w3 hwn
