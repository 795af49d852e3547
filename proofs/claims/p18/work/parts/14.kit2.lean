theorem n_arr {ty : FieldType} {args : Array Value} {s : State} (h : (Cond.arrayClass ty).before args s = true) : ∃ cA : ClassId, ArrOfT s cA ty ∧ s.vm.findClass ("[" ++ ty.toString) = some cA := by
  obtain ⟨cA, kA, comp, h1, h2, h3⟩ := Cond.arrayClass_spec h
  exact ⟨cA, fun n z => ⟨fun k h => (by cases h), kA, h2, comp, h3⟩, h1⟩
section NKD
variable {p : Program} {l : Launch} {e : Env} {R : Room} {s : State} {m : MethodId} {args : Array Value} {below : List Frame} {meth : Method} {c : Code} {H : Heap} {locs : List Loc} {cells slots : Nat} {Q : State → Prop}
variable {cc : ByteArray} {pc : Nat} {ls : Array Slot} {rest : List Value} {D : va_G} {cl : List vw_C} {A : Nat → Prop} {tys : List (ClassId × FieldType)} {ws ws' : va_W} {H0 : Heap}
theorem n_newa (hexec : p.tables.exec = Jvm.exec) (hb : c.code = cc) {atype : ArrayType} (harr : (Cond.arrayClass (newarray.typeOf atype)).before args s = true) {ty : FieldType} (hty : newarray.typeOf atype = ty) (hK : va_K D cl tys s) (t0 : Nat) {cA : ClassId} (ht : tys[t0]? = some (cA, ty)) (hra : ∀ (U : State) (cB : ClassId), va_RA U cB ty = (U.vm.findClass ("[" ++ ty.toString) = some cB))
    (hP : va_P D cl ws H) (hD : va_D A ws) (hS : va_S A H0 H locs) (hA : ∀ q, H0.size ≤ q → A q)
    {N' : Nat} {a0 : vp_A} (ha : ∀ cB : ClassId, vp_cell cB a0 = arrV cB N' (fun _ => defaultValue ty)) (hN : N' < 2147483648) (hbytes : N' * componentBytes ty ≤ 536870912) (hcells : cells + 1 ≤ R.cells) (hslots : slots + N' ≤ R.slots) (hdg : decode cc pc = .ok (.newarray atype, 2))
    (kk : ∀ (q : Nat) (H1 : Heap), va_P D cl (ws ++ [(q, .inl (cA, a0))]) H1 → va_D A (ws ++ [(q, .inl (cA, a0))]) → va_S A H0 H1 locs →
      W p l e R s m args below meth c H1 locs (cells + 1) (slots + N') Q (F0 m (pc + 2) ls (.ref q :: rest))) : W p l e R s m args below meth c H locs cells slots Q (F0 m pc ls (.int (nI N') :: rest)) := by
  refine va_newa hexec hb harr hty hK hP hD hS hA ha (nI_pos hN) (nI_clamp hN) hbytes hcells hslots hdg (fun q cB H1 hK2 h1 h2 h3 => ?_)
  have e1 := (hK.2 t0 _ ht).2
  have e2 := (hK2.2 tys.length (cB, ty) (by rw [List.getElem?_append_right (Nat.le_refl _)]; simp)).2
  dsimp only at e1 e2
  rw [hra] at e1 e2
  have e3 : cB = cA := Option.some.inj (e2.symm.trans e1)
  subst e3
  exact kk q H1 h1 h2 h3
end NKD
/-- a constructor: the object at q becomes the world WN, with mc new cells of ms slots -/
def nNw {S : Type} (l : Launch) (y : MethodName) (ws : List Cond) (rm : Room) (d : va_G) (tys : List (ClassId × FieldType)) (q ci : Nat) (fs : List Value) (av : List Value) (mc ms : Nat) (WN : S → va_W) : Prop :=
  ∀ sz : Nat, Met l y ws rm (va_Pc (.ref q :: av) (fun U => U.heap.size = sz ∧ va_P d vwCl [(q, .inr (ci, fs))] U.heap ∧ va_K d vwCl tys U ∧ va_D (fun _ => True) [(q, .inr (ci, fs))])) (fun _ st oc t => (∃ u : S, oc = .returned none ∧ va_P d vwCl (WN u) t.heap ∧ va_D (va_A [(q, .inr (ci, fs))] sz) (WN u)) ∧ va_F (va_A [(q, .inr (ci, fs))] sz) st t) mc ms (va_A [(q, .inr (ci, fs))] sz)
section NKE
variable {p : Program} {l : Launch} {e : Env} {R : Room} {s : State} {m : MethodId} {args : Array Value} {below : List Frame} {meth : Method} {c : Code} {H : Heap} {locs : List Loc} {cells slots : Nat} {Q : State → Prop}
variable {cc bytes : ByteArray} {pc : Nat} {ls : Array Slot} {rest st0 : List Value} {y : MethodName} {maxL nL n index mc ms : Nat} {ws Ts : List Cond} {rm : Room} {own C : String} {As : List Value}
variable {d : va_G} {tys : List (ClassId × FieldType)} {WS wr : va_W} {A : Nat → Prop} {H0 : Heap} {q ci : Nat} {fs : List Value}
theorem n_nwI {S9 : Type} {WN : S9 → va_W} (S : CallFix p m c cc nL s args Ts own) (hM : nNw l y ws rm d tys q ci fs As mc ms WN) (cw : CallB R s args own index y bytes maxL none ws rm mc ms n ∧ y.name = "<init>" ∧ (Cond.instanceMethod y).before args s = true)
    (hP : va_P d vwCl WS H) (hD : va_D A WS) (hS : va_S A H0 H locs) (hA : ∀ q, H0.size ≤ q → A q) (hK : va_K d vwCl tys s) (iC : Nat) (isR : List Nat)
    (hC : [iC].map (fun i => WS[i]?) = [(q, .inr (ci, fs))].map some) (hR : isR.map (fun i => WS[i]?) = wr.map some) (hnd : va_nd isR = true) (hdis : ∀ i ∈ isR, i ∉ [iC])
    (hn : As.length = n) (hsize : ls.size = nL) (hstack : st0 = As.reverse ++ .ref q :: rest) (hW : (rest.map fun v => v.category).sum ≤ 8) (hdg : decode cc pc = .ok (.invokespecial index, 3)) (hf : cells + mc ≤ R.cells ∧ slots + ms ≤ R.slots)
    (kk : ∀ (u : S9) (H1 : Heap) (locs1 : List Loc), va_P d vwCl (wr ++ WN u) H1 → va_D A (wr ++ WN u) → va_S A H0 H1 locs1 → W p l e R s m args below meth c H1 locs1 (cells + mc) (slots + ms) Q (F0 m (pc + 3) ls rest)) : W p l e R s m args below meth c H locs cells slots Q (F0 m pc ls st0) := by
  have hPc : va_P d vwCl [(q, .inr (ci, fs))] H := hP.sub [iC] (n_fm hC)
  have hDc : va_D (fun _ => True) [(q, .inr (ci, fs))] := (hD.sub [iC] rfl hC).weaken (fun _ _ _ _ => trivial)
  have hr := W.runI (p := p) (l := l) (e := e) (below := below) (meth := meth) (H := H) (locs := locs) (cells := cells) (slots := slots) (b := q) (rest := rest) (g := F0 m pc ls st0) S (hM H.size) cw ⟨n_upB, fun U hU hW => ⟨rfl, by rw [hU], by rw [hU]; exact hPc, va_K.moved hW.alike hK, hDc⟩⟩ rfl hn hsize hstack (lv_room hW) hdg hf
  have hFc := va_free hD hS hA [iC] hC
  intro T hT X
  obtain ⟨v, st₀, t, T', L, h0, X', hL, e1, ⟨⟨u, hv, hp, hd⟩, hz, hk⟩, st⟩ := hr T hT X
  cases hv
  rw [h0] at hz hk
  have hj := va_join hP hD [iC] isR hC hR hnd hdis hk hFc hp hd
  obtain ⟨t2, a1, b1⟩ := kk u T'.heap (locs ++ L) (by rw [e1]; exact hj.1) hj.2 ⟨Nat.le_trans hS.1 (by rw [e1]; exact hz), fun q h1 h2 => by rw [e1, hk q (Nat.lt_of_lt_of_le h1 hS.1) (fun z => h2 (hFc q z))]; exact hS.2.1 q h1 h2, fun q hq => by
      rcases List.mem_append.mp hq with h | h
      · exact hS.2.2 q h
      · exact hFc _ (hL q h)⟩ T' rfl X'
  exact ⟨t2, st t2 a1, b1⟩
end NKE
