/-- a list with a place set to 0 -/
theorem n_set0 : ∀ (xs : List Nat) (i n : Nat), xs[i]? = some n → (xs.set i 0).sum + n = xs.sum
  | [], i, n, h => by simp at h
  | x :: xs, 0, n, h => by
    simp only [List.getElem?_cons_zero, Option.some.injEq] at h
    subst h
    simp [List.set, Nat.add_comm]
  | x :: xs, i + 1, n, h => by
    rw [List.getElem?_cons_succ] at h
    have h1 := n_set0 xs i n h
    simp only [List.set, List.sum_cons]
    omega
/-- some places of a list, each at most once, come to no more than all -/
theorem n_pick : ∀ (L : List (Nat × Nat)) (xs : List Nat), (∀ (i j : Nat) (p q : Nat × Nat), L[i]? = some p → L[j]? = some q → p.1 = q.1 → i = j) → (∀ (k : Nat) (q : Nat × Nat), L[k]? = some q → q.2 = 0 ∨ xs[q.1]? = some q.2) → (L.map Prod.snd).sum ≤ xs.sum
  | [], xs, _, _ => by simp
  | (i, n) :: L, xs, hd, h => by
    have hd' : ∀ (a b : Nat) (p q : Nat × Nat), L[a]? = some p → L[b]? = some q → p.1 = q.1 → a = b := fun a b p q ha hb e => by
      have h1 := hd (a + 1) (b + 1) p q (by rw [List.getElem?_cons_succ]; exact ha) (by rw [List.getElem?_cons_succ]; exact hb) e
      omega
    have hh : ∀ (k : Nat) (q : Nat × Nat), L[k]? = some q → q.2 = 0 ∨ xs[q.1]? = some q.2 := fun k q hk => h (k + 1) q (by rw [List.getElem?_cons_succ]; exact hk)
    simp only [List.map_cons, List.sum_cons]
    rcases h 0 (i, n) rfl with h0 | h0
    · have h1 := n_pick L xs hd' hh
      dsimp only at h0
      omega
    · have h2 := n_set0 xs i n h0
      have h1 := n_pick L (xs.set i 0) hd' (fun k q hk => by
        rcases hh k q hk with z | z
        · exact Or.inl z
        · right
          rw [List.getElem?_set]
          have hne : ¬ i = q.1 := fun e => by
            have := hd 0 (k + 1) (i, n) q rfl (by rw [List.getElem?_cons_succ]; exact hk) e
            omega
          rw [if_neg hne]
          exact z)
      omega
/-- how many slots an array of the world has -/
def nsz (q : Nat × va_E) : Nat := match q.2 with
  | .inl a => a.2.1
  | .inr _ => 0
theorem n_csz (cA : ClassId) (a : vp_A) : (vp_cell cA a).slots.size = a.1 := by
  obtain ⟨n, f⟩ := a
  rcases f with f | f | f | f | f <;> exact arrV_size _ _ _
theorem n_slots {D : va_G} {cl : List vw_C} {ws : va_W} {H : Heap} {base : Nat} (hP : va_P D cl ws H) (hD : va_D (fun q => base ≤ q) ws) : (ws.map nsz).sum ≤ ((H.toList.drop base).map (·.slots.size)).sum := by
  have h := n_pick (ws.map (fun q => (q.1 - base, nsz q))) ((H.toList.drop base).map (·.slots.size)) (fun i j p q hi hj e => by
    rw [List.getElem?_map] at hi hj
    cases h1 : ws[i]? with
    | none => rw [h1] at hi; cases hi
    | some p' =>
      cases h2 : ws[j]? with
      | none => rw [h2] at hj; cases hj
      | some q' =>
        rw [h1] at hi; rw [h2] at hj
        cases hi; cases hj
        have b1 : base ≤ p'.1 := hD.2 i p' h1
        have b2 : base ≤ q'.1 := hD.2 j q' h2
        dsimp only at e
        exact hD.1 i j p' q' h1 h2 (by omega)) (fun k q hk => by
    rw [List.getElem?_map] at hk
    cases h1 : ws[k]? with
    | none => rw [h1] at hk; cases hk
    | some p' =>
      rw [h1] at hk
      cases hk
      have b1 : base ≤ p'.1 := hD.2 k p' h1
      have hat := hP k p' h1
      obtain ⟨a, x⟩ := p'
      cases x with
      | inr o => exact Or.inl rfl
      | inl x =>
        right
        have hcell : H[a]? = some (vp_cell x.1 x.2) := hat
        dsimp only at b1 ⊢
        rw [List.getElem?_map, List.getElem?_drop, show base + (a - base) = a from by omega, Array.getElem?_toList, hcell]
        exact congrArg some (n_csz _ _))
  rw [List.map_map] at h
  exact h
section NKF
variable {p : Program} {l : Launch} {e : Env} {R : Room} {s : State} {m : MethodId} {args : Array Value} {below : List Frame} {meth : Method} {c : Code} {H : Heap} {locs : List Loc} {cells slots : Nat}
/-- a walk that stands where the new arrays have n slots or more -/
theorem n_big {D : va_G} {cl : List vw_C} {ws : va_W} {g : JFrame} {n : Nat} (hP : va_P D cl ws H) (hD : va_D (fun q => s.heap.size ≤ q) ws) (hn : n ≤ (ws.map nsz).sum) : W p l e R s m args below meth c H locs cells slots (fun t => s.slotsUsed + n ≤ t.slotsUsed ∧ Within t below) g := by
  intro T hT X
  refine ⟨T.setTop g, Steps.refl _, ?_, ?_⟩
  · have h4 : T.slotsUsed = s.slotsUsed + ((T.heap.toList.drop s.heap.size).map (·.slots.size)).sum := X.same.2.2.2.1
    have h5 := n_slots hP hD
    rw [← hT] at h5
    have h6 : (T.setTop g).slotsUsed = T.slotsUsed := by simp
    rw [h6, h4]
    omega
  · exact ⟨[.java g], by rw [State.frames_setTop' _ X.here.top, X.tail]; rfl, by simp, fun a h => by cases h⟩
end NKF
