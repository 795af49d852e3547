/-- the weight of a place -/
def wt (j : Nat) : Nat := if j = 0 then 216 else if j = 1 then 36 else if j = 2 then 6 else 1
/-- the statement at a place -/
def dig (c j : Nat) : Nat := c / wt j % 6
def fitB (r x y : Nat) : Bool := if r = 1 then decide (x = 0 ∧ y ≠ 0) else if r = 2 then decide (x = 5 ∧ y = 4) else if r = 3 then decide (x = 3 ∧ y = 3) else decide (x = 2 ∧ y = 1)
/-- can the rule 1 + k / 3 be used at the place k % 3 -/
def fkb (c k : Nat) : Bool := fitB (1 + k / 3) (dig c (k % 3)) (dig c (k % 3 + 1))
/-- a place by another statement -/
def putd (c j v : Nat) : Nat := c - dig c j * wt j + v * wt j
def stp (c k : Nat) : Nat := if k < 6 then putd (putd c (k % 3) (dig c (k % 3 + 1))) (k % 3 + 1) (dig c (k % 3)) else if k < 9 then putd c (k % 3 + 1) 0 else putd (putd c (k % 3) 0) (k % 3 + 1) 0
def nxF (c : Nat) : Nat → Nat → Option Nat
  | 0, _ => none
  | n + 1, k => if fkb c k then some (stp c k) else nxF c n (k + 1)
/-- one use of a rule -/
def nxo (c : Nat) : Option Nat := nxF c 12 0
def nx (c : Nat) : Nat := (nxo c).getD c
def chg (c : Nat) : Bool := (nxo c).isSome
def nfF : Nat → Nat → Nat
  | 0, c => c
  | n + 1, c => if chg c then nfF n (nx c) else c
def tm : Nat → Nat → Bool
  | 0, c => !chg c
  | n + 1, c => if chg c then tm n (nx c) else true
/-- the form of a program -/
def form (c : Nat) : Nat := nfF 40 c
theorem dig_lt (c j : Nat) : dig c j < 6 := Nat.mod_lt _ (by decide)
theorem wt_0 : wt 0 = 216 := rfl
theorem wt_1 : wt 1 = 36 := rfl
theorem wt_2 : wt 2 = 6 := rfl
theorem wt_3 : wt 3 = 1 := rfl
theorem lt4 {j : Nat} (h : j < 4) : j = 0 ∨ j = 1 ∨ j = 2 ∨ j = 3 := by omega
theorem lt3 {j : Nat} (h : j < 3) : j = 0 ∨ j = 1 ∨ j = 2 := by omega
theorem wt_pos (j : Nat) : 0 < wt j := by unfold wt; split <;> (try split) <;> (try split) <;> decide
theorem wt_le (j : Nat) : wt j ≤ 216 := by unfold wt; split <;> (try split) <;> (try split) <;> decide
theorem pack_eq {c : Nat} (h : c < 1296) : ((dig c 0 * 6 + dig c 1) * 6 + dig c 2) * 6 + dig c 3 = c := by
  unfold dig
  rw [wt_0, wt_1, wt_2, wt_3]
  omega
/-- a check of all numbers under a bound, by the kernel -/
def allB (p : Nat → Bool) : Nat → Bool
  | 0 => true
  | n + 1 => p n && allB p n
theorem allB_of {p : Nat → Bool} : ∀ {n : Nat}, allB p n = true → ∀ k, k < n → p k = true
  | 0, _, k, hk => absurd hk (Nat.not_lt_zero k)
  | n + 1, h, k, hk => by
    have h' : p n = true ∧ allB p n = true := by simpa [allB] using h
    rcases Nat.lt_or_ge k n with q | q
    · exact allB_of h'.2 k q
    · rw [Nat.le_antisymm (Nat.lt_succ_iff.mp hk) q]; exact h'.1
set_option maxRecDepth 100000 in
theorem tm_all : allB (fun c => tm 40 c) 1296 = true := by decide +kernel
theorem tm_40 {c : Nat} (h : c < 1296) : tm 40 c = true := allB_of tm_all c h
set_option maxRecDepth 100000 in
theorem stp_all : allB (fun c => allB (fun k => !fkb c k || (decide (stp c k < 1296) && allB (fun j => decide (dig (stp c k) j = if k < 6 then (if j = k % 3 + 1 then dig c (k % 3) else if j = k % 3 then dig c (k % 3 + 1) else dig c j) else if k < 9 then (if j = k % 3 + 1 then 0 else dig c j) else (if j = k % 3 + 1 then 0 else if j = k % 3 then 0 else dig c j))) 4)) 12) 1296 = true := by decide +kernel
theorem stp_ok {c k : Nat} (hc : c < 1296) (hk : k < 12) (h : fkb c k = true) : stp c k < 1296 ∧ ∀ j, j < 4 → dig (stp c k) j = if k < 6 then (if j = k % 3 + 1 then dig c (k % 3) else if j = k % 3 then dig c (k % 3 + 1) else dig c j) else if k < 9 then (if j = k % 3 + 1 then 0 else dig c j) else (if j = k % 3 + 1 then 0 else if j = k % 3 then 0 else dig c j) := by
  have h1 := allB_of (allB_of stp_all c hc) k hk
  rw [h] at h1
  simp only [Bool.not_true, Bool.false_or, Bool.and_eq_true, decide_eq_true_eq] at h1
  exact ⟨h1.1, fun j hj => of_decide_eq_true (allB_of h1.2 j hj)⟩
theorem nxF_lt {c : Nat} (hc : c < 1296) : ∀ (n k : Nat), n + k = 12 → ∀ c', nxF c n k = some c' → c' < 1296
  | 0, k, _, c', h => by cases h
  | n + 1, k, hk, c', h => by
    unfold nxF at h
    split at h
    · rename_i hf
      cases h
      exact (stp_ok hc (by omega) hf).1
    · exact nxF_lt hc n (k + 1) (by omega) c' h
theorem nx_lt {c : Nat} (hc : c < 1296) : nx c < 1296 := by
  unfold nx nxo
  cases h : nxF c 12 0 with
  | none => exact hc
  | some c' => exact nxF_lt hc 12 0 rfl c' h
theorem nfF_lt : ∀ (n c : Nat), c < 1296 → nfF n c < 1296
  | 0, c, h => h
  | n + 1, c, h => by
    unfold nfF
    split
    · exact nfF_lt n _ (nx_lt h)
    · exact h
theorem form_lt {c : Nat} (h : c < 1296) : form c < 1296 := nfF_lt 40 c h
set_option maxRecDepth 100000 in
theorem form_all : allB (fun c => decide (form (form c) = form c)) 1296 = true := by decide +kernel
theorem form_form {c : Nat} (h : c < 1296) : form (form c) = form c := of_decide_eq_true (allB_of form_all c h)
