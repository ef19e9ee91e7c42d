/-! ROWS of the class: orders and their codes -/
/-! ROWS of the class: orders and their codes -/
theorem oI_cO {o : Int → Int} (h : ∀ k : Int, 0 ≤ k → k < 6 → 0 ≤ o k ∧ o k ≤ 6) : ∀ k : Int, 0 ≤ k → k < 6 → oI (cO o) k = o k := fun k a b => by
  have h0 := h 0 (by omega) (by omega)
  have h1 := h 1 (by omega) (by omega)
  have h2 := h 2 (by omega) (by omega)
  have h3 := h 3 (by omega) (by omega)
  have h4 := h 4 (by omega) (by omega)
  have h5 := h 5 (by omega) (by omega)
  have e : k = 0 ∨ k = 1 ∨ k = 2 ∨ k = 3 ∨ k = 4 ∨ k = 5 := by omega
  unfold oI cO
  rcases e with e | e | e | e | e | e <;> subst e
  · show ((_ / 1 % 7 : Nat) : Int) = _; omega
  · show ((_ / 7 % 7 : Nat) : Int) = _; omega
  · show ((_ / 49 % 7 : Nat) : Int) = _; omega
  · show ((_ / 343 % 7 : Nat) : Int) = _; omega
  · show ((_ / 2401 % 7 : Nat) : Int) = _; omega
  · show ((_ / 16807 % 7 : Nat) : Int) = _; omega
theorem oI_b (c : Nat) (k : Int) : 0 ≤ oI c k ∧ oI c k ≤ 6 := by unfold oI; omega
