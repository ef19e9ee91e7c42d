/-! ROWS of the class: all sizes -/
/-! ROWS of the class: all sizes -/
theorem bg_n {d u : Nat} (hd : d ≤ 6) (hu : u ≤ 6) : bgN d u = true := by
  have h : d = 0 ∨ d = 1 ∨ d = 2 ∨ d = 3 ∨ d = 4 ∨ d = 5 ∨ d = 6 := by omega
  have k : u = 0 ∨ u = 1 ∨ u = 2 ∨ u = 3 ∨ u = 4 ∨ u = 5 ∨ u = 6 := by omega
  rcases h with h | h | h | h | h | h | h
  · rcases k with k | k | k | k | k | k | k
    · rw [h, k]; exact bg_00
    · rw [h, k]; exact bg_01
    · rw [h, k]; exact bg_02
    · rw [h, k]; exact bg_03
    · rw [h, k]; exact bg_04
    · rw [h, k]; exact bg_05
    · rw [h, k]; exact bg_06
  · rcases k with k | k | k | k | k | k | k
    · rw [h, k]; exact bg_10
    · rw [h, k]; exact bg_11
    · rw [h, k]; exact bg_12
    · rw [h, k]; exact bg_13
    · rw [h, k]; exact bg_14
    · rw [h, k]; exact bg_15
    · rw [h, k]; exact bg_16
  · rcases k with k | k | k | k | k | k | k
    · rw [h, k]; exact bg_20
    · rw [h, k]; exact bg_21
    · rw [h, k]; exact bg_22
    · rw [h, k]; exact bg_23
    · rw [h, k]; exact bg_24
    · rw [h, k]; exact bg_25
    · rw [h, k]; exact bg_26
  · rcases k with k | k | k | k | k | k | k
    · rw [h, k]; exact bg_30
    · rw [h, k]; exact bg_31
    · rw [h, k]; exact bg_32
    · rw [h, k]; exact bg_33
    · rw [h, k]; exact bg_34
    · rw [h, k]; exact bg_35
    · rw [h, k]; exact bg_36
  · rcases k with k | k | k | k | k | k | k
    · rw [h, k]; exact bg_40
    · rw [h, k]; exact bg_41
    · rw [h, k]; exact bg_42
    · rw [h, k]; exact bg_43
    · rw [h, k]; exact bg_44
    · rw [h, k]; exact bg_45
    · rw [h, k]; exact bg_46
  · rcases k with k | k | k | k | k | k | k
    · rw [h, k]; exact bg_50
    · rw [h, k]; exact bg_51
    · rw [h, k]; exact bg_52
    · rw [h, k]; exact bg_53
    · rw [h, k]; exact bg_54
    · rw [h, k]; exact bg_55
    · rw [h, k]; exact bg_56
  · rcases k with k | k | k | k | k | k | k
    · rw [h, k]; exact bg_60
    · rw [h, k]; exact bg_61
    · rw [h, k]; exact bg_62
    · rw [h, k]; exact bg_63
    · rw [h, k]; exact bg_64
    · rw [h, k]; exact bg_65
    · rw [h, k]; exact bg_66
