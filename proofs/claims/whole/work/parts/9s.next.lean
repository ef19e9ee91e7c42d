/-! ROWS of the class: the next order -/
theorem dX5_beginRows_0 : decode cX5_beginRows 0 = .ok (.iconst 0, 1) := by decide +kernel
theorem dX5_beginRows_1 : decode cX5_beginRows 1 = .ok (.istore_n 1, 1) := by decide +kernel
theorem dX5_beginRows_2 : decode cX5_beginRows 2 = .ok (.iload_n 1, 1) := by decide +kernel
theorem dX5_beginRows_3 : decode cX5_beginRows 3 = .ok (.bipush 6, 2) := by decide +kernel
theorem dX5_beginRows_5 : decode cX5_beginRows 5 = .ok (.if_icmp .ge 35, 3) := by decide +kernel
theorem dX5_beginRows_8 : decode cX5_beginRows 8 = .ok (.aload_n 0, 1) := by decide +kernel
theorem dX5_beginRows_9 : decode cX5_beginRows 9 = .ok (.getfield 34, 3) := by decide +kernel
theorem dX5_beginRows_12 : decode cX5_beginRows 12 = .ok (.iload_n 1, 1) := by decide +kernel
theorem dX5_beginRows_13 : decode cX5_beginRows 13 = .ok (.iload_n 1, 1) := by decide +kernel
theorem dX5_beginRows_14 : decode cX5_beginRows 14 = .ok (.aload_n 0, 1) := by decide +kernel
theorem dX5_beginRows_15 : decode cX5_beginRows 15 = .ok (.getfield 12, 3) := by decide +kernel
theorem dX5_beginRows_18 : decode cX5_beginRows 18 = .ok (.getfield 67, 3) := by decide +kernel
theorem dX5_beginRows_21 : decode cX5_beginRows 21 = .ok (.getfield 57, 3) := by decide +kernel
theorem dX5_beginRows_24 : decode cX5_beginRows 24 = .ok (.if_icmp .ge 7, 3) := by decide +kernel
theorem dX5_beginRows_27 : decode cX5_beginRows 27 = .ok (.iload_n 1, 1) := by decide +kernel
theorem dX5_beginRows_28 : decode cX5_beginRows 28 = .ok (.goto 5, 3) := by decide +kernel
theorem dX5_beginRows_31 : decode cX5_beginRows 31 = .ok (.bipush 6, 2) := by decide +kernel
theorem dX5_beginRows_33 : decode cX5_beginRows 33 = .ok (.iastore, 1) := by decide +kernel
theorem dX5_beginRows_34 : decode cX5_beginRows 34 = .ok (.iinc 1 1, 3) := by decide +kernel
theorem dX5_beginRows_37 : decode cX5_beginRows 37 = .ok (.goto (-35), 3) := by decide +kernel
theorem dX5_beginRows_40 : decode cX5_beginRows 40 = .ok (.return_, 1) := by decide +kernel
theorem dX5_nextRow_0 : decode cX5_nextRow 0 = .ok (.bipush 6, 2) := by decide +kernel
theorem dX5_nextRow_2 : decode cX5_nextRow 2 = .ok (.aload_n 0, 1) := by decide +kernel
theorem dX5_nextRow_3 : decode cX5_nextRow 3 = .ok (.getfield 12, 3) := by decide +kernel
theorem dX5_nextRow_6 : decode cX5_nextRow 6 = .ok (.getfield 53, 3) := by decide +kernel
theorem dX5_nextRow_9 : decode cX5_nextRow 9 = .ok (.getfield 57, 3) := by decide +kernel
theorem dX5_nextRow_12 : decode cX5_nextRow 12 = .ok (.aload_n 0, 1) := by decide +kernel
theorem dX5_nextRow_13 : decode cX5_nextRow 13 = .ok (.getfield 12, 3) := by decide +kernel
theorem dX5_nextRow_16 : decode cX5_nextRow 16 = .ok (.getfield 67, 3) := by decide +kernel
theorem dX5_nextRow_19 : decode cX5_nextRow 19 = .ok (.getfield 57, 3) := by decide +kernel
theorem dX5_nextRow_22 : decode cX5_nextRow 22 = .ok (.invokestatic 143, 3) := by decide +kernel
theorem dX5_nextRow_25 : decode cX5_nextRow 25 = .ok (.invokestatic 148, 3) := by decide +kernel
theorem dX5_nextRow_28 : decode cX5_nextRow 28 = .ok (.istore_n 1, 1) := by decide +kernel
theorem dX5_nextRow_29 : decode cX5_nextRow 29 = .ok (.aload_n 0, 1) := by decide +kernel
theorem dX5_nextRow_30 : decode cX5_nextRow 30 = .ok (.aload_n 0, 1) := by decide +kernel
theorem dX5_nextRow_31 : decode cX5_nextRow 31 = .ok (.getfield 12, 3) := by decide +kernel
theorem dX5_nextRow_34 : decode cX5_nextRow 34 = .ok (.getfield 53, 3) := by decide +kernel
theorem dX5_nextRow_37 : decode cX5_nextRow 37 = .ok (.getfield 57, 3) := by decide +kernel
theorem dX5_nextRow_40 : decode cX5_nextRow 40 = .ok (.iload_n 1, 1) := by decide +kernel
theorem dX5_nextRow_41 : decode cX5_nextRow 41 = .ok (.iconst 1, 1) := by decide +kernel
theorem dX5_nextRow_42 : decode cX5_nextRow 42 = .ok (.isub, 1) := by decide +kernel
theorem dX5_nextRow_43 : decode cX5_nextRow 43 = .ok (.invokevirtual 151, 3) := by decide +kernel
theorem dX5_nextRow_46 : decode cX5_nextRow 46 = .ok (.iload_n 1, 1) := by decide +kernel
theorem dX5_nextRow_47 : decode cX5_nextRow 47 = .ok (.iconst 2, 1) := by decide +kernel
theorem dX5_nextRow_48 : decode cX5_nextRow 48 = .ok (.isub, 1) := by decide +kernel
theorem dX5_nextRow_49 : decode cX5_nextRow 49 = .ok (.istore_n 2, 1) := by decide +kernel
theorem dX5_nextRow_50 : decode cX5_nextRow 50 = .ok (.iload_n 2, 1) := by decide +kernel
theorem dX5_nextRow_51 : decode cX5_nextRow 51 = .ok (.ifCond .lt 26, 3) := by decide +kernel
theorem dX5_nextRow_54 : decode cX5_nextRow 54 = .ok (.aload_n 0, 1) := by decide +kernel
theorem dX5_nextRow_55 : decode cX5_nextRow 55 = .ok (.getfield 34, 3) := by decide +kernel
theorem dX5_nextRow_58 : decode cX5_nextRow 58 = .ok (.iload_n 2, 1) := by decide +kernel
theorem dX5_nextRow_59 : decode cX5_nextRow 59 = .ok (.iaload, 1) := by decide +kernel
theorem dX5_nextRow_60 : decode cX5_nextRow 60 = .ok (.aload_n 0, 1) := by decide +kernel
theorem dX5_nextRow_61 : decode cX5_nextRow 61 = .ok (.getfield 34, 3) := by decide +kernel
theorem dX5_nextRow_64 : decode cX5_nextRow 64 = .ok (.iload_n 2, 1) := by decide +kernel
theorem dX5_nextRow_65 : decode cX5_nextRow 65 = .ok (.iconst 1, 1) := by decide +kernel
theorem dX5_nextRow_66 : decode cX5_nextRow 66 = .ok (.iadd, 1) := by decide +kernel
theorem dX5_nextRow_67 : decode cX5_nextRow 67 = .ok (.iaload, 1) := by decide +kernel
theorem dX5_nextRow_68 : decode cX5_nextRow 68 = .ok (.if_icmp .lt 9, 3) := by decide +kernel
theorem dX5_nextRow_71 : decode cX5_nextRow 71 = .ok (.iinc 2 (-1), 3) := by decide +kernel
theorem dX5_nextRow_74 : decode cX5_nextRow 74 = .ok (.goto (-24), 3) := by decide +kernel
theorem dX5_nextRow_77 : decode cX5_nextRow 77 = .ok (.iload_n 2, 1) := by decide +kernel
theorem dX5_nextRow_78 : decode cX5_nextRow 78 = .ok (.ifCond .ge 5, 3) := by decide +kernel
theorem dX5_nextRow_81 : decode cX5_nextRow 81 = .ok (.iconst 0, 1) := by decide +kernel
theorem dX5_nextRow_82 : decode cX5_nextRow 82 = .ok (.ireturn, 1) := by decide +kernel
theorem dX5_nextRow_83 : decode cX5_nextRow 83 = .ok (.iload_n 1, 1) := by decide +kernel
theorem dX5_nextRow_84 : decode cX5_nextRow 84 = .ok (.iconst 1, 1) := by decide +kernel
theorem dX5_nextRow_85 : decode cX5_nextRow 85 = .ok (.isub, 1) := by decide +kernel
theorem dX5_nextRow_86 : decode cX5_nextRow 86 = .ok (.istore_n 3, 1) := by decide +kernel
theorem dX5_nextRow_87 : decode cX5_nextRow 87 = .ok (.iload_n 3, 1) := by decide +kernel
theorem dX5_nextRow_88 : decode cX5_nextRow 88 = .ok (.iload_n 2, 1) := by decide +kernel
theorem dX5_nextRow_89 : decode cX5_nextRow 89 = .ok (.if_icmp .le 24, 3) := by decide +kernel
theorem dX5_nextRow_92 : decode cX5_nextRow 92 = .ok (.aload_n 0, 1) := by decide +kernel
theorem dX5_nextRow_93 : decode cX5_nextRow 93 = .ok (.getfield 34, 3) := by decide +kernel
theorem dX5_nextRow_96 : decode cX5_nextRow 96 = .ok (.iload_n 3, 1) := by decide +kernel
theorem dX5_nextRow_97 : decode cX5_nextRow 97 = .ok (.iaload, 1) := by decide +kernel
theorem dX5_nextRow_98 : decode cX5_nextRow 98 = .ok (.aload_n 0, 1) := by decide +kernel
theorem dX5_nextRow_99 : decode cX5_nextRow 99 = .ok (.getfield 34, 3) := by decide +kernel
theorem dX5_nextRow_102 : decode cX5_nextRow 102 = .ok (.iload_n 2, 1) := by decide +kernel
theorem dX5_nextRow_103 : decode cX5_nextRow 103 = .ok (.iaload, 1) := by decide +kernel
theorem dX5_nextRow_104 : decode cX5_nextRow 104 = .ok (.if_icmp .gt 9, 3) := by decide +kernel
theorem dX5_nextRow_107 : decode cX5_nextRow 107 = .ok (.iinc 3 (-1), 3) := by decide +kernel
theorem dX5_nextRow_110 : decode cX5_nextRow 110 = .ok (.goto (-23), 3) := by decide +kernel
theorem dX5_nextRow_113 : decode cX5_nextRow 113 = .ok (.aload_n 0, 1) := by decide +kernel
theorem dX5_nextRow_114 : decode cX5_nextRow 114 = .ok (.iload_n 2, 1) := by decide +kernel
theorem dX5_nextRow_115 : decode cX5_nextRow 115 = .ok (.iload_n 3, 1) := by decide +kernel
theorem dX5_nextRow_116 : decode cX5_nextRow 116 = .ok (.invokevirtual 154, 3) := by decide +kernel
theorem dX5_nextRow_119 : decode cX5_nextRow 119 = .ok (.aload_n 0, 1) := by decide +kernel
theorem dX5_nextRow_120 : decode cX5_nextRow 120 = .ok (.iload_n 2, 1) := by decide +kernel
theorem dX5_nextRow_121 : decode cX5_nextRow 121 = .ok (.iconst 1, 1) := by decide +kernel
theorem dX5_nextRow_122 : decode cX5_nextRow 122 = .ok (.iadd, 1) := by decide +kernel
theorem dX5_nextRow_123 : decode cX5_nextRow 123 = .ok (.iload_n 1, 1) := by decide +kernel
theorem dX5_nextRow_124 : decode cX5_nextRow 124 = .ok (.iconst 1, 1) := by decide +kernel
theorem dX5_nextRow_125 : decode cX5_nextRow 125 = .ok (.isub, 1) := by decide +kernel
theorem dX5_nextRow_126 : decode cX5_nextRow 126 = .ok (.invokevirtual 151, 3) := by decide +kernel
theorem dX5_nextRow_129 : decode cX5_nextRow 129 = .ok (.iconst 1, 1) := by decide +kernel
theorem dX5_nextRow_130 : decode cX5_nextRow 130 = .ok (.ireturn, 1) := by decide +kernel
theorem dX5_turnRound_0 : decode cX5_turnRound 0 = .ok (.iload_n 1, 1) := by decide +kernel
theorem dX5_turnRound_1 : decode cX5_turnRound 1 = .ok (.istore_n 3, 1) := by decide +kernel
theorem dX5_turnRound_2 : decode cX5_turnRound 2 = .ok (.iload_n 2, 1) := by decide +kernel
theorem dX5_turnRound_3 : decode cX5_turnRound 3 = .ok (.istore 4, 2) := by decide +kernel
theorem dX5_turnRound_5 : decode cX5_turnRound 5 = .ok (.iload_n 3, 1) := by decide +kernel
theorem dX5_turnRound_6 : decode cX5_turnRound 6 = .ok (.iload 4, 2) := by decide +kernel
theorem dX5_turnRound_8 : decode cX5_turnRound 8 = .ok (.if_icmp .ge 19, 3) := by decide +kernel
theorem dX5_turnRound_11 : decode cX5_turnRound 11 = .ok (.aload_n 0, 1) := by decide +kernel
theorem dX5_turnRound_12 : decode cX5_turnRound 12 = .ok (.iload_n 3, 1) := by decide +kernel
theorem dX5_turnRound_13 : decode cX5_turnRound 13 = .ok (.iload 4, 2) := by decide +kernel
theorem dX5_turnRound_15 : decode cX5_turnRound 15 = .ok (.invokevirtual 154, 3) := by decide +kernel
theorem dX5_turnRound_18 : decode cX5_turnRound 18 = .ok (.iinc 3 1, 3) := by decide +kernel
theorem dX5_turnRound_21 : decode cX5_turnRound 21 = .ok (.iinc 4 (-1), 3) := by decide +kernel
theorem dX5_turnRound_24 : decode cX5_turnRound 24 = .ok (.goto (-19), 3) := by decide +kernel
theorem dX5_turnRound_27 : decode cX5_turnRound 27 = .ok (.return_, 1) := by decide +kernel
theorem dX5_exchange_0 : decode cX5_exchange 0 = .ok (.iload_n 1, 1) := by decide +kernel
theorem dX5_exchange_1 : decode cX5_exchange 1 = .ok (.ifCond .lt 19, 3) := by decide +kernel
theorem dX5_exchange_4 : decode cX5_exchange 4 = .ok (.iload_n 2, 1) := by decide +kernel
theorem dX5_exchange_5 : decode cX5_exchange 5 = .ok (.ifCond .lt 15, 3) := by decide +kernel
theorem dX5_exchange_8 : decode cX5_exchange 8 = .ok (.iload_n 1, 1) := by decide +kernel
theorem dX5_exchange_9 : decode cX5_exchange 9 = .ok (.bipush 6, 2) := by decide +kernel
theorem dX5_exchange_11 : decode cX5_exchange 11 = .ok (.if_icmp .ge 9, 3) := by decide +kernel
theorem dX5_exchange_14 : decode cX5_exchange 14 = .ok (.iload_n 2, 1) := by decide +kernel
theorem dX5_exchange_15 : decode cX5_exchange 15 = .ok (.bipush 6, 2) := by decide +kernel
theorem dX5_exchange_17 : decode cX5_exchange 17 = .ok (.if_icmp .lt 4, 3) := by decide +kernel
theorem dX5_exchange_20 : decode cX5_exchange 20 = .ok (.return_, 1) := by decide +kernel
theorem dX5_exchange_21 : decode cX5_exchange 21 = .ok (.aload_n 0, 1) := by decide +kernel
theorem dX5_exchange_22 : decode cX5_exchange 22 = .ok (.getfield 34, 3) := by decide +kernel
theorem dX5_exchange_25 : decode cX5_exchange 25 = .ok (.iload_n 1, 1) := by decide +kernel
theorem dX5_exchange_26 : decode cX5_exchange 26 = .ok (.iaload, 1) := by decide +kernel
theorem dX5_exchange_27 : decode cX5_exchange 27 = .ok (.istore_n 3, 1) := by decide +kernel
theorem dX5_exchange_28 : decode cX5_exchange 28 = .ok (.aload_n 0, 1) := by decide +kernel
theorem dX5_exchange_29 : decode cX5_exchange 29 = .ok (.getfield 34, 3) := by decide +kernel
theorem dX5_exchange_32 : decode cX5_exchange 32 = .ok (.iload_n 1, 1) := by decide +kernel
theorem dX5_exchange_33 : decode cX5_exchange 33 = .ok (.aload_n 0, 1) := by decide +kernel
theorem dX5_exchange_34 : decode cX5_exchange 34 = .ok (.getfield 34, 3) := by decide +kernel
theorem dX5_exchange_37 : decode cX5_exchange 37 = .ok (.iload_n 2, 1) := by decide +kernel
theorem dX5_exchange_38 : decode cX5_exchange 38 = .ok (.iaload, 1) := by decide +kernel
theorem dX5_exchange_39 : decode cX5_exchange 39 = .ok (.iastore, 1) := by decide +kernel
theorem dX5_exchange_40 : decode cX5_exchange 40 = .ok (.aload_n 0, 1) := by decide +kernel
theorem dX5_exchange_41 : decode cX5_exchange 41 = .ok (.getfield 34, 3) := by decide +kernel
theorem dX5_exchange_44 : decode cX5_exchange 44 = .ok (.iload_n 2, 1) := by decide +kernel
theorem dX5_exchange_45 : decode cX5_exchange 45 = .ok (.iload_n 3, 1) := by decide +kernel
theorem dX5_exchange_46 : decode cX5_exchange 46 = .ok (.iastore, 1) := by decide +kernel
theorem dX5_exchange_47 : decode cX5_exchange 47 = .ok (.return_, 1) := by decide +kernel
set_option maxRecDepth 20000 in
theorem tm_5_143 : tMet TB0 5 143 = some (10, M_none) := rfl
set_option maxRecDepth 20000 in
theorem tm_5_148 : tMet TB0 5 148 = some (11, M_none) := rfl
set_option maxRecDepth 20000 in
theorem tm_5_151 : tMet TB0 5 151 = some (0, M_X5_turnRound) := rfl
set_option maxRecDepth 20000 in
theorem tm_5_154 : tMet TB0 5 154 = some (0, M_X5_exchange) := rfl
/-! ROWS of the class: the next order -/
def odC (h : mH) (y : Nat) (o : Int → Int) : Prop := (∀ k : Int, 0 ≤ k → k < 6 → rI h (y + 37) k = o k) ∧ ∀ k : Int, 0 ≤ k → k < 6 → 0 ≤ o k ∧ o k ≤ 6
theorem odC_e {h : mH} {y : Nat} {o o' : Int → Int} (e : ∀ k : Int, 0 ≤ k → k < 6 → o' k = o k) (H : odC h y o) : odC h y o' := ⟨fun k a b => (H.1 k a b).trans (e k a b).symm, fun k a b => by rw [e k a b]; exact H.2 k a b⟩
def exZ (o : Int → Int) (i j : Int) : Int → Int := fun k => if k = i then o j else if k = j then o i else o k
def rvF (o : Int → Int) (a b : Int) : Int → Int := fun k => if a ≤ k ∧ k ≤ b then o (a + b - k) else o k
def tvF (o : Int → Int) (a b i : Int) : Int → Int := fun k => if (a ≤ k ∧ k ≤ b) ∧ (k < i ∨ a + b - k < i) then o (a + b - k) else o k
theorem exZ_b {o : Int → Int} {i j : Int} (i0 : 0 ≤ i ∧ i < 6) (j0 : 0 ≤ j ∧ j < 6) (h : ∀ k : Int, 0 ≤ k → k < 6 → 0 ≤ o k ∧ o k ≤ 6) : ∀ k : Int, 0 ≤ k → k < 6 → 0 ≤ exZ o i j k ∧ exZ o i j k ≤ 6 := fun k a b => by
  unfold exZ
  by_cases p : k = i
  · rw [if_pos p]; exact h j j0.1 j0.2
  · rw [if_neg p]
    by_cases q : k = j
    · rw [if_pos q]; exact h i i0.1 i0.2
    · rw [if_neg q]; exact h k a b
theorem tvF_0 {o : Int → Int} {a b : Int} : ∀ k : Int, 0 ≤ k → k < 6 → tvF o a b a k = o k := fun k _ _ => if_neg (by omega)
theorem tvF_s {o : Int → Int} {a b i j : Int} (e : i + j = a + b) (a0 : a ≤ i) (l : i < j) : ∀ k : Int, 0 ≤ k → k < 6 → tvF o a b (i + 1) k = exZ (tvF o a b i) i j k := fun k _ _ => by
  unfold exZ
  by_cases p : k = i
  · rw [if_pos p]
    have e1 : tvF o a b i j = o j := if_neg (by omega)
    have e2 : tvF o a b (i + 1) k = o (a + b - k) := if_pos (by omega)
    rw [e1, e2, show a + b - k = j by omega]
  · rw [if_neg p]
    by_cases q : k = j
    · rw [if_pos q]
      have e1 : tvF o a b i i = o i := if_neg (by omega)
      have e2 : tvF o a b (i + 1) k = o (a + b - k) := if_pos (by omega)
      rw [e1, e2, show a + b - k = i by omega]
    · rw [if_neg q]
      unfold tvF
      by_cases w : (a ≤ k ∧ k ≤ b) ∧ (k < i ∨ a + b - k < i)
      · rw [if_pos w, if_pos (by omega)]
      · rw [if_neg w, if_neg (by omega)]
theorem tvF_e {o : Int → Int} {a b i j : Int} (e : i + j = a + b) (l : j ≤ i) : ∀ k : Int, 0 ≤ k → k < 6 → rvF o a b k = tvF o a b i k := fun k _ _ => by
  unfold rvF tvF
  by_cases w : a ≤ k ∧ k ≤ b
  · rw [if_pos w]
    by_cases z : k < i ∨ a + b - k < i
    · rw [if_pos ⟨w, z⟩]
    · rw [if_neg (fun y => z y.2), show a + b - k = k by omega]
  · rw [if_neg w, if_neg (fun y => w y.1)]
def faN (o : Int → Int) : Nat → Int
  | 0 => -1
  | n + 1 => if o (n : Int) < o ((n : Int) + 1) then (n : Int) else faN o n
def jN (o : Int → Int) (v : Int) : Nat → Int
  | 0 => -1
  | n + 1 => if v < o (n : Int) then (n : Int) else jN o v n
theorem faN_s {o : Int → Int} {i : Int} (i0 : 0 ≤ i) : faN o (i + 1).toNat = if o i < o (i + 1) then i else faN o i.toNat := by
  rw [show (i + 1).toNat = i.toNat + 1 by omega]
  show (if o (i.toNat : Int) < o ((i.toNat : Int) + 1) then (i.toNat : Int) else faN o i.toNat) = _
  rw [Int.toNat_of_nonneg i0]
theorem jN_s {o : Int → Int} {v i : Int} (i0 : 0 ≤ i) : jN o v (i + 1).toNat = if v < o i then i else jN o v i.toNat := by
  rw [show (i + 1).toNat = i.toNat + 1 by omega]
  show (if v < o (i.toNat : Int) then (i.toNat : Int) else jN o v i.toNat) = _
  rw [Int.toNat_of_nonneg i0]
def wdZ (d u : Int) : Int := min 6 (max d u)
def nxI (d u : Int) (o : Int → Int) : Int := faN (rvF o d (wdZ d u - 1)) (wdZ d u - 1).toNat
def nxF (d u : Int) (o : Int → Int) : Int → Int := if nxI d u o < 0 then rvF o d (wdZ d u - 1) else rvF (exZ (rvF o d (wdZ d u - 1)) (nxI d u o) (jN (rvF o d (wdZ d u - 1)) (rvF o d (wdZ d u - 1) (nxI d u o)) (wdZ d u).toNat)) (nxI d u o + 1) (wdZ d u - 1)
def nxV (d u : Int) (o : Int → Int) (v : Int) : Prop := (v = 0 ∧ nxI d u o < 0) ∨ (v = 1 ∧ 0 ≤ nxI d u o)
theorem nxV_b {d u : Int} {o : Int → Int} {v : Int} (h : nxV d u o v) : v = 0 ∨ v = 1 := h.elim (fun z => Or.inl z.1) (fun z => Or.inr z.1)
theorem nx_0 {d u : Int} {o o1 : Int → Int} (e : o1 = rvF o d (min 6 (max d u) - 1)) (h : nxI d u o < 0) : nxF d u o = o1 := by
  unfold nxF
  rw [if_pos h, e]; rfl
theorem nx_1 {d u i j : Int} {o o1 : Int → Int} (e : o1 = rvF o d (min 6 (max d u) - 1)) (h : faN o1 (min 6 (max d u) - 1).toNat = i) (i0 : 0 ≤ i) (k : jN o1 (o1 i) (min 6 (max d u)).toNat = j) : nxF d u o = rvF (exZ o1 i j) (i + 1) (min 6 (max d u) - 1) := by
  have e1 : nxI d u o = i := by rw [← h, e]; rfl
  have e2 : rvF o d (wdZ d u - 1) = o1 := e.symm
  unfold nxF
  rw [if_neg (by omega), e1, e2]
  have e3 : jN o1 (o1 i) (wdZ d u).toNat = j := k
  rw [e3]; rfl
theorem nx_v {d u : Int} {o o1 : Int → Int} (e : o1 = rvF o d (min 6 (max d u) - 1)) : nxI d u o = faN o1 (min 6 (max d u) - 1).toNat := by rw [e]; rfl
set_option maxHeartbeats 400000 in
theorem zp_X5_exchange {ad : mA} {dd : Nat} {h : mH} {Q : mQ} {y : Nat} {o : Int → Int} (hk : mak h y)  (i : Int) (i_r : -2147483648 ≤ i ∧ i < 2147483648) (j : Int) (j_r : -2147483648 ≤ j ∧ j < 2147483648) (HO : odC h y o) (p1 : 0 ≤ i ∧ i < 6) (p2 : 0 ≤ j ∧ j < 6) (kq : ∀ h1, frm (fun a k => a = y + 37) h h1 → (odC h1 y (exZ o i j)) → Q none h1) : mCal TB0 ad (dd + 1) M_X5_exchange [.ref y, .int (zI i), .int (zI j)] h 0 0 Q := by
  refine ⟨Nat.le_of_ble_eq_true rfl, ?_⟩
  show mEv TB0 ad M_X5_exchange (dd + 1) (0, 0) (mCal TB0 ad (dd + 0)) (fun v h' z => z.1 = 0 ∧ Q v h') 0 [some (.ref y), some (.int (zI i)), some (.int (zI j)), none] [] h (0, 0)
  have FR0 : frm (fun a k => a = y + 37) h h := frm_0 h
  refine e_iload_n dX5_exchange_0 rfl ?_
  refine z_if_lt 20 dX5_exchange_1 rfl ⟨by omega, by omega⟩ (fun c1 => ?_) (fun c1 => ?_)
  · exfalso; omega
  · skip
    refine e_iload_n dX5_exchange_4 rfl ?_
    refine z_if_lt 20 dX5_exchange_5 rfl ⟨by omega, by omega⟩ (fun c2 => ?_) (fun c2 => ?_)
    · exfalso; omega
    · skip
      refine e_iload_n dX5_exchange_8 rfl ?_
      refine z_bipush (6) dX5_exchange_9 rfl ?_
      refine z_icmp_ge 20 dX5_exchange_11 rfl ⟨by omega, by omega⟩ ⟨by omega, by omega⟩ (fun c3 => ?_) (fun c3 => ?_)
      · exfalso; omega
      · skip
        refine e_iload_n dX5_exchange_14 rfl ?_
        refine z_bipush (6) dX5_exchange_15 rfl ?_
        refine z_icmp_lt 21 dX5_exchange_17 rfl ⟨by omega, by omega⟩ ⟨by omega, by omega⟩ (fun c4 => ?_) (fun c4 => ?_)
        · skip
          refine e_aload_n dX5_exchange_21 rfl ?_
          refine e_get (.ref (y + 37)) dX5_exchange_22 tf_5_34 (congrArg Prod.fst (ma_s0 hk)) (congrArg va_rf (ma_r0_6 hk)) ?_
          refine e_iload_n dX5_exchange_25 rfl ?_
          refine z_ild (o i) dX5_exchange_26 (ma_s37 hk) (by decide) (by omega) (by omega) (HO.1 i (by omega) (by omega)) ?_
          have y5 := HO.2 i (by omega) (by omega)
          refine e_istore_n (L' := [_, _, _, _]) dX5_exchange_27 (Nat.le_of_ble_eq_true rfl) rfl ?_
          refine e_aload_n dX5_exchange_28 rfl ?_
          refine e_get (.ref (y + 37)) dX5_exchange_29 tf_5_34 (congrArg Prod.fst (ma_s0 hk)) (congrArg va_rf (ma_r0_6 hk)) ?_
          refine e_iload_n dX5_exchange_32 rfl ?_
          refine e_aload_n dX5_exchange_33 rfl ?_
          refine e_get (.ref (y + 37)) dX5_exchange_34 tf_5_34 (congrArg Prod.fst (ma_s0 hk)) (congrArg va_rf (ma_r0_6 hk)) ?_
          refine e_iload_n dX5_exchange_37 rfl ?_
          refine z_ild (o j) dX5_exchange_38 (ma_s37 hk) (by decide) (by omega) (by omega) (HO.1 j (by omega) (by omega)) ?_
          have y6 := HO.2 j (by omega) (by omega)
          refine z_ist dX5_exchange_39 (ma_s37 hk) (by decide) (by omega) (by omega) (fun h7 e8 => ?_)
          have f9 := frm_1 e8
          have k10 := lk_q (frm_s f9) hk
          have FR11 := frm_t FR0 (frm_m (S' := (fun a k => a = y + 37)) f9 (fun a k q => by omega))
          refine e_aload_n dX5_exchange_40 rfl ?_
          refine e_get (.ref (y + 37)) dX5_exchange_41 tf_5_34 (congrArg Prod.fst (ma_s0 k10)) (congrArg va_rf (ma_r0_6 k10)) ?_
          refine e_iload_n dX5_exchange_44 rfl ?_
          refine e_iload_n dX5_exchange_45 rfl ?_
          refine z_ist dX5_exchange_46 (ma_s37 k10) (by decide) (by omega) (by omega) (fun h12 e13 => ?_)
          have f14 := frm_1 e13
          have k15 := lk_q (frm_s f14) k10
          have FR16 := frm_t FR11 (frm_m (S' := (fun a k => a = y + 37)) f14 (fun a k q => by omega))
          refine e_vret dX5_exchange_47 rfl ⟨rfl, ?_⟩
          exact kq _ FR16 ⟨fun k a c => by
            unfold exZ
            by_cases p : k = i
            · rw [if_pos p, p]
              by_cases q : i = j
              · rw [← q]; refine Eq.trans ?_ (HO.1 i (by omega) (by omega)); first | (rw [show rI h12 (y + 37) i = rI h12 (y + 37) j by rw [q]]; exact ((rI_eq e13 ⟨by omega, by omega⟩)).trans (HO.1 i (by omega) (by omega)).symm)
              · exact ((frm_r f14 (by omega)).trans (rI_eq e8 ⟨by omega, by omega⟩))
            · rw [if_neg p]
              by_cases q : k = j
              · rw [if_pos q, q]; exact (rI_eq e13 ⟨by omega, by omega⟩)
              · rw [if_neg q]; exact (((frm_r f14 (by omega)).trans (frm_r f9 (by omega)))).trans (HO.1 k a c), exZ_b (by omega) (by omega) HO.2⟩
        · exfalso; omega
set_option maxHeartbeats 400000 in
theorem zp_X5_turnRound {ad : mA} {dd : Nat} {h : mH} {Q : mQ} {y : Nat} {o : Int → Int} (hk : mak h y)  (a : Int) (a_r : -2147483648 ≤ a ∧ a < 2147483648) (b : Int) (b_r : -2147483648 ≤ b ∧ b < 2147483648) (HO : odC h y o) (p1 : 0 ≤ a ∧ a ≤ b + 1 ∧ b ≤ 5) (kq : ∀ h1, frm (fun a k => a = y + 37) h h1 → (odC h1 y (rvF o a b)) → Q none h1) : mCal TB0 ad (dd + 2) M_X5_turnRound [.ref y, .int (zI a), .int (zI b)] h 0 0 Q := by
  refine ⟨Nat.le_of_ble_eq_true rfl, ?_⟩
  show mEv TB0 ad M_X5_turnRound (dd + 2) (0, 0) (mCal TB0 ad (dd + 1)) (fun v h' z => z.1 = 0 ∧ Q v h') 0 [some (.ref y), some (.int (zI a)), some (.int (zI b)), none, none] [] h (0, 0)
  have FR0 : frm (fun a k => a = y + 37) h h := frm_0 h
  refine e_iload_n dX5_turnRound_0 rfl ?_
  refine e_istore_n (L' := [_, _, _, _, _]) dX5_turnRound_1 (Nat.le_of_ble_eq_true rfl) rfl ?_
  refine e_iload_n dX5_turnRound_2 rfl ?_
  refine e_istore (L' := [_, _, _, _, _]) dX5_turnRound_3 (Nat.le_of_ble_eq_true rfl) rfl ?_
  have lp1 : ∀ (n1 : Nat) (i j : Int) (h1 : mH), ((j - i)).toNat = n1 → (mak h1 y) → (frm (fun a k => a = y + 37) h h1) → (a ≤ i ∧ i ≤ j + 2 ∧ j ≤ b) → (i + j = a + b) → (odC h1 y (tvF o a b i)) → mEv TB0 ad M_X5_turnRound (dd + 2) (0, 0) (mCal TB0 ad (dd + 1)) (fun v h' z => z.1 = 0 ∧ Q v h') 5 [some (.ref y), some (.int (zI a)), some (.int (zI b)), some (.int (zI i)), some (.int (zI j))] [] h1 (0, 0) := by
    intro n1
    induction n1 using Nat.strongRecOn with
    | ind n1 ih1 =>
    intro i j h1 hn1 k2 FR3 I1 I2 I3
    refine e_iload_n dX5_turnRound_5 rfl ?_
    refine e_iload dX5_turnRound_6 rfl ?_
    refine z_icmp_ge 27 dX5_turnRound_8 rfl ⟨by omega, by omega⟩ ⟨by omega, by omega⟩ (fun c4 => ?_) (fun c4 => ?_)
    · skip
      refine e_vret dX5_turnRound_27 rfl ⟨rfl, ?_⟩
      exact kq _ FR3 (odC_e (tvF_e I2 (by omega)) I3)
    · skip
      refine e_aload_n dX5_turnRound_11 rfl ?_
      refine e_iload_n dX5_turnRound_12 rfl ?_
      refine e_iload dX5_turnRound_13 rfl ?_
      refine e_callV [.int _, .int _] dX5_turnRound_15 tm_5_154 rfl (Nat.le_of_ble_eq_true rfl) (congrArg Prod.fst (ma_s0 k2)) (Nat.le_of_ble_eq_true rfl) (Nat.le_refl _) (Nat.le_refl _) rfl (zp_X5_exchange k2 i ⟨by omega, by omega⟩ j ⟨by omega, by omega⟩ I3 (by omega) (by omega) (fun  h5 f6 p7 => ?_))
      have k8 := lk_q (frm_s f6) k2
      have FR9 := frm_t FR3 (frm_m (S' := (fun a k => a = y + 37)) f6 (fun a k q => by omega))
      skip
      refine z_iinc (L' := [_, _, _, _, _]) dX5_turnRound_18 rfl rfl ?_
      refine z_iinc (L' := [_, _, _, _, _]) dX5_turnRound_21 rfl rfl ?_
      refine e_goto 5 dX5_turnRound_24 rfl ?_
      exact ih1 _ (by omega) (i + 1) (j + (-1)) h5 rfl k8 FR9 (by omega) (by omega) (odC_e (tvF_s I2 (by omega) (by omega)) p7)
  exact lp1 _ a b h rfl hk FR0 (by omega) (by omega) (odC_e tvF_0 HO)
set_option maxHeartbeats 1000000 in
theorem zp_X5_nextRow {ad : mA} {dd : Nat} {h : mH} {Q : mQ} {y : Nat} {g o : Int → Int} (hk : mak h y) (HF : isF h (y + 1) g)   (HO : odC h y o) (kq : ∀ v : Int, (nxV (nd g) (nu g) o v) → ∀ h1, frm (fun a k => a = y + 37) h h1 → (odC h1 y (nxF (nd g) (nu g) o)) → Q (some (.int (zI v))) h1) : mCal TB0 ad (dd + 3) M_X5_nextRow [.ref y] h 0 0 Q := by
  refine ⟨Nat.le_of_ble_eq_true rfl, ?_⟩
  show mEv TB0 ad M_X5_nextRow (dd + 3) (0, 0) (mCal TB0 ad (dd + 2)) (fun v h' z => z.1 = 0 ∧ Q v h') 0 [some (.ref y), none, none, none] [] h (0, 0)
  have FR0 : frm (fun a k => a = y + 37) h h := frm_0 h
  have w1 := isF_n HF
  have W := isF_w HF
  refine z_bipush (6) dX5_nextRow_0 rfl ?_
  refine e_aload_n dX5_nextRow_2 rfl ?_
  refine e_get (.ref (y + 1)) dX5_nextRow_3 tf_5_12 (congrArg Prod.fst (ma_s0 hk)) (congrArg va_rf (ma_r0_0 hk)) ?_
  refine e_get (.ref (y + 2)) dX5_nextRow_6 tf_5_53 (congrArg Prod.fst (ma_s1 hk)) (congrArg va_rf (ma_r1_0 hk)) ?_
  refine z_get (nd g) dX5_nextRow_9 tf_5_57 (congrArg Prod.fst (ma_s2 hk)) (Or.inl rfl) (isF_nd HF) ?_
  have y1 := isF_n HF
  refine e_aload_n dX5_nextRow_12 rfl ?_
  refine e_get (.ref (y + 1)) dX5_nextRow_13 tf_5_12 (congrArg Prod.fst (ma_s0 hk)) (congrArg va_rf (ma_r0_0 hk)) ?_
  refine e_get (.ref (y + 8)) dX5_nextRow_16 tf_5_67 (congrArg Prod.fst (ma_s1 hk)) (congrArg va_rf (ma_r1_1 hk)) ?_
  refine z_get (nu g) dX5_nextRow_19 tf_5_57 (congrArg Prod.fst (ma_s8 hk)) (Or.inl rfl) (isF_nu HF) ?_
  have y2 := isF_n HF
  refine z_mmax dX5_nextRow_22 tm_5_143 (Nat.le_of_ble_eq_true rfl) ⟨by omega, by omega⟩ ⟨by omega, by omega⟩ ?_
  refine z_mmin dX5_nextRow_25 tm_5_148 (Nat.le_of_ble_eq_true rfl) ⟨by omega, by omega⟩ ⟨by omega, by omega⟩ ?_
  refine e_istore_n (L' := [_, _, _, _]) dX5_nextRow_28 (Nat.le_of_ble_eq_true rfl) rfl ?_
  refine e_aload_n dX5_nextRow_29 rfl ?_
  refine e_aload_n dX5_nextRow_30 rfl ?_
  refine e_get (.ref (y + 1)) dX5_nextRow_31 tf_5_12 (congrArg Prod.fst (ma_s0 hk)) (congrArg va_rf (ma_r0_0 hk)) ?_
  refine e_get (.ref (y + 2)) dX5_nextRow_34 tf_5_53 (congrArg Prod.fst (ma_s1 hk)) (congrArg va_rf (ma_r1_0 hk)) ?_
  refine z_get (nd g) dX5_nextRow_37 tf_5_57 (congrArg Prod.fst (ma_s2 hk)) (Or.inl rfl) (isF_nd HF) ?_
  have y3 := isF_n HF
  refine e_iload_n dX5_nextRow_40 rfl ?_
  refine z_iconst (1) dX5_nextRow_41 rfl ?_
  refine z_isub dX5_nextRow_42 ?_
  refine e_callV [.int _, .int _] dX5_nextRow_43 tm_5_151 rfl (Nat.le_of_ble_eq_true rfl) (congrArg Prod.fst (ma_s0 hk)) (Nat.le_of_ble_eq_true rfl) (Nat.le_refl _) (Nat.le_refl _) rfl (zp_X5_turnRound hk (nd g) ⟨by omega, by omega⟩ ((min 6 (max (nd g) (nu g))) - 1) ⟨by omega, by omega⟩ HO (by omega) (fun  h4 f5 p6 => ?_))
  have k7 := lk_q (frm_s f5) hk
  have H8 := isF_c f5 (fun a k q1 q2 => by omega) HF
  have FR9 := frm_t FR0 (frm_m (S' := (fun a k => a = y + 37)) f5 (fun a k q => by omega))
  obtain ⟨o1, E1⟩ : ∃ o1, o1 = rvF o (nd g) ((min 6 (max (nd g) (nu g))) - 1) := ⟨_, rfl⟩
  rw [← E1] at p6
  refine e_iload_n dX5_nextRow_46 rfl ?_
  refine z_iconst (2) dX5_nextRow_47 rfl ?_
  refine z_isub dX5_nextRow_48 ?_
  refine e_istore_n (L' := [_, _, _, _]) dX5_nextRow_49 (Nat.le_of_ble_eq_true rfl) rfl ?_
  have lp10 : ∀ (n10 : Nat) (i : Int), (i + 2).toNat = n10 → (-2 ≤ i ∧ i ≤ (min 6 (max (nd g) (nu g))) - 2) → (faN o1 ((min 6 (max (nd g) (nu g))) - 1).toNat = faN o1 (i + 1).toNat) → mEv TB0 ad M_X5_nextRow (dd + 3) (0, 0) (mCal TB0 ad (dd + 2)) (fun v h' z => z.1 = 0 ∧ Q v h') 50 [some (.ref y), some (.int (zI (min 6 (max (nd g) (nu g))))), some (.int (zI i)), none] [] h4 (0, 0) := by
    intro n10
    induction n10 using Nat.strongRecOn with
    | ind n10 ih10 =>
    intro i  hn10  I1 I3
    refine e_iload_n dX5_nextRow_50 rfl ?_
    refine z_if_lt 77 dX5_nextRow_51 rfl ⟨by omega, by omega⟩ (fun c11 => ?_) (fun c11 => ?_)
    · skip
      refine e_iload_n dX5_nextRow_77 rfl ?_
      refine z_if_ge 83 dX5_nextRow_78 rfl ⟨by omega, by omega⟩ (fun c12 => ?_) (fun c12 => ?_)
      · skip
        refine e_iload_n dX5_nextRow_83 rfl ?_
        refine z_iconst (1) dX5_nextRow_84 rfl ?_
        refine z_isub dX5_nextRow_85 ?_
        refine e_istore_n (L' := [_, _, _, _]) dX5_nextRow_86 (Nat.le_of_ble_eq_true rfl) rfl ?_
        have lp13 : ∀ (n13 : Nat) (j : Int), (j + 1).toNat = n13 → (i + 1 ≤ j ∧ j ≤ (min 6 (max (nd g) (nu g))) - 1) → (jN o1 (o1 i) (min 6 (max (nd g) (nu g))).toNat = jN o1 (o1 i) (j + 1).toNat) → mEv TB0 ad M_X5_nextRow (dd + 3) (0, 0) (mCal TB0 ad (dd + 2)) (fun v h' z => z.1 = 0 ∧ Q v h') 87 [some (.ref y), some (.int (zI (min 6 (max (nd g) (nu g))))), some (.int (zI i)), some (.int (zI j))] [] h4 (0, 0) := by
          intro n13
          induction n13 using Nat.strongRecOn with
          | ind n13 ih13 =>
          intro j  hn13  J1 J3
          refine e_iload_n dX5_nextRow_87 rfl ?_
          refine e_iload_n dX5_nextRow_88 rfl ?_
          refine z_icmp_le 113 dX5_nextRow_89 rfl ⟨by omega, by omega⟩ ⟨by omega, by omega⟩ (fun c14 => ?_) (fun c14 => ?_)
          · exfalso; omega
          · skip
            refine e_aload_n dX5_nextRow_92 rfl ?_
            refine e_get (.ref (y + 37)) dX5_nextRow_93 tf_5_34 (congrArg Prod.fst (ma_s0 k7)) (congrArg va_rf (ma_r0_6 k7)) ?_
            refine e_iload_n dX5_nextRow_96 rfl ?_
            refine z_ild (o1 j) dX5_nextRow_97 (ma_s37 k7) (by decide) (by omega) (by omega) (p6.1 j (by omega) (by omega)) ?_
            have y15 := p6.2 j (by omega) (by omega)
            refine e_aload_n dX5_nextRow_98 rfl ?_
            refine e_get (.ref (y + 37)) dX5_nextRow_99 tf_5_34 (congrArg Prod.fst (ma_s0 k7)) (congrArg va_rf (ma_r0_6 k7)) ?_
            refine e_iload_n dX5_nextRow_102 rfl ?_
            refine z_ild (o1 i) dX5_nextRow_103 (ma_s37 k7) (by decide) (by omega) (by omega) (p6.1 i (by omega) (by omega)) ?_
            have y16 := p6.2 i (by omega) (by omega)
            refine z_icmp_gt 113 dX5_nextRow_104 rfl ⟨by omega, by omega⟩ ⟨by omega, by omega⟩ (fun c17 => ?_) (fun c17 => ?_)
            · skip
              refine e_aload_n dX5_nextRow_113 rfl ?_
              refine e_iload_n dX5_nextRow_114 rfl ?_
              refine e_iload_n dX5_nextRow_115 rfl ?_
              have OC := p6
              refine e_callV [.int _, .int _] dX5_nextRow_116 tm_5_154 rfl (Nat.le_of_ble_eq_true rfl) (congrArg Prod.fst (ma_s0 k7)) (Nat.le_of_ble_eq_true rfl) (Nat.le_refl _) (Nat.le_refl _) rfl (zp_X5_exchange k7 i ⟨by omega, by omega⟩ j ⟨by omega, by omega⟩ OC (by omega) (by omega) (fun  h18 f19 p20 => ?_))
              have k21 := lk_q (frm_s f19) k7
              have H22 := isF_c f19 (fun a k q1 q2 => by omega) H8
              have FR23 := frm_t FR9 (frm_m (S' := (fun a k => a = y + 37)) f19 (fun a k q => by omega))
              skip
              refine e_aload_n dX5_nextRow_119 rfl ?_
              refine e_iload_n dX5_nextRow_120 rfl ?_
              refine z_iconst (1) dX5_nextRow_121 rfl ?_
              refine z_iadd dX5_nextRow_122 ?_
              refine e_iload_n dX5_nextRow_123 rfl ?_
              refine z_iconst (1) dX5_nextRow_124 rfl ?_
              refine z_isub dX5_nextRow_125 ?_
              have OD := p20
              refine e_callV [.int _, .int _] dX5_nextRow_126 tm_5_151 rfl (Nat.le_of_ble_eq_true rfl) (congrArg Prod.fst (ma_s0 k21)) (Nat.le_of_ble_eq_true rfl) (Nat.le_refl _) (Nat.le_refl _) rfl (zp_X5_turnRound k21 (i + 1) ⟨by omega, by omega⟩ ((min 6 (max (nd g) (nu g))) - 1) ⟨by omega, by omega⟩ OD (by omega) (fun  h24 f25 p26 => ?_))
              have k27 := lk_q (frm_s f25) k21
              have H28 := isF_c f25 (fun a k q1 q2 => by omega) H22
              have FR29 := frm_t FR23 (frm_m (S' := (fun a k => a = y + 37)) f25 (fun a k q => by omega))
              skip
              refine z_iconst (1) dX5_nextRow_129 rfl ?_
              refine z_bret dX5_nextRow_130 rfl (Or.inr rfl) ⟨rfl, ?_⟩
              have f0 : faN o1 ((min 6 (max (nd g) (nu g))) - 1).toNat = i := by rw [I3, faN_s (by omega), if_pos (by omega)]
              exact kq _ (Or.inr ⟨rfl, by rw [nx_v E1, f0]; omega⟩) _ FR29 (by rw [nx_1 E1 f0 (by omega) (J3.trans (by rw [jN_s (by omega), if_pos (by omega)]))]; exact p26)
            · skip
              refine z_iinc (L' := [_, _, _, _]) dX5_nextRow_107 rfl rfl ?_
              refine e_goto 87 dX5_nextRow_110 rfl ?_
              exact ih13 _ (by omega) (j + (-1))  rfl  (by
                        have nz : j ≠ i + 1 := fun z => by subst z; omega
                        omega) (by rw [J3, jN_s (by omega), if_neg (by omega), show j + -1 + 1 = j by omega])
        exact lp13 _ ((min 6 (max (nd g) (nu g))) - 1)  rfl  (by omega) (by rw [show (min 6 (max (nd g) (nu g))) - 1 + 1 = (min 6 (max (nd g) (nu g))) by omega])
      · skip
        refine z_iconst (0) dX5_nextRow_81 rfl ?_
        refine z_bret dX5_nextRow_82 rfl (Or.inl rfl) ⟨rfl, ?_⟩
        have f0 : nxI (nd g) (nu g) o < 0 := by rw [nx_v E1, I3]; first | (rw [show (i + 1).toNat = 0 by omega]; show (-1 : Int) < 0; decide) | (exfalso; omega)
        exact kq _ (Or.inl ⟨rfl, f0⟩) _ FR9 (by rw [nx_0 E1 f0]; exact p6)
    · skip
      refine e_aload_n dX5_nextRow_54 rfl ?_
      refine e_get (.ref (y + 37)) dX5_nextRow_55 tf_5_34 (congrArg Prod.fst (ma_s0 k7)) (congrArg va_rf (ma_r0_6 k7)) ?_
      refine e_iload_n dX5_nextRow_58 rfl ?_
      refine z_ild (o1 i) dX5_nextRow_59 (ma_s37 k7) (by decide) (by omega) (by omega) (p6.1 i (by omega) (by omega)) ?_
      have y30 := p6.2 i (by omega) (by omega)
      refine e_aload_n dX5_nextRow_60 rfl ?_
      refine e_get (.ref (y + 37)) dX5_nextRow_61 tf_5_34 (congrArg Prod.fst (ma_s0 k7)) (congrArg va_rf (ma_r0_6 k7)) ?_
      refine e_iload_n dX5_nextRow_64 rfl ?_
      refine z_iconst (1) dX5_nextRow_65 rfl ?_
      refine z_iadd dX5_nextRow_66 ?_
      refine z_ild (o1 (i + 1)) dX5_nextRow_67 (ma_s37 k7) (by decide) (by omega) (by omega) (p6.1 (i + 1) (by omega) (by omega)) ?_
      have y31 := p6.2 (i + 1) (by omega) (by omega)
      refine z_icmp_lt 77 dX5_nextRow_68 rfl ⟨by omega, by omega⟩ ⟨by omega, by omega⟩ (fun c32 => ?_) (fun c32 => ?_)
      · skip
        refine e_iload_n dX5_nextRow_77 rfl ?_
        refine z_if_ge 83 dX5_nextRow_78 rfl ⟨by omega, by omega⟩ (fun c33 => ?_) (fun c33 => ?_)
        · skip
          refine e_iload_n dX5_nextRow_83 rfl ?_
          refine z_iconst (1) dX5_nextRow_84 rfl ?_
          refine z_isub dX5_nextRow_85 ?_
          refine e_istore_n (L' := [_, _, _, _]) dX5_nextRow_86 (Nat.le_of_ble_eq_true rfl) rfl ?_
          have lp34 : ∀ (n34 : Nat) (j : Int), (j + 1).toNat = n34 → (i + 1 ≤ j ∧ j ≤ (min 6 (max (nd g) (nu g))) - 1) → (jN o1 (o1 i) (min 6 (max (nd g) (nu g))).toNat = jN o1 (o1 i) (j + 1).toNat) → mEv TB0 ad M_X5_nextRow (dd + 3) (0, 0) (mCal TB0 ad (dd + 2)) (fun v h' z => z.1 = 0 ∧ Q v h') 87 [some (.ref y), some (.int (zI (min 6 (max (nd g) (nu g))))), some (.int (zI i)), some (.int (zI j))] [] h4 (0, 0) := by
            intro n34
            induction n34 using Nat.strongRecOn with
            | ind n34 ih34 =>
            intro j  hn34  J1 J3
            refine e_iload_n dX5_nextRow_87 rfl ?_
            refine e_iload_n dX5_nextRow_88 rfl ?_
            refine z_icmp_le 113 dX5_nextRow_89 rfl ⟨by omega, by omega⟩ ⟨by omega, by omega⟩ (fun c35 => ?_) (fun c35 => ?_)
            · exfalso; omega
            · skip
              refine e_aload_n dX5_nextRow_92 rfl ?_
              refine e_get (.ref (y + 37)) dX5_nextRow_93 tf_5_34 (congrArg Prod.fst (ma_s0 k7)) (congrArg va_rf (ma_r0_6 k7)) ?_
              refine e_iload_n dX5_nextRow_96 rfl ?_
              refine z_ild (o1 j) dX5_nextRow_97 (ma_s37 k7) (by decide) (by omega) (by omega) (p6.1 j (by omega) (by omega)) ?_
              have y36 := p6.2 j (by omega) (by omega)
              refine e_aload_n dX5_nextRow_98 rfl ?_
              refine e_get (.ref (y + 37)) dX5_nextRow_99 tf_5_34 (congrArg Prod.fst (ma_s0 k7)) (congrArg va_rf (ma_r0_6 k7)) ?_
              refine e_iload_n dX5_nextRow_102 rfl ?_
              refine z_ild (o1 i) dX5_nextRow_103 (ma_s37 k7) (by decide) (by omega) (by omega) (p6.1 i (by omega) (by omega)) ?_
              have y37 := p6.2 i (by omega) (by omega)
              refine z_icmp_gt 113 dX5_nextRow_104 rfl ⟨by omega, by omega⟩ ⟨by omega, by omega⟩ (fun c38 => ?_) (fun c38 => ?_)
              · skip
                refine e_aload_n dX5_nextRow_113 rfl ?_
                refine e_iload_n dX5_nextRow_114 rfl ?_
                refine e_iload_n dX5_nextRow_115 rfl ?_
                have OC := p6
                refine e_callV [.int _, .int _] dX5_nextRow_116 tm_5_154 rfl (Nat.le_of_ble_eq_true rfl) (congrArg Prod.fst (ma_s0 k7)) (Nat.le_of_ble_eq_true rfl) (Nat.le_refl _) (Nat.le_refl _) rfl (zp_X5_exchange k7 i ⟨by omega, by omega⟩ j ⟨by omega, by omega⟩ OC (by omega) (by omega) (fun  h39 f40 p41 => ?_))
                have k42 := lk_q (frm_s f40) k7
                have H43 := isF_c f40 (fun a k q1 q2 => by omega) H8
                have FR44 := frm_t FR9 (frm_m (S' := (fun a k => a = y + 37)) f40 (fun a k q => by omega))
                skip
                refine e_aload_n dX5_nextRow_119 rfl ?_
                refine e_iload_n dX5_nextRow_120 rfl ?_
                refine z_iconst (1) dX5_nextRow_121 rfl ?_
                refine z_iadd dX5_nextRow_122 ?_
                refine e_iload_n dX5_nextRow_123 rfl ?_
                refine z_iconst (1) dX5_nextRow_124 rfl ?_
                refine z_isub dX5_nextRow_125 ?_
                have OD := p41
                refine e_callV [.int _, .int _] dX5_nextRow_126 tm_5_151 rfl (Nat.le_of_ble_eq_true rfl) (congrArg Prod.fst (ma_s0 k42)) (Nat.le_of_ble_eq_true rfl) (Nat.le_refl _) (Nat.le_refl _) rfl (zp_X5_turnRound k42 (i + 1) ⟨by omega, by omega⟩ ((min 6 (max (nd g) (nu g))) - 1) ⟨by omega, by omega⟩ OD (by omega) (fun  h45 f46 p47 => ?_))
                have k48 := lk_q (frm_s f46) k42
                have H49 := isF_c f46 (fun a k q1 q2 => by omega) H43
                have FR50 := frm_t FR44 (frm_m (S' := (fun a k => a = y + 37)) f46 (fun a k q => by omega))
                skip
                refine z_iconst (1) dX5_nextRow_129 rfl ?_
                refine z_bret dX5_nextRow_130 rfl (Or.inr rfl) ⟨rfl, ?_⟩
                have f0 : faN o1 ((min 6 (max (nd g) (nu g))) - 1).toNat = i := by rw [I3, faN_s (by omega), if_pos (by omega)]
                exact kq _ (Or.inr ⟨rfl, by rw [nx_v E1, f0]; omega⟩) _ FR50 (by rw [nx_1 E1 f0 (by omega) (J3.trans (by rw [jN_s (by omega), if_pos (by omega)]))]; exact p47)
              · skip
                refine z_iinc (L' := [_, _, _, _]) dX5_nextRow_107 rfl rfl ?_
                refine e_goto 87 dX5_nextRow_110 rfl ?_
                exact ih34 _ (by omega) (j + (-1))  rfl  (by
                          have nz : j ≠ i + 1 := fun z => by subst z; omega
                          omega) (by rw [J3, jN_s (by omega), if_neg (by omega), show j + -1 + 1 = j by omega])
          exact lp34 _ ((min 6 (max (nd g) (nu g))) - 1)  rfl  (by omega) (by rw [show (min 6 (max (nd g) (nu g))) - 1 + 1 = (min 6 (max (nd g) (nu g))) by omega])
        · skip
          refine z_iconst (0) dX5_nextRow_81 rfl ?_
          refine z_bret dX5_nextRow_82 rfl (Or.inl rfl) ⟨rfl, ?_⟩
          have f0 : nxI (nd g) (nu g) o < 0 := by rw [nx_v E1, I3]; first | (rw [show (i + 1).toNat = 0 by omega]; show (-1 : Int) < 0; decide) | (exfalso; omega)
          exact kq _ (Or.inl ⟨rfl, f0⟩) _ FR9 (by rw [nx_0 E1 f0]; exact p6)
      · skip
        refine z_iinc (L' := [_, _, _, _]) dX5_nextRow_71 rfl rfl ?_
        refine e_goto 50 dX5_nextRow_74 rfl ?_
        exact ih10 _ (by omega) (i + (-1))  rfl  (by omega) (by rw [I3, faN_s (by omega), if_neg (by omega), show i + -1 + 1 = i by omega])
  exact lp10 _ ((min 6 (max (nd g) (nu g))) - 2)  rfl  (by omega) (by rw [show (min 6 (max (nd g) (nu g))) - 2 + 1 = (min 6 (max (nd g) (nu g))) - 1 by omega])
def bgF (u : Int) : Int → Int := fun k => if k < u then k else 6
set_option maxHeartbeats 400000 in
theorem zp_X5_beginRows {ad : mA} {dd : Nat} {h : mH} {Q : mQ} {y : Nat} {g : Int → Int} (hk : mak h y) (HF : isF h (y + 1) g)    (kq : ∀ h1, frm (fun a k => a = y + 37) h h1 → (odC h1 y (bgF (nu g))) → Q none h1) : mCal TB0 ad (dd + 1) M_X5_beginRows [.ref y] h 0 0 Q := by
  refine ⟨Nat.le_of_ble_eq_true rfl, ?_⟩
  show mEv TB0 ad M_X5_beginRows (dd + 1) (0, 0) (mCal TB0 ad (dd + 0)) (fun v h' z => z.1 = 0 ∧ Q v h') 0 [some (.ref y), none] [] h (0, 0)
  have FR0 : frm (fun a k => a = y + 37) h h := frm_0 h
  have w1 := isF_n HF
  have W := isF_w HF
  refine z_iconst (0) dX5_beginRows_0 rfl ?_
  refine e_istore_n (L' := [_, _]) dX5_beginRows_1 (Nat.le_of_ble_eq_true rfl) rfl ?_
  have lp1 : ∀ (n1 : Nat) (i : Int) (h1 : mH), (6 - i).toNat = n1 → (mak h1 y) → (isF h1 (y + 1) g) → (frm (fun a k => a = y + 37) h h1) → (0 ≤ i ∧ i ≤ 6) → (∀ k : Int, 0 ≤ k → k < i → rI h1 (y + 37) k = bgF (nu g) k) → mEv TB0 ad M_X5_beginRows (dd + 1) (0, 0) (mCal TB0 ad (dd + 0)) (fun v h' z => z.1 = 0 ∧ Q v h') 2 [some (.ref y), some (.int (zI i))] [] h1 (0, 0) := by
    intro n1
    induction n1 using Nat.strongRecOn with
    | ind n1 ih1 =>
    intro i h1 hn1 k2 H3 FR4 I1 I3
    refine e_iload_n dX5_beginRows_2 rfl ?_
    refine z_bipush (6) dX5_beginRows_3 rfl ?_
    refine z_icmp_ge 40 dX5_beginRows_5 rfl ⟨by omega, by omega⟩ ⟨by omega, by omega⟩ (fun c5 => ?_) (fun c5 => ?_)
    · skip
      refine e_vret dX5_beginRows_40 rfl ⟨rfl, ?_⟩
      exact kq _ FR4 ⟨fun k a c => I3 k a (by omega), fun k a c => by
        unfold bgF
        by_cases q : k < nu g
        · rw [if_pos q]; omega
        · rw [if_neg q]; omega⟩
    · skip
      refine e_aload_n dX5_beginRows_8 rfl ?_
      refine e_get (.ref (y + 37)) dX5_beginRows_9 tf_5_34 (congrArg Prod.fst (ma_s0 k2)) (congrArg va_rf (ma_r0_6 k2)) ?_
      refine e_iload_n dX5_beginRows_12 rfl ?_
      refine e_iload_n dX5_beginRows_13 rfl ?_
      refine e_aload_n dX5_beginRows_14 rfl ?_
      refine e_get (.ref (y + 1)) dX5_beginRows_15 tf_5_12 (congrArg Prod.fst (ma_s0 k2)) (congrArg va_rf (ma_r0_0 k2)) ?_
      refine e_get (.ref (y + 8)) dX5_beginRows_18 tf_5_67 (congrArg Prod.fst (ma_s1 k2)) (congrArg va_rf (ma_r1_1 k2)) ?_
      refine z_get (nu g) dX5_beginRows_21 tf_5_57 (congrArg Prod.fst (ma_s8 k2)) (Or.inl rfl) (isF_nu H3) ?_
      have y6 := isF_n H3
      refine z_icmp_ge 31 dX5_beginRows_24 rfl ⟨by omega, by omega⟩ ⟨by omega, by omega⟩ (fun c7 => ?_) (fun c7 => ?_)
      · skip
        refine z_bipush (6) dX5_beginRows_31 rfl ?_
        refine z_ist dX5_beginRows_33 (ma_s37 k2) (by decide) (by omega) (by omega) (fun h8 e9 => ?_)
        have f10 := frm_1 e9
        have k11 := lk_q (frm_s f10) k2
        have H12 := isF_c f10 (fun a k q1 q2 => by omega) H3
        have FR13 := frm_t FR4 (frm_m (S' := (fun a k => a = y + 37)) f10 (fun a k q => by omega))
        refine z_iinc (L' := [_, _]) dX5_beginRows_34 rfl rfl ?_
        refine e_goto 2 dX5_beginRows_37 rfl ?_
        exact ih1 _ (by omega) (i + 1) h8 rfl k11 H12 FR13 (by omega) (fun k a c => by
                  by_cases q : k = i
                  · rw [q]; refine ((rI_eq e9 ⟨by omega, by omega⟩)).trans ?_; unfold bgF; first | rw [if_pos (by omega)] | rw [if_neg (by omega)]
                  · exact ((frm_r f10 (by omega))).trans (I3 k a (by omega)))
      · skip
        refine e_iload_n dX5_beginRows_27 rfl ?_
        refine e_goto 33 dX5_beginRows_28 rfl ?_
        refine z_ist dX5_beginRows_33 (ma_s37 k2) (by decide) (by omega) (by omega) (fun h14 e15 => ?_)
        have f16 := frm_1 e15
        have k17 := lk_q (frm_s f16) k2
        have H18 := isF_c f16 (fun a k q1 q2 => by omega) H3
        have FR19 := frm_t FR4 (frm_m (S' := (fun a k => a = y + 37)) f16 (fun a k q => by omega))
        refine z_iinc (L' := [_, _]) dX5_beginRows_34 rfl rfl ?_
        refine e_goto 2 dX5_beginRows_37 rfl ?_
        exact ih1 _ (by omega) (i + 1) h14 rfl k17 H18 FR19 (by omega) (fun k a c => by
                  by_cases q : k = i
                  · rw [q]; refine ((rI_eq e15 ⟨by omega, by omega⟩)).trans ?_; unfold bgF; first | rw [if_pos (by omega)] | rw [if_neg (by omega)]
                  · exact ((frm_r f16 (by omega))).trans (I3 k a (by omega)))
  exact lp1 _ 0 h rfl hk HF FR0 (by omega) (fun k a c => by omega)
