/-! LINE: children -/
theorem dX0_clear_0 : decode cX0_clear 0 = .ok (.aload_n 0, 1) := by decide +kernel
theorem dX0_clear_1 : decode cX0_clear 1 = .ok (.getfield 24, 3) := by decide +kernel
theorem dX0_clear_4 : decode cX0_clear 4 = .ok (.iconst (-1), 1) := by decide +kernel
theorem dX0_clear_5 : decode cX0_clear 5 = .ok (.invokestatic 31, 3) := by decide +kernel
theorem dX0_clear_8 : decode cX0_clear 8 = .ok (.aload_n 0, 1) := by decide +kernel
theorem dX0_clear_9 : decode cX0_clear 9 = .ok (.iconst 0, 1) := by decide +kernel
theorem dX0_clear_10 : decode cX0_clear 10 = .ok (.putfield 27, 3) := by decide +kernel
theorem dX0_clear_13 : decode cX0_clear 13 = .ok (.return_, 1) := by decide +kernel
theorem dX0_add_0 : decode cX0_add 0 = .ok (.aload_n 0, 1) := by decide +kernel
theorem dX0_add_1 : decode cX0_add 1 = .ok (.getfield 27, 3) := by decide +kernel
theorem dX0_add_4 : decode cX0_add 4 = .ok (.bipush 6, 2) := by decide +kernel
theorem dX0_add_6 : decode cX0_add 6 = .ok (.if_icmp .lt 4, 3) := by decide +kernel
theorem dX0_add_9 : decode cX0_add 9 = .ok (.return_, 1) := by decide +kernel
theorem dX0_add_10 : decode cX0_add 10 = .ok (.aload_n 0, 1) := by decide +kernel
theorem dX0_add_11 : decode cX0_add 11 = .ok (.getfield 9, 3) := by decide +kernel
theorem dX0_add_14 : decode cX0_add 14 = .ok (.aload_n 0, 1) := by decide +kernel
theorem dX0_add_15 : decode cX0_add 15 = .ok (.getfield 27, 3) := by decide +kernel
theorem dX0_add_18 : decode cX0_add 18 = .ok (.iload_n 1, 1) := by decide +kernel
theorem dX0_add_19 : decode cX0_add 19 = .ok (.iastore, 1) := by decide +kernel
theorem dX0_add_20 : decode cX0_add 20 = .ok (.aload_n 0, 1) := by decide +kernel
theorem dX0_add_21 : decode cX0_add 21 = .ok (.getfield 15, 3) := by decide +kernel
theorem dX0_add_24 : decode cX0_add 24 = .ok (.aload_n 0, 1) := by decide +kernel
theorem dX0_add_25 : decode cX0_add 25 = .ok (.getfield 27, 3) := by decide +kernel
theorem dX0_add_28 : decode cX0_add 28 = .ok (.iload_n 2, 1) := by decide +kernel
theorem dX0_add_29 : decode cX0_add 29 = .ok (.iastore, 1) := by decide +kernel
theorem dX0_add_30 : decode cX0_add 30 = .ok (.aload_n 0, 1) := by decide +kernel
theorem dX0_add_31 : decode cX0_add 31 = .ok (.getfield 18, 3) := by decide +kernel
theorem dX0_add_34 : decode cX0_add 34 = .ok (.aload_n 0, 1) := by decide +kernel
theorem dX0_add_35 : decode cX0_add 35 = .ok (.getfield 27, 3) := by decide +kernel
theorem dX0_add_38 : decode cX0_add 38 = .ok (.iload_n 3, 1) := by decide +kernel
theorem dX0_add_39 : decode cX0_add 39 = .ok (.iastore, 1) := by decide +kernel
theorem dX0_add_40 : decode cX0_add 40 = .ok (.aload_n 0, 1) := by decide +kernel
theorem dX0_add_41 : decode cX0_add 41 = .ok (.getfield 21, 3) := by decide +kernel
theorem dX0_add_44 : decode cX0_add 44 = .ok (.aload_n 0, 1) := by decide +kernel
theorem dX0_add_45 : decode cX0_add 45 = .ok (.getfield 27, 3) := by decide +kernel
theorem dX0_add_48 : decode cX0_add 48 = .ok (.iload 4, 2) := by decide +kernel
theorem dX0_add_50 : decode cX0_add 50 = .ok (.iastore, 1) := by decide +kernel
theorem dX0_add_51 : decode cX0_add 51 = .ok (.aload_n 0, 1) := by decide +kernel
theorem dX0_add_52 : decode cX0_add 52 = .ok (.dup, 1) := by decide +kernel
theorem dX0_add_53 : decode cX0_add 53 = .ok (.getfield 27, 3) := by decide +kernel
theorem dX0_add_56 : decode cX0_add 56 = .ok (.iconst 1, 1) := by decide +kernel
theorem dX0_add_57 : decode cX0_add 57 = .ok (.iadd, 1) := by decide +kernel
theorem dX0_add_58 : decode cX0_add 58 = .ok (.putfield 27, 3) := by decide +kernel
theorem dX0_add_61 : decode cX0_add 61 = .ok (.return_, 1) := by decide +kernel
theorem dX2_clear_0 : decode cX2_clear 0 = .ok (.aload_n 0, 1) := by decide +kernel
theorem dX2_clear_1 : decode cX2_clear 1 = .ok (.getfield 12, 3) := by decide +kernel
theorem dX2_clear_4 : decode cX2_clear 4 = .ok (.invokevirtual 35, 3) := by decide +kernel
theorem dX2_clear_7 : decode cX2_clear 7 = .ok (.aload_n 0, 1) := by decide +kernel
theorem dX2_clear_8 : decode cX2_clear 8 = .ok (.getfield 18, 3) := by decide +kernel
theorem dX2_clear_11 : decode cX2_clear 11 = .ok (.invokevirtual 35, 3) := by decide +kernel
theorem dX2_clear_14 : decode cX2_clear 14 = .ok (.aload_n 0, 1) := by decide +kernel
theorem dX2_clear_15 : decode cX2_clear 15 = .ok (.iconst 0, 1) := by decide +kernel
theorem dX2_clear_16 : decode cX2_clear 16 = .ok (.putfield 31, 3) := by decide +kernel
theorem dX2_clear_19 : decode cX2_clear 19 = .ok (.return_, 1) := by decide +kernel
theorem dX5_bearChildren_0 : decode cX5_bearChildren 0 = .ok (.aload_n 0, 1) := by decide +kernel
theorem dX5_bearChildren_1 : decode cX5_bearChildren 1 = .ok (.getfield 18, 3) := by decide +kernel
theorem dX5_bearChildren_4 : decode cX5_bearChildren 4 = .ok (.invokevirtual 177, 3) := by decide +kernel
theorem dX5_bearChildren_7 : decode cX5_bearChildren 7 = .ok (.aload_n 0, 1) := by decide +kernel
theorem dX5_bearChildren_8 : decode cX5_bearChildren 8 = .ok (.getfield 12, 3) := by decide +kernel
theorem dX5_bearChildren_11 : decode cX5_bearChildren 11 = .ok (.getfield 53, 3) := by decide +kernel
theorem dX5_bearChildren_14 : decode cX5_bearChildren 14 = .ok (.astore_n 1, 1) := by decide +kernel
theorem dX5_bearChildren_15 : decode cX5_bearChildren 15 = .ok (.aload_n 0, 1) := by decide +kernel
theorem dX5_bearChildren_16 : decode cX5_bearChildren 16 = .ok (.getfield 12, 3) := by decide +kernel
theorem dX5_bearChildren_19 : decode cX5_bearChildren 19 = .ok (.getfield 67, 3) := by decide +kernel
theorem dX5_bearChildren_22 : decode cX5_bearChildren 22 = .ok (.astore_n 2, 1) := by decide +kernel
theorem dX5_bearChildren_23 : decode cX5_bearChildren 23 = .ok (.iconst 0, 1) := by decide +kernel
theorem dX5_bearChildren_24 : decode cX5_bearChildren 24 = .ok (.istore_n 3, 1) := by decide +kernel
theorem dX5_bearChildren_25 : decode cX5_bearChildren 25 = .ok (.iload_n 3, 1) := by decide +kernel
theorem dX5_bearChildren_26 : decode cX5_bearChildren 26 = .ok (.aload_n 1, 1) := by decide +kernel
theorem dX5_bearChildren_27 : decode cX5_bearChildren 27 = .ok (.getfield 57, 3) := by decide +kernel
theorem dX5_bearChildren_30 : decode cX5_bearChildren 30 = .ok (.if_icmp .ge 104, 3) := by decide +kernel
theorem dX5_bearChildren_33 : decode cX5_bearChildren 33 = .ok (.iload_n 3, 1) := by decide +kernel
theorem dX5_bearChildren_34 : decode cX5_bearChildren 34 = .ok (.bipush 6, 2) := by decide +kernel
theorem dX5_bearChildren_36 : decode cX5_bearChildren 36 = .ok (.if_icmp .ge 98, 3) := by decide +kernel
theorem dX5_bearChildren_39 : decode cX5_bearChildren 39 = .ok (.aload_n 0, 1) := by decide +kernel
theorem dX5_bearChildren_40 : decode cX5_bearChildren 40 = .ok (.getfield 21, 3) := by decide +kernel
theorem dX5_bearChildren_43 : decode cX5_bearChildren 43 = .ok (.iload_n 3, 1) := by decide +kernel
theorem dX5_bearChildren_44 : decode cX5_bearChildren 44 = .ok (.iaload, 1) := by decide +kernel
theorem dX5_bearChildren_45 : decode cX5_bearChildren 45 = .ok (.istore 4, 2) := by decide +kernel
theorem dX5_bearChildren_47 : decode cX5_bearChildren 47 = .ok (.aload_n 2, 1) := by decide +kernel
theorem dX5_bearChildren_48 : decode cX5_bearChildren 48 = .ok (.iload 4, 2) := by decide +kernel
theorem dX5_bearChildren_50 : decode cX5_bearChildren 50 = .ok (.invokevirtual 180, 3) := by decide +kernel
theorem dX5_bearChildren_53 : decode cX5_bearChildren 53 = .ok (.ifCond .eq 75, 3) := by decide +kernel
theorem dX5_bearChildren_56 : decode cX5_bearChildren 56 = .ok (.aload_n 1, 1) := by decide +kernel
theorem dX5_bearChildren_57 : decode cX5_bearChildren 57 = .ok (.getfield 184, 3) := by decide +kernel
theorem dX5_bearChildren_60 : decode cX5_bearChildren 60 = .ok (.iload_n 3, 1) := by decide +kernel
theorem dX5_bearChildren_61 : decode cX5_bearChildren 61 = .ok (.iaload, 1) := by decide +kernel
theorem dX5_bearChildren_62 : decode cX5_bearChildren 62 = .ok (.aload_n 2, 1) := by decide +kernel
theorem dX5_bearChildren_63 : decode cX5_bearChildren 63 = .ok (.getfield 184, 3) := by decide +kernel
theorem dX5_bearChildren_66 : decode cX5_bearChildren 66 = .ok (.iload 4, 2) := by decide +kernel
theorem dX5_bearChildren_68 : decode cX5_bearChildren 68 = .ok (.iaload, 1) := by decide +kernel
theorem dX5_bearChildren_69 : decode cX5_bearChildren 69 = .ok (.iadd, 1) := by decide +kernel
theorem dX5_bearChildren_70 : decode cX5_bearChildren 70 = .ok (.iconst 2, 1) := by decide +kernel
theorem dX5_bearChildren_71 : decode cX5_bearChildren 71 = .ok (.idiv, 1) := by decide +kernel
theorem dX5_bearChildren_72 : decode cX5_bearChildren 72 = .ok (.istore 5, 2) := by decide +kernel
theorem dX5_bearChildren_74 : decode cX5_bearChildren 74 = .ok (.aload_n 0, 1) := by decide +kernel
theorem dX5_bearChildren_75 : decode cX5_bearChildren 75 = .ok (.getfield 18, 3) := by decide +kernel
theorem dX5_bearChildren_78 : decode cX5_bearChildren 78 = .ok (.getfield 53, 3) := by decide +kernel
theorem dX5_bearChildren_81 : decode cX5_bearChildren 81 = .ok (.iload 5, 2) := by decide +kernel
theorem dX5_bearChildren_83 : decode cX5_bearChildren 83 = .ok (.aload_n 1, 1) := by decide +kernel
theorem dX5_bearChildren_84 : decode cX5_bearChildren 84 = .ok (.getfield 187, 3) := by decide +kernel
theorem dX5_bearChildren_87 : decode cX5_bearChildren 87 = .ok (.iload_n 3, 1) := by decide +kernel
theorem dX5_bearChildren_88 : decode cX5_bearChildren 88 = .ok (.iaload, 1) := by decide +kernel
theorem dX5_bearChildren_89 : decode cX5_bearChildren 89 = .ok (.bipush 10, 2) := by decide +kernel
theorem dX5_bearChildren_91 : decode cX5_bearChildren 91 = .ok (.aload_n 1, 1) := by decide +kernel
theorem dX5_bearChildren_92 : decode cX5_bearChildren 92 = .ok (.getfield 190, 3) := by decide +kernel
theorem dX5_bearChildren_95 : decode cX5_bearChildren 95 = .ok (.iload_n 3, 1) := by decide +kernel
theorem dX5_bearChildren_96 : decode cX5_bearChildren 96 = .ok (.iaload, 1) := by decide +kernel
theorem dX5_bearChildren_97 : decode cX5_bearChildren 97 = .ok (.invokevirtual 193, 3) := by decide +kernel
theorem dX5_bearChildren_100 : decode cX5_bearChildren 100 = .ok (.aload_n 0, 1) := by decide +kernel
theorem dX5_bearChildren_101 : decode cX5_bearChildren 101 = .ok (.getfield 18, 3) := by decide +kernel
theorem dX5_bearChildren_104 : decode cX5_bearChildren 104 = .ok (.getfield 67, 3) := by decide +kernel
theorem dX5_bearChildren_107 : decode cX5_bearChildren 107 = .ok (.iload 5, 2) := by decide +kernel
theorem dX5_bearChildren_109 : decode cX5_bearChildren 109 = .ok (.aload_n 2, 1) := by decide +kernel
theorem dX5_bearChildren_110 : decode cX5_bearChildren 110 = .ok (.getfield 187, 3) := by decide +kernel
theorem dX5_bearChildren_113 : decode cX5_bearChildren 113 = .ok (.iload 4, 2) := by decide +kernel
theorem dX5_bearChildren_115 : decode cX5_bearChildren 115 = .ok (.iaload, 1) := by decide +kernel
theorem dX5_bearChildren_116 : decode cX5_bearChildren 116 = .ok (.bipush 10, 2) := by decide +kernel
theorem dX5_bearChildren_118 : decode cX5_bearChildren 118 = .ok (.aload_n 2, 1) := by decide +kernel
theorem dX5_bearChildren_119 : decode cX5_bearChildren 119 = .ok (.getfield 190, 3) := by decide +kernel
theorem dX5_bearChildren_122 : decode cX5_bearChildren 122 = .ok (.iload 4, 2) := by decide +kernel
theorem dX5_bearChildren_124 : decode cX5_bearChildren 124 = .ok (.iaload, 1) := by decide +kernel
theorem dX5_bearChildren_125 : decode cX5_bearChildren 125 = .ok (.invokevirtual 193, 3) := by decide +kernel
theorem dX5_bearChildren_128 : decode cX5_bearChildren 128 = .ok (.iinc 3 1, 3) := by decide +kernel
theorem dX5_bearChildren_131 : decode cX5_bearChildren 131 = .ok (.goto (-106), 3) := by decide +kernel
theorem dX5_bearChildren_134 : decode cX5_bearChildren 134 = .ok (.return_, 1) := by decide +kernel
theorem tf_5_187 : tFld TB0 5 187 = some (0, 1) := rfl
theorem tf_5_190 : tFld TB0 5 190 = some (0, 3) := rfl
set_option maxRecDepth 20000 in
theorem tm_2_35 : tMet TB0 2 35 = some (0, M_X0_clear) := rfl
set_option maxRecDepth 20000 in
theorem tm_5_177 : tMet TB0 5 177 = some (0, M_X2_clear) := rfl
set_option maxRecDepth 20000 in
theorem tm_5_180 : tMet TB0 5 180 = some (0, M_X0_has) := rfl
set_option maxRecDepth 20000 in
theorem tm_5_193 : tMet TB0 5 193 = some (0, M_X0_add) := rfl
/-! LINE: children -/
def rnZ (r : Int → Int) : Int → Int := fun k => if 0 ≤ k ∧ k < 6 then r k else 6
theorem rn_in {r : Int → Int} : ∀ d, 0 ≤ d → d < 6 → rnZ r d = r d := fun d a c => if_pos ⟨a, c⟩
theorem rn_e {r r' : Int → Int} (e : ∀ d, 0 ≤ d → d < 6 → r d = r' d) : rnZ r = rnZ r' := by
  funext k
  unfold rnZ
  by_cases q : 0 ≤ k ∧ k < 6
  · rw [if_pos q, if_pos q, e k q.1 q.2]
  · rw [if_neg q, if_neg q]
def cnZ (r : Int → Int) (d : Int) : Int := sumZ (fun x => bZ (r x < 6)) d.toNat
theorem cn_s {r : Int → Int} {d : Int} (h : 0 ≤ d) : (r d < 6 → cnZ r (d + 1) = cnZ r d + 1) ∧ (¬ r d < 6 → cnZ r (d + 1) = cnZ r d) := by
  have e : cnZ r (d + 1) = cnZ r d + bZ (r d < 6) := sumZ_s h
  exact ⟨fun q => by rw [e, bZ_1 q], fun q => by rw [e, bZ_0 q]; omega⟩
theorem cn_b (r : Int → Int) {d : Int} (h : 0 ≤ d) : 0 ≤ cnZ r d ∧ cnZ r d ≤ d := by
  have := sumZ_b (f := fun x => bZ (r x < 6)) (lo := 0) (hi := 1) (n := d.toNat) (fun i _ _ => ⟨bZ_lo _, bZ_hi _⟩)
  unfold cnZ; omega
theorem cn_m (r : Int → Int) : ∀ (n : Nat) (d : Int), 0 ≤ d → cnZ r d ≤ cnZ r (d + n) := by
  intro n
  induction n with
  | zero => intro d _; rw [show d + ((0 : Nat) : Int) = d by omega]; exact Int.le_refl _
  | succ n ih =>
    intro d h
    have a := ih d h
    have c := cn_s (r := r) (d := d + n) (by omega)
    rw [show d + ((n + 1 : Nat) : Int) = d + n + 1 by omega]
    by_cases q : r (d + n) < 6
    · rw [c.1 q]; omega
    · rw [c.2 q]; exact a
theorem cn_lt {r : Int → Int} {x d : Int} (h : 0 ≤ x) (l : x < d) (q : r x < 6) : cnZ r x < cnZ r d := by
  have a := (cn_s (r := r) h).1 q
  have c := cn_m r (d - (x + 1)).toNat (x + 1) (by omega)
  rw [show x + 1 + (((d - (x + 1)).toNat : Nat) : Int) = d by omega] at c
  omega
theorem cn_at {r : Int → Int} : ∀ (n : Nat) (i : Int), 0 ≤ i → i < cnZ r (n : Int) → ∃ x : Int, (0 ≤ x ∧ x < (n : Int)) ∧ r x < 6 ∧ cnZ r x = i := by
  intro n
  induction n with
  | zero => intro i a c; have : cnZ r ((0 : Nat) : Int) = 0 := rfl; omega
  | succ n ih =>
    intro i a c
    have s := cn_s (r := r) (d := (n : Int)) (by omega)
    rw [show ((n + 1 : Nat) : Int) = (n : Int) + 1 by omega] at c
    by_cases q : r (n : Int) < 6
    · rw [s.1 q] at c
      by_cases w : i = cnZ r n
      · exact ⟨n, by omega, q, w.symm⟩
      · obtain ⟨x, x1, x2, x3⟩ := ih i a (by omega)
        exact ⟨x, by omega, x2, x3⟩
    · rw [s.2 q] at c
      obtain ⟨x, x1, x2, x3⟩ := ih i a c
      exact ⟨x, by omega, x2, x3⟩
/-- the father of child i -/
def fth (r : Int → Int) (i : Int) : Int := fsN (fun d => r d < 6 ∧ cnZ r d = i) 6
theorem fth_e {r : Int → Int} {x : Int} (x0 : 0 ≤ x) (x1 : x < 6) (q : r x < 6) : fth r (cnZ r x) = x := by
  have f : fst1 (fun d => r d < 6 ∧ cnZ r d = cnZ r x) ((6 : Nat) : Int) (fth r (cnZ r x)) := fsN_f _ 6
  refine fst1_u f (Or.inr ⟨⟨x0, by omega⟩, ⟨q, rfl⟩, fun k a c z => ?_⟩)
  have := cn_lt a c z.1
  omega
def hlZ (g r : Int → Int) (x : Int) : Int := (dl g x + ul g (r x)) / 2
def chF (g r : Int → Int) : Int → Int := fun k => if k = 0 then inR r else if k = 1 then inR r else if k = 2 then 0 else if k < 9 then hlZ g r (fth r (k - 3)) else if k < 15 then ds g (fth r (k - 9)) else if k < 21 then 10 else if k < 27 then dh g (fth r (k - 21)) else if k < 33 then -1 else if k < 39 then hlZ g r (fth r (k - 33)) else if k < 45 then us g (r (fth r (k - 39))) else if k < 51 then 10 else if k < 57 then uh g (r (fth r (k - 51))) else -1
theorem ch_n (g r : Int → Int) : nd (chF g r) = inR r ∧ nu (chF g r) = inR r ∧ nc (chF g r) = 0 := ⟨rfl, rfl, rfl⟩
theorem ch_dl {g r : Int → Int} {i : Int} (a : 0 ≤ i) (c : i < 6) : dl (chF g r) i = hlZ g r (fth r i) := by
  show chF g r (3 + i) = _
  unfold chF
  rw [if_neg (by omega), if_neg (by omega), if_neg (by omega), if_pos (by omega), show 3 + i - 3 = i by omega]
theorem ch_ds {g r : Int → Int} {i : Int} (a : 0 ≤ i) (c : i < 6) : ds (chF g r) i = ds g (fth r i) := by
  show chF g r (9 + i) = _
  unfold chF
  rw [if_neg (by omega), if_neg (by omega), if_neg (by omega), if_neg (by omega), if_pos (by omega), show 9 + i - 9 = i by omega]
theorem ch_de {g r : Int → Int} {i : Int} (a : 0 ≤ i) (c : i < 6) : de (chF g r) i = 10 := by
  show chF g r (15 + i) = _
  unfold chF
  rw [if_neg (by omega), if_neg (by omega), if_neg (by omega), if_neg (by omega), if_neg (by omega), if_pos (by omega)]
theorem ch_dh {g r : Int → Int} {i : Int} (a : 0 ≤ i) (c : i < 6) : dh (chF g r) i = dh g (fth r i) := by
  show chF g r (21 + i) = _
  unfold chF
  rw [if_neg (by omega), if_neg (by omega), if_neg (by omega), if_neg (by omega), if_neg (by omega), if_neg (by omega), if_pos (by omega), show 21 + i - 21 = i by omega]
theorem ch_dm {g r : Int → Int} {i : Int} (a : 0 ≤ i) (c : i < 6) : dm (chF g r) i = -1 := by
  show chF g r (27 + i) = _
  unfold chF
  rw [if_neg (by omega), if_neg (by omega), if_neg (by omega), if_neg (by omega), if_neg (by omega), if_neg (by omega), if_neg (by omega), if_pos (by omega)]
theorem ch_ul {g r : Int → Int} {i : Int} (a : 0 ≤ i) (c : i < 6) : ul (chF g r) i = hlZ g r (fth r i) := by
  show chF g r (33 + i) = _
  unfold chF
  rw [if_neg (by omega), if_neg (by omega), if_neg (by omega), if_neg (by omega), if_neg (by omega), if_neg (by omega), if_neg (by omega), if_neg (by omega), if_pos (by omega), show 33 + i - 33 = i by omega]
theorem ch_us {g r : Int → Int} {i : Int} (a : 0 ≤ i) (c : i < 6) : us (chF g r) i = us g (r (fth r i)) := by
  show chF g r (39 + i) = _
  unfold chF
  rw [if_neg (by omega), if_neg (by omega), if_neg (by omega), if_neg (by omega), if_neg (by omega), if_neg (by omega), if_neg (by omega), if_neg (by omega), if_neg (by omega), if_pos (by omega), show 39 + i - 39 = i by omega]
theorem ch_ue {g r : Int → Int} {i : Int} (a : 0 ≤ i) (c : i < 6) : ue (chF g r) i = 10 := by
  show chF g r (45 + i) = _
  unfold chF
  rw [if_neg (by omega), if_neg (by omega), if_neg (by omega), if_neg (by omega), if_neg (by omega), if_neg (by omega), if_neg (by omega), if_neg (by omega), if_neg (by omega), if_neg (by omega), if_pos (by omega)]
theorem ch_uh {g r : Int → Int} {i : Int} (a : 0 ≤ i) (c : i < 6) : uh (chF g r) i = uh g (r (fth r i)) := by
  show chF g r (51 + i) = _
  unfold chF
  rw [if_neg (by omega), if_neg (by omega), if_neg (by omega), if_neg (by omega), if_neg (by omega), if_neg (by omega), if_neg (by omega), if_neg (by omega), if_neg (by omega), if_neg (by omega), if_neg (by omega), if_pos (by omega), show 51 + i - 51 = i by omega]
theorem ch_um {g r : Int → Int} {i : Int} (a : 0 ≤ i) (c : i < 6) : um (chF g r) i = -1 := by
  show chF g r (57 + i) = _
  unfold chF
  rw [if_neg (by omega), if_neg (by omega), if_neg (by omega), if_neg (by omega), if_neg (by omega), if_neg (by omega), if_neg (by omega), if_neg (by omega), if_neg (by omega), if_neg (by omega), if_neg (by omega), if_neg (by omega)]
theorem in_cn (r : Int → Int) : inR r = cnZ r 6 := rfl
theorem cn_nd {g r : Int → Int} (n : 0 ≤ nd g ∧ nd g ≤ 6) (h : isRw g r) : cnZ r (nd g) = inR r := (inR_n n h).symm
theorem ch_x {g r : Int → Int} {i : Int} (a : 0 ≤ i) (c : i < inR r) : ∃ x, (0 ≤ x ∧ x < 6) ∧ r x < 6 ∧ cnZ r x = i ∧ fth r i = x := by
  obtain ⟨x, x1, x2, x3⟩ := cn_at (r := r) 6 i a c
  exact ⟨x, by omega, x2, x3, by rw [← x3]; exact fth_e x1.1 (by omega) x2⟩
theorem ch_w {g r : Int → Int} (w : wfB g) (h : isRw g r) : wfF (chF g r) := by
  have ib := inR_b r
  have fx : ∀ i, 0 ≤ i → i < inR r → (0 ≤ fth r i ∧ fth r i < nd g) ∧ (0 ≤ r (fth r i) ∧ r (fth r i) < nu g) := fun i a c => by
    obtain ⟨x, x1, x2, x3, x4⟩ := ch_x (g := g) a c
    rw [x4]
    have := isRw_f h x1.1 x1.2
    omega
  refine ⟨⟨ib, ib, fun d a c => ?_, fun u a c => ?_⟩, ⟨fun d a c => Or.inl (ch_dm a c), fun u a c => Or.inl (ch_um a c)⟩, ⟨by rw [(ch_n g r).2.2]; omega, fun x a c => by rw [(ch_n g r).2.2] at c; omega⟩⟩
  · have c : d < inR r := c
    rw [ch_dl a (by omega), ch_ds a (by omega), ch_de a (by omega), ch_dh a (by omega)]
    have f := fx d a c
    have p := wB_d w f.1.1 f.1.2
    have q := wB_u w f.2.1 f.2.2
    unfold hlZ
    omega
  · have c : u < inR r := c
    rw [ch_ul a (by omega), ch_us a (by omega), ch_ue a (by omega), ch_uh a (by omega)]
    have f := fx u a c
    have p := wB_d w f.1.1 f.1.2
    have q := wB_u w f.2.1 f.2.2
    unfold hlZ
    omega
/-- the forge behind n generations -/
def lnP (g : Int → Int) : Nat → (Int → Int) → Prop
  | 0, g' => g' = g
  | n + 1, g'' => ∃ g' r, lnP g n g' ∧ isRw g' r ∧ stn g' r ∧ g'' = chF g' (rnZ r)
theorem ln_w {g : Int → Int} (w : wfF g) : ∀ (n : Nat) (g' : Int → Int), lnP g n g' → wfF g' := by
  intro n
  induction n with
  | zero => intro g' h; have h : g' = g := h; rw [h]; exact w
  | succ n ih =>
    intro g'' h
    obtain ⟨g', r, h1, h2, h3, h4⟩ := h
    rw [h4]
    exact ch_w (ih g' h1).1 (isRw_e h2 rn_in)
theorem ln_u {g : Int → Int} (w : wfF g) : ∀ (n : Nat) (g1 g2 : Int → Int), lnP g n g1 → lnP g n g2 → g1 = g2 := by
  intro n
  induction n with
  | zero => intro g1 g2 a c; have a : g1 = g := a; have c : g2 = g := c; rw [a, c]
  | succ n ih =>
    intro g1 g2 a c
    obtain ⟨g', r, h1, h2, h3, h4⟩ := a
    obtain ⟨g'', r', k1, k2, k3, k4⟩ := c
    have e := ih g' g'' h1 k1
    subst e
    have wn := (ln_w w n g' h1).1
    rw [h4, k4, rn_e (stn_u ⟨wn.1, wn.2.1⟩ h2 k2 h3 k3)]
def lnQ (g : Int → Int) (n w v : Int) : Prop := ((0 ≤ n ∧ n ≤ 9) ∧ (0 ≤ w ∧ w ≤ 2) ∧ ∃ g', lnP g n.toNat g' ∧ ((w = 0 ∧ v = nd g') ∨ (w = 1 ∧ ∃ r, isRw g' r ∧ stn g' r ∧ v = sfR g' r) ∨ (w = 2 ∧ v = sumZ (dl g') (nd g').toNat))) ∨ (¬ ((0 ≤ n ∧ n ≤ 9) ∧ (0 ≤ w ∧ w ≤ 2)) ∧ v = -1)
theorem lnQ_u {g : Int → Int} {n w v v' : Int} (wf : wfF g) (x : lnQ g n w v) (y : lnQ g n w v') : v = v' := by
  rcases x with ⟨x0, x1, g1, x2, x3⟩ | ⟨x0, x1⟩ <;> rcases y with ⟨y0, y1, g2, y2, y3⟩ | ⟨y0, y1⟩
  · have e := ln_u wf n.toNat g1 g2 x2 y2
    subst e
    have wn := (ln_w wf n.toNat g1 x2).1
    rcases x3 with x3 | ⟨x3, r, x4, x5, x6⟩ | x3 <;> rcases y3 with y3 | ⟨y3, r', y4, y5, y6⟩ | y3 <;> first | omega | skip
    rw [x6, y6, sf_e (stn_u ⟨wn.1, wn.2.1⟩ x4 y4 x5 y5)]
  · exact absurd ⟨x0, x1⟩ y0
  · exact absurd ⟨y0, y1⟩ x0
  · rw [x1, y1]
/-- a blade was added -/
def adB (h1 : mH) (b : Nat) (n l s e d : Int) : Prop := rI h1 b 5 = n + 1 ∧ rI h1 (b + 1) n = l ∧ rI h1 (b + 2) n = s ∧ rI h1 (b + 3) n = e ∧ rI h1 (b + 4) n = d
def clB (h1 : mH) (b : Nat) : Prop := rI h1 b 5 = 0 ∧ ∀ j : Int, 0 ≤ j → j < 6 → rI h1 (b + 5) j = -1
def clF (h1 : mH) (f : Nat) : Prop := (rI h1 (f + 1) 5 = 0 ∧ rI h1 (f + 7) 5 = 0 ∧ rI h1 f 5 = 0) ∧ ∀ j : Int, 0 ≤ j → j < 6 → rI h1 (f + 6) j = -1 ∧ rI h1 (f + 12) j = -1
set_option maxHeartbeats 400000 in
theorem zp_X0_add_in {ad : mA} {dd : Nat} {h : mH} {Q : mQ} {b : Nat}  (hk : blk h b) (n : Int) (l : Int) (l_r : -2147483648 ≤ l ∧ l < 2147483648) (s : Int) (s_r : -2147483648 ≤ s ∧ s < 2147483648) (e : Int) (e_r : -2147483648 ≤ e ∧ e < 2147483648) (d : Int) (d_r : -2147483648 ≤ d ∧ d < 2147483648) (p1 : rI h b 5 = n ∧ 0 ≤ n ∧ n < 6) (kq : ∀ h1, frm (fun a k => (a = b ∧ k = 5) ∨ ((b + 1 ≤ a ∧ a ≤ b + 4) ∧ k = n.toNat)) h h1 → (adB h1 b n l s e d) → Q none h1) : mCal TB0 ad (dd + 1) M_X0_add [.ref b, .int (zI l), .int (zI s), .int (zI e), .int (zI d)] h 0 0 Q := by
  refine ⟨Nat.le_of_ble_eq_true rfl, ?_⟩
  show mEv TB0 ad M_X0_add (dd + 1) (0, 0) (mCal TB0 ad (dd + 0)) (fun v h' z => z.1 = 0 ∧ Q v h') 0 [some (.ref b), some (.int (zI l)), some (.int (zI s)), some (.int (zI e)), some (.int (zI d))] [] h (0, 0)
  have FR0 : frm (fun a k => (a = b ∧ k = 5) ∨ ((b + 1 ≤ a ∧ a ≤ b + 4) ∧ k = n.toNat)) h h := frm_0 h
  refine e_aload_n dX0_add_0 rfl ?_
  refine z_get n dX0_add_1 tf_0_27 (congrArg Prod.fst (bl_s0 hk)) (Or.inl rfl) p1.1 ?_
  refine z_bipush (6) dX0_add_4 rfl ?_
  refine z_icmp_lt 10 dX0_add_6 rfl ⟨by omega, by omega⟩ ⟨by omega, by omega⟩ (fun c1 => ?_) (fun c1 => ?_)
  · skip
    refine e_aload_n dX0_add_10 rfl ?_
    refine e_get (.ref (b + 1)) dX0_add_11 tf_0_9 (congrArg Prod.fst (bl_s0 hk)) (congrArg va_rf (bl_r0_0 hk)) ?_
    refine e_aload_n dX0_add_14 rfl ?_
    refine z_get n dX0_add_15 tf_0_27 (congrArg Prod.fst (bl_s0 hk)) (Or.inl rfl) p1.1 ?_
    refine e_iload_n dX0_add_18 rfl ?_
    refine z_ist dX0_add_19 (bl_s1 hk) (by decide) (by omega) (by omega) (fun h2 e3 => ?_)
    have f4 := frm_1 e3
    have k5 := lk_q (frm_s f4) hk
    have FR6 := frm_t FR0 (frm_m (S' := (fun a k => (a = b ∧ k = 5) ∨ ((b + 1 ≤ a ∧ a ≤ b + 4) ∧ k = n.toNat))) f4 (fun a k q => by omega))
    refine e_aload_n dX0_add_20 rfl ?_
    refine e_get (.ref (b + 2)) dX0_add_21 tf_0_15 (congrArg Prod.fst (bl_s0 k5)) (congrArg va_rf (bl_r0_1 k5)) ?_
    refine e_aload_n dX0_add_24 rfl ?_
    refine z_get n dX0_add_25 tf_0_27 (congrArg Prod.fst (bl_s0 k5)) (Or.inl rfl) (((frm_r f4 (by omega))).trans p1.1) ?_
    refine e_iload_n dX0_add_28 rfl ?_
    refine z_ist dX0_add_29 (bl_s2 k5) (by decide) (by omega) (by omega) (fun h7 e8 => ?_)
    have f9 := frm_1 e8
    have k10 := lk_q (frm_s f9) k5
    have FR11 := frm_t FR6 (frm_m (S' := (fun a k => (a = b ∧ k = 5) ∨ ((b + 1 ≤ a ∧ a ≤ b + 4) ∧ k = n.toNat))) f9 (fun a k q => by omega))
    refine e_aload_n dX0_add_30 rfl ?_
    refine e_get (.ref (b + 3)) dX0_add_31 tf_0_18 (congrArg Prod.fst (bl_s0 k10)) (congrArg va_rf (bl_r0_2 k10)) ?_
    refine e_aload_n dX0_add_34 rfl ?_
    refine z_get n dX0_add_35 tf_0_27 (congrArg Prod.fst (bl_s0 k10)) (Or.inl rfl) ((((frm_r f9 (by omega)).trans (frm_r f4 (by omega)))).trans p1.1) ?_
    refine e_iload_n dX0_add_38 rfl ?_
    refine z_ist dX0_add_39 (bl_s3 k10) (by decide) (by omega) (by omega) (fun h12 e13 => ?_)
    have f14 := frm_1 e13
    have k15 := lk_q (frm_s f14) k10
    have FR16 := frm_t FR11 (frm_m (S' := (fun a k => (a = b ∧ k = 5) ∨ ((b + 1 ≤ a ∧ a ≤ b + 4) ∧ k = n.toNat))) f14 (fun a k q => by omega))
    refine e_aload_n dX0_add_40 rfl ?_
    refine e_get (.ref (b + 4)) dX0_add_41 tf_0_21 (congrArg Prod.fst (bl_s0 k15)) (congrArg va_rf (bl_r0_3 k15)) ?_
    refine e_aload_n dX0_add_44 rfl ?_
    refine z_get n dX0_add_45 tf_0_27 (congrArg Prod.fst (bl_s0 k15)) (Or.inl rfl) ((((frm_r f14 (by omega)).trans ((frm_r f9 (by omega)).trans (frm_r f4 (by omega))))).trans p1.1) ?_
    refine e_iload dX0_add_48 rfl ?_
    refine z_ist dX0_add_50 (bl_s4 k15) (by decide) (by omega) (by omega) (fun h17 e18 => ?_)
    have f19 := frm_1 e18
    have k20 := lk_q (frm_s f19) k15
    have FR21 := frm_t FR16 (frm_m (S' := (fun a k => (a = b ∧ k = 5) ∨ ((b + 1 ≤ a ∧ a ≤ b + 4) ∧ k = n.toNat))) f19 (fun a k q => by omega))
    refine e_aload_n dX0_add_51 rfl ?_
    refine e_dup dX0_add_52 rfl ?_
    refine z_get n dX0_add_53 tf_0_27 (congrArg Prod.fst (bl_s0 k20)) (Or.inl rfl) ((((frm_r f19 (by omega)).trans ((frm_r f14 (by omega)).trans ((frm_r f9 (by omega)).trans (frm_r f4 (by omega)))))).trans p1.1) ?_
    refine z_iconst (1) dX0_add_56 rfl ?_
    refine z_iadd dX0_add_57 ?_
    refine z_put dX0_add_58 tf_0_27 (congrArg Prod.fst (bl_s0 k20)) rfl (Or.inl rfl) (fun h22 e23 => ?_)
    have f24 := frm_1 e23
    have k25 := lk_q (frm_s f24) k20
    have FR26 := frm_t FR21 (frm_m (S' := (fun a k => (a = b ∧ k = 5) ∨ ((b + 1 ≤ a ∧ a ≤ b + 4) ∧ k = n.toNat))) f24 (fun a k q => by omega))
    refine e_vret dX0_add_61 rfl ⟨rfl, ?_⟩
    exact kq _ FR26 ⟨(rI_eq e23 ⟨by omega, by omega⟩), (((frm_r f24 (by omega)).trans ((frm_r f19 (by omega)).trans ((frm_r f14 (by omega)).trans (frm_r f9 (by omega))))).trans (rI_eq e3 ⟨by omega, by omega⟩)), (((frm_r f24 (by omega)).trans ((frm_r f19 (by omega)).trans (frm_r f14 (by omega)))).trans (rI_eq e8 ⟨by omega, by omega⟩)), (((frm_r f24 (by omega)).trans (frm_r f19 (by omega))).trans (rI_eq e13 ⟨by omega, by omega⟩)), ((frm_r f24 (by omega)).trans (rI_eq e18 ⟨by omega, by omega⟩))⟩
  · exfalso; omega
set_option maxHeartbeats 400000 in
theorem zp_X0_clear {ad : mA} {dd : Nat} {h : mH} {Q : mQ} {b : Nat}  (hk : blk h b)    (kq : ∀ h1, frm (fun a k => (a = b ∧ k = 5) ∨ a = b + 5) h h1 → (clB h1 b) → Q none h1) : mCal TB0 ad (dd + 2) M_X0_clear [.ref b] h 0 0 Q := by
  refine ⟨Nat.le_of_ble_eq_true rfl, ?_⟩
  show mEv TB0 ad M_X0_clear (dd + 2) (0, 0) (mCal TB0 ad (dd + 1)) (fun v h' z => z.1 = 0 ∧ Q v h') 0 [some (.ref b)] [] h (0, 0)
  have FR0 : frm (fun a k => (a = b ∧ k = 5) ∨ a = b + 5) h h := frm_0 h
  refine e_aload_n dX0_clear_0 rfl ?_
  refine e_get (.ref (b + 5)) dX0_clear_1 tf_0_24 (congrArg Prod.fst (bl_s0 hk)) (congrArg va_rf (bl_r0_4 hk)) ?_
  refine z_iconst (-1) dX0_clear_4 rfl ?_
  refine e_callS [.ref _, .int _] dX0_clear_5 tm_0_31 rfl (Nat.le_of_ble_eq_true rfl) (Nat.le_refl _) (Nat.le_refl _) rfl (zp_fill (bl_s5 hk) (by decide) ⟨by omega, by omega⟩ (fun h1 f2 e3 => ?_))
  have k4 := lk_q (frm_s f2) hk
  have FR5 := frm_t FR0 (frm_m (S' := (fun a k => (a = b ∧ k = 5) ∨ a = b + 5)) f2 (fun a k q => by omega))
  refine e_aload_n dX0_clear_8 rfl ?_
  refine z_iconst (0) dX0_clear_9 rfl ?_
  refine z_put dX0_clear_10 tf_0_27 (congrArg Prod.fst (bl_s0 k4)) rfl (Or.inl rfl) (fun h6 e7 => ?_)
  have f8 := frm_1 e7
  have k9 := lk_q (frm_s f8) k4
  have FR10 := frm_t FR5 (frm_m (S' := (fun a k => (a = b ∧ k = 5) ∨ a = b + 5)) f8 (fun a k q => by omega))
  refine e_vret dX0_clear_13 rfl ⟨rfl, ?_⟩
  exact kq _ FR10 ⟨(rI_eq e7 ⟨by omega, by omega⟩), fun j a c => ((frm_r f8 (by omega))).trans (e3 j a (by omega))⟩
set_option maxHeartbeats 400000 in
theorem zp_X2_clear {ad : mA} {dd : Nat} {h : mH} {Q : mQ} {f : Nat}  (hk : fgk h f)    (kq : ∀ h1, frm (fun a k => (a = f ∧ k = 5) ∨ (a = f + 1 ∧ k = 5) ∨ (a = f + 7 ∧ k = 5) ∨ a = f + 6 ∨ a = f + 12) h h1 → (clF h1 f) → Q none h1) : mCal TB0 ad (dd + 3) M_X2_clear [.ref f] h 0 0 Q := by
  refine ⟨Nat.le_of_ble_eq_true rfl, ?_⟩
  show mEv TB0 ad M_X2_clear (dd + 3) (0, 0) (mCal TB0 ad (dd + 2)) (fun v h' z => z.1 = 0 ∧ Q v h') 0 [some (.ref f)] [] h (0, 0)
  have FR0 : frm (fun a k => (a = f ∧ k = 5) ∨ (a = f + 1 ∧ k = 5) ∨ (a = f + 7 ∧ k = 5) ∨ a = f + 6 ∨ a = f + 12) h h := frm_0 h
  refine e_aload_n dX2_clear_0 rfl ?_
  refine e_get (.ref (f + 1)) dX2_clear_1 tf_2_12 (congrArg Prod.fst (fg_s0 hk)) (congrArg va_rf (fg_r0_0 hk)) ?_
  refine e_callV [] dX2_clear_4 tm_2_35 rfl (Nat.le_of_ble_eq_true rfl) (congrArg Prod.fst (fg_s1 hk)) (Nat.le_of_ble_eq_true rfl) (Nat.le_refl _) (Nat.le_refl _) rfl (zp_X0_clear (fg_bl1 hk) (fun  h1 f2 p3 => ?_))
  have k4 := lk_q (frm_s f2) hk
  have FR5 := frm_t FR0 (frm_m (S' := (fun a k => (a = f ∧ k = 5) ∨ (a = f + 1 ∧ k = 5) ∨ (a = f + 7 ∧ k = 5) ∨ a = f + 6 ∨ a = f + 12)) f2 (fun a k q => by omega))
  skip
  refine e_aload_n dX2_clear_7 rfl ?_
  refine e_get (.ref (f + 7)) dX2_clear_8 tf_2_18 (congrArg Prod.fst (fg_s0 k4)) (congrArg va_rf (fg_r0_1 k4)) ?_
  refine e_callV [] dX2_clear_11 tm_2_35 rfl (Nat.le_of_ble_eq_true rfl) (congrArg Prod.fst (fg_s7 k4)) (Nat.le_of_ble_eq_true rfl) (Nat.le_refl _) (Nat.le_refl _) rfl (zp_X0_clear (fg_bl7 k4) (fun  h6 f7 p8 => ?_))
  have k9 := lk_q (frm_s f7) k4
  have FR10 := frm_t FR5 (frm_m (S' := (fun a k => (a = f ∧ k = 5) ∨ (a = f + 1 ∧ k = 5) ∨ (a = f + 7 ∧ k = 5) ∨ a = f + 6 ∨ a = f + 12)) f7 (fun a k q => by omega))
  skip
  refine e_aload_n dX2_clear_14 rfl ?_
  refine z_iconst (0) dX2_clear_15 rfl ?_
  refine z_put dX2_clear_16 tf_2_31 (congrArg Prod.fst (fg_s0 k9)) rfl (Or.inl rfl) (fun h11 e12 => ?_)
  have f13 := frm_1 e12
  have k14 := lk_q (frm_s f13) k9
  have FR15 := frm_t FR10 (frm_m (S' := (fun a k => (a = f ∧ k = 5) ∨ (a = f + 1 ∧ k = 5) ∨ (a = f + 7 ∧ k = 5) ∨ a = f + 6 ∨ a = f + 12)) f13 (fun a k q => by omega))
  refine e_vret dX2_clear_19 rfl ⟨rfl, ?_⟩
  exact kq _ FR15 ⟨⟨(((frm_r f13 (by omega)).trans (frm_r f7 (by omega)))).trans p3.1, ((frm_r f13 (by omega))).trans p8.1, (rI_eq e12 ⟨by omega, by omega⟩)⟩, fun j a c => ⟨(((frm_r f13 (by omega)).trans (frm_r f7 (by omega)))).trans (p3.2 j a c), ((frm_r f13 (by omega))).trans (p8.2 j a c)⟩⟩
def chI (h : mH) (f : Nat) (g r : Int → Int) (d : Int) : Prop := (rI h (f + 1) 5 = cnZ r d ∧ rI h (f + 7) 5 = cnZ r d ∧ rI h f 5 = 0) ∧ (∀ j : Int, 0 ≤ j → j < 6 → rI h (f + 6) j = -1 ∧ rI h (f + 12) j = -1) ∧ ∀ x : Int, 0 ≤ x → x < d → r x < 6 → (rI h (f + 2) (cnZ r x) = hlZ g r x ∧ rI h (f + 3) (cnZ r x) = ds g x ∧ rI h (f + 4) (cnZ r x) = 10 ∧ rI h (f + 5) (cnZ r x) = dh g x) ∧ (rI h (f + 8) (cnZ r x) = hlZ g r x ∧ rI h (f + 9) (cnZ r x) = us g (r x) ∧ rI h (f + 10) (cnZ r x) = 10 ∧ rI h (f + 11) (cnZ r x) = uh g (r x))
theorem chI_0 {h : mH} {f : Nat} {g r : Int → Int} (c : clF h f) : chI h f g r 0 := ⟨c.1, c.2, fun x a e => by omega⟩
theorem chI_n {h : mH} {f : Nat} {g r : Int → Int} {d : Int} (d0 : 0 ≤ d) (q : ¬ r d < 6) (H : chI h f g r d) : chI h f g r (d + 1) := by
  have e := (cn_s (r := r) d0).2 q
  refine ⟨by rw [e]; exact H.1, H.2.1, fun x a c z => H.2.2 x a ?_ z⟩
  by_cases w : x = d
  · rw [w] at z; exact absurd z q
  · omega
theorem chI_y {h h1 h2 : mH} {f : Nat} {g r : Int → Int} {d : Int} (d0 : 0 ≤ d) (q : r d < 6) (H : chI h f g r d) (f1 : frm (fun a k => (a = f + 1 ∧ k = 5) ∨ ((f + 1 + 1 ≤ a ∧ a ≤ f + 1 + 4) ∧ k = (cnZ r d).toNat)) h h1) (a1 : adB h1 (f + 1) (cnZ r d) (hlZ g r d) (ds g d) 10 (dh g d)) (f2 : frm (fun a k => (a = f + 7 ∧ k = 5) ∨ ((f + 7 + 1 ≤ a ∧ a ≤ f + 7 + 4) ∧ k = (cnZ r d).toNat)) h1 h2) (a2 : adB h2 (f + 7) (cnZ r d) (hlZ g r d) (us g (r d)) 10 (uh g (r d))) : chI h2 f g r (d + 1) := by
  have e := (cn_s (r := r) d0).1 q
  have cb := cn_b r d0
  obtain ⟨a10, a11, a12, a13, a14⟩ := a1
  obtain ⟨a20, a21, a22, a23, a24⟩ := a2
  have k1 : ∀ (a : Nat) (z : Int), ¬ ((a = f + 1 ∧ z.toNat = 5) ∨ ((f + 1 + 1 ≤ a ∧ a ≤ f + 1 + 4) ∧ z.toNat = (cnZ r d).toNat)) → rI h1 a z = rI h a z := fun a z n => frm_r f1 n
  have k2 : ∀ (a : Nat) (z : Int), ¬ ((a = f + 7 ∧ z.toNat = 5) ∨ ((f + 7 + 1 ≤ a ∧ a ≤ f + 7 + 4) ∧ z.toNat = (cnZ r d).toNat)) → rI h2 a z = rI h1 a z := fun a z n => frm_r f2 n
  refine ⟨⟨?_, ?_, ?_⟩, fun j a c => ⟨?_, ?_⟩, fun x a c z => ?_⟩
  · rw [k2 _ _ (by omega), a10, e]
  · rw [a20, e]
  · rw [k2 _ _ (by omega), k1 _ _ (by omega)]; exact H.1.2.2
  · rw [k2 _ _ (by omega), k1 _ _ (by omega)]; exact (H.2.1 j a c).1
  · rw [k2 _ _ (by omega), k1 _ _ (by omega)]; exact (H.2.1 j a c).2
  · by_cases w : x = d
    · rw [w]
      refine ⟨⟨?_, ?_, ?_, ?_⟩, a21, a22, a23, a24⟩
      · rw [k2 _ _ (by omega)]; exact a11
      · rw [k2 _ _ (by omega)]; exact a12
      · rw [k2 _ _ (by omega)]; exact a13
      · rw [k2 _ _ (by omega)]; exact a14
    · have l := cn_lt (r := r) a (show x < d by omega) z
      have xb := cn_b r a
      obtain ⟨⟨p1, p2, p3, p4⟩, p5, p6, p7, p8⟩ := H.2.2 x a (by omega) z
      refine ⟨⟨?_, ?_, ?_, ?_⟩, ?_, ?_, ?_, ?_⟩
      · rw [k2 _ _ (by omega), k1 _ _ (by omega)]; exact p1
      · rw [k2 _ _ (by omega), k1 _ _ (by omega)]; exact p2
      · rw [k2 _ _ (by omega), k1 _ _ (by omega)]; exact p3
      · rw [k2 _ _ (by omega), k1 _ _ (by omega)]; exact p4
      · rw [k2 _ _ (by omega), k1 _ _ (by omega)]; exact p5
      · rw [k2 _ _ (by omega), k1 _ _ (by omega)]; exact p6
      · rw [k2 _ _ (by omega), k1 _ _ (by omega)]; exact p7
      · rw [k2 _ _ (by omega), k1 _ _ (by omega)]; exact p8
theorem chI_F {h : mH} {f : Nat} {g r : Int → Int} (w : wfB g) (rw_ : isRw g r) (H : chI h f g r (nd g)) : isF h f (chF g r) := by
  have ib := inR_b r
  have e := cn_nd w.1 rw_
  have cn := ch_n g r
  have key : ∀ i : Int, 0 ≤ i → i < inR r → ∃ x, fth r i = x ∧ cnZ r x = i ∧ (rI h (f + 2) (cnZ r x) = hlZ g r x ∧ rI h (f + 3) (cnZ r x) = ds g x ∧ rI h (f + 4) (cnZ r x) = 10 ∧ rI h (f + 5) (cnZ r x) = dh g x) ∧ (rI h (f + 8) (cnZ r x) = hlZ g r x ∧ rI h (f + 9) (cnZ r x) = us g (r x) ∧ rI h (f + 10) (cnZ r x) = 10 ∧ rI h (f + 11) (cnZ r x) = uh g (r x)) := fun i a c => by
    obtain ⟨x, x1, x2, x3, x4⟩ := ch_x (g := g) a c
    have := isRw_f rw_ x1.1 x1.2
    exact ⟨x, x4, x3, H.2.2 x x1.1 (by omega) x2⟩
  refine ⟨ch_w w rw_, ⟨by rw [cn.1, ← e]; exact H.1.1, by rw [cn.2.1, ← e]; exact H.1.2.1, by rw [cn.2.2]; exact H.1.2.2⟩, fun i a c => ?_, fun i a c => ?_, fun i a c => ?_, fun i a c => by rw [cn.2.2] at c; omega⟩
  · have c : i < inR r := c
    obtain ⟨x, x1, x2, p, _⟩ := key i a c
    rw [ch_dl a (by omega), ch_ds a (by omega), ch_de a (by omega), ch_dh a (by omega), x1]
    rw [x2] at p
    exact p
  · have c : i < inR r := c
    obtain ⟨x, x1, x2, _, p⟩ := key i a c
    rw [ch_ul a (by omega), ch_us a (by omega), ch_ue a (by omega), ch_uh a (by omega), x1]
    rw [x2] at p
    exact p
  · rw [ch_dm a c, ch_um a c]; exact H.2.1 i a c
set_option maxHeartbeats 2000000 in
theorem zp_X5_bearChildren {ad : mA} {dd : Nat} {h : mH} {Q : mQ} {y : Nat} {g r : Int → Int} (hk : mak h y) (HF : isF h (y + 1) g) (HW : mrC h y g r)    (kq : ∀ h1, frm (fun a k => y + 17 ≤ a ∧ a < y + 33) h h1 → (isF h1 (y + 17) (chF g r)) → Q none h1) : mCal TB0 ad (dd + 4) M_X5_bearChildren [.ref y] h 0 0 Q := by
  refine ⟨Nat.le_of_ble_eq_true rfl, ?_⟩
  show mEv TB0 ad M_X5_bearChildren (dd + 4) (0, 0) (mCal TB0 ad (dd + 3)) (fun v h' z => z.1 = 0 ∧ Q v h') 0 [some (.ref y), none, none, none, none, none] [] h (0, 0)
  have FR0 : frm (fun a k => y + 17 ≤ a ∧ a < y + 33) h h := frm_0 h
  have w1 := isF_n HF
  have W := isF_w HF
  have hw := HW.1.1
  refine e_aload_n dX5_bearChildren_0 rfl ?_
  refine e_get (.ref (y + 17)) dX5_bearChildren_1 tf_5_18 (congrArg Prod.fst (ma_s0 hk)) (congrArg va_rf (ma_r0_1 hk)) ?_
  refine e_callV [] dX5_bearChildren_4 tm_5_177 rfl (Nat.le_of_ble_eq_true rfl) (congrArg Prod.fst (ma_s17 hk)) (Nat.le_of_ble_eq_true rfl) (Nat.le_refl _) (Nat.le_refl _) rfl (zp_X2_clear (ma_fg17 hk) (fun  h1 f2 p3 => ?_))
  have k4 := lk_q (frm_s f2) hk
  have H5 := isF_c f2 (fun a k q1 q2 => by omega) HF
  have H6 := mrC_c f2 (fun a k q => by omega) HW
  have FR7 := frm_t FR0 (frm_m (S' := (fun a k => y + 17 ≤ a ∧ a < y + 33)) f2 (fun a k q => by omega))
  have CL := p3
  refine e_aload_n dX5_bearChildren_7 rfl ?_
  refine e_get (.ref (y + 1)) dX5_bearChildren_8 tf_5_12 (congrArg Prod.fst (ma_s0 k4)) (congrArg va_rf (ma_r0_0 k4)) ?_
  refine e_get (.ref (y + 2)) dX5_bearChildren_11 tf_5_53 (congrArg Prod.fst (ma_s1 k4)) (congrArg va_rf (ma_r1_0 k4)) ?_
  refine e_astore_n (L' := [_, _, _, _, _, _]) dX5_bearChildren_14 (Nat.le_of_ble_eq_true rfl) rfl ?_
  refine e_aload_n dX5_bearChildren_15 rfl ?_
  refine e_get (.ref (y + 1)) dX5_bearChildren_16 tf_5_12 (congrArg Prod.fst (ma_s0 k4)) (congrArg va_rf (ma_r0_0 k4)) ?_
  refine e_get (.ref (y + 8)) dX5_bearChildren_19 tf_5_67 (congrArg Prod.fst (ma_s1 k4)) (congrArg va_rf (ma_r1_1 k4)) ?_
  refine e_astore_n (L' := [_, _, _, _, _, _]) dX5_bearChildren_22 (Nat.le_of_ble_eq_true rfl) rfl ?_
  refine z_iconst (0) dX5_bearChildren_23 rfl ?_
  refine e_istore_n (L' := [_, _, _, _, _, _]) dX5_bearChildren_24 (Nat.le_of_ble_eq_true rfl) rfl ?_
  have lp8 : ∀ (n8 : Nat) (d : Int) (h8 : mH), (nd g - d).toNat = n8 → (mak h8 y) → (isF h8 (y + 1) g) → (mrC h8 y g r) → (frm (fun a k => y + 17 ≤ a ∧ a < y + 33) h h8) → (0 ≤ d ∧ d ≤ nd g) → (chI h8 (y + 17) g r d) → mEv TB0 ad M_X5_bearChildren (dd + 4) (0, 0) (mCal TB0 ad (dd + 3)) (fun v h' z => z.1 = 0 ∧ Q v h') 25 [some (.ref y), some (.ref (y + 2)), some (.ref (y + 8)), some (.int (zI d)), none, none] [] h8 (0, 0) := by
    intro n8
    induction n8 using Nat.strongRecOn with
    | ind n8 ih8 =>
    intro d h8 hn8 k9 H10 H11 FR12 I1 I3
    refine e_iload_n dX5_bearChildren_25 rfl ?_
    have cb := cn_b r (show 0 ≤ d by omega)
    have cd : cnZ r d ≤ d := cb.2
    have us1 : rI h8 (y + 8) 5 = nu g := isF_nu H10
    refine e_aload_n dX5_bearChildren_26 rfl ?_
    refine z_get (nd g) dX5_bearChildren_27 tf_5_57 (congrArg Prod.fst (ma_s2 k9)) (Or.inl rfl) (isF_nd H10) ?_
    have y13 := isF_n H10
    refine z_icmp_ge 134 dX5_bearChildren_30 rfl ⟨by omega, by omega⟩ ⟨by omega, by omega⟩ (fun c14 => ?_) (fun c14 => ?_)
    · skip
      refine e_vret dX5_bearChildren_134 rfl ⟨rfl, ?_⟩
      exact kq _ FR12 (chI_F W.1 hw (show chI h8 (y + 17) g r (nd g) by rw [show nd g = d by omega]; exact I3))
    · skip
      refine e_iload_n dX5_bearChildren_33 rfl ?_
      refine z_bipush (6) dX5_bearChildren_34 rfl ?_
      refine z_icmp_ge 134 dX5_bearChildren_36 rfl ⟨by omega, by omega⟩ ⟨by omega, by omega⟩ (fun c15 => ?_) (fun c15 => ?_)
      · skip
        refine e_vret dX5_bearChildren_134 rfl ⟨rfl, ?_⟩
        exact kq _ FR12 (chI_F W.1 hw (show chI h8 (y + 17) g r (nd g) by rw [show nd g = d by omega]; exact I3))
      · skip
        refine e_aload_n dX5_bearChildren_39 rfl ?_
        refine e_get (.ref (y + 33)) dX5_bearChildren_40 tf_5_21 (congrArg Prod.fst (ma_s0 k9)) (congrArg va_rf (ma_r0_2 k9)) ?_
        refine e_iload_n dX5_bearChildren_43 rfl ?_
        refine z_ild (r d) dX5_bearChildren_44 (ma_s33 k9) (by decide) (by omega) (by omega) (H11.2.1 d (by omega) (by omega)) ?_
        have y16 := isRw_f H11.1.1 (show 0 ≤ d by omega) (by omega)
        have y17 := H11.1.2 d (by omega) (by omega)
        refine e_istore (L' := [_, _, _, _, _, _]) dX5_bearChildren_45 (Nat.le_of_ble_eq_true rfl) rfl ?_
        refine e_aload_n dX5_bearChildren_47 rfl ?_
        refine e_iload dX5_bearChildren_48 rfl ?_
        refine e_callV [.int _] dX5_bearChildren_50 tm_5_180 rfl (Nat.le_of_ble_eq_true rfl) (congrArg Prod.fst (ma_s8 k9)) (Nat.le_of_ble_eq_true rfl) (Nat.le_refl _) (Nat.le_refl _) rfl (zp_X0_has (ma_bl8 k9) (r d) ⟨by omega, by omega⟩ ?_)
        refine z_ifb_eq 128 dX5_bearChildren_53 rfl (fun c18 => ?_) (fun c18 => ?_)
        · skip
          refine z_iinc (L' := [_, _, _, _, _, _]) dX5_bearChildren_128 rfl rfl ?_
          refine e_goto 25 dX5_bearChildren_131 rfl ?_
          exact mEv_wk (by exact ⟨Or.inr rfl, Or.inr rfl, Or.inr rfl, Or.inr rfl, Or.inl rfl, Or.inl rfl, trivial⟩) (ih8 _ (by omega) (d + 1) h8 rfl k9 H10 H11 FR12 (by omega) (chI_n (by omega) (by omega) I3))
        · skip
          have rb := HW.1.2 d (by omega) (by omega)
          have pd1 := wB_d W.1 (show 0 ≤ d by omega) (show d < nd g by omega)
          have pu1 := wB_u W.1 (show 0 ≤ r d by omega) (show r d < nu g by omega)
          refine e_aload_n dX5_bearChildren_56 rfl ?_
          refine e_get (.ref (y + 3)) dX5_bearChildren_57 tf_5_184 (congrArg Prod.fst (ma_s2 k9)) (congrArg va_rf (ma_r2_0 k9)) ?_
          refine e_iload_n dX5_bearChildren_60 rfl ?_
          refine z_ild (dl g d) dX5_bearChildren_61 (ma_s3 k9) (by decide) (by omega) (by omega) (isF_dl H10 (by omega) (by omega)) ?_
          have y19 := wB_d (isF_w H10).1 (show 0 ≤ d by omega) (by omega)
          refine e_aload_n dX5_bearChildren_62 rfl ?_
          refine e_get (.ref (y + 9)) dX5_bearChildren_63 tf_5_184 (congrArg Prod.fst (ma_s8 k9)) (congrArg va_rf (ma_r8_0 k9)) ?_
          refine e_iload dX5_bearChildren_66 rfl ?_
          refine z_ild (ul g (r d)) dX5_bearChildren_68 (ma_s9 k9) (by decide) (by omega) (by omega) (isF_ul H10 (by omega) (by omega)) ?_
          have y20 := wB_u (isF_w H10).1 (show 0 ≤ (r d) by omega) (by omega)
          refine z_iadd dX5_bearChildren_69 ?_
          refine z_iconst (2) dX5_bearChildren_70 rfl ?_
          refine z_idiv dX5_bearChildren_71 (by omega) (by omega) (by omega) (by omega) ?_
          refine e_istore (L' := [_, _, _, _, _, _]) dX5_bearChildren_72 (Nat.le_of_ble_eq_true rfl) rfl ?_
          refine e_aload_n dX5_bearChildren_74 rfl ?_
          refine e_get (.ref (y + 17)) dX5_bearChildren_75 tf_5_18 (congrArg Prod.fst (ma_s0 k9)) (congrArg va_rf (ma_r0_1 k9)) ?_
          refine e_get (.ref (y + 18)) dX5_bearChildren_78 tf_5_53 (congrArg Prod.fst (ma_s17 k9)) (congrArg va_rf (ma_r17_0 k9)) ?_
          refine e_iload dX5_bearChildren_81 rfl ?_
          refine e_aload_n dX5_bearChildren_83 rfl ?_
          refine e_get (.ref (y + 4)) dX5_bearChildren_84 tf_5_187 (congrArg Prod.fst (ma_s2 k9)) (congrArg va_rf (ma_r2_1 k9)) ?_
          refine e_iload_n dX5_bearChildren_87 rfl ?_
          refine z_ild (ds g d) dX5_bearChildren_88 (ma_s4 k9) (by decide) (by omega) (by omega) (isF_ds H10 (by omega) (by omega)) ?_
          have y21 := wB_d (isF_w H10).1 (show 0 ≤ d by omega) (by omega)
          refine z_bipush (10) dX5_bearChildren_89 rfl ?_
          refine e_aload_n dX5_bearChildren_91 rfl ?_
          refine e_get (.ref (y + 6)) dX5_bearChildren_92 tf_5_190 (congrArg Prod.fst (ma_s2 k9)) (congrArg va_rf (ma_r2_3 k9)) ?_
          refine e_iload_n dX5_bearChildren_95 rfl ?_
          refine z_ild (dh g d) dX5_bearChildren_96 (ma_s6 k9) (by decide) (by omega) (by omega) (isF_dh H10 (by omega) (by omega)) ?_
          have y22 := wB_d (isF_w H10).1 (show 0 ≤ d by omega) (by omega)
          refine e_callV [.int _, .int _, .int _, .int _] dX5_bearChildren_97 tm_5_193 rfl (Nat.le_of_ble_eq_true rfl) (congrArg Prod.fst (ma_s18 k9)) (Nat.le_of_ble_eq_true rfl) (Nat.le_refl _) (Nat.le_refl _) rfl (zp_X0_add_in (ma_bl18 k9) (cnZ r d) (((dl g d) + (ul g (r d))) / 2) ⟨by omega, by omega⟩ (ds g d) ⟨by omega, by omega⟩ 10 ⟨by omega, by omega⟩ (dh g d) ⟨by omega, by omega⟩ ⟨I3.1.1, by omega, by omega⟩ (fun  h23 f24 p25 => ?_))
          have k26 := lk_q (frm_s f24) k9
          have H27 := isF_c f24 (fun a k q1 q2 => by omega) H10
          have H28 := mrC_c f24 (fun a k q => by omega) H11
          have FR29 := frm_t FR12 (frm_m (S' := (fun a k => y + 17 ≤ a ∧ a < y + 33)) f24 (fun a k q => by omega))
          skip
          refine e_aload_n dX5_bearChildren_100 rfl ?_
          refine e_get (.ref (y + 17)) dX5_bearChildren_101 tf_5_18 (congrArg Prod.fst (ma_s0 k26)) (congrArg va_rf (ma_r0_1 k26)) ?_
          refine e_get (.ref (y + 24)) dX5_bearChildren_104 tf_5_67 (congrArg Prod.fst (ma_s17 k26)) (congrArg va_rf (ma_r17_1 k26)) ?_
          refine e_iload dX5_bearChildren_107 rfl ?_
          refine e_aload_n dX5_bearChildren_109 rfl ?_
          refine e_get (.ref (y + 10)) dX5_bearChildren_110 tf_5_187 (congrArg Prod.fst (ma_s8 k26)) (congrArg va_rf (ma_r8_1 k26)) ?_
          refine e_iload dX5_bearChildren_113 rfl ?_
          refine z_ild (us g (r d)) dX5_bearChildren_115 (ma_s10 k26) (by decide) (by omega) (by omega) (isF_us H27 (by omega) (by omega)) ?_
          have y30 := wB_u (isF_w H27).1 (show 0 ≤ (r d) by omega) (by omega)
          refine z_bipush (10) dX5_bearChildren_116 rfl ?_
          refine e_aload_n dX5_bearChildren_118 rfl ?_
          refine e_get (.ref (y + 12)) dX5_bearChildren_119 tf_5_190 (congrArg Prod.fst (ma_s8 k26)) (congrArg va_rf (ma_r8_3 k26)) ?_
          refine e_iload dX5_bearChildren_122 rfl ?_
          refine z_ild (uh g (r d)) dX5_bearChildren_124 (ma_s12 k26) (by decide) (by omega) (by omega) (isF_uh H27 (by omega) (by omega)) ?_
          have y31 := wB_u (isF_w H27).1 (show 0 ≤ (r d) by omega) (by omega)
          have S2 : rI h23 (y + 24) 5 = cnZ r d := ((frm_r f24 (by omega))).trans I3.1.2.1
          refine e_callV [.int _, .int _, .int _, .int _] dX5_bearChildren_125 tm_5_193 rfl (Nat.le_of_ble_eq_true rfl) (congrArg Prod.fst (ma_s24 k26)) (Nat.le_of_ble_eq_true rfl) (Nat.le_refl _) (Nat.le_refl _) rfl (zp_X0_add_in (ma_bl24 k26) (cnZ r d) (((dl g d) + (ul g (r d))) / 2) ⟨by omega, by omega⟩ (us g (r d)) ⟨by omega, by omega⟩ 10 ⟨by omega, by omega⟩ (uh g (r d)) ⟨by omega, by omega⟩ ⟨S2, by omega, by omega⟩ (fun  h32 f33 p34 => ?_))
          have k35 := lk_q (frm_s f33) k26
          have H36 := isF_c f33 (fun a k q1 q2 => by omega) H27
          have H37 := mrC_c f33 (fun a k q => by omega) H28
          have FR38 := frm_t FR29 (frm_m (S' := (fun a k => y + 17 ≤ a ∧ a < y + 33)) f33 (fun a k q => by omega))
          skip
          refine z_iinc (L' := [_, _, _, _, _, _]) dX5_bearChildren_128 rfl rfl ?_
          refine e_goto 25 dX5_bearChildren_131 rfl ?_
          exact mEv_wk (by exact ⟨Or.inr rfl, Or.inr rfl, Or.inr rfl, Or.inr rfl, Or.inl rfl, Or.inl rfl, trivial⟩) (ih8 _ (by omega) (d + 1) h32 rfl k35 H36 H37 FR38 (by omega) (chI_y (by omega) (by omega) I3 f24 p25 f33 p34))
  exact lp8 _ 0 h1 rfl k4 H5 H6 FR7 (by omega) (chI_0 CL)
