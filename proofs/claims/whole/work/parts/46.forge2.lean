/-! FORGE: LONE, RANK, TIPS -/
theorem dX2_bestLoneCouple_0 : decode cX2_bestLoneCouple 0 = .ok (.iconst (-1), 1) := by decide +kernel
theorem dX2_bestLoneCouple_1 : decode cX2_bestLoneCouple 1 = .ok (.istore_n 1, 1) := by decide +kernel
theorem dX2_bestLoneCouple_2 : decode cX2_bestLoneCouple 2 = .ok (.iconst (-1), 1) := by decide +kernel
theorem dX2_bestLoneCouple_3 : decode cX2_bestLoneCouple 3 = .ok (.istore_n 2, 1) := by decide +kernel
theorem dX2_bestLoneCouple_4 : decode cX2_bestLoneCouple 4 = .ok (.iconst 0, 1) := by decide +kernel
theorem dX2_bestLoneCouple_5 : decode cX2_bestLoneCouple 5 = .ok (.istore_n 3, 1) := by decide +kernel
theorem dX2_bestLoneCouple_6 : decode cX2_bestLoneCouple 6 = .ok (.iload_n 3, 1) := by decide +kernel
theorem dX2_bestLoneCouple_7 : decode cX2_bestLoneCouple 7 = .ok (.aload_n 0, 1) := by decide +kernel
theorem dX2_bestLoneCouple_8 : decode cX2_bestLoneCouple 8 = .ok (.getfield 12, 3) := by decide +kernel
theorem dX2_bestLoneCouple_11 : decode cX2_bestLoneCouple 11 = .ok (.getfield 87, 3) := by decide +kernel
theorem dX2_bestLoneCouple_14 : decode cX2_bestLoneCouple 14 = .ok (.if_icmp .ge 84, 3) := by decide +kernel
theorem dX2_bestLoneCouple_17 : decode cX2_bestLoneCouple 17 = .ok (.iconst 0, 1) := by decide +kernel
theorem dX2_bestLoneCouple_18 : decode cX2_bestLoneCouple 18 = .ok (.istore 4, 2) := by decide +kernel
theorem dX2_bestLoneCouple_20 : decode cX2_bestLoneCouple 20 = .ok (.iload 4, 2) := by decide +kernel
theorem dX2_bestLoneCouple_22 : decode cX2_bestLoneCouple 22 = .ok (.aload_n 0, 1) := by decide +kernel
theorem dX2_bestLoneCouple_23 : decode cX2_bestLoneCouple 23 = .ok (.getfield 18, 3) := by decide +kernel
theorem dX2_bestLoneCouple_26 : decode cX2_bestLoneCouple 26 = .ok (.getfield 87, 3) := by decide +kernel
theorem dX2_bestLoneCouple_29 : decode cX2_bestLoneCouple 29 = .ok (.if_icmp .ge 63, 3) := by decide +kernel
theorem dX2_bestLoneCouple_32 : decode cX2_bestLoneCouple 32 = .ok (.aload_n 0, 1) := by decide +kernel
theorem dX2_bestLoneCouple_33 : decode cX2_bestLoneCouple 33 = .ok (.getfield 12, 3) := by decide +kernel
theorem dX2_bestLoneCouple_36 : decode cX2_bestLoneCouple 36 = .ok (.getfield 42, 3) := by decide +kernel
theorem dX2_bestLoneCouple_39 : decode cX2_bestLoneCouple 39 = .ok (.iload_n 3, 1) := by decide +kernel
theorem dX2_bestLoneCouple_40 : decode cX2_bestLoneCouple 40 = .ok (.iaload, 1) := by decide +kernel
theorem dX2_bestLoneCouple_41 : decode cX2_bestLoneCouple 41 = .ok (.iconst (-1), 1) := by decide +kernel
theorem dX2_bestLoneCouple_42 : decode cX2_bestLoneCouple 42 = .ok (.if_icmp .ne 44, 3) := by decide +kernel
theorem dX2_bestLoneCouple_45 : decode cX2_bestLoneCouple 45 = .ok (.aload_n 0, 1) := by decide +kernel
theorem dX2_bestLoneCouple_46 : decode cX2_bestLoneCouple 46 = .ok (.getfield 18, 3) := by decide +kernel
theorem dX2_bestLoneCouple_49 : decode cX2_bestLoneCouple 49 = .ok (.getfield 42, 3) := by decide +kernel
theorem dX2_bestLoneCouple_52 : decode cX2_bestLoneCouple 52 = .ok (.iload 4, 2) := by decide +kernel
theorem dX2_bestLoneCouple_54 : decode cX2_bestLoneCouple 54 = .ok (.iaload, 1) := by decide +kernel
theorem dX2_bestLoneCouple_55 : decode cX2_bestLoneCouple 55 = .ok (.iconst (-1), 1) := by decide +kernel
theorem dX2_bestLoneCouple_56 : decode cX2_bestLoneCouple 56 = .ok (.if_icmp .ne 30, 3) := by decide +kernel
theorem dX2_bestLoneCouple_59 : decode cX2_bestLoneCouple 59 = .ok (.aload_n 0, 1) := by decide +kernel
theorem dX2_bestLoneCouple_60 : decode cX2_bestLoneCouple 60 = .ok (.iload_n 3, 1) := by decide +kernel
theorem dX2_bestLoneCouple_61 : decode cX2_bestLoneCouple 61 = .ok (.iload 4, 2) := by decide +kernel
theorem dX2_bestLoneCouple_63 : decode cX2_bestLoneCouple 63 = .ok (.invokevirtual 71, 3) := by decide +kernel
theorem dX2_bestLoneCouple_66 : decode cX2_bestLoneCouple 66 = .ok (.iload_n 2, 1) := by decide +kernel
theorem dX2_bestLoneCouple_67 : decode cX2_bestLoneCouple 67 = .ok (.if_icmp .le 19, 3) := by decide +kernel
theorem dX2_bestLoneCouple_70 : decode cX2_bestLoneCouple 70 = .ok (.aload_n 0, 1) := by decide +kernel
theorem dX2_bestLoneCouple_71 : decode cX2_bestLoneCouple 71 = .ok (.iload_n 3, 1) := by decide +kernel
theorem dX2_bestLoneCouple_72 : decode cX2_bestLoneCouple 72 = .ok (.iload 4, 2) := by decide +kernel
theorem dX2_bestLoneCouple_74 : decode cX2_bestLoneCouple 74 = .ok (.invokevirtual 71, 3) := by decide +kernel
theorem dX2_bestLoneCouple_77 : decode cX2_bestLoneCouple 77 = .ok (.istore_n 2, 1) := by decide +kernel
theorem dX2_bestLoneCouple_78 : decode cX2_bestLoneCouple 78 = .ok (.bipush 6, 2) := by decide +kernel
theorem dX2_bestLoneCouple_80 : decode cX2_bestLoneCouple 80 = .ok (.iload_n 3, 1) := by decide +kernel
theorem dX2_bestLoneCouple_81 : decode cX2_bestLoneCouple 81 = .ok (.imul, 1) := by decide +kernel
theorem dX2_bestLoneCouple_82 : decode cX2_bestLoneCouple 82 = .ok (.iload 4, 2) := by decide +kernel
theorem dX2_bestLoneCouple_84 : decode cX2_bestLoneCouple 84 = .ok (.iadd, 1) := by decide +kernel
theorem dX2_bestLoneCouple_85 : decode cX2_bestLoneCouple 85 = .ok (.istore_n 1, 1) := by decide +kernel
theorem dX2_bestLoneCouple_86 : decode cX2_bestLoneCouple 86 = .ok (.iinc 4 1, 3) := by decide +kernel
theorem dX2_bestLoneCouple_89 : decode cX2_bestLoneCouple 89 = .ok (.goto (-69), 3) := by decide +kernel
theorem dX2_bestLoneCouple_92 : decode cX2_bestLoneCouple 92 = .ok (.iinc 3 1, 3) := by decide +kernel
theorem dX2_bestLoneCouple_95 : decode cX2_bestLoneCouple 95 = .ok (.goto (-89), 3) := by decide +kernel
theorem dX2_bestLoneCouple_98 : decode cX2_bestLoneCouple 98 = .ok (.iload_n 1, 1) := by decide +kernel
theorem dX2_bestLoneCouple_99 : decode cX2_bestLoneCouple 99 = .ok (.ireturn, 1) := by decide +kernel
theorem dX2_pairByPower_0 : decode cX2_pairByPower 0 = .ok (.iconst 0, 1) := by decide +kernel
theorem dX2_pairByPower_1 : decode cX2_pairByPower 1 = .ok (.istore_n 2, 1) := by decide +kernel
theorem dX2_pairByPower_2 : decode cX2_pairByPower 2 = .ok (.iload_n 2, 1) := by decide +kernel
theorem dX2_pairByPower_3 : decode cX2_pairByPower 3 = .ok (.aload_n 0, 1) := by decide +kernel
theorem dX2_pairByPower_4 : decode cX2_pairByPower 4 = .ok (.getfield 12, 3) := by decide +kernel
theorem dX2_pairByPower_7 : decode cX2_pairByPower 7 = .ok (.getfield 87, 3) := by decide +kernel
theorem dX2_pairByPower_10 : decode cX2_pairByPower 10 = .ok (.if_icmp .ge 29, 3) := by decide +kernel
theorem dX2_pairByPower_13 : decode cX2_pairByPower 13 = .ok (.aload_n 0, 1) := by decide +kernel
theorem dX2_pairByPower_14 : decode cX2_pairByPower 14 = .ok (.iload_n 2, 1) := by decide +kernel
theorem dX2_pairByPower_15 : decode cX2_pairByPower 15 = .ok (.invokevirtual 77, 3) := by decide +kernel
theorem dX2_pairByPower_18 : decode cX2_pairByPower 18 = .ok (.iconst (-1), 1) := by decide +kernel
theorem dX2_pairByPower_19 : decode cX2_pairByPower 19 = .ok (.if_icmp .eq 14, 3) := by decide +kernel
theorem dX2_pairByPower_22 : decode cX2_pairByPower 22 = .ok (.aload_n 0, 1) := by decide +kernel
theorem dX2_pairByPower_23 : decode cX2_pairByPower 23 = .ok (.iload_n 2, 1) := by decide +kernel
theorem dX2_pairByPower_24 : decode cX2_pairByPower 24 = .ok (.invokevirtual 90, 3) := by decide +kernel
theorem dX2_pairByPower_27 : decode cX2_pairByPower 27 = .ok (.iload_n 1, 1) := by decide +kernel
theorem dX2_pairByPower_28 : decode cX2_pairByPower 28 = .ok (.if_icmp .ne 5, 3) := by decide +kernel
theorem dX2_pairByPower_31 : decode cX2_pairByPower 31 = .ok (.iload_n 2, 1) := by decide +kernel
theorem dX2_pairByPower_32 : decode cX2_pairByPower 32 = .ok (.ireturn, 1) := by decide +kernel
theorem dX2_pairByPower_33 : decode cX2_pairByPower 33 = .ok (.iinc 2 1, 3) := by decide +kernel
theorem dX2_pairByPower_36 : decode cX2_pairByPower 36 = .ok (.goto (-34), 3) := by decide +kernel
theorem dX2_pairByPower_39 : decode cX2_pairByPower 39 = .ok (.iconst (-1), 1) := by decide +kernel
theorem dX2_pairByPower_40 : decode cX2_pairByPower 40 = .ok (.ireturn, 1) := by decide +kernel
theorem dX2_strongerThan_0 : decode cX2_strongerThan 0 = .ok (.aload_n 0, 1) := by decide +kernel
theorem dX2_strongerThan_1 : decode cX2_strongerThan 1 = .ok (.iload_n 1, 1) := by decide +kernel
theorem dX2_strongerThan_2 : decode cX2_strongerThan 2 = .ok (.aload_n 0, 1) := by decide +kernel
theorem dX2_strongerThan_3 : decode cX2_strongerThan 3 = .ok (.iload_n 1, 1) := by decide +kernel
theorem dX2_strongerThan_4 : decode cX2_strongerThan 4 = .ok (.invokevirtual 77, 3) := by decide +kernel
theorem dX2_strongerThan_7 : decode cX2_strongerThan 7 = .ok (.iconst 0, 1) := by decide +kernel
theorem dX2_strongerThan_8 : decode cX2_strongerThan 8 = .ok (.invokevirtual 83, 3) := by decide +kernel
theorem dX2_strongerThan_11 : decode cX2_strongerThan 11 = .ok (.istore_n 2, 1) := by decide +kernel
theorem dX2_strongerThan_12 : decode cX2_strongerThan 12 = .ok (.iconst 0, 1) := by decide +kernel
theorem dX2_strongerThan_13 : decode cX2_strongerThan 13 = .ok (.istore_n 3, 1) := by decide +kernel
theorem dX2_strongerThan_14 : decode cX2_strongerThan 14 = .ok (.iconst 0, 1) := by decide +kernel
theorem dX2_strongerThan_15 : decode cX2_strongerThan 15 = .ok (.istore 4, 2) := by decide +kernel
theorem dX2_strongerThan_17 : decode cX2_strongerThan 17 = .ok (.iload 4, 2) := by decide +kernel
theorem dX2_strongerThan_19 : decode cX2_strongerThan 19 = .ok (.aload_n 0, 1) := by decide +kernel
theorem dX2_strongerThan_20 : decode cX2_strongerThan 20 = .ok (.getfield 12, 3) := by decide +kernel
theorem dX2_strongerThan_23 : decode cX2_strongerThan 23 = .ok (.getfield 87, 3) := by decide +kernel
theorem dX2_strongerThan_26 : decode cX2_strongerThan 26 = .ok (.if_icmp .ge 60, 3) := by decide +kernel
theorem dX2_strongerThan_29 : decode cX2_strongerThan 29 = .ok (.aload_n 0, 1) := by decide +kernel
theorem dX2_strongerThan_30 : decode cX2_strongerThan 30 = .ok (.iload 4, 2) := by decide +kernel
theorem dX2_strongerThan_32 : decode cX2_strongerThan 32 = .ok (.invokevirtual 77, 3) := by decide +kernel
theorem dX2_strongerThan_35 : decode cX2_strongerThan 35 = .ok (.iconst (-1), 1) := by decide +kernel
theorem dX2_strongerThan_36 : decode cX2_strongerThan 36 = .ok (.if_icmp .eq 44, 3) := by decide +kernel
theorem dX2_strongerThan_39 : decode cX2_strongerThan 39 = .ok (.aload_n 0, 1) := by decide +kernel
theorem dX2_strongerThan_40 : decode cX2_strongerThan 40 = .ok (.iload 4, 2) := by decide +kernel
theorem dX2_strongerThan_42 : decode cX2_strongerThan 42 = .ok (.aload_n 0, 1) := by decide +kernel
theorem dX2_strongerThan_43 : decode cX2_strongerThan 43 = .ok (.iload 4, 2) := by decide +kernel
theorem dX2_strongerThan_45 : decode cX2_strongerThan 45 = .ok (.invokevirtual 77, 3) := by decide +kernel
theorem dX2_strongerThan_48 : decode cX2_strongerThan 48 = .ok (.iconst 0, 1) := by decide +kernel
theorem dX2_strongerThan_49 : decode cX2_strongerThan 49 = .ok (.invokevirtual 83, 3) := by decide +kernel
theorem dX2_strongerThan_52 : decode cX2_strongerThan 52 = .ok (.iload_n 2, 1) := by decide +kernel
theorem dX2_strongerThan_53 : decode cX2_strongerThan 53 = .ok (.isub, 1) := by decide +kernel
theorem dX2_strongerThan_54 : decode cX2_strongerThan 54 = .ok (.istore 5, 2) := by decide +kernel
theorem dX2_strongerThan_56 : decode cX2_strongerThan 56 = .ok (.iload_n 3, 1) := by decide +kernel
theorem dX2_strongerThan_57 : decode cX2_strongerThan 57 = .ok (.iload 5, 2) := by decide +kernel
theorem dX2_strongerThan_59 : decode cX2_strongerThan 59 = .ok (.ifCond .gt 14, 3) := by decide +kernel
theorem dX2_strongerThan_62 : decode cX2_strongerThan 62 = .ok (.iload 5, 2) := by decide +kernel
theorem dX2_strongerThan_64 : decode cX2_strongerThan 64 = .ok (.ifCond .ne 13, 3) := by decide +kernel
theorem dX2_strongerThan_67 : decode cX2_strongerThan 67 = .ok (.iload 4, 2) := by decide +kernel
theorem dX2_strongerThan_69 : decode cX2_strongerThan 69 = .ok (.iload_n 1, 1) := by decide +kernel
theorem dX2_strongerThan_70 : decode cX2_strongerThan 70 = .ok (.if_icmp .ge 7, 3) := by decide +kernel
theorem dX2_strongerThan_73 : decode cX2_strongerThan 73 = .ok (.iconst 1, 1) := by decide +kernel
theorem dX2_strongerThan_74 : decode cX2_strongerThan 74 = .ok (.goto 4, 3) := by decide +kernel
theorem dX2_strongerThan_77 : decode cX2_strongerThan 77 = .ok (.iconst 0, 1) := by decide +kernel
theorem dX2_strongerThan_78 : decode cX2_strongerThan 78 = .ok (.iadd, 1) := by decide +kernel
theorem dX2_strongerThan_79 : decode cX2_strongerThan 79 = .ok (.istore_n 3, 1) := by decide +kernel
theorem dX2_strongerThan_80 : decode cX2_strongerThan 80 = .ok (.iinc 4 1, 3) := by decide +kernel
theorem dX2_strongerThan_83 : decode cX2_strongerThan 83 = .ok (.goto (-66), 3) := by decide +kernel
theorem dX2_strongerThan_86 : decode cX2_strongerThan 86 = .ok (.iload_n 3, 1) := by decide +kernel
theorem dX2_strongerThan_87 : decode cX2_strongerThan 87 = .ok (.ireturn, 1) := by decide +kernel
theorem dX2_likeLengths_0 : decode cX2_likeLengths 0 = .ok (.iconst 0, 1) := by decide +kernel
theorem dX2_likeLengths_1 : decode cX2_likeLengths 1 = .ok (.istore_n 1, 1) := by decide +kernel
theorem dX2_likeLengths_2 : decode cX2_likeLengths 2 = .ok (.iconst 0, 1) := by decide +kernel
theorem dX2_likeLengths_3 : decode cX2_likeLengths 3 = .ok (.istore_n 2, 1) := by decide +kernel
theorem dX2_likeLengths_4 : decode cX2_likeLengths 4 = .ok (.iload_n 2, 1) := by decide +kernel
theorem dX2_likeLengths_5 : decode cX2_likeLengths 5 = .ok (.aload_n 0, 1) := by decide +kernel
theorem dX2_likeLengths_6 : decode cX2_likeLengths 6 = .ok (.getfield 12, 3) := by decide +kernel
theorem dX2_likeLengths_9 : decode cX2_likeLengths 9 = .ok (.getfield 87, 3) := by decide +kernel
theorem dX2_likeLengths_12 : decode cX2_likeLengths 12 = .ok (.if_icmp .ge 44, 3) := by decide +kernel
theorem dX2_likeLengths_15 : decode cX2_likeLengths 15 = .ok (.aload_n 0, 1) := by decide +kernel
theorem dX2_likeLengths_16 : decode cX2_likeLengths 16 = .ok (.iload_n 2, 1) := by decide +kernel
theorem dX2_likeLengths_17 : decode cX2_likeLengths 17 = .ok (.invokevirtual 77, 3) := by decide +kernel
theorem dX2_likeLengths_20 : decode cX2_likeLengths 20 = .ok (.istore_n 3, 1) := by decide +kernel
theorem dX2_likeLengths_21 : decode cX2_likeLengths 21 = .ok (.iload_n 3, 1) := by decide +kernel
theorem dX2_likeLengths_22 : decode cX2_likeLengths 22 = .ok (.iconst (-1), 1) := by decide +kernel
theorem dX2_likeLengths_23 : decode cX2_likeLengths 23 = .ok (.if_icmp .eq 27, 3) := by decide +kernel
theorem dX2_likeLengths_26 : decode cX2_likeLengths 26 = .ok (.aload_n 0, 1) := by decide +kernel
theorem dX2_likeLengths_27 : decode cX2_likeLengths 27 = .ok (.getfield 12, 3) := by decide +kernel
theorem dX2_likeLengths_30 : decode cX2_likeLengths 30 = .ok (.getfield 53, 3) := by decide +kernel
theorem dX2_likeLengths_33 : decode cX2_likeLengths 33 = .ok (.iload_n 2, 1) := by decide +kernel
theorem dX2_likeLengths_34 : decode cX2_likeLengths 34 = .ok (.iaload, 1) := by decide +kernel
theorem dX2_likeLengths_35 : decode cX2_likeLengths 35 = .ok (.aload_n 0, 1) := by decide +kernel
theorem dX2_likeLengths_36 : decode cX2_likeLengths 36 = .ok (.getfield 18, 3) := by decide +kernel
theorem dX2_likeLengths_39 : decode cX2_likeLengths 39 = .ok (.getfield 53, 3) := by decide +kernel
theorem dX2_likeLengths_42 : decode cX2_likeLengths 42 = .ok (.iload_n 3, 1) := by decide +kernel
theorem dX2_likeLengths_43 : decode cX2_likeLengths 43 = .ok (.iaload, 1) := by decide +kernel
theorem dX2_likeLengths_44 : decode cX2_likeLengths 44 = .ok (.if_icmp .ne 6, 3) := by decide +kernel
theorem dX2_likeLengths_47 : decode cX2_likeLengths 47 = .ok (.iinc 1 1, 3) := by decide +kernel
theorem dX2_likeLengths_50 : decode cX2_likeLengths 50 = .ok (.iinc 2 1, 3) := by decide +kernel
theorem dX2_likeLengths_53 : decode cX2_likeLengths 53 = .ok (.goto (-49), 3) := by decide +kernel
theorem dX2_likeLengths_56 : decode cX2_likeLengths 56 = .ok (.iload_n 1, 1) := by decide +kernel
theorem dX2_likeLengths_57 : decode cX2_likeLengths 57 = .ok (.ireturn, 1) := by decide +kernel
theorem tf_2_87 : tFld TB0 2 87 = some (0, 5) := rfl
set_option maxRecDepth 20000 in
theorem tm_2_90 : tMet TB0 2 90 = some (0, M_X2_strongerThan) := rfl
/-- the first of the greatest: of the numbers below N with P, by s; -1 if there is none -/
def fmax (P : Int → Prop) (s : Int → Int) (N v : Int) : Prop := (v = -1 ∧ ∀ k, 0 ≤ k → k < N → ¬ P k) ∨ ((0 ≤ v ∧ v < N) ∧ P v ∧ ∀ k, 0 ≤ k → k < N → P k → s k < s v ∨ (s k = s v ∧ v ≤ k))
theorem fmax_0 (P : Int → Prop) (s : Int → Int) {N : Int} (h : N ≤ 0) : fmax P s N (-1) := Or.inl ⟨rfl, fun k a b => by omega⟩
theorem fmax_skip {P : Int → Prop} {s : Int → Int} {N N' v : Int} (h : fmax P s N v) (hN : N ≤ N') (q : ∀ k, N ≤ k → k < N' → ¬ P k) : fmax P s N' v := by
  rcases h with ⟨a, b⟩ | ⟨a, b, c⟩
  · refine Or.inl ⟨a, fun k x y => ?_⟩
    by_cases z : k < N
    · exact b k x z
    · exact q k (by omega) y
  · refine Or.inr ⟨by omega, b, fun k x y p => ?_⟩
    by_cases z : k < N
    · exact c k x z p
    · exact absurd p (q k (by omega) y)
theorem fmax_no {P : Int → Prop} {s : Int → Int} {N v : Int} (h : fmax P s N v) (q : ¬ P N) : fmax P s (N + 1) v := fmax_skip h (by omega) (fun k a b => by rw [show k = N by omega]; exact q)
theorem fmax_keep {P : Int → Prop} {s : Int → Int} {N v : Int} (h : fmax P s N v) (hv : v ≠ -1) (q : s N ≤ s v) : fmax P s (N + 1) v := by
  rcases h with ⟨a, b⟩ | ⟨a, b, c⟩
  · exact absurd a hv
  · refine Or.inr ⟨by omega, b, fun k x y p => ?_⟩
    by_cases z : k < N
    · exact c k x z p
    · rw [show k = N by omega]; omega
theorem fmax_new {P : Int → Prop} {s : Int → Int} {N v : Int} (h : fmax P s N v) (h0 : 0 ≤ N) (p : P N) (q : v = -1 ∨ s v < s N) : fmax P s (N + 1) N := by
  refine Or.inr ⟨by omega, p, fun k x y pk => ?_⟩
  by_cases z : k < N
  · rcases h with ⟨a, b⟩ | ⟨a, b, c⟩
    · exact absurd pk (b k x z)
    · have := c k x z pk
      omega
  · rw [show k = N by omega]; omega
theorem fmax_u {P : Int → Prop} {s : Int → Int} {N v v' : Int} (h : fmax P s N v) (h' : fmax P s N v') : v = v' := by
  rcases h with ⟨a, b⟩ | ⟨a, b, c⟩
  · rcases h' with ⟨a', b'⟩ | ⟨a', b', c'⟩
    · omega
    · exact absurd b' (b _ a'.1 a'.2)
  · rcases h' with ⟨a', b'⟩ | ⟨a', b', c'⟩
    · exact absurd b (b' _ a.1 a.2)
    · have := c v' a'.1 a'.2 b'
      have := c' v a.1 a.2 b
      omega
theorem fmax_b {P : Int → Prop} {s : Int → Int} {N v : Int} (h : fmax P s N v) : v = -1 ∨ (0 ≤ v ∧ v < N) := by
  rcases h with ⟨a, b⟩ | ⟨a, b, c⟩
  · exact Or.inl a
  · exact Or.inr a
theorem fmax_p {P : Int → Prop} {s : Int → Int} {N v : Int} (h : fmax P s N v) (hv : v ≠ -1) : P v := by
  rcases h with ⟨a, b⟩ | ⟨a, b, c⟩
  · exact absurd a hv
  · exact b
/-- the first below N with P -/
def fst1 (P : Int → Prop) (N v : Int) : Prop := (v = -1 ∧ ∀ k, 0 ≤ k → k < N → ¬ P k) ∨ ((0 ≤ v ∧ v < N) ∧ P v ∧ ∀ k, 0 ≤ k → k < v → ¬ P k)
theorem fst1_u {P : Int → Prop} {N v v' : Int} (h : fst1 P N v) (h' : fst1 P N v') : v = v' := by
  rcases h with ⟨a, b⟩ | ⟨a, b, c⟩
  · rcases h' with ⟨a', b'⟩ | ⟨a', b', c'⟩
    · omega
    · exact absurd b' (b _ a'.1 a'.2)
  · rcases h' with ⟨a', b'⟩ | ⟨a', b', c'⟩
    · exact absurd b (b' _ a.1 a.2)
    · rcases Int.lt_trichotomy v v' with q | q | q
      · exact absurd b (c' _ a.1 q)
      · exact q
      · exact absurd b' (c _ a'.1 q)
theorem allS {P : Int → Prop} {i : Int} (h : ∀ k, 0 ≤ k → k < i → ¬ P k) (q : ¬ P i) : ∀ k, 0 ≤ k → k < i + 1 → ¬ P k := fun k a b => by
  by_cases z : k < i
  · exact h k a z
  · rw [show k = i by omega]; exact q
abbrev lonC (g : Int → Int) (k : Int) : Prop := inF g (k / 6) (k % 6) ∧ dm g (k / 6) = -1 ∧ um g (k % 6) = -1
def lonS (g : Int → Int) (k : Int) : Int := fitZ g (k / 6) (k % 6)
abbrev tipP (g : Int → Int) (d : Int) : Prop := upv g d ≠ -1 ∧ dl g d = ul g (upv g d)
def pwZ (g : Int → Int) (d : Int) : Int := powW g d (upv g d) 0
abbrev strP (g : Int → Int) (d e : Int) : Prop := upv g e ≠ -1 ∧ (pwZ g d < pwZ g e ∨ (pwZ g e = pwZ g d ∧ e < d))
def strZ (g : Int → Int) (d : Int) : Int := sumZ (fun e => bZ (strP g d e)) (nd g).toNat
theorem strZ_b {g : Int → Int} (w : wfF g) (d : Int) : 0 ≤ strZ g d ∧ strZ g d ≤ 6 := by
  have a := w.1.1
  have := sumZ_b (f := fun e => bZ (strP g d e)) (lo := 0) (hi := 1) (n := (nd g).toNat) (fun i _ _ => ⟨bZ_lo _, bZ_hi _⟩)
  unfold strZ
  omega
theorem lon_i {i j : Int} (h0 : 0 ≤ j) (h1 : j < 6) : (6 * i + j) / 6 = i ∧ (6 * i + j) % 6 = j := by omega
set_option maxHeartbeats 400000 in
theorem zp_X2_likeLengths {ad : mA} {dd : Nat} {h : mH} {Q : mQ} {f : Nat} {g : Int → Int} (hk : fgk h f) (HF : isF h f g)    (kq : Q (some (.int (zI (sumZ (fun d => bZ (tipP g d)) (nd g).toNat)))) h) : mCal TB0 ad (dd + 3) M_X2_likeLengths [.ref f] h 0 0 Q := by
  refine ⟨Nat.le_of_ble_eq_true rfl, ?_⟩
  show mEv TB0 ad M_X2_likeLengths (dd + 3) (0, 0) (mCal TB0 ad (dd + 2)) (fun v h' z => z.1 = 0 ∧ Q v h') 0 [some (.ref f), none, none, none] [] h (0, 0)
  have w1 := isF_n HF
  have w2 := isF_nd HF
  have w3 := isF_nu HF
  have w4 := isF_nc HF
  have W := isF_w HF
  refine z_iconst (0) dX2_likeLengths_0 rfl ?_
  refine e_istore_n (L' := [_, _, _, _]) dX2_likeLengths_1 (Nat.le_of_ble_eq_true rfl) rfl ?_
  refine z_iconst (0) dX2_likeLengths_2 rfl ?_
  refine e_istore_n (L' := [_, _, _, _]) dX2_likeLengths_3 (Nat.le_of_ble_eq_true rfl) rfl ?_
  have lp1 : ∀ (n1 : Nat) (n i : Int), (nd g - i).toNat = n1 → (0 ≤ i) → (i ≤ nd g) → (n = sumZ (fun d => bZ (tipP g d)) i.toNat) → mEv TB0 ad M_X2_likeLengths (dd + 3) (0, 0) (mCal TB0 ad (dd + 2)) (fun v h' z => z.1 = 0 ∧ Q v h') 4 [some (.ref f), some (.int (zI n)), some (.int (zI i)), none] [] h (0, 0) := by
    intro n1
    induction n1 using Nat.strongRecOn with
    | ind n1 ih1 =>
    intro n i  hn1  I1 I2 I3
    refine e_iload_n dX2_likeLengths_4 rfl ?_
    refine e_aload_n dX2_likeLengths_5 rfl ?_
    refine e_get (.ref (f + 1)) dX2_likeLengths_6 tf_2_12 (congrArg Prod.fst (fg_s0 hk)) (congrArg va_rf (fg_r0_0 hk)) ?_
    refine z_get (nd g) dX2_likeLengths_9 tf_2_87 (congrArg Prod.fst (fg_s1 hk)) (Or.inl rfl) (isF_nd HF) ?_
    have y2 := isF_n HF
    refine z_icmp_ge 56 dX2_likeLengths_12 rfl ⟨by omega, by omega⟩ ⟨by omega, by omega⟩ (fun c3 => ?_) (fun c3 => ?_)
    · skip
      refine e_iload_n dX2_likeLengths_56 rfl ?_
      refine z_iret dX2_likeLengths_57 rfl ⟨rfl, ?_⟩
      refine z_q kq ?_
      rw [I3, show i = nd g by omega]
    · skip
      refine e_aload_n dX2_likeLengths_15 rfl ?_
      refine e_iload_n dX2_likeLengths_16 rfl ?_
      refine e_callV [.int _] dX2_likeLengths_17 tm_2_77 rfl (Nat.le_of_ble_eq_true rfl) (congrArg Prod.fst (fg_s0 hk)) (Nat.le_of_ble_eq_true rfl) (Nat.le_refl _) (Nat.le_refl _) rfl (zp_X2_upOf hk HF i ⟨by omega, by omega⟩ ?_)
      have y4 := upv_s (isF_w HF) i
      refine e_istore_n (L' := [_, _, _, _]) dX2_likeLengths_20 (Nat.le_of_ble_eq_true rfl) rfl ?_
      refine e_iload_n dX2_likeLengths_21 rfl ?_
      refine z_iconst (-1) dX2_likeLengths_22 rfl ?_
      refine z_icmp_eq 50 dX2_likeLengths_23 rfl ⟨by omega, by omega⟩ ⟨by omega, by omega⟩ (fun c5 => ?_) (fun c5 => ?_)
      · skip
        refine z_iinc (L' := [_, _, _, _]) dX2_likeLengths_50 rfl rfl ?_
        refine e_goto 4 dX2_likeLengths_53 rfl ?_
        exact mEv_wk (by exact ⟨Or.inr rfl, Or.inr rfl, Or.inr rfl, Or.inl rfl, trivial⟩) (ih1 _ (by omega) n (i + 1)  rfl  (by omega) (by omega) (by rw [sumZ_s (by omega)]; first | (rw [bZ_1 (by omega)]; omega) | (rw [bZ_0 (by omega)]; omega)))
      · skip
        refine e_aload_n dX2_likeLengths_26 rfl ?_
        refine e_get (.ref (f + 1)) dX2_likeLengths_27 tf_2_12 (congrArg Prod.fst (fg_s0 hk)) (congrArg va_rf (fg_r0_0 hk)) ?_
        refine e_get (.ref (f + 2)) dX2_likeLengths_30 tf_2_53 (congrArg Prod.fst (fg_s1 hk)) (congrArg va_rf (fg_r1_0 hk)) ?_
        refine e_iload_n dX2_likeLengths_33 rfl ?_
        refine z_ild (dl g i) dX2_likeLengths_34 (fg_s2 hk) (by decide) (by omega) (by omega) (isF_dl HF (by omega) (by omega)) ?_
        have y6 := wB_d (isF_w HF).1 (show 0 ≤ i by omega) (by omega)
        refine e_aload_n dX2_likeLengths_35 rfl ?_
        refine e_get (.ref (f + 7)) dX2_likeLengths_36 tf_2_18 (congrArg Prod.fst (fg_s0 hk)) (congrArg va_rf (fg_r0_1 hk)) ?_
        refine e_get (.ref (f + 8)) dX2_likeLengths_39 tf_2_53 (congrArg Prod.fst (fg_s7 hk)) (congrArg va_rf (fg_r7_0 hk)) ?_
        refine e_iload_n dX2_likeLengths_42 rfl ?_
        refine z_ild (ul g (upv g i)) dX2_likeLengths_43 (fg_s8 hk) (by decide) (by omega) (by omega) (isF_ul HF (by omega) (by omega)) ?_
        have y7 := wB_u (isF_w HF).1 (show 0 ≤ (upv g i) by omega) (by omega)
        refine z_icmp_ne 50 dX2_likeLengths_44 rfl ⟨by omega, by omega⟩ ⟨by omega, by omega⟩ (fun c8 => ?_) (fun c8 => ?_)
        · skip
          refine z_iinc (L' := [_, _, _, _]) dX2_likeLengths_50 rfl rfl ?_
          refine e_goto 4 dX2_likeLengths_53 rfl ?_
          exact mEv_wk (by exact ⟨Or.inr rfl, Or.inr rfl, Or.inr rfl, Or.inl rfl, trivial⟩) (ih1 _ (by omega) n (i + 1)  rfl  (by omega) (by omega) (by rw [sumZ_s (by omega)]; first | (rw [bZ_1 (by omega)]; omega) | (rw [bZ_0 (by omega)]; omega)))
        · skip
          refine z_iinc (L' := [_, _, _, _]) dX2_likeLengths_47 rfl rfl ?_
          refine z_iinc (L' := [_, _, _, _]) dX2_likeLengths_50 rfl rfl ?_
          refine e_goto 4 dX2_likeLengths_53 rfl ?_
          exact mEv_wk (by exact ⟨Or.inr rfl, Or.inr rfl, Or.inr rfl, Or.inl rfl, trivial⟩) (ih1 _ (by omega) (n + 1) (i + 1)  rfl  (by omega) (by omega) (by rw [sumZ_s (by omega)]; first | (rw [bZ_1 (by omega)]; omega) | (rw [bZ_0 (by omega)]; omega)))
  exact lp1 _ 0 0  rfl  (by omega) (by omega) rfl
set_option maxHeartbeats 400000 in
theorem zp_X2_strongerThan {ad : mA} {dd : Nat} {h : mH} {Q : mQ} {f : Nat} {g : Int → Int} (hk : fgk h f) (HF : isF h f g)  (d : Int) (d_r : -2147483648 ≤ d ∧ d < 2147483648) (p1 : 0 ≤ d) (p2 : d < nd g) (p3 : upv g d ≠ -1) (kq : Q (some (.int (zI (strZ g d)))) h) : mCal TB0 ad (dd + 4) M_X2_strongerThan [.ref f, .int (zI d)] h 0 0 Q := by
  refine ⟨Nat.le_of_ble_eq_true rfl, ?_⟩
  show mEv TB0 ad M_X2_strongerThan (dd + 4) (0, 0) (mCal TB0 ad (dd + 3)) (fun v h' z => z.1 = 0 ∧ Q v h') 0 [some (.ref f), some (.int (zI d)), none, none, none, none] [] h (0, 0)
  have w1 := isF_n HF
  have w2 := isF_nd HF
  have w3 := isF_nu HF
  have w4 := isF_nc HF
  have W := isF_w HF
  refine e_aload_n dX2_strongerThan_0 rfl ?_
  refine e_iload_n dX2_strongerThan_1 rfl ?_
  refine e_aload_n dX2_strongerThan_2 rfl ?_
  refine e_iload_n dX2_strongerThan_3 rfl ?_
  refine e_callV [.int _] dX2_strongerThan_4 tm_2_77 rfl (Nat.le_of_ble_eq_true rfl) (congrArg Prod.fst (fg_s0 hk)) (Nat.le_of_ble_eq_true rfl) (Nat.le_refl _) (Nat.le_refl _) rfl (zp_X2_upOf hk HF d ⟨by omega, by omega⟩ ?_)
  have y1 := upv_s (isF_w HF) d
  refine z_iconst (0) dX2_strongerThan_7 rfl ?_
  refine e_callV [.int _, .int _, .int _] dX2_strongerThan_8 tm_2_83 rfl (Nat.le_of_ble_eq_true rfl) (congrArg Prod.fst (fg_s0 hk)) (Nat.le_of_ble_eq_true rfl) (Nat.le_refl _) (Nat.le_refl _) rfl (zp_X2_powerOf hk HF d ⟨by omega, by omega⟩ (upv g d) ⟨by omega, by omega⟩ 0 ⟨by omega, by omega⟩ (by omega) (by omega) ?_)
  have y2 := powC_s (isF_w HF) d (upv g d) (show 0 ≤ 0 by omega)
  have eD : (powC g d (upv g d) 0) = pwZ g d := powC_in (by omega)
  refine e_istore_n (L' := [_, _, _, _, _, _]) dX2_strongerThan_11 (Nat.le_of_ble_eq_true rfl) rfl ?_
  refine z_iconst (0) dX2_strongerThan_12 rfl ?_
  refine e_istore_n (L' := [_, _, _, _, _, _]) dX2_strongerThan_13 (Nat.le_of_ble_eq_true rfl) rfl ?_
  refine z_iconst (0) dX2_strongerThan_14 rfl ?_
  refine e_istore (L' := [_, _, _, _, _, _]) dX2_strongerThan_15 (Nat.le_of_ble_eq_true rfl) rfl ?_
  have lp3 : ∀ (n3 : Nat) (n i : Int), (nd g - i).toNat = n3 → (0 ≤ i) → (i ≤ nd g) → (n = sumZ (fun e => bZ (strP g d e)) i.toNat) → mEv TB0 ad M_X2_strongerThan (dd + 4) (0, 0) (mCal TB0 ad (dd + 3)) (fun v h' z => z.1 = 0 ∧ Q v h') 17 [some (.ref f), some (.int (zI d)), some (.int (zI (powC g d (upv g d) 0))), some (.int (zI n)), some (.int (zI i)), none] [] h (0, 0) := by
    intro n3
    induction n3 using Nat.strongRecOn with
    | ind n3 ih3 =>
    intro n i  hn3  I1 I2 I3
    refine e_iload dX2_strongerThan_17 rfl ?_
    refine e_aload_n dX2_strongerThan_19 rfl ?_
    refine e_get (.ref (f + 1)) dX2_strongerThan_20 tf_2_12 (congrArg Prod.fst (fg_s0 hk)) (congrArg va_rf (fg_r0_0 hk)) ?_
    refine z_get (nd g) dX2_strongerThan_23 tf_2_87 (congrArg Prod.fst (fg_s1 hk)) (Or.inl rfl) (isF_nd HF) ?_
    have y4 := isF_n HF
    refine z_icmp_ge 86 dX2_strongerThan_26 rfl ⟨by omega, by omega⟩ ⟨by omega, by omega⟩ (fun c5 => ?_) (fun c5 => ?_)
    · skip
      refine e_iload_n dX2_strongerThan_86 rfl ?_
      refine z_iret dX2_strongerThan_87 rfl ⟨rfl, ?_⟩
      refine z_q kq ?_
      rw [I3, show i = nd g by omega]; rfl
    · skip
      refine e_aload_n dX2_strongerThan_29 rfl ?_
      refine e_iload dX2_strongerThan_30 rfl ?_
      refine e_callV [.int _] dX2_strongerThan_32 tm_2_77 rfl (Nat.le_of_ble_eq_true rfl) (congrArg Prod.fst (fg_s0 hk)) (Nat.le_of_ble_eq_true rfl) (Nat.le_refl _) (Nat.le_refl _) rfl (zp_X2_upOf hk HF i ⟨by omega, by omega⟩ ?_)
      have y6 := upv_s (isF_w HF) i
      refine z_iconst (-1) dX2_strongerThan_35 rfl ?_
      refine z_icmp_eq 80 dX2_strongerThan_36 rfl ⟨by omega, by omega⟩ ⟨by omega, by omega⟩ (fun c7 => ?_) (fun c7 => ?_)
      · skip
        refine z_iinc (L' := [_, _, _, _, _, _]) dX2_strongerThan_80 rfl rfl ?_
        refine e_goto 17 dX2_strongerThan_83 rfl ?_
        exact ih3 _ (by omega) n (i + 1)  rfl  (by omega) (by omega) (by rw [sumZ_s (by omega)]; first | (rw [bZ_1 (by omega)]; omega) | (rw [bZ_0 (by omega)]; omega))
      · skip
        refine e_aload_n dX2_strongerThan_39 rfl ?_
        refine e_iload dX2_strongerThan_40 rfl ?_
        refine e_aload_n dX2_strongerThan_42 rfl ?_
        refine e_iload dX2_strongerThan_43 rfl ?_
        refine e_callV [.int _] dX2_strongerThan_45 tm_2_77 rfl (Nat.le_of_ble_eq_true rfl) (congrArg Prod.fst (fg_s0 hk)) (Nat.le_of_ble_eq_true rfl) (Nat.le_refl _) (Nat.le_refl _) rfl (zp_X2_upOf hk HF i ⟨by omega, by omega⟩ ?_)
        have y8 := upv_s (isF_w HF) i
        refine z_iconst (0) dX2_strongerThan_48 rfl ?_
        refine e_callV [.int _, .int _, .int _] dX2_strongerThan_49 tm_2_83 rfl (Nat.le_of_ble_eq_true rfl) (congrArg Prod.fst (fg_s0 hk)) (Nat.le_of_ble_eq_true rfl) (Nat.le_refl _) (Nat.le_refl _) rfl (zp_X2_powerOf hk HF i ⟨by omega, by omega⟩ (upv g i) ⟨by omega, by omega⟩ 0 ⟨by omega, by omega⟩ (by omega) (by omega) ?_)
        have y9 := powC_s (isF_w HF) i (upv g i) (show 0 ≤ 0 by omega)
        have eE : (powC g i (upv g i) 0) = pwZ g i := powC_in (by omega)
        refine e_iload_n dX2_strongerThan_52 rfl ?_
        refine z_isub dX2_strongerThan_53 ?_
        refine e_istore (L' := [_, _, _, _, _, _]) dX2_strongerThan_54 (Nat.le_of_ble_eq_true rfl) rfl ?_
        refine e_iload_n dX2_strongerThan_56 rfl ?_
        refine e_iload dX2_strongerThan_57 rfl ?_
        refine z_if_gt 73 dX2_strongerThan_59 rfl ⟨by omega, by omega⟩ (fun c10 => ?_) (fun c10 => ?_)
        · skip
          refine z_iconst (1) dX2_strongerThan_73 rfl ?_
          refine e_goto 78 dX2_strongerThan_74 rfl ?_
          refine z_iadd dX2_strongerThan_78 ?_
          refine e_istore_n (L' := [_, _, _, _, _, _]) dX2_strongerThan_79 (Nat.le_of_ble_eq_true rfl) rfl ?_
          refine z_iinc (L' := [_, _, _, _, _, _]) dX2_strongerThan_80 rfl rfl ?_
          refine e_goto 17 dX2_strongerThan_83 rfl ?_
          exact mEv_wk (by exact ⟨Or.inr rfl, Or.inr rfl, Or.inr rfl, Or.inr rfl, Or.inr rfl, Or.inl rfl, trivial⟩) (ih3 _ (by omega) (n + 1) (i + 1)  rfl  (by omega) (by omega) (by rw [sumZ_s (by omega)]; first | (rw [bZ_1 (by omega)]; omega) | (rw [bZ_0 (by omega)]; omega)))
        · skip
          refine e_iload dX2_strongerThan_62 rfl ?_
          refine z_if_ne 77 dX2_strongerThan_64 rfl ⟨by omega, by omega⟩ (fun c11 => ?_) (fun c11 => ?_)
          · skip
            refine z_iconst (0) dX2_strongerThan_77 rfl ?_
            refine z_iadd dX2_strongerThan_78 ?_
            refine e_istore_n (L' := [_, _, _, _, _, _]) dX2_strongerThan_79 (Nat.le_of_ble_eq_true rfl) rfl ?_
            refine z_iinc (L' := [_, _, _, _, _, _]) dX2_strongerThan_80 rfl rfl ?_
            refine e_goto 17 dX2_strongerThan_83 rfl ?_
            exact mEv_wk (by exact ⟨Or.inr rfl, Or.inr rfl, Or.inr rfl, Or.inr rfl, Or.inr rfl, Or.inl rfl, trivial⟩) (ih3 _ (by omega) (n + 0) (i + 1)  rfl  (by omega) (by omega) (by rw [sumZ_s (by omega)]; first | (rw [bZ_1 (by omega)]; omega) | (rw [bZ_0 (by omega)]; omega)))
          · skip
            refine e_iload dX2_strongerThan_67 rfl ?_
            refine e_iload_n dX2_strongerThan_69 rfl ?_
            refine z_icmp_ge 77 dX2_strongerThan_70 rfl ⟨by omega, by omega⟩ ⟨by omega, by omega⟩ (fun c12 => ?_) (fun c12 => ?_)
            · skip
              refine z_iconst (0) dX2_strongerThan_77 rfl ?_
              refine z_iadd dX2_strongerThan_78 ?_
              refine e_istore_n (L' := [_, _, _, _, _, _]) dX2_strongerThan_79 (Nat.le_of_ble_eq_true rfl) rfl ?_
              refine z_iinc (L' := [_, _, _, _, _, _]) dX2_strongerThan_80 rfl rfl ?_
              refine e_goto 17 dX2_strongerThan_83 rfl ?_
              exact mEv_wk (by exact ⟨Or.inr rfl, Or.inr rfl, Or.inr rfl, Or.inr rfl, Or.inr rfl, Or.inl rfl, trivial⟩) (ih3 _ (by omega) (n + 0) (i + 1)  rfl  (by omega) (by omega) (by rw [sumZ_s (by omega)]; first | (rw [bZ_1 (by omega)]; omega) | (rw [bZ_0 (by omega)]; omega)))
            · skip
              refine z_iconst (1) dX2_strongerThan_73 rfl ?_
              refine e_goto 78 dX2_strongerThan_74 rfl ?_
              refine z_iadd dX2_strongerThan_78 ?_
              refine e_istore_n (L' := [_, _, _, _, _, _]) dX2_strongerThan_79 (Nat.le_of_ble_eq_true rfl) rfl ?_
              refine z_iinc (L' := [_, _, _, _, _, _]) dX2_strongerThan_80 rfl rfl ?_
              refine e_goto 17 dX2_strongerThan_83 rfl ?_
              exact mEv_wk (by exact ⟨Or.inr rfl, Or.inr rfl, Or.inr rfl, Or.inr rfl, Or.inr rfl, Or.inl rfl, trivial⟩) (ih3 _ (by omega) (n + 1) (i + 1)  rfl  (by omega) (by omega) (by rw [sumZ_s (by omega)]; first | (rw [bZ_1 (by omega)]; omega) | (rw [bZ_0 (by omega)]; omega)))
  exact lp3 _ 0 0  rfl  (by omega) (by omega) rfl
set_option maxHeartbeats 400000 in
theorem zp_X2_pairByPower {ad : mA} {dd : Nat} {h : mH} {Q : mQ} {f : Nat} {g : Int → Int} (hk : fgk h f) (HF : isF h f g)  (k : Int) (k_r : -2147483648 ≤ k ∧ k < 2147483648)  (kq : ∀ v : Int, (fst1 (fun d => upv g d ≠ -1 ∧ strZ g d = k) (nd g) v) → Q (some (.int (zI v))) h) : mCal TB0 ad (dd + 5) M_X2_pairByPower [.ref f, .int (zI k)] h 0 0 Q := by
  refine ⟨Nat.le_of_ble_eq_true rfl, ?_⟩
  show mEv TB0 ad M_X2_pairByPower (dd + 5) (0, 0) (mCal TB0 ad (dd + 4)) (fun v h' z => z.1 = 0 ∧ Q v h') 0 [some (.ref f), some (.int (zI k)), none] [] h (0, 0)
  have w1 := isF_n HF
  have w2 := isF_nd HF
  have w3 := isF_nu HF
  have w4 := isF_nc HF
  have W := isF_w HF
  refine z_iconst (0) dX2_pairByPower_0 rfl ?_
  refine e_istore_n (L' := [_, _, _]) dX2_pairByPower_1 (Nat.le_of_ble_eq_true rfl) rfl ?_
  have lp1 : ∀ (n1 : Nat) (i : Int), (nd g - i).toNat = n1 → (0 ≤ i) → (i ≤ nd g) → (∀ d, 0 ≤ d → d < i → ¬ (upv g d ≠ -1 ∧ strZ g d = k)) → mEv TB0 ad M_X2_pairByPower (dd + 5) (0, 0) (mCal TB0 ad (dd + 4)) (fun v h' z => z.1 = 0 ∧ Q v h') 2 [some (.ref f), some (.int (zI k)), some (.int (zI i))] [] h (0, 0) := by
    intro n1
    induction n1 using Nat.strongRecOn with
    | ind n1 ih1 =>
    intro i  hn1  I1 I2 I3
    refine e_iload_n dX2_pairByPower_2 rfl ?_
    refine e_aload_n dX2_pairByPower_3 rfl ?_
    refine e_get (.ref (f + 1)) dX2_pairByPower_4 tf_2_12 (congrArg Prod.fst (fg_s0 hk)) (congrArg va_rf (fg_r0_0 hk)) ?_
    refine z_get (nd g) dX2_pairByPower_7 tf_2_87 (congrArg Prod.fst (fg_s1 hk)) (Or.inl rfl) (isF_nd HF) ?_
    have y2 := isF_n HF
    refine z_icmp_ge 39 dX2_pairByPower_10 rfl ⟨by omega, by omega⟩ ⟨by omega, by omega⟩ (fun c3 => ?_) (fun c3 => ?_)
    · skip
      refine z_iconst (-1) dX2_pairByPower_39 rfl ?_
      refine z_iret dX2_pairByPower_40 rfl ⟨rfl, ?_⟩
      refine kq _ ?_
      first | exact Or.inr ⟨by omega, by omega, I3⟩ | exact Or.inl ⟨rfl, fun d a b => I3 d a (by omega)⟩
    · skip
      refine e_aload_n dX2_pairByPower_13 rfl ?_
      refine e_iload_n dX2_pairByPower_14 rfl ?_
      refine e_callV [.int _] dX2_pairByPower_15 tm_2_77 rfl (Nat.le_of_ble_eq_true rfl) (congrArg Prod.fst (fg_s0 hk)) (Nat.le_of_ble_eq_true rfl) (Nat.le_refl _) (Nat.le_refl _) rfl (zp_X2_upOf hk HF i ⟨by omega, by omega⟩ ?_)
      have y4 := upv_s (isF_w HF) i
      refine z_iconst (-1) dX2_pairByPower_18 rfl ?_
      refine z_icmp_eq 33 dX2_pairByPower_19 rfl ⟨by omega, by omega⟩ ⟨by omega, by omega⟩ (fun c5 => ?_) (fun c5 => ?_)
      · skip
        refine z_iinc (L' := [_, _, _]) dX2_pairByPower_33 rfl rfl ?_
        refine e_goto 2 dX2_pairByPower_36 rfl ?_
        exact ih1 _ (by omega) (i + 1)  rfl  (by omega) (by omega) (allS (P := fun d => upv g d ≠ -1 ∧ strZ g d = k) I3 (by omega))
      · skip
        refine e_aload_n dX2_pairByPower_22 rfl ?_
        refine e_iload_n dX2_pairByPower_23 rfl ?_
        refine e_callV [.int _] dX2_pairByPower_24 tm_2_90 rfl (Nat.le_of_ble_eq_true rfl) (congrArg Prod.fst (fg_s0 hk)) (Nat.le_of_ble_eq_true rfl) (Nat.le_refl _) (Nat.le_refl _) rfl (zp_X2_strongerThan hk HF i ⟨by omega, by omega⟩ (by omega) (by omega) (by omega) ?_)
        have y6 := strZ_b (isF_w HF) i
        refine e_iload_n dX2_pairByPower_27 rfl ?_
        refine z_icmp_ne 33 dX2_pairByPower_28 rfl ⟨by omega, by omega⟩ ⟨by omega, by omega⟩ (fun c7 => ?_) (fun c7 => ?_)
        · skip
          refine z_iinc (L' := [_, _, _]) dX2_pairByPower_33 rfl rfl ?_
          refine e_goto 2 dX2_pairByPower_36 rfl ?_
          exact ih1 _ (by omega) (i + 1)  rfl  (by omega) (by omega) (allS (P := fun d => upv g d ≠ -1 ∧ strZ g d = k) I3 (by omega))
        · skip
          refine e_iload_n dX2_pairByPower_31 rfl ?_
          refine z_iret dX2_pairByPower_32 rfl ⟨rfl, ?_⟩
          refine kq _ ?_
          first | exact Or.inr ⟨by omega, by omega, I3⟩ | exact Or.inl ⟨rfl, fun d a b => I3 d a (by omega)⟩
  exact lp1 _ 0  rfl  (by omega) (by omega) (fun d a b => by omega)
set_option maxHeartbeats 400000 in
theorem zp_X2_bestLoneCouple {ad : mA} {dd : Nat} {h : mH} {Q : mQ} {f : Nat} {g : Int → Int} (hk : fgk h f) (HF : isF h f g)    (kq : ∀ v : Int, (fmax (lonC g) (lonS g) 36 v) → Q (some (.int (zI v))) h) : mCal TB0 ad (dd + 3) M_X2_bestLoneCouple [.ref f] h 0 0 Q := by
  refine ⟨Nat.le_of_ble_eq_true rfl, ?_⟩
  show mEv TB0 ad M_X2_bestLoneCouple (dd + 3) (0, 0) (mCal TB0 ad (dd + 2)) (fun v h' z => z.1 = 0 ∧ Q v h') 0 [some (.ref f), none, none, none, none] [] h (0, 0)
  have w1 := isF_n HF
  have w2 := isF_nd HF
  have w3 := isF_nu HF
  have w4 := isF_nc HF
  have W := isF_w HF
  refine z_iconst (-1) dX2_bestLoneCouple_0 rfl ?_
  refine e_istore_n (L' := [_, _, _, _, _]) dX2_bestLoneCouple_1 (Nat.le_of_ble_eq_true rfl) rfl ?_
  refine z_iconst (-1) dX2_bestLoneCouple_2 rfl ?_
  refine e_istore_n (L' := [_, _, _, _, _]) dX2_bestLoneCouple_3 (Nat.le_of_ble_eq_true rfl) rfl ?_
  refine z_iconst (0) dX2_bestLoneCouple_4 rfl ?_
  refine e_istore_n (L' := [_, _, _, _, _]) dX2_bestLoneCouple_5 (Nat.le_of_ble_eq_true rfl) rfl ?_
  have lp1 : ∀ (n1 : Nat) (b s i : Int), (nd g - i).toNat = n1 → (0 ≤ i) → (i ≤ nd g) → (fmax (lonC g) (lonS g) (6 * i) b) → ((b = -1 ∧ s = -1) ∨ (b ≠ -1 ∧ s = lonS g b)) → (-1 ≤ s ∧ s ≤ 30) → mEv TB0 ad M_X2_bestLoneCouple (dd + 3) (0, 0) (mCal TB0 ad (dd + 2)) (fun v h' z => z.1 = 0 ∧ Q v h') 6 [some (.ref f), some (.int (zI b)), some (.int (zI s)), some (.int (zI i)), none] [] h (0, 0) := by
    intro n1
    induction n1 using Nat.strongRecOn with
    | ind n1 ih1 =>
    intro b s i  hn1  I1 I2 I3 I4 I5
    refine e_iload_n dX2_bestLoneCouple_6 rfl ?_
    refine e_aload_n dX2_bestLoneCouple_7 rfl ?_
    refine e_get (.ref (f + 1)) dX2_bestLoneCouple_8 tf_2_12 (congrArg Prod.fst (fg_s0 hk)) (congrArg va_rf (fg_r0_0 hk)) ?_
    refine z_get (nd g) dX2_bestLoneCouple_11 tf_2_87 (congrArg Prod.fst (fg_s1 hk)) (Or.inl rfl) (isF_nd HF) ?_
    have y2 := isF_n HF
    refine z_icmp_ge 98 dX2_bestLoneCouple_14 rfl ⟨by omega, by omega⟩ ⟨by omega, by omega⟩ (fun c3 => ?_) (fun c3 => ?_)
    · skip
      refine e_iload_n dX2_bestLoneCouple_98 rfl ?_
      refine z_iret dX2_bestLoneCouple_99 rfl ⟨rfl, ?_⟩
      refine kq _ ?_
      exact fmax_skip I3 (by omega) (fun k a b q => by obtain ⟨⟨q1, q2⟩, q3⟩ := q; omega)
    · skip
      refine z_iconst (0) dX2_bestLoneCouple_17 rfl ?_
      refine e_istore (L' := [_, _, _, _, _]) dX2_bestLoneCouple_18 (Nat.le_of_ble_eq_true rfl) rfl ?_
      have lp4 : ∀ (n4 : Nat) (b s j : Int), (nu g - j).toNat = n4 → (0 ≤ j) → (j ≤ nu g) → (fmax (lonC g) (lonS g) (6 * i + j) b) → ((b = -1 ∧ s = -1) ∨ (b ≠ -1 ∧ s = lonS g b)) → (-1 ≤ s ∧ s ≤ 30) → mEv TB0 ad M_X2_bestLoneCouple (dd + 3) (0, 0) (mCal TB0 ad (dd + 2)) (fun v h' z => z.1 = 0 ∧ Q v h') 20 [some (.ref f), some (.int (zI b)), some (.int (zI s)), some (.int (zI i)), some (.int (zI j))] [] h (0, 0) := by
        intro n4
        induction n4 using Nat.strongRecOn with
        | ind n4 ih4 =>
        intro b s j  hn4  J1 J2 J3 J4 J5
        refine e_iload dX2_bestLoneCouple_20 rfl ?_
        refine e_aload_n dX2_bestLoneCouple_22 rfl ?_
        refine e_get (.ref (f + 7)) dX2_bestLoneCouple_23 tf_2_18 (congrArg Prod.fst (fg_s0 hk)) (congrArg va_rf (fg_r0_1 hk)) ?_
        refine z_get (nu g) dX2_bestLoneCouple_26 tf_2_87 (congrArg Prod.fst (fg_s7 hk)) (Or.inl rfl) (isF_nu HF) ?_
        have y5 := isF_n HF
        refine z_icmp_ge 92 dX2_bestLoneCouple_29 rfl ⟨by omega, by omega⟩ ⟨by omega, by omega⟩ (fun c6 => ?_) (fun c6 => ?_)
        · skip
          refine z_iinc (L' := [_, _, _, _, _]) dX2_bestLoneCouple_92 rfl rfl ?_
          refine e_goto 6 dX2_bestLoneCouple_95 rfl ?_
          exact mEv_wk (by exact ⟨Or.inr rfl, Or.inr rfl, Or.inr rfl, Or.inr rfl, Or.inl rfl, trivial⟩) (ih1 _ (by omega) b s (i + 1)  rfl  (by omega) (by omega) (fmax_skip J3 (by omega) (fun k a b q => by obtain ⟨⟨q1, q2⟩, q3⟩ := q; omega)) J4 (by omega))
        · skip
          refine e_aload_n dX2_bestLoneCouple_32 rfl ?_
          refine e_get (.ref (f + 1)) dX2_bestLoneCouple_33 tf_2_12 (congrArg Prod.fst (fg_s0 hk)) (congrArg va_rf (fg_r0_0 hk)) ?_
          refine e_get (.ref (f + 6)) dX2_bestLoneCouple_36 tf_2_42 (congrArg Prod.fst (fg_s1 hk)) (congrArg va_rf (fg_r1_4 hk)) ?_
          refine e_iload_n dX2_bestLoneCouple_39 rfl ?_
          refine z_ild (dm g i) dX2_bestLoneCouple_40 (fg_s6 hk) (by decide) (by omega) (by omega) (isF_dm HF (by omega) (by omega)) ?_
          have y7 := wM_d (isF_w HF).2.1 (show 0 ≤ i by omega) (by omega)
          refine z_iconst (-1) dX2_bestLoneCouple_41 rfl ?_
          refine z_icmp_ne 86 dX2_bestLoneCouple_42 rfl ⟨by omega, by omega⟩ ⟨by omega, by omega⟩ (fun c8 => ?_) (fun c8 => ?_)
          · skip
            refine z_iinc (L' := [_, _, _, _, _]) dX2_bestLoneCouple_86 rfl rfl ?_
            refine e_goto 20 dX2_bestLoneCouple_89 rfl ?_
            have e1 := lon_i (i := i) (j := j) J1 (by omega)
            exact ih4 _ (by omega) b s (j + 1)  rfl  (by omega) (by omega) (by rw [← Int.add_assoc]; first | exact fmax_new J3 (by omega) (by show inF g _ _ ∧ _ ∧ _; rw [e1.1, e1.2]; omega) (by unfold lonS at J4 ⊢; rw [e1.1, e1.2]; omega) | exact fmax_no J3 (by show ¬ (inF g _ _ ∧ _ ∧ _); rw [e1.1, e1.2]; omega) | exact fmax_keep J3 (by omega) (by unfold lonS at J4 ⊢; rw [e1.1, e1.2]; omega)) (by first | exact J4 | exact Or.inr ⟨by omega, by unfold lonS; rw [e1.1, e1.2]; omega⟩) (by omega)
          · skip
            refine e_aload_n dX2_bestLoneCouple_45 rfl ?_
            refine e_get (.ref (f + 7)) dX2_bestLoneCouple_46 tf_2_18 (congrArg Prod.fst (fg_s0 hk)) (congrArg va_rf (fg_r0_1 hk)) ?_
            refine e_get (.ref (f + 12)) dX2_bestLoneCouple_49 tf_2_42 (congrArg Prod.fst (fg_s7 hk)) (congrArg va_rf (fg_r7_4 hk)) ?_
            refine e_iload dX2_bestLoneCouple_52 rfl ?_
            refine z_ild (um g j) dX2_bestLoneCouple_54 (fg_s12 hk) (by decide) (by omega) (by omega) (isF_um HF (by omega) (by omega)) ?_
            have y9 := wM_u (isF_w HF).2.1 (show 0 ≤ j by omega) (by omega)
            refine z_iconst (-1) dX2_bestLoneCouple_55 rfl ?_
            refine z_icmp_ne 86 dX2_bestLoneCouple_56 rfl ⟨by omega, by omega⟩ ⟨by omega, by omega⟩ (fun c10 => ?_) (fun c10 => ?_)
            · skip
              refine z_iinc (L' := [_, _, _, _, _]) dX2_bestLoneCouple_86 rfl rfl ?_
              refine e_goto 20 dX2_bestLoneCouple_89 rfl ?_
              have e1 := lon_i (i := i) (j := j) J1 (by omega)
              exact ih4 _ (by omega) b s (j + 1)  rfl  (by omega) (by omega) (by rw [← Int.add_assoc]; first | exact fmax_new J3 (by omega) (by show inF g _ _ ∧ _ ∧ _; rw [e1.1, e1.2]; omega) (by unfold lonS at J4 ⊢; rw [e1.1, e1.2]; omega) | exact fmax_no J3 (by show ¬ (inF g _ _ ∧ _ ∧ _); rw [e1.1, e1.2]; omega) | exact fmax_keep J3 (by omega) (by unfold lonS at J4 ⊢; rw [e1.1, e1.2]; omega)) (by first | exact J4 | exact Or.inr ⟨by omega, by unfold lonS; rw [e1.1, e1.2]; omega⟩) (by omega)
            · skip
              refine e_aload_n dX2_bestLoneCouple_59 rfl ?_
              refine e_iload_n dX2_bestLoneCouple_60 rfl ?_
              refine e_iload dX2_bestLoneCouple_61 rfl ?_
              refine e_callV [.int _, .int _] dX2_bestLoneCouple_63 tm_2_71 rfl (Nat.le_of_ble_eq_true rfl) (congrArg Prod.fst (fg_s0 hk)) (Nat.le_of_ble_eq_true rfl) (Nat.le_refl _) (Nat.le_refl _) rfl (zp_X2_fitOf hk HF i ⟨by omega, by omega⟩ j ⟨by omega, by omega⟩ ?_)
              have y11 := fitC_s g i j
              refine e_iload_n dX2_bestLoneCouple_66 rfl ?_
              refine z_icmp_le 86 dX2_bestLoneCouple_67 rfl ⟨by omega, by omega⟩ ⟨by omega, by omega⟩ (fun c12 => ?_) (fun c12 => ?_)
              · skip
                refine z_iinc (L' := [_, _, _, _, _]) dX2_bestLoneCouple_86 rfl rfl ?_
                refine e_goto 20 dX2_bestLoneCouple_89 rfl ?_
                have e1 := lon_i (i := i) (j := j) J1 (by omega)
                exact ih4 _ (by omega) b s (j + 1)  rfl  (by omega) (by omega) (by rw [← Int.add_assoc]; first | exact fmax_new J3 (by omega) (by show inF g _ _ ∧ _ ∧ _; rw [e1.1, e1.2]; omega) (by unfold lonS at J4 ⊢; rw [e1.1, e1.2]; omega) | exact fmax_no J3 (by show ¬ (inF g _ _ ∧ _ ∧ _); rw [e1.1, e1.2]; omega) | exact fmax_keep J3 (by omega) (by unfold lonS at J4 ⊢; rw [e1.1, e1.2]; omega)) (by first | exact J4 | exact Or.inr ⟨by omega, by unfold lonS; rw [e1.1, e1.2]; omega⟩) (by omega)
              · skip
                refine e_aload_n dX2_bestLoneCouple_70 rfl ?_
                refine e_iload_n dX2_bestLoneCouple_71 rfl ?_
                refine e_iload dX2_bestLoneCouple_72 rfl ?_
                refine e_callV [.int _, .int _] dX2_bestLoneCouple_74 tm_2_71 rfl (Nat.le_of_ble_eq_true rfl) (congrArg Prod.fst (fg_s0 hk)) (Nat.le_of_ble_eq_true rfl) (Nat.le_refl _) (Nat.le_refl _) rfl (zp_X2_fitOf hk HF i ⟨by omega, by omega⟩ j ⟨by omega, by omega⟩ ?_)
                have y13 := fitC_s g i j
                refine e_istore_n (L' := [_, _, _, _, _]) dX2_bestLoneCouple_77 (Nat.le_of_ble_eq_true rfl) rfl ?_
                refine z_bipush (6) dX2_bestLoneCouple_78 rfl ?_
                refine e_iload_n dX2_bestLoneCouple_80 rfl ?_
                refine z_imul dX2_bestLoneCouple_81 ?_
                refine e_iload dX2_bestLoneCouple_82 rfl ?_
                refine z_iadd dX2_bestLoneCouple_84 ?_
                refine e_istore_n (L' := [_, _, _, _, _]) dX2_bestLoneCouple_85 (Nat.le_of_ble_eq_true rfl) rfl ?_
                refine z_iinc (L' := [_, _, _, _, _]) dX2_bestLoneCouple_86 rfl rfl ?_
                refine e_goto 20 dX2_bestLoneCouple_89 rfl ?_
                have e1 := lon_i (i := i) (j := j) J1 (by omega)
                exact ih4 _ (by omega) ((6 * i) + j) (fitC g i j) (j + 1)  rfl  (by omega) (by omega) (by rw [← Int.add_assoc]; first | exact fmax_new J3 (by omega) (by show inF g _ _ ∧ _ ∧ _; rw [e1.1, e1.2]; omega) (by unfold lonS at J4 ⊢; rw [e1.1, e1.2]; omega) | exact fmax_no J3 (by show ¬ (inF g _ _ ∧ _ ∧ _); rw [e1.1, e1.2]; omega) | exact fmax_keep J3 (by omega) (by unfold lonS at J4 ⊢; rw [e1.1, e1.2]; omega)) (by first | exact J4 | exact Or.inr ⟨by omega, by unfold lonS; rw [e1.1, e1.2]; omega⟩) (by omega)
      exact lp4 _ b s 0  rfl  (by omega) (by omega) (by rw [Int.add_zero]; exact I3) I4 (by omega)
  exact lp1 _ (-1) (-1) 0  rfl  (by omega) (by omega) (fmax_0 _ _ (by omega)) (by omega) (by omega)
