/-! SETTLES of the class -/
theorem dX5_pick_0 : decode cX5_pick 0 = .ok (.aload_n 0, 1) := by decide +kernel
theorem dX5_pick_1 : decode cX5_pick 1 = .ok (.aload_n 1, 1) := by decide +kernel
theorem dX5_pick_2 : decode cX5_pick 2 = .ok (.invokevirtual 86, 3) := by decide +kernel
theorem dX5_pick_5 : decode cX5_pick 5 = .ok (.aload_n 0, 1) := by decide +kernel
theorem dX5_pick_6 : decode cX5_pick 6 = .ok (.getfield 21, 3) := by decide +kernel
theorem dX5_pick_9 : decode cX5_pick 9 = .ok (.bipush 6, 2) := by decide +kernel
theorem dX5_pick_11 : decode cX5_pick 11 = .ok (.invokestatic 74, 3) := by decide +kernel
theorem dX5_pick_14 : decode cX5_pick 14 = .ok (.aload_n 0, 1) := by decide +kernel
theorem dX5_pick_15 : decode cX5_pick 15 = .ok (.getfield 25, 3) := by decide +kernel
theorem dX5_pick_18 : decode cX5_pick 18 = .ok (.bipush 6, 2) := by decide +kernel
theorem dX5_pick_20 : decode cX5_pick 20 = .ok (.invokestatic 74, 3) := by decide +kernel
theorem dX5_pick_23 : decode cX5_pick 23 = .ok (.iload_n 2, 1) := by decide +kernel
theorem dX5_pick_24 : decode cX5_pick 24 = .ok (.ifCond .ne 10, 3) := by decide +kernel
theorem dX5_pick_27 : decode cX5_pick 27 = .ok (.aload_n 0, 1) := by decide +kernel
theorem dX5_pick_28 : decode cX5_pick 28 = .ok (.invokevirtual 89, 3) := by decide +kernel
theorem dX5_pick_31 : decode cX5_pick 31 = .ok (.goto 105, 3) := by decide +kernel
theorem dX5_pick_34 : decode cX5_pick 34 = .ok (.iload_n 2, 1) := by decide +kernel
theorem dX5_pick_35 : decode cX5_pick 35 = .ok (.iconst 1, 1) := by decide +kernel
theorem dX5_pick_36 : decode cX5_pick 36 = .ok (.if_icmp .ne 46, 3) := by decide +kernel
theorem dX5_pick_39 : decode cX5_pick 39 = .ok (.aload_n 0, 1) := by decide +kernel
theorem dX5_pick_40 : decode cX5_pick 40 = .ok (.aload_n 0, 1) := by decide +kernel
theorem dX5_pick_41 : decode cX5_pick 41 = .ok (.getfield 12, 3) := by decide +kernel
theorem dX5_pick_44 : decode cX5_pick 44 = .ok (.getfield 53, 3) := by decide +kernel
theorem dX5_pick_47 : decode cX5_pick 47 = .ok (.getfield 57, 3) := by decide +kernel
theorem dX5_pick_50 : decode cX5_pick 50 = .ok (.aload_n 0, 1) := by decide +kernel
theorem dX5_pick_51 : decode cX5_pick 51 = .ok (.getfield 12, 3) := by decide +kernel
theorem dX5_pick_54 : decode cX5_pick 54 = .ok (.getfield 67, 3) := by decide +kernel
theorem dX5_pick_57 : decode cX5_pick 57 = .ok (.getfield 57, 3) := by decide +kernel
theorem dX5_pick_60 : decode cX5_pick 60 = .ok (.aload_n 0, 1) := by decide +kernel
theorem dX5_pick_61 : decode cX5_pick 61 = .ok (.getfield 43, 3) := by decide +kernel
theorem dX5_pick_64 : decode cX5_pick 64 = .ok (.aload_n 0, 1) := by decide +kernel
theorem dX5_pick_65 : decode cX5_pick 65 = .ok (.getfield 46, 3) := by decide +kernel
theorem dX5_pick_68 : decode cX5_pick 68 = .ok (.aload_n 0, 1) := by decide +kernel
theorem dX5_pick_69 : decode cX5_pick 69 = .ok (.getfield 21, 3) := by decide +kernel
theorem dX5_pick_72 : decode cX5_pick 72 = .ok (.aload_n 0, 1) := by decide +kernel
theorem dX5_pick_73 : decode cX5_pick 73 = .ok (.getfield 25, 3) := by decide +kernel
theorem dX5_pick_76 : decode cX5_pick 76 = .ok (.invokevirtual 92, 3) := by decide +kernel
theorem dX5_pick_79 : decode cX5_pick 79 = .ok (.goto 57, 3) := by decide +kernel
theorem dX5_pick_82 : decode cX5_pick 82 = .ok (.iload_n 2, 1) := by decide +kernel
theorem dX5_pick_83 : decode cX5_pick 83 = .ok (.iconst 2, 1) := by decide +kernel
theorem dX5_pick_84 : decode cX5_pick 84 = .ok (.if_icmp .ne 46, 3) := by decide +kernel
theorem dX5_pick_87 : decode cX5_pick 87 = .ok (.aload_n 0, 1) := by decide +kernel
theorem dX5_pick_88 : decode cX5_pick 88 = .ok (.aload_n 0, 1) := by decide +kernel
theorem dX5_pick_89 : decode cX5_pick 89 = .ok (.getfield 12, 3) := by decide +kernel
theorem dX5_pick_92 : decode cX5_pick 92 = .ok (.getfield 67, 3) := by decide +kernel
theorem dX5_pick_95 : decode cX5_pick 95 = .ok (.getfield 57, 3) := by decide +kernel
theorem dX5_pick_98 : decode cX5_pick 98 = .ok (.aload_n 0, 1) := by decide +kernel
theorem dX5_pick_99 : decode cX5_pick 99 = .ok (.getfield 12, 3) := by decide +kernel
theorem dX5_pick_102 : decode cX5_pick 102 = .ok (.getfield 53, 3) := by decide +kernel
theorem dX5_pick_105 : decode cX5_pick 105 = .ok (.getfield 57, 3) := by decide +kernel
theorem dX5_pick_108 : decode cX5_pick 108 = .ok (.aload_n 0, 1) := by decide +kernel
theorem dX5_pick_109 : decode cX5_pick 109 = .ok (.getfield 46, 3) := by decide +kernel
theorem dX5_pick_112 : decode cX5_pick 112 = .ok (.aload_n 0, 1) := by decide +kernel
theorem dX5_pick_113 : decode cX5_pick 113 = .ok (.getfield 43, 3) := by decide +kernel
theorem dX5_pick_116 : decode cX5_pick 116 = .ok (.aload_n 0, 1) := by decide +kernel
theorem dX5_pick_117 : decode cX5_pick 117 = .ok (.getfield 25, 3) := by decide +kernel
theorem dX5_pick_120 : decode cX5_pick 120 = .ok (.aload_n 0, 1) := by decide +kernel
theorem dX5_pick_121 : decode cX5_pick 121 = .ok (.getfield 21, 3) := by decide +kernel
theorem dX5_pick_124 : decode cX5_pick 124 = .ok (.invokevirtual 92, 3) := by decide +kernel
theorem dX5_pick_127 : decode cX5_pick 127 = .ok (.goto 9, 3) := by decide +kernel
theorem dX5_pick_130 : decode cX5_pick 130 = .ok (.aload_n 0, 1) := by decide +kernel
theorem dX5_pick_131 : decode cX5_pick 131 = .ok (.iload_n 2, 1) := by decide +kernel
theorem dX5_pick_132 : decode cX5_pick 132 = .ok (.invokevirtual 96, 3) := by decide +kernel
theorem dX5_pick_135 : decode cX5_pick 135 = .ok (.pop, 1) := by decide +kernel
theorem dX5_pick_136 : decode cX5_pick 136 = .ok (.return_, 1) := by decide +kernel
theorem dX5_settlings_0 : decode cX5_settlings 0 = .ok (.aload_n 0, 1) := by decide +kernel
theorem dX5_settlings_1 : decode cX5_settlings 1 = .ok (.aload_n 1, 1) := by decide +kernel
theorem dX5_settlings_2 : decode cX5_settlings 2 = .ok (.iconst 0, 1) := by decide +kernel
theorem dX5_settlings_3 : decode cX5_settlings 3 = .ok (.invokevirtual 164, 3) := by decide +kernel
theorem dX5_settlings_6 : decode cX5_settlings 6 = .ok (.iconst 0, 1) := by decide +kernel
theorem dX5_settlings_7 : decode cX5_settlings 7 = .ok (.istore_n 2, 1) := by decide +kernel
theorem dX5_settlings_8 : decode cX5_settlings 8 = .ok (.iload_n 2, 1) := by decide +kernel
theorem dX5_settlings_9 : decode cX5_settlings 9 = .ok (.bipush 100, 2) := by decide +kernel
theorem dX5_settlings_11 : decode cX5_settlings 11 = .ok (.if_icmp .gt 33, 3) := by decide +kernel
theorem dX5_settlings_14 : decode cX5_settlings 14 = .ok (.aload_n 0, 1) := by decide +kernel
theorem dX5_settlings_15 : decode cX5_settlings 15 = .ok (.invokevirtual 161, 3) := by decide +kernel
theorem dX5_settlings_18 : decode cX5_settlings 18 = .ok (.istore_n 3, 1) := by decide +kernel
theorem dX5_settlings_19 : decode cX5_settlings 19 = .ok (.iload_n 3, 1) := by decide +kernel
theorem dX5_settlings_20 : decode cX5_settlings 20 = .ok (.iconst (-1), 1) := by decide +kernel
theorem dX5_settlings_21 : decode cX5_settlings 21 = .ok (.if_icmp .ne 5, 3) := by decide +kernel
theorem dX5_settlings_24 : decode cX5_settlings 24 = .ok (.iload_n 2, 1) := by decide +kernel
theorem dX5_settlings_25 : decode cX5_settlings 25 = .ok (.ireturn, 1) := by decide +kernel
theorem dX5_settlings_26 : decode cX5_settlings 26 = .ok (.aload_n 0, 1) := by decide +kernel
theorem dX5_settlings_27 : decode cX5_settlings 27 = .ok (.iload_n 3, 1) := by decide +kernel
theorem dX5_settlings_28 : decode cX5_settlings 28 = .ok (.bipush 6, 2) := by decide +kernel
theorem dX5_settlings_30 : decode cX5_settlings 30 = .ok (.idiv, 1) := by decide +kernel
theorem dX5_settlings_31 : decode cX5_settlings 31 = .ok (.iload_n 3, 1) := by decide +kernel
theorem dX5_settlings_32 : decode cX5_settlings 32 = .ok (.bipush 6, 2) := by decide +kernel
theorem dX5_settlings_34 : decode cX5_settlings 34 = .ok (.irem, 1) := by decide +kernel
theorem dX5_settlings_35 : decode cX5_settlings 35 = .ok (.invokevirtual 168, 3) := by decide +kernel
theorem dX5_settlings_38 : decode cX5_settlings 38 = .ok (.iinc 2 1, 3) := by decide +kernel
theorem dX5_settlings_41 : decode cX5_settlings 41 = .ok (.goto (-33), 3) := by decide +kernel
theorem dX5_settlings_44 : decode cX5_settlings 44 = .ok (.iconst (-1), 1) := by decide +kernel
theorem dX5_settlings_45 : decode cX5_settlings 45 = .ok (.ireturn, 1) := by decide +kernel
theorem dX5_rivetAnew_0 : decode cX5_rivetAnew 0 = .ok (.iload_n 1, 1) := by decide +kernel
theorem dX5_rivetAnew_1 : decode cX5_rivetAnew 1 = .ok (.ifCond .lt 19, 3) := by decide +kernel
theorem dX5_rivetAnew_4 : decode cX5_rivetAnew 4 = .ok (.iload_n 1, 1) := by decide +kernel
theorem dX5_rivetAnew_5 : decode cX5_rivetAnew 5 = .ok (.bipush 6, 2) := by decide +kernel
theorem dX5_rivetAnew_7 : decode cX5_rivetAnew 7 = .ok (.if_icmp .ge 13, 3) := by decide +kernel
theorem dX5_rivetAnew_10 : decode cX5_rivetAnew 10 = .ok (.iload_n 2, 1) := by decide +kernel
theorem dX5_rivetAnew_11 : decode cX5_rivetAnew 11 = .ok (.ifCond .lt 9, 3) := by decide +kernel
theorem dX5_rivetAnew_14 : decode cX5_rivetAnew 14 = .ok (.iload_n 2, 1) := by decide +kernel
theorem dX5_rivetAnew_15 : decode cX5_rivetAnew 15 = .ok (.bipush 6, 2) := by decide +kernel
theorem dX5_rivetAnew_17 : decode cX5_rivetAnew 17 = .ok (.if_icmp .lt 4, 3) := by decide +kernel
theorem dX5_rivetAnew_20 : decode cX5_rivetAnew 20 = .ok (.return_, 1) := by decide +kernel
theorem dX5_rivetAnew_21 : decode cX5_rivetAnew 21 = .ok (.aload_n 0, 1) := by decide +kernel
theorem dX5_rivetAnew_22 : decode cX5_rivetAnew 22 = .ok (.getfield 21, 3) := by decide +kernel
theorem dX5_rivetAnew_25 : decode cX5_rivetAnew 25 = .ok (.iload_n 1, 1) := by decide +kernel
theorem dX5_rivetAnew_26 : decode cX5_rivetAnew 26 = .ok (.iaload, 1) := by decide +kernel
theorem dX5_rivetAnew_27 : decode cX5_rivetAnew 27 = .ok (.bipush 6, 2) := by decide +kernel
theorem dX5_rivetAnew_29 : decode cX5_rivetAnew 29 = .ok (.if_icmp .ge 16, 3) := by decide +kernel
theorem dX5_rivetAnew_32 : decode cX5_rivetAnew 32 = .ok (.aload_n 0, 1) := by decide +kernel
theorem dX5_rivetAnew_33 : decode cX5_rivetAnew 33 = .ok (.getfield 25, 3) := by decide +kernel
theorem dX5_rivetAnew_36 : decode cX5_rivetAnew 36 = .ok (.aload_n 0, 1) := by decide +kernel
theorem dX5_rivetAnew_37 : decode cX5_rivetAnew 37 = .ok (.getfield 21, 3) := by decide +kernel
theorem dX5_rivetAnew_40 : decode cX5_rivetAnew 40 = .ok (.iload_n 1, 1) := by decide +kernel
theorem dX5_rivetAnew_41 : decode cX5_rivetAnew 41 = .ok (.iaload, 1) := by decide +kernel
theorem dX5_rivetAnew_42 : decode cX5_rivetAnew 42 = .ok (.bipush 6, 2) := by decide +kernel
theorem dX5_rivetAnew_44 : decode cX5_rivetAnew 44 = .ok (.iastore, 1) := by decide +kernel
theorem dX5_rivetAnew_45 : decode cX5_rivetAnew 45 = .ok (.aload_n 0, 1) := by decide +kernel
theorem dX5_rivetAnew_46 : decode cX5_rivetAnew 46 = .ok (.getfield 25, 3) := by decide +kernel
theorem dX5_rivetAnew_49 : decode cX5_rivetAnew 49 = .ok (.iload_n 2, 1) := by decide +kernel
theorem dX5_rivetAnew_50 : decode cX5_rivetAnew 50 = .ok (.iaload, 1) := by decide +kernel
theorem dX5_rivetAnew_51 : decode cX5_rivetAnew 51 = .ok (.bipush 6, 2) := by decide +kernel
theorem dX5_rivetAnew_53 : decode cX5_rivetAnew 53 = .ok (.if_icmp .ge 16, 3) := by decide +kernel
theorem dX5_rivetAnew_56 : decode cX5_rivetAnew 56 = .ok (.aload_n 0, 1) := by decide +kernel
theorem dX5_rivetAnew_57 : decode cX5_rivetAnew 57 = .ok (.getfield 21, 3) := by decide +kernel
theorem dX5_rivetAnew_60 : decode cX5_rivetAnew 60 = .ok (.aload_n 0, 1) := by decide +kernel
theorem dX5_rivetAnew_61 : decode cX5_rivetAnew 61 = .ok (.getfield 25, 3) := by decide +kernel
theorem dX5_rivetAnew_64 : decode cX5_rivetAnew 64 = .ok (.iload_n 2, 1) := by decide +kernel
theorem dX5_rivetAnew_65 : decode cX5_rivetAnew 65 = .ok (.iaload, 1) := by decide +kernel
theorem dX5_rivetAnew_66 : decode cX5_rivetAnew 66 = .ok (.bipush 6, 2) := by decide +kernel
theorem dX5_rivetAnew_68 : decode cX5_rivetAnew 68 = .ok (.iastore, 1) := by decide +kernel
theorem dX5_rivetAnew_69 : decode cX5_rivetAnew 69 = .ok (.aload_n 0, 1) := by decide +kernel
theorem dX5_rivetAnew_70 : decode cX5_rivetAnew 70 = .ok (.iload_n 1, 1) := by decide +kernel
theorem dX5_rivetAnew_71 : decode cX5_rivetAnew 71 = .ok (.iload_n 2, 1) := by decide +kernel
theorem dX5_rivetAnew_72 : decode cX5_rivetAnew 72 = .ok (.invokevirtual 99, 3) := by decide +kernel
theorem dX5_rivetAnew_75 : decode cX5_rivetAnew 75 = .ok (.return_, 1) := by decide +kernel
theorem dX11_settles_0 : decode cX11_settles 0 = .ok (.aload_n 0, 1) := by decide +kernel
theorem dX11_settles_1 : decode cX11_settles 1 = .ok (.getfield 10, 3) := by decide +kernel
theorem dX11_settles_4 : decode cX11_settles 4 = .ok (.iload_n 1, 1) := by decide +kernel
theorem dX11_settles_5 : decode cX11_settles 5 = .ok (.invokevirtual 94, 3) := by decide +kernel
theorem dX11_settles_8 : decode cX11_settles 8 = .ok (.astore_n 2, 1) := by decide +kernel
theorem dX11_settles_9 : decode cX11_settles 9 = .ok (.aload_n 2, 1) := by decide +kernel
theorem dX11_settles_10 : decode cX11_settles 10 = .ok (.ifnonnull 7, 3) := by decide +kernel
theorem dX11_settles_13 : decode cX11_settles 13 = .ok (.iconst (-1), 1) := by decide +kernel
theorem dX11_settles_14 : decode cX11_settles 14 = .ok (.goto 11, 3) := by decide +kernel
theorem dX11_settles_17 : decode cX11_settles 17 = .ok (.aload_n 0, 1) := by decide +kernel
theorem dX11_settles_18 : decode cX11_settles 18 = .ok (.getfield 37, 3) := by decide +kernel
theorem dX11_settles_21 : decode cX11_settles 21 = .ok (.aload_n 2, 1) := by decide +kernel
theorem dX11_settles_22 : decode cX11_settles 22 = .ok (.invokevirtual 301, 3) := by decide +kernel
theorem dX11_settles_25 : decode cX11_settles 25 = .ok (.ireturn, 1) := by decide +kernel
set_option maxRecDepth 20000 in
theorem tm_5_86 : tMet TB0 5 86 = some (0, M_X5_bind) := rfl
set_option maxRecDepth 20000 in
theorem tm_5_89 : tMet TB0 5 89 = some (0, M_X5_takePairs) := rfl
set_option maxRecDepth 20000 in
theorem tm_5_161 : tMet TB0 5 161 = some (0, M_X5_firstLeaving) := rfl
set_option maxRecDepth 20000 in
theorem tm_5_164 : tMet TB0 5 164 = some (0, M_X5_pick) := rfl
set_option maxRecDepth 20000 in
theorem tm_5_168 : tMet TB0 5 168 = some (0, M_X5_rivetAnew) := rfl
set_option maxRecDepth 20000 in
theorem tm_11_301 : tMet TB0 11 301 = some (0, M_X5_settlings) := rfl
/-! SETTLES: one couple after another -/
def rvR (r : Int → Int) (d u : Int) : Int → Int := fun k => if k = d then u else if r k = u then 6 else r k
theorem rv_d {r : Int → Int} {d u : Int} : rvR r d u d = u := if_pos rfl
theorem rv_o {g r : Int → Int} (h : isRw g r) {d u k : Int} (u0 : 0 ≤ u ∧ u < 6) (a : k ≠ d) (b : k = oR r u) (c : oR r u < 6) : rvR r d u k = 6 := by
  have := oR_b h u0.1 u0.2
  unfold rvR
  rw [if_neg a, if_pos (by rw [b]; omega)]
theorem rv_k {g r : Int → Int} (h : isRw g r) {d u k : Int} (u0 : 0 ≤ u ∧ u < 6) (k0 : 0 ≤ k ∧ k < 6) (a : k ≠ d) (b : k ≠ oR r u) : rvR r d u k = r k := by
  unfold rvR
  rw [if_neg a, if_neg (fun z => b (own_u h u0 (Or.inr ⟨k0, z⟩) (oR_o r u)))]
theorem rv_w {g r : Int → Int} (h : isRw g r) (n : nu g ≤ 6) {d u : Int} (d0 : 0 ≤ d ∧ d < nd g) (u0 : 0 ≤ u ∧ u < nu g) : isRw g (rvR r d u) := fun k a b => by
  by_cases q : k = d
  · have e : rvR r d u k = u := if_pos q
    rw [e]
    refine Or.inr ⟨by omega, fun e e0 e1 z => ?_⟩
    by_cases w : e = d
    · omega
    · unfold rvR at z
      rw [if_neg w] at z
      by_cases y : r e = u
      · rw [if_pos y] at z; omega
      · rw [if_neg y] at z; exact absurd z y
  · by_cases p : r k = u
    · left; unfold rvR; rw [if_neg q, if_pos p]
    · have e : rvR r d u k = r k := by unfold rvR; rw [if_neg q, if_neg p]
      rw [e]
      rcases h k a b with z | z
      · exact Or.inl z
      · refine Or.inr ⟨z.1, fun e e0 e1 y => ?_⟩
        unfold rvR at y
        by_cases w : e = d
        · rw [if_pos w] at y; exact absurd y.symm p
        · rw [if_neg w] at y
          by_cases v : r e = u
          · rw [if_pos v] at y; omega
          · rw [if_neg v] at y; exact z.2 e e0 e1 y
theorem mrC_rv {h h1 : mH} {y : Nat} {g r : Int → Int} {d u : Int} (H : mrC h y g r) (n : nd g ≤ 6 ∧ nu g ≤ 6) (d0 : 0 ≤ d ∧ d < nd g) (u0 : 0 ≤ u ∧ u < nu g) (ne : r d ≠ u) (a : ∀ k : Int, 0 ≤ k → k < 6 → rI h1 (y + 33) k = rvR r d u k) (b : ∀ k : Int, 0 ≤ k → k < 6 → rI h1 (y + 34) k = if k = u then d else if k = r d then 6 else rI h (y + 34) k) : mrC h1 y g (rvR r d u) := by
  have w := rv_w H.1.1 n.2 d0 u0
  refine ⟨⟨w, isRw_b n.2 w⟩, a, fun k k0 k1 => ?_⟩
  rw [b k k0 k1]
  by_cases q : k = u
  · rw [if_pos q]; exact Or.inr ⟨by omega, by rw [rv_d]; exact q.symm⟩
  · rw [if_neg q]
    by_cases p : k = r d
    · rw [if_pos p]
      refine Or.inl ⟨rfl, fun e e0 e1 z => ?_⟩
      unfold rvR at z
      by_cases v : e = d
      · rw [if_pos v] at z; omega
      · rw [if_neg v] at z
        by_cases s : r e = u
        · rw [if_pos s] at z; omega
        · rw [if_neg s] at z
          rcases H.1.1 d d0.1 (by omega) with t | t
          · omega
          · exact v (t.2 e e0 e1 (by rw [z, p]))
    · rw [if_neg p]
      rcases H.2.2 k k0 k1 with z | z
      · refine Or.inl ⟨z.1, fun e e0 e1 => ?_⟩
        unfold rvR
        by_cases v : e = d
        · rw [if_pos v]; omega
        · rw [if_neg v]
          by_cases s : r e = u
          · rw [if_pos s]; omega
          · rw [if_neg s]; exact z.2 e e0 e1
      · refine Or.inr ⟨z.1, ?_⟩
        unfold rvR
        rw [if_neg (fun v => p (by rw [← v]; exact z.2.symm)), if_neg (by omega)]; exact z.2
theorem lvP_c {g r r' : Int → Int} (e : ∀ k, 0 ≤ k → k < 6 → r k = r' k) {d u : Int} (d0 : 0 ≤ d ∧ d < 6) (h : lvP g r d u) : lvP g r' d u := by
  refine ⟨by rw [← e d d0.1 d0.2]; exact h.1, fun x a b q => h.2 x a b (by rw [e x a b]; exact q)⟩
theorem lvP_ne {g r : Int → Int} {d u : Int} (u1 : u < 6) (h : lvP g r d u) : r d ≠ u := fun z => by
  rcases h.1 with q | q
  · omega
  · rw [z] at q; omega
def fst2 (g r : Int → Int) (d u : Int) : Prop := ((0 ≤ d ∧ d < nd g) ∧ (0 ≤ u ∧ u < nu g)) ∧ lvP g r d u ∧ ∀ e x, 0 ≤ e → e < nd g → 0 ≤ x → x < nu g → (e < d ∨ (e = d ∧ x < u)) → ¬ lvP g r e x
theorem fst2_u {g r r' : Int → Int} (n : nd g ≤ 6) (e : ∀ k, 0 ≤ k → k < 6 → r k = r' k) {d u d' u' : Int} (h : fst2 g r d u) (h' : fst2 g r' d' u') : d = d' ∧ u = u' := by
  have a : ¬ (d' < d ∨ (d' = d ∧ u' < u)) := fun z => h.2.2 d' u' h'.1.1.1 h'.1.1.2 h'.1.2.1 h'.1.2.2 z (lvP_c (fun k x y => (e k x y).symm) ⟨h'.1.1.1, by have := h'.1.1.2; omega⟩ h'.2.1)
  have b : ¬ (d < d' ∨ (d = d' ∧ u < u')) := fun z => h'.2.2 d u h.1.1.1 h.1.1.2 h.1.2.1 h.1.2.2 z (lvP_c e ⟨h.1.1.1, by have := h.1.1.2; omega⟩ h.2.1)
  omega
def sqP (g r0 : Int → Int) : Nat → (Int → Int) → Prop
  | 0, r => ∀ k, 0 ≤ k → k < 6 → r k = r0 k
  | n + 1, r => ∃ r' d u, sqP g r0 n r' ∧ fst2 g r' d u ∧ ∀ k, 0 ≤ k → k < 6 → r k = rvR r' d u k
theorem sqP_u {g r0 : Int → Int} (n : nd g ≤ 6) : ∀ (m : Nat) (r r' : Int → Int), sqP g r0 m r → sqP g r0 m r' → ∀ k, 0 ≤ k → k < 6 → r k = r' k := by
  intro m
  induction m with
  | zero => intro r r' a b k k0 k1; rw [a k k0 k1, b k k0 k1]
  | succ m ih =>
    intro r r' a b k k0 k1
    obtain ⟨s, d, u, a1, a2, a3⟩ := a
    obtain ⟨s', d', u', b1, b2, b3⟩ := b
    have e := ih s s' a1 b1
    have q := fst2_u n e a2 b2
    rw [a3 k k0 k1, b3 k k0 k1, q.1, q.2]
    unfold rvR
    rw [e k k0 k1]
theorem sqP_lt {g r0 : Int → Int} (n : nd g ≤ 6) {m : Nat} {r : Int → Int} (a : sqP g r0 m r) (s : stn g r) : ∀ (j : Nat) (r' : Int → Int), ¬ sqP g r0 (m + 1 + j) r' := by
  intro j
  induction j with
  | zero =>
    rintro r' ⟨r1, d, u, b1, b2, b3⟩
    exact s d u b2.1.1.1 b2.1.1.2 b2.1.2.1 b2.1.2.2 (lvP_c (sqP_u n m r1 r b1 a) ⟨b2.1.1.1, by have := b2.1.1.2; omega⟩ b2.2.1)
  | succ j ih =>
    rintro r' ⟨r1, d, u, b1, b2, b3⟩
    exact ih r1 b1
theorem sqP_s {g r0 r : Int → Int} {i d u : Int} (i0 : 0 ≤ i) (a : sqP g r0 i.toNat r) (f : fst2 g r d u) : sqP g r0 (i + 1).toNat (rvR r d u) := by
  rw [show (i + 1).toNat = i.toNat + 1 by omega]
  exact ⟨r, d, u, a, f, fun k _ _ => rfl⟩
def seP (g : Int → Int) (v : Int) : Prop := (∃ m r, m ≤ 100 ∧ sqP g (tlR g) m r ∧ stn g r ∧ v = (m : Int)) ∨ (v = -1 ∧ ∃ r, sqP g (tlR g) 101 r)
theorem seP_u {g : Int → Int} (n : nd g ≤ 6) {v v' : Int} (x : seP g v) (y : seP g v') : v = v' := by
  rcases x with ⟨m, r, x1, x2, x3, x4⟩ | ⟨x1, r, x2⟩ <;> rcases y with ⟨m', r', y1, y2, y3, y4⟩ | ⟨y1, r', y2⟩
  · rcases Nat.lt_trichotomy m m' with q | q | q
    · exact absurd y2 (by rw [show m' = m + 1 + (m' - m - 1) by omega]; exact sqP_lt n x2 x3 _ _)
    · rw [x4, y4, q]
    · exact absurd x2 (by rw [show m = m' + 1 + (m - m' - 1) by omega]; exact sqP_lt n y2 y3 _ _)
  · exact absurd y2 (by rw [show 101 = m + 1 + (100 - m) by omega]; exact sqP_lt n x2 x3 _ _)
  · exact absurd x2 (by rw [show 101 = m' + 1 + (100 - m') by omega]; exact sqP_lt n y2 y3 _ _)
  · rw [x1, y1]
theorem fl_2 {g r : Int → Int} {v : Int} (n : nd g ≤ 6 ∧ nu g ≤ 6) (h : flP g r v) (q : v ≠ -1) : fst2 g r (v / 6) (v % 6) ∧ 0 ≤ v ∧ v < 36000 := by
  rcases h with z | ⟨d, u, z1, z2, z3, z4⟩
  · exact absurd z.1 q
  · have e1 : v / 6 = d := by omega
    have e2 : v % 6 = u := by omega
    rw [e1, e2]
    exact ⟨⟨z1, z3, z4⟩, by omega, by omega⟩
theorem fl_b {g r : Int → Int} {v : Int} (n : nd g ≤ 6 ∧ nu g ≤ 6) (h : flP g r v) : -1 ≤ v ∧ v < 36 := by
  rcases h with z | ⟨d, u, z1, z2, z3, z4⟩ <;> omega
theorem fl_s {g r : Int → Int} {v : Int} (h : flP g r v) (q : v = -1) : stn g r := by
  rcases h with z | ⟨d, u, z1, z2, z3, z4⟩
  · exact z.2
  · omega
set_option maxHeartbeats 400000 in
theorem zp_X5_coupleZ {ad : mA} {dd : Nat} {h : mH} {Q : mQ} {y : Nat}  (hk : mak h y)  (d : Int) (d_r : -2147483648 ≤ d ∧ d < 2147483648) (u : Int) (u_r : -2147483648 ≤ u ∧ u < 2147483648) (p1 : 0 ≤ d ∧ d < 6) (p2 : 0 ≤ u ∧ u < 6) (kq : ∀ h1, frm (fun a k => a = y + 33 ∨ a = y + 34) h h1 → (∀ k : Int, 0 ≤ k → k < 6 → rI h1 (y + 33) k = if k = d then u else rI h (y + 33) k) → (∀ k : Int, 0 ≤ k → k < 6 → rI h1 (y + 34) k = if k = u then d else rI h (y + 34) k) → Q none h1) : mCal TB0 ad (dd + 1) M_X5_couple [.ref y, .int (zI d), .int (zI u)] h 0 0 Q := by
  refine ⟨Nat.le_of_ble_eq_true rfl, ?_⟩
  show mEv TB0 ad M_X5_couple (dd + 1) (0, 0) (mCal TB0 ad (dd + 0)) (fun v h' z => z.1 = 0 ∧ Q v h') 0 [some (.ref y), some (.int (zI d)), some (.int (zI u))] [] h (0, 0)
  have FR0 : frm (fun a k => a = y + 33 ∨ a = y + 34) h h := frm_0 h
  refine e_iload_n dX5_couple_0 rfl ?_
  refine z_if_lt 34 dX5_couple_1 rfl ⟨by omega, by omega⟩ (fun c1 => ?_) (fun c1 => ?_)
  · exfalso; omega
  · skip
    refine e_iload_n dX5_couple_4 rfl ?_
    refine z_bipush (6) dX5_couple_5 rfl ?_
    refine z_icmp_ge 34 dX5_couple_7 rfl ⟨by omega, by omega⟩ ⟨by omega, by omega⟩ (fun c2 => ?_) (fun c2 => ?_)
    · exfalso; omega
    · skip
      refine e_iload_n dX5_couple_10 rfl ?_
      refine z_if_lt 34 dX5_couple_11 rfl ⟨by omega, by omega⟩ (fun c3 => ?_) (fun c3 => ?_)
      · exfalso; omega
      · skip
        refine e_iload_n dX5_couple_14 rfl ?_
        refine z_bipush (6) dX5_couple_15 rfl ?_
        refine z_icmp_ge 34 dX5_couple_17 rfl ⟨by omega, by omega⟩ ⟨by omega, by omega⟩ (fun c4 => ?_) (fun c4 => ?_)
        · exfalso; omega
        · skip
          refine e_aload_n dX5_couple_20 rfl ?_
          refine e_get (.ref (y + 33)) dX5_couple_21 tf_5_21 (congrArg Prod.fst (ma_s0 hk)) (congrArg va_rf (ma_r0_2 hk)) ?_
          refine e_iload_n dX5_couple_24 rfl ?_
          refine e_iload_n dX5_couple_25 rfl ?_
          refine z_ist dX5_couple_26 (ma_s33 hk) (by decide) (by omega) (by omega) (fun h5 e6 => ?_)
          have f7 := frm_1 e6
          have k8 := lk_q (frm_s f7) hk
          have FR9 := frm_t FR0 (frm_m (S' := (fun a k => a = y + 33 ∨ a = y + 34)) f7 (fun a k q => by omega))
          refine e_aload_n dX5_couple_27 rfl ?_
          refine e_get (.ref (y + 34)) dX5_couple_28 tf_5_25 (congrArg Prod.fst (ma_s0 k8)) (congrArg va_rf (ma_r0_3 k8)) ?_
          refine e_iload_n dX5_couple_31 rfl ?_
          refine e_iload_n dX5_couple_32 rfl ?_
          refine z_ist dX5_couple_33 (ma_s34 k8) (by decide) (by omega) (by omega) (fun h10 e11 => ?_)
          have f12 := frm_1 e11
          have k13 := lk_q (frm_s f12) k8
          have FR14 := frm_t FR9 (frm_m (S' := (fun a k => a = y + 33 ∨ a = y + 34)) f12 (fun a k q => by omega))
          refine e_vret dX5_couple_34 rfl ⟨rfl, ?_⟩
          exact kq _ FR14 (fun k a c => by
            by_cases z : k = d
            · rw [if_pos z, z]; exact ((frm_r f12 (by omega)).trans (rI_eq e6 ⟨by omega, by omega⟩))
            · rw [if_neg z]; exact ((frm_r f12 (by omega)).trans (frm_r f7 (by omega)))) (fun k a c => by
            by_cases z : k = u
            · rw [if_pos z, z]; exact (rI_eq e11 ⟨by omega, by omega⟩)
            · rw [if_neg z]; exact ((frm_r f12 (by omega)).trans (frm_r f7 (by omega))))
set_option maxHeartbeats 1000000 in
theorem zp_X5_rivetAnew {ad : mA} {dd : Nat} {h : mH} {Q : mQ} {y : Nat} {g r : Int → Int} (hk : mak h y)  (d : Int) (d_r : -2147483648 ≤ d ∧ d < 2147483648) (u : Int) (u_r : -2147483648 ≤ u ∧ u < 2147483648) (HW : mrC h y g r) (n6 : nd g ≤ 6 ∧ nu g ≤ 6) (p1 : 0 ≤ d ∧ d < nd g) (p2 : 0 ≤ u ∧ u < nu g) (ne : r d ≠ u) (kq : ∀ h1, frm (fun a k => a = y + 33 ∨ a = y + 34) h h1 → (mrC h1 y g (rvR r d u)) → Q none h1) : mCal TB0 ad (dd + 2) M_X5_rivetAnew [.ref y, .int (zI d), .int (zI u)] h 0 0 Q := by
  refine ⟨Nat.le_of_ble_eq_true rfl, ?_⟩
  show mEv TB0 ad M_X5_rivetAnew (dd + 2) (0, 0) (mCal TB0 ad (dd + 1)) (fun v h' z => z.1 = 0 ∧ Q v h') 0 [some (.ref y), some (.int (zI d)), some (.int (zI u))] [] h (0, 0)
  have FR0 : frm (fun a k => a = y + 33 ∨ a = y + 34) h h := frm_0 h
  refine e_iload_n dX5_rivetAnew_0 rfl ?_
  refine z_if_lt 20 dX5_rivetAnew_1 rfl ⟨by omega, by omega⟩ (fun c1 => ?_) (fun c1 => ?_)
  · exfalso; omega
  · skip
    refine e_iload_n dX5_rivetAnew_4 rfl ?_
    refine z_bipush (6) dX5_rivetAnew_5 rfl ?_
    refine z_icmp_ge 20 dX5_rivetAnew_7 rfl ⟨by omega, by omega⟩ ⟨by omega, by omega⟩ (fun c2 => ?_) (fun c2 => ?_)
    · exfalso; omega
    · skip
      refine e_iload_n dX5_rivetAnew_10 rfl ?_
      refine z_if_lt 20 dX5_rivetAnew_11 rfl ⟨by omega, by omega⟩ (fun c3 => ?_) (fun c3 => ?_)
      · exfalso; omega
      · skip
        refine e_iload_n dX5_rivetAnew_14 rfl ?_
        refine z_bipush (6) dX5_rivetAnew_15 rfl ?_
        refine z_icmp_lt 21 dX5_rivetAnew_17 rfl ⟨by omega, by omega⟩ ⟨by omega, by omega⟩ (fun c4 => ?_) (fun c4 => ?_)
        · skip
          refine e_aload_n dX5_rivetAnew_21 rfl ?_
          refine e_get (.ref (y + 33)) dX5_rivetAnew_22 tf_5_21 (congrArg Prod.fst (ma_s0 hk)) (congrArg va_rf (ma_r0_2 hk)) ?_
          refine e_iload_n dX5_rivetAnew_25 rfl ?_
          refine z_ild (r d) dX5_rivetAnew_26 (ma_s33 hk) (by decide) (by omega) (by omega) (HW.2.1 d (by omega) (by omega)) ?_
          have y5 := isRw_f HW.1.1 (show 0 ≤ d by omega) (by omega)
          have y6 := HW.1.2 d (by omega) (by omega)
          refine z_bipush (6) dX5_rivetAnew_27 rfl ?_
          refine z_icmp_ge 45 dX5_rivetAnew_29 rfl ⟨by omega, by omega⟩ ⟨by omega, by omega⟩ (fun c7 => ?_) (fun c7 => ?_)
          · skip
            refine e_aload_n dX5_rivetAnew_45 rfl ?_
            refine e_get (.ref (y + 34)) dX5_rivetAnew_46 tf_5_25 (congrArg Prod.fst (ma_s0 hk)) (congrArg va_rf (ma_r0_3 hk)) ?_
            refine e_iload_n dX5_rivetAnew_49 rfl ?_
            refine z_ild (oR r u) dX5_rivetAnew_50 (ma_s34 hk) (by decide) (by omega) (by omega) (mrC_o HW (by omega) (by omega)) ?_
            have y8 := oR_b HW.1.1 (show 0 ≤ u by omega) (by omega)
            refine z_bipush (6) dX5_rivetAnew_51 rfl ?_
            refine z_icmp_ge 69 dX5_rivetAnew_53 rfl ⟨by omega, by omega⟩ ⟨by omega, by omega⟩ (fun c9 => ?_) (fun c9 => ?_)
            · skip
              refine e_aload_n dX5_rivetAnew_69 rfl ?_
              refine e_iload_n dX5_rivetAnew_70 rfl ?_
              refine e_iload_n dX5_rivetAnew_71 rfl ?_
              refine e_callV [.int _, .int _] dX5_rivetAnew_72 tm_5_99 rfl (Nat.le_of_ble_eq_true rfl) (congrArg Prod.fst (ma_s0 hk)) (Nat.le_of_ble_eq_true rfl) (Nat.le_refl _) (Nat.le_refl _) rfl (zp_X5_coupleZ hk d ⟨by omega, by omega⟩ u ⟨by omega, by omega⟩ (by omega) (by omega) (fun  h10 f11 p12 p13 => ?_))
              have k14 := lk_q (frm_s f11) hk
              have FR15 := frm_t FR0 (frm_m (S' := (fun a k => a = y + 33 ∨ a = y + 34)) f11 (fun a k q => by omega))
              skip
              refine e_vret dX5_rivetAnew_75 rfl ⟨rfl, ?_⟩
              exact kq _ FR15 (mrC_rv HW (by omega) p1 p2 ne (fun k a c => (p12 k a c).trans (by
                by_cases z : k = d
                · rw [if_pos z, z, rv_d]
                · rw [if_neg z]
                  rw [rv_k HW.1.1 (by omega) ⟨a, c⟩ z (by omega)]; exact (HW.2.1 k a c))) (fun k a c => (p13 k a c).trans (by
                by_cases z : k = u
                · rw [if_pos z, if_pos z]
                · rw [if_neg z, if_neg z]
                  rw [if_neg (by omega)])))
            · skip
              refine e_aload_n dX5_rivetAnew_56 rfl ?_
              refine e_get (.ref (y + 33)) dX5_rivetAnew_57 tf_5_21 (congrArg Prod.fst (ma_s0 hk)) (congrArg va_rf (ma_r0_2 hk)) ?_
              refine e_aload_n dX5_rivetAnew_60 rfl ?_
              refine e_get (.ref (y + 34)) dX5_rivetAnew_61 tf_5_25 (congrArg Prod.fst (ma_s0 hk)) (congrArg va_rf (ma_r0_3 hk)) ?_
              refine e_iload_n dX5_rivetAnew_64 rfl ?_
              refine z_ild (oR r u) dX5_rivetAnew_65 (ma_s34 hk) (by decide) (by omega) (by omega) (mrC_o HW (by omega) (by omega)) ?_
              have y16 := oR_b HW.1.1 (show 0 ≤ u by omega) (by omega)
              refine z_bipush (6) dX5_rivetAnew_66 rfl ?_
              refine z_ist dX5_rivetAnew_68 (ma_s33 hk) (by decide) (by omega) (by omega) (fun h17 e18 => ?_)
              have f19 := frm_1 e18
              have k20 := lk_q (frm_s f19) hk
              have FR21 := frm_t FR0 (frm_m (S' := (fun a k => a = y + 33 ∨ a = y + 34)) f19 (fun a k q => by omega))
              refine e_aload_n dX5_rivetAnew_69 rfl ?_
              refine e_iload_n dX5_rivetAnew_70 rfl ?_
              refine e_iload_n dX5_rivetAnew_71 rfl ?_
              refine e_callV [.int _, .int _] dX5_rivetAnew_72 tm_5_99 rfl (Nat.le_of_ble_eq_true rfl) (congrArg Prod.fst (ma_s0 k20)) (Nat.le_of_ble_eq_true rfl) (Nat.le_refl _) (Nat.le_refl _) rfl (zp_X5_coupleZ k20 d ⟨by omega, by omega⟩ u ⟨by omega, by omega⟩ (by omega) (by omega) (fun  h22 f23 p24 p25 => ?_))
              have k26 := lk_q (frm_s f23) k20
              have FR27 := frm_t FR21 (frm_m (S' := (fun a k => a = y + 33 ∨ a = y + 34)) f23 (fun a k q => by omega))
              skip
              refine e_vret dX5_rivetAnew_75 rfl ⟨rfl, ?_⟩
              exact kq _ FR27 (mrC_rv HW (by omega) p1 p2 ne (fun k a c => (p24 k a c).trans (by
                by_cases z : k = d
                · rw [if_pos z, z, rv_d]
                · rw [if_neg z]
                  by_cases w : k = oR r u
                  · rw [rv_o HW.1.1 (by omega) z w (by omega), w]; exact rI_eq e18 ⟨by omega, by omega⟩
                  · rw [rv_k HW.1.1 (by omega) ⟨a, c⟩ z w]; exact ((frm_r f19 (by omega))).trans (HW.2.1 k a c))) (fun k a c => (p25 k a c).trans (by
                by_cases z : k = u
                · rw [if_pos z, if_pos z]
                · rw [if_neg z, if_neg z]
                  rw [if_neg (by omega)]; exact (frm_r f19 (by omega)))))
          · skip
            refine e_aload_n dX5_rivetAnew_32 rfl ?_
            refine e_get (.ref (y + 34)) dX5_rivetAnew_33 tf_5_25 (congrArg Prod.fst (ma_s0 hk)) (congrArg va_rf (ma_r0_3 hk)) ?_
            refine e_aload_n dX5_rivetAnew_36 rfl ?_
            refine e_get (.ref (y + 33)) dX5_rivetAnew_37 tf_5_21 (congrArg Prod.fst (ma_s0 hk)) (congrArg va_rf (ma_r0_2 hk)) ?_
            refine e_iload_n dX5_rivetAnew_40 rfl ?_
            refine z_ild (r d) dX5_rivetAnew_41 (ma_s33 hk) (by decide) (by omega) (by omega) (HW.2.1 d (by omega) (by omega)) ?_
            have y28 := isRw_f HW.1.1 (show 0 ≤ d by omega) (by omega)
            have y29 := HW.1.2 d (by omega) (by omega)
            refine z_bipush (6) dX5_rivetAnew_42 rfl ?_
            refine z_ist dX5_rivetAnew_44 (ma_s34 hk) (by decide) (by omega) (by omega) (fun h30 e31 => ?_)
            have f32 := frm_1 e31
            have k33 := lk_q (frm_s f32) hk
            have FR34 := frm_t FR0 (frm_m (S' := (fun a k => a = y + 33 ∨ a = y + 34)) f32 (fun a k q => by omega))
            refine e_aload_n dX5_rivetAnew_45 rfl ?_
            refine e_get (.ref (y + 34)) dX5_rivetAnew_46 tf_5_25 (congrArg Prod.fst (ma_s0 k33)) (congrArg va_rf (ma_r0_3 k33)) ?_
            refine e_iload_n dX5_rivetAnew_49 rfl ?_
            refine z_ild (oR r u) dX5_rivetAnew_50 (ma_s34 k33) (by decide) (by omega) (by omega) (((frm_r f32 (by omega))).trans (mrC_o HW (by omega) (by omega))) ?_
            have y35 := oR_b HW.1.1 (show 0 ≤ u by omega) (by omega)
            refine z_bipush (6) dX5_rivetAnew_51 rfl ?_
            refine z_icmp_ge 69 dX5_rivetAnew_53 rfl ⟨by omega, by omega⟩ ⟨by omega, by omega⟩ (fun c36 => ?_) (fun c36 => ?_)
            · skip
              refine e_aload_n dX5_rivetAnew_69 rfl ?_
              refine e_iload_n dX5_rivetAnew_70 rfl ?_
              refine e_iload_n dX5_rivetAnew_71 rfl ?_
              refine e_callV [.int _, .int _] dX5_rivetAnew_72 tm_5_99 rfl (Nat.le_of_ble_eq_true rfl) (congrArg Prod.fst (ma_s0 k33)) (Nat.le_of_ble_eq_true rfl) (Nat.le_refl _) (Nat.le_refl _) rfl (zp_X5_coupleZ k33 d ⟨by omega, by omega⟩ u ⟨by omega, by omega⟩ (by omega) (by omega) (fun  h37 f38 p39 p40 => ?_))
              have k41 := lk_q (frm_s f38) k33
              have FR42 := frm_t FR34 (frm_m (S' := (fun a k => a = y + 33 ∨ a = y + 34)) f38 (fun a k q => by omega))
              skip
              refine e_vret dX5_rivetAnew_75 rfl ⟨rfl, ?_⟩
              exact kq _ FR42 (mrC_rv HW (by omega) p1 p2 ne (fun k a c => (p39 k a c).trans (by
                by_cases z : k = d
                · rw [if_pos z, z, rv_d]
                · rw [if_neg z]
                  rw [rv_k HW.1.1 (by omega) ⟨a, c⟩ z (by omega)]; exact ((frm_r f32 (by omega))).trans (HW.2.1 k a c))) (fun k a c => (p40 k a c).trans (by
                by_cases z : k = u
                · rw [if_pos z, if_pos z]
                · rw [if_neg z, if_neg z]
                  by_cases w : k = r d
                  · rw [if_pos w, w]; exact (rI_eq e31 ⟨by omega, by omega⟩)
                  · rw [if_neg w]; exact (frm_r f32 (by omega)))))
            · skip
              refine e_aload_n dX5_rivetAnew_56 rfl ?_
              refine e_get (.ref (y + 33)) dX5_rivetAnew_57 tf_5_21 (congrArg Prod.fst (ma_s0 k33)) (congrArg va_rf (ma_r0_2 k33)) ?_
              refine e_aload_n dX5_rivetAnew_60 rfl ?_
              refine e_get (.ref (y + 34)) dX5_rivetAnew_61 tf_5_25 (congrArg Prod.fst (ma_s0 k33)) (congrArg va_rf (ma_r0_3 k33)) ?_
              refine e_iload_n dX5_rivetAnew_64 rfl ?_
              refine z_ild (oR r u) dX5_rivetAnew_65 (ma_s34 k33) (by decide) (by omega) (by omega) (((frm_r f32 (by omega))).trans (mrC_o HW (by omega) (by omega))) ?_
              have y43 := oR_b HW.1.1 (show 0 ≤ u by omega) (by omega)
              refine z_bipush (6) dX5_rivetAnew_66 rfl ?_
              refine z_ist dX5_rivetAnew_68 (ma_s33 k33) (by decide) (by omega) (by omega) (fun h44 e45 => ?_)
              have f46 := frm_1 e45
              have k47 := lk_q (frm_s f46) k33
              have FR48 := frm_t FR34 (frm_m (S' := (fun a k => a = y + 33 ∨ a = y + 34)) f46 (fun a k q => by omega))
              refine e_aload_n dX5_rivetAnew_69 rfl ?_
              refine e_iload_n dX5_rivetAnew_70 rfl ?_
              refine e_iload_n dX5_rivetAnew_71 rfl ?_
              refine e_callV [.int _, .int _] dX5_rivetAnew_72 tm_5_99 rfl (Nat.le_of_ble_eq_true rfl) (congrArg Prod.fst (ma_s0 k47)) (Nat.le_of_ble_eq_true rfl) (Nat.le_refl _) (Nat.le_refl _) rfl (zp_X5_coupleZ k47 d ⟨by omega, by omega⟩ u ⟨by omega, by omega⟩ (by omega) (by omega) (fun  h49 f50 p51 p52 => ?_))
              have k53 := lk_q (frm_s f50) k47
              have FR54 := frm_t FR48 (frm_m (S' := (fun a k => a = y + 33 ∨ a = y + 34)) f50 (fun a k q => by omega))
              skip
              refine e_vret dX5_rivetAnew_75 rfl ⟨rfl, ?_⟩
              exact kq _ FR54 (mrC_rv HW (by omega) p1 p2 ne (fun k a c => (p51 k a c).trans (by
                by_cases z : k = d
                · rw [if_pos z, z, rv_d]
                · rw [if_neg z]
                  by_cases w : k = oR r u
                  · rw [rv_o HW.1.1 (by omega) z w (by omega), w]; exact rI_eq e45 ⟨by omega, by omega⟩
                  · rw [rv_k HW.1.1 (by omega) ⟨a, c⟩ z w]; exact (((frm_r f46 (by omega)).trans (frm_r f32 (by omega)))).trans (HW.2.1 k a c))) (fun k a c => (p52 k a c).trans (by
                by_cases z : k = u
                · rw [if_pos z, if_pos z]
                · rw [if_neg z, if_neg z]
                  by_cases w : k = r d
                  · rw [if_pos w, w]; exact ((frm_r f46 (by omega))).trans (rI_eq e31 ⟨by omega, by omega⟩)
                  · rw [if_neg w]; exact ((frm_r f46 (by omega)).trans (frm_r f32 (by omega))))))
        · exfalso; omega
set_option maxHeartbeats 1000000 in
theorem zp_X5_pick_0 {ad : mA} {dd : Nat} {h : mH} {Q : mQ} {y f : Nat} {g : Int → Int} (hk : mak h y) (hk1 : fgk h f) (HF : isF h f g)   (pd : y + 17 ≤ f ∨ f + 16 ≤ y + 1) (pd2 : f + 16 ≤ y + 33 ∨ y + 42 ≤ f) (kq : ∀ h1, frm (fun a k => (y + 1 ≤ a ∧ a < y + 17) ∨ (y + 33 ≤ a ∧ a ≤ y + 41)) h h1 → (isF h1 (y + 1) g) → (bdC h1 y g) → (mrC h1 y g (tlR g)) → Q none h1) : mCal TB0 ad (dd + 4) M_X5_pick [.ref y, .ref f, .int (zI 0)] h 0 0 Q := by
  refine ⟨Nat.le_of_ble_eq_true rfl, ?_⟩
  show mEv TB0 ad M_X5_pick (dd + 4) (0, 0) (mCal TB0 ad (dd + 3)) (fun v h' z => z.1 = 0 ∧ Q v h') 0 [some (.ref y), some (.ref f), some (.int (zI 0))] [] h (0, 0)
  have FR0 : frm (fun a k => (y + 1 ≤ a ∧ a < y + 17) ∨ (y + 33 ≤ a ∧ a ≤ y + 41)) h h := frm_0 h
  have w1 := isF_n HF
  have W := isF_w HF
  refine e_aload_n dX5_pick_0 rfl ?_
  refine e_aload_n dX5_pick_1 rfl ?_
  refine e_callV [.ref _] dX5_pick_2 tm_5_86 rfl (Nat.le_of_ble_eq_true rfl) (congrArg Prod.fst (ma_s0 hk)) (Nat.le_of_ble_eq_true rfl) (Nat.le_refl _) (Nat.le_refl _) rfl (zp_X5_bind hk hk1 HF (by omega) (fun  h1 f2 p3 p4 => ?_))
  have k5 := lk_q (frm_s f2) hk
  have k6 := lk_q (frm_s f2) hk1
  have H7 := isF_c f2 (fun a k q1 q2 => by omega) HF
  have FR8 := frm_t FR0 (frm_m (S' := (fun a k => (y + 1 ≤ a ∧ a < y + 17) ∨ (y + 33 ≤ a ∧ a ≤ y + 41))) f2 (fun a k q => by omega))
  skip
  refine e_aload_n dX5_pick_5 rfl ?_
  refine e_get (.ref (y + 33)) dX5_pick_6 tf_5_21 (congrArg Prod.fst (ma_s0 k5)) (congrArg va_rf (ma_r0_2 k5)) ?_
  refine z_bipush (6) dX5_pick_9 rfl ?_
  refine e_callS [.ref _, .int _] dX5_pick_11 tm_5_74 rfl (Nat.le_of_ble_eq_true rfl) (Nat.le_refl _) (Nat.le_refl _) rfl (zp_fill (ma_s33 k5) (by decide) ⟨by omega, by omega⟩ (fun h9 f10 e11 => ?_))
  have k12 := lk_q (frm_s f10) k5
  have k13 := lk_q (frm_s f10) k6
  have H14 := isF_c f10 (fun a k q1 q2 => by omega) p3
  have H15 := bdC_c f10 (fun a k q => by omega) p4
  have FR16 := frm_t FR8 (frm_m (S' := (fun a k => (y + 1 ≤ a ∧ a < y + 17) ∨ (y + 33 ≤ a ∧ a ≤ y + 41))) f10 (fun a k q => by omega))
  refine e_aload_n dX5_pick_14 rfl ?_
  refine e_get (.ref (y + 34)) dX5_pick_15 tf_5_25 (congrArg Prod.fst (ma_s0 k12)) (congrArg va_rf (ma_r0_3 k12)) ?_
  refine z_bipush (6) dX5_pick_18 rfl ?_
  refine e_callS [.ref _, .int _] dX5_pick_20 tm_5_74 rfl (Nat.le_of_ble_eq_true rfl) (Nat.le_refl _) (Nat.le_refl _) rfl (zp_fill (ma_s34 k12) (by decide) ⟨by omega, by omega⟩ (fun h17 f18 e19 => ?_))
  have k20 := lk_q (frm_s f18) k12
  have k21 := lk_q (frm_s f18) k13
  have H22 := isF_c f18 (fun a k q1 q2 => by omega) H14
  have H23 := bdC_c f18 (fun a k q => by omega) H15
  have FR24 := frm_t FR16 (frm_m (S' := (fun a k => (y + 1 ≤ a ∧ a < y + 17) ∨ (y + 33 ≤ a ∧ a ≤ y + 41))) f18 (fun a k q => by omega))
  refine e_iload_n dX5_pick_23 rfl ?_
  refine z_if_ne 34 dX5_pick_24 rfl ⟨by omega, by omega⟩ (fun c25 => ?_) (fun c25 => ?_)
  · exfalso; omega
  · skip
    have P6 : mrC h17 y g (pfR (tlR g) 0) := mrC_0 _ (fun k a c => ((frm_r f18 (by omega))).trans (e11 k a (by omega))) (fun k a c => (rfl).trans (e19 k a (by omega)))
    refine e_aload_n dX5_pick_27 rfl ?_
    refine e_callV [] dX5_pick_28 tm_5_89 rfl (Nat.le_of_ble_eq_true rfl) (congrArg Prod.fst (ma_s0 k20)) (Nat.le_of_ble_eq_true rfl) (Nat.le_refl _) (Nat.le_refl _) rfl (zp_X5_takePairs k20 H22 H23 P6 (fun  h26 f27 p28 => ?_))
    have k29 := lk_q (frm_s f27) k20
    have k30 := lk_q (frm_s f27) k21
    have H31 := isF_c f27 (fun a k q1 q2 => by omega) H22
    have H32 := bdC_c f27 (fun a k q => by omega) H23
    have FR33 := frm_t FR24 (frm_m (S' := (fun a k => (y + 1 ≤ a ∧ a < y + 17) ∨ (y + 33 ≤ a ∧ a ≤ y + 41))) f27 (fun a k q => by omega))
    refine e_goto 136 dX5_pick_31 rfl ?_
    refine e_vret dX5_pick_136 rfl ⟨rfl, ?_⟩
    exact kq _ FR33 H31 H32 p28
set_option maxHeartbeats 2000000 in
theorem zp_X5_settlings {ad : mA} {dd : Nat} {h : mH} {Q : mQ} {y f : Nat} {g : Int → Int} (hk : mak h y) (hk1 : fgk h f) (HF : isF h f g)   (pd : y + 17 ≤ f ∨ f + 16 ≤ y + 1) (pd2 : f + 16 ≤ y + 33 ∨ y + 42 ≤ f) (kq : ∀ v : Int, (seP g v) → ∀ h1, frm (fun a k => (y + 1 ≤ a ∧ a < y + 17) ∨ (y + 33 ≤ a ∧ a ≤ y + 41)) h h1 → Q (some (.int (zI v))) h1) : mCal TB0 ad (dd + 5) M_X5_settlings [.ref y, .ref f] h 0 0 Q := by
  refine ⟨Nat.le_of_ble_eq_true rfl, ?_⟩
  show mEv TB0 ad M_X5_settlings (dd + 5) (0, 0) (mCal TB0 ad (dd + 4)) (fun v h' z => z.1 = 0 ∧ Q v h') 0 [some (.ref y), some (.ref f), none, none] [] h (0, 0)
  have FR0 : frm (fun a k => (y + 1 ≤ a ∧ a < y + 17) ∨ (y + 33 ≤ a ∧ a ≤ y + 41)) h h := frm_0 h
  have w1 := isF_n HF
  have W := isF_w HF
  refine e_aload_n dX5_settlings_0 rfl ?_
  refine e_aload_n dX5_settlings_1 rfl ?_
  refine z_iconst (0) dX5_settlings_2 rfl ?_
  refine e_callV [.ref _, .int _] dX5_settlings_3 tm_5_164 rfl (Nat.le_of_ble_eq_true rfl) (congrArg Prod.fst (ma_s0 hk)) (Nat.le_of_ble_eq_true rfl) (Nat.le_refl _) (Nat.le_refl _) rfl (zp_X5_pick_0 hk hk1 HF (by omega) (by omega) (fun  h1 f2 p3 p4 p5 => ?_))
  have k6 := lk_q (frm_s f2) hk
  have k7 := lk_q (frm_s f2) hk1
  have H8 := isF_c f2 (fun a k q1 q2 => by omega) HF
  have FR9 := frm_t FR0 (frm_m (S' := (fun a k => (y + 1 ≤ a ∧ a < y + 17) ∨ (y + 33 ≤ a ∧ a ≤ y + 41))) f2 (fun a k q => by omega))
  skip
  refine z_iconst (0) dX5_settlings_6 rfl ?_
  refine e_istore_n (L' := [_, _, _, _]) dX5_settlings_7 (Nat.le_of_ble_eq_true rfl) rfl ?_
  have lp10 : ∀ (n10 : Nat) (n : Int) (h10 : mH), (101 - n).toNat = n10 → (mak h10 y) → (fgk h10 f) → (isF h10 (y + 1) g) → (bdC h10 y g) → (frm (fun a k => (y + 1 ≤ a ∧ a < y + 17) ∨ (y + 33 ≤ a ∧ a ≤ y + 41)) h h10) → (0 ≤ n ∧ n ≤ 101) → (∃ r, mrC h10 y g r ∧ sqP g (tlR g) n.toNat r) → mEv TB0 ad M_X5_settlings (dd + 5) (0, 0) (mCal TB0 ad (dd + 4)) (fun v h' z => z.1 = 0 ∧ Q v h') 8 [some (.ref y), some (.ref f), some (.int (zI n)), none] [] h10 (0, 0) := by
    intro n10
    induction n10 using Nat.strongRecOn with
    | ind n10 ih10 =>
    intro n h10 hn10 k11 k12 H13 H14 FR15 I1 IX
    refine e_iload_n dX5_settlings_8 rfl ?_
    obtain ⟨r, HW, SQ⟩ := IX
    refine z_bipush (100) dX5_settlings_9 rfl ?_
    refine z_icmp_gt 44 dX5_settlings_11 rfl ⟨by omega, by omega⟩ ⟨by omega, by omega⟩ (fun c16 => ?_) (fun c16 => ?_)
    · skip
      refine z_iconst (-1) dX5_settlings_44 rfl ?_
      refine z_iret dX5_settlings_45 rfl ⟨rfl, ?_⟩
      first | exact kq _ (Or.inl ⟨n.toNat, r, by omega, SQ, fl_s fl (by omega), by omega⟩) _ FR15 | exact kq _ (Or.inr ⟨rfl, r, by rw [show (101 : Nat) = n.toNat by omega]; exact SQ⟩) _ FR15
    · skip
      refine e_aload_n dX5_settlings_14 rfl ?_
      refine e_callV [] dX5_settlings_15 tm_5_161 rfl (Nat.le_of_ble_eq_true rfl) (congrArg Prod.fst (ma_s0 k11)) (Nat.le_of_ble_eq_true rfl) (Nat.le_refl _) (Nat.le_refl _) rfl (zp_X5_firstLeaving k11 H13 H14 HW (fun v17 p18 => ?_))
      have fl : flP g r v17 := by assumption
      have fb := fl_b (by omega) fl
      refine e_istore_n (L' := [_, _, _, _]) dX5_settlings_18 (Nat.le_of_ble_eq_true rfl) rfl ?_
      refine e_iload_n dX5_settlings_19 rfl ?_
      refine z_iconst (-1) dX5_settlings_20 rfl ?_
      refine z_icmp_ne 26 dX5_settlings_21 rfl ⟨by omega, by omega⟩ ⟨by omega, by omega⟩ (fun c19 => ?_) (fun c19 => ?_)
      · skip
        have f2 := fl_2 (by omega) fl (by omega)
        have f3 := f2.1.1
        have f4 := lvP_ne (by omega) f2.1.2.1
        refine e_aload_n dX5_settlings_26 rfl ?_
        refine e_iload_n dX5_settlings_27 rfl ?_
        refine z_bipush (6) dX5_settlings_28 rfl ?_
        refine z_idiv dX5_settlings_30 (by omega) (by omega) (by omega) (by omega) ?_
        refine e_iload_n dX5_settlings_31 rfl ?_
        refine z_bipush (6) dX5_settlings_32 rfl ?_
        refine z_irem dX5_settlings_34 (by omega) (by omega) (by omega) (by omega) ?_
        refine e_callV [.int _, .int _] dX5_settlings_35 tm_5_168 rfl (Nat.le_of_ble_eq_true rfl) (congrArg Prod.fst (ma_s0 k11)) (Nat.le_of_ble_eq_true rfl) (Nat.le_refl _) (Nat.le_refl _) rfl (zp_X5_rivetAnew k11 (v17 / 6) ⟨by omega, by omega⟩ (v17 % 6) ⟨by omega, by omega⟩ HW (by omega) (by omega) (by omega) f4 (fun  h20 f21 p22 => ?_))
        have k23 := lk_q (frm_s f21) k11
        have k24 := lk_q (frm_s f21) k12
        have H25 := isF_c f21 (fun a k q1 q2 => by omega) H13
        have H26 := bdC_c f21 (fun a k q => by omega) H14
        have FR27 := frm_t FR15 (frm_m (S' := (fun a k => (y + 1 ≤ a ∧ a < y + 17) ∨ (y + 33 ≤ a ∧ a ≤ y + 41))) f21 (fun a k q => by omega))
        skip
        refine z_iinc (L' := [_, _, _, _]) dX5_settlings_38 rfl rfl ?_
        refine e_goto 8 dX5_settlings_41 rfl ?_
        exact mEv_wk (by exact ⟨Or.inr rfl, Or.inr rfl, Or.inr rfl, Or.inl rfl, trivial⟩) (ih10 _ (by omega) (n + 1) h20 rfl k23 k24 H25 H26 FR27 (by omega) (⟨_, p22, sqP_s (by omega) SQ f2.1⟩))
      · skip
        refine e_iload_n dX5_settlings_24 rfl ?_
        refine z_iret dX5_settlings_25 rfl ⟨rfl, ?_⟩
        first | exact kq _ (Or.inl ⟨n.toNat, r, by omega, SQ, fl_s fl (by omega), by omega⟩) _ FR15 | exact kq _ (Or.inr ⟨rfl, r, by rw [show (101 : Nat) = n.toNat by omega]; exact SQ⟩) _ FR15
  exact lp10 _ 0 h1 rfl k6 k7 p3 p4 FR9 (by omega) (⟨tlR g, p5, fun k _ _ => rfl⟩)
set_option maxHeartbeats 1000000 in
theorem zp_X11_settles_in {ad : mA} {dd : Nat} {h : mH} {Q : mQ} {x : Nat} {σ : Sg} (hk : bk h x) (HX : clsT h (x + 1) σ)  (f : Int) (f_r : -2147483648 ≤ f ∧ f < 2147483648) (p1 : 0 ≤ f) (p2 : f < cn σ 0) (kq : ∀ v : Int, (seP (sG σ f) v) → ∀ h1, frm (fun a i => x + 56 ≤ a ∧ a < x + 157) h h1 → Q (some (.int (zI v))) h1) : mCal TB0 ad (dd + 6) M_X11_settles [.ref x, .int (zI f)] h 0 0 Q := by
  refine ⟨Nat.le_of_ble_eq_true rfl, ?_⟩
  show mEv TB0 ad M_X11_settles (dd + 6) (0, 0) (mCal TB0 ad (dd + 5)) (fun v h' z => z.1 = 0 ∧ Q v h') 0 [some (.ref x), some (.int (zI f)), none] [] h (0, 0)
  have FR0 : frm (fun a i => x + 56 ≤ a ∧ a < x + 157) h h := frm_0 h
  have w1 := wS_n (clsT_w HX)
  refine e_aload_n dX11_settles_0 rfl ?_
  refine e_get (.ref (x + 1)) dX11_settles_1 tf_11_10 (congrArg Prod.fst (bk_s0 hk)) (congrArg va_rf (bk_r0_0 hk)) ?_
  refine e_iload_n dX11_settles_4 rfl ?_
  refine e_callV [.int _] dX11_settles_5 tm_11_94 rfl (Nat.le_of_ble_eq_true rfl) (congrArg Prod.fst (bk_s1 hk)) (Nat.le_of_ble_eq_true rfl) (Nat.le_refl _) (Nat.le_refl _) rfl (zp_X8_forgeAt_in (bk_td1 hk) HX f ⟨by omega, by omega⟩ (by omega) (by omega) ?_)
  have k1 := fAt_k (bk_td1 hk) f
  have H2 := clsT_F HX (show 0 ≤ f by omega) (by omega)
  have y3 := fAt_b (x + 1) f
  refine e_astore_n (L' := [_, _, _]) dX11_settles_8 (Nat.le_of_ble_eq_true rfl) rfl ?_
  refine e_aload_n dX11_settles_9 rfl ?_
  refine e_ifnonnull 17 dX11_settles_10 rfl ?_
  refine e_aload_n dX11_settles_17 rfl ?_
  refine e_get (.ref (x + 100)) dX11_settles_18 tf_11_37 (congrArg Prod.fst (bk_s0 hk)) (congrArg va_rf (bk_r0_4 hk)) ?_
  refine e_aload_n dX11_settles_21 rfl ?_
  refine e_callV [.ref _] dX11_settles_22 tm_11_301 rfl (Nat.le_of_ble_eq_true rfl) (congrArg Prod.fst (bk_s100 hk)) (Nat.le_of_ble_eq_true rfl) (Nat.le_refl _) (Nat.le_refl _) rfl (zp_X5_settlings (bk_ma100 hk) k1 H2 (by omega) (by omega) (fun v4 p5 h6 f7  => ?_))
  have k8 := bk_q (frm_s f7) hk
  have k9 := lk_q (frm_s f7) k1
  have H10 := clsT_c f7 (fun a k q1 q2 => by omega) HX
  have H11 := isF_c f7 (fun a k q1 q2 => by omega) H2
  have FR12 := frm_t FR0 (frm_m (S' := (fun a i => x + 56 ≤ a ∧ a < x + 157)) f7 (fun a k q => by omega))
  refine z_iret dX11_settles_25 rfl ⟨rfl, ?_⟩
  exact kq _ (by assumption) _ FR12
set_option maxHeartbeats 400000 in
theorem zp_X11_settles_out {ad : mA} {dd : Nat} {h : mH} {Q : mQ} {x : Nat} {σ : Sg} (hk : bk h x) (HX : clsT h (x + 1) σ)  (f : Int) (f_r : -2147483648 ≤ f ∧ f < 2147483648) (p1 : ¬ (0 ≤ f ∧ f < cn σ 0)) (kq : Q (some (.int (zI (-1)))) h) : mCal TB0 ad (dd + 6) M_X11_settles [.ref x, .int (zI f)] h 0 0 Q := by
  refine ⟨Nat.le_of_ble_eq_true rfl, ?_⟩
  show mEv TB0 ad M_X11_settles (dd + 6) (0, 0) (mCal TB0 ad (dd + 5)) (fun v h' z => z.1 = 0 ∧ Q v h') 0 [some (.ref x), some (.int (zI f)), none] [] h (0, 0)
  have w1 := wS_n (clsT_w HX)
  refine e_aload_n dX11_settles_0 rfl ?_
  refine e_get (.ref (x + 1)) dX11_settles_1 tf_11_10 (congrArg Prod.fst (bk_s0 hk)) (congrArg va_rf (bk_r0_0 hk)) ?_
  refine e_iload_n dX11_settles_4 rfl ?_
  refine e_callV [.int _] dX11_settles_5 tm_11_94 rfl (Nat.le_of_ble_eq_true rfl) (congrArg Prod.fst (bk_s1 hk)) (Nat.le_of_ble_eq_true rfl) (Nat.le_refl _) (Nat.le_refl _) rfl (zp_X8_forgeAt_out (bk_td1 hk) HX f ⟨by omega, by omega⟩ (by omega) ?_)
  refine e_astore_nN (L' := [_, _, _]) dX11_settles_8 (Nat.le_of_ble_eq_true rfl) rfl ?_
  refine e_aload_nN dX11_settles_9 rfl ?_
  refine e_ifnonnullN 17 dX11_settles_10 rfl ?_
  refine z_iconst (-1) dX11_settles_13 rfl ?_
  refine e_goto 25 dX11_settles_14 rfl ?_
  refine z_iret dX11_settles_25 rfl ⟨rfl, ?_⟩
  refine z_q kq ?_
  rfl
