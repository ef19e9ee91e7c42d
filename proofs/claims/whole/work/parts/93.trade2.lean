/-! TRADE of the reference -/
theorem dX12_likes_0 : decode cX12_likes 0 = .ok (.iload_n 3, 1) := by decide +kernel
theorem dX12_likes_1 : decode cX12_likes 1 = .ok (.bipush 6, 2) := by decide +kernel
theorem dX12_likes_3 : decode cX12_likes 3 = .ok (.if_icmp .ne 7, 3) := by decide +kernel
theorem dX12_likes_6 : decode cX12_likes 6 = .ok (.iconst 1, 1) := by decide +kernel
theorem dX12_likes_7 : decode cX12_likes 7 = .ok (.goto 16, 3) := by decide +kernel
theorem dX12_likes_10 : decode cX12_likes 10 = .ok (.aload_n 0, 1) := by decide +kernel
theorem dX12_likes_11 : decode cX12_likes 11 = .ok (.iload_n 1, 1) := by decide +kernel
theorem dX12_likes_12 : decode cX12_likes 12 = .ok (.iload_n 2, 1) := by decide +kernel
theorem dX12_likes_13 : decode cX12_likes 13 = .ok (.invokevirtual 283, 3) := by decide +kernel
theorem dX12_likes_16 : decode cX12_likes 16 = .ok (.aload_n 0, 1) := by decide +kernel
theorem dX12_likes_17 : decode cX12_likes 17 = .ok (.iload_n 1, 1) := by decide +kernel
theorem dX12_likes_18 : decode cX12_likes 18 = .ok (.iload_n 3, 1) := by decide +kernel
theorem dX12_likes_19 : decode cX12_likes 19 = .ok (.invokevirtual 283, 3) := by decide +kernel
theorem dX12_likes_22 : decode cX12_likes 22 = .ok (.isub, 1) := by decide +kernel
theorem dX12_likes_23 : decode cX12_likes 23 = .ok (.istore 4, 2) := by decide +kernel
theorem dX12_likes_25 : decode cX12_likes 25 = .ok (.iload 4, 2) := by decide +kernel
theorem dX12_likes_27 : decode cX12_likes 27 = .ok (.ifCond .gt 13, 3) := by decide +kernel
theorem dX12_likes_30 : decode cX12_likes 30 = .ok (.iload 4, 2) := by decide +kernel
theorem dX12_likes_32 : decode cX12_likes 32 = .ok (.ifCond .ne 12, 3) := by decide +kernel
theorem dX12_likes_35 : decode cX12_likes 35 = .ok (.iload_n 2, 1) := by decide +kernel
theorem dX12_likes_36 : decode cX12_likes 36 = .ok (.iload_n 3, 1) := by decide +kernel
theorem dX12_likes_37 : decode cX12_likes 37 = .ok (.if_icmp .ge 7, 3) := by decide +kernel
theorem dX12_likes_40 : decode cX12_likes 40 = .ok (.iconst 1, 1) := by decide +kernel
theorem dX12_likes_41 : decode cX12_likes 41 = .ok (.goto 4, 3) := by decide +kernel
theorem dX12_likes_44 : decode cX12_likes 44 = .ok (.iconst 0, 1) := by decide +kernel
theorem dX12_likes_45 : decode cX12_likes 45 = .ok (.ireturn, 1) := by decide +kernel
theorem dX12_pointsAt_0 : decode cX12_pointsAt 0 = .ok (.iconst (-1), 1) := by decide +kernel
theorem dX12_pointsAt_1 : decode cX12_pointsAt 1 = .ok (.istore_n 2, 1) := by decide +kernel
theorem dX12_pointsAt_2 : decode cX12_pointsAt 2 = .ok (.iconst 0, 1) := by decide +kernel
theorem dX12_pointsAt_3 : decode cX12_pointsAt 3 = .ok (.istore_n 3, 1) := by decide +kernel
theorem dX12_pointsAt_4 : decode cX12_pointsAt 4 = .ok (.iload_n 3, 1) := by decide +kernel
theorem dX12_pointsAt_5 : decode cX12_pointsAt 5 = .ok (.aload_n 0, 1) := by decide +kernel
theorem dX12_pointsAt_6 : decode cX12_pointsAt 6 = .ok (.getfield 271, 3) := by decide +kernel
theorem dX12_pointsAt_9 : decode cX12_pointsAt 9 = .ok (.if_icmp .ge 51, 3) := by decide +kernel
theorem dX12_pointsAt_12 : decode cX12_pointsAt 12 = .ok (.aload_n 0, 1) := by decide +kernel
theorem dX12_pointsAt_13 : decode cX12_pointsAt 13 = .ok (.getfield 445, 3) := by decide +kernel
theorem dX12_pointsAt_16 : decode cX12_pointsAt 16 = .ok (.iload_n 3, 1) := by decide +kernel
theorem dX12_pointsAt_17 : decode cX12_pointsAt 17 = .ok (.invokestatic 107, 3) := by decide +kernel
theorem dX12_pointsAt_20 : decode cX12_pointsAt 20 = .ok (.ifCond .eq 32, 3) := by decide +kernel
theorem dX12_pointsAt_23 : decode cX12_pointsAt 23 = .ok (.iload_n 2, 1) := by decide +kernel
theorem dX12_pointsAt_24 : decode cX12_pointsAt 24 = .ok (.iconst (-1), 1) := by decide +kernel
theorem dX12_pointsAt_25 : decode cX12_pointsAt 25 = .ok (.if_icmp .eq 23, 3) := by decide +kernel
theorem dX12_pointsAt_28 : decode cX12_pointsAt 28 = .ok (.aload_n 0, 1) := by decide +kernel
theorem dX12_pointsAt_29 : decode cX12_pointsAt 29 = .ok (.iload_n 1, 1) := by decide +kernel
theorem dX12_pointsAt_30 : decode cX12_pointsAt 30 = .ok (.aload_n 0, 1) := by decide +kernel
theorem dX12_pointsAt_31 : decode cX12_pointsAt 31 = .ok (.getfield 53, 3) := by decide +kernel
theorem dX12_pointsAt_34 : decode cX12_pointsAt 34 = .ok (.iload_n 3, 1) := by decide +kernel
theorem dX12_pointsAt_35 : decode cX12_pointsAt 35 = .ok (.iaload, 1) := by decide +kernel
theorem dX12_pointsAt_36 : decode cX12_pointsAt 36 = .ok (.aload_n 0, 1) := by decide +kernel
theorem dX12_pointsAt_37 : decode cX12_pointsAt 37 = .ok (.getfield 53, 3) := by decide +kernel
theorem dX12_pointsAt_40 : decode cX12_pointsAt 40 = .ok (.iload_n 2, 1) := by decide +kernel
theorem dX12_pointsAt_41 : decode cX12_pointsAt 41 = .ok (.iaload, 1) := by decide +kernel
theorem dX12_pointsAt_42 : decode cX12_pointsAt 42 = .ok (.invokevirtual 382, 3) := by decide +kernel
theorem dX12_pointsAt_45 : decode cX12_pointsAt 45 = .ok (.ifCond .eq 7, 3) := by decide +kernel
theorem dX12_pointsAt_48 : decode cX12_pointsAt 48 = .ok (.iload_n 3, 1) := by decide +kernel
theorem dX12_pointsAt_49 : decode cX12_pointsAt 49 = .ok (.goto 4, 3) := by decide +kernel
theorem dX12_pointsAt_52 : decode cX12_pointsAt 52 = .ok (.iload_n 2, 1) := by decide +kernel
theorem dX12_pointsAt_53 : decode cX12_pointsAt 53 = .ok (.istore_n 2, 1) := by decide +kernel
theorem dX12_pointsAt_54 : decode cX12_pointsAt 54 = .ok (.iinc 3 1, 3) := by decide +kernel
theorem dX12_pointsAt_57 : decode cX12_pointsAt 57 = .ok (.goto (-53), 3) := by decide +kernel
theorem dX12_pointsAt_60 : decode cX12_pointsAt 60 = .ok (.iload_n 2, 1) := by decide +kernel
theorem dX12_pointsAt_61 : decode cX12_pointsAt 61 = .ok (.ireturn, 1) := by decide +kernel
theorem dX12_goesRound_0 : decode cX12_goesRound 0 = .ok (.aload_n 0, 1) := by decide +kernel
theorem dX12_goesRound_1 : decode cX12_goesRound 1 = .ok (.iload_n 1, 1) := by decide +kernel
theorem dX12_goesRound_2 : decode cX12_goesRound 2 = .ok (.invokevirtual 448, 3) := by decide +kernel
theorem dX12_goesRound_5 : decode cX12_goesRound 5 = .ok (.istore_n 2, 1) := by decide +kernel
theorem dX12_goesRound_6 : decode cX12_goesRound 6 = .ok (.iconst 0, 1) := by decide +kernel
theorem dX12_goesRound_7 : decode cX12_goesRound 7 = .ok (.istore_n 3, 1) := by decide +kernel
theorem dX12_goesRound_8 : decode cX12_goesRound 8 = .ok (.iload_n 3, 1) := by decide +kernel
theorem dX12_goesRound_9 : decode cX12_goesRound 9 = .ok (.bipush 6, 2) := by decide +kernel
theorem dX12_goesRound_11 : decode cX12_goesRound 11 = .ok (.if_icmp .ge 20, 3) := by decide +kernel
theorem dX12_goesRound_14 : decode cX12_goesRound 14 = .ok (.iload_n 2, 1) := by decide +kernel
theorem dX12_goesRound_15 : decode cX12_goesRound 15 = .ok (.iload_n 1, 1) := by decide +kernel
theorem dX12_goesRound_16 : decode cX12_goesRound 16 = .ok (.if_icmp .eq 15, 3) := by decide +kernel
theorem dX12_goesRound_19 : decode cX12_goesRound 19 = .ok (.aload_n 0, 1) := by decide +kernel
theorem dX12_goesRound_20 : decode cX12_goesRound 20 = .ok (.iload_n 2, 1) := by decide +kernel
theorem dX12_goesRound_21 : decode cX12_goesRound 21 = .ok (.invokevirtual 448, 3) := by decide +kernel
theorem dX12_goesRound_24 : decode cX12_goesRound 24 = .ok (.istore_n 2, 1) := by decide +kernel
theorem dX12_goesRound_25 : decode cX12_goesRound 25 = .ok (.iinc 3 1, 3) := by decide +kernel
theorem dX12_goesRound_28 : decode cX12_goesRound 28 = .ok (.goto (-20), 3) := by decide +kernel
theorem dX12_goesRound_31 : decode cX12_goesRound 31 = .ok (.iload_n 2, 1) := by decide +kernel
theorem dX12_goesRound_32 : decode cX12_goesRound 32 = .ok (.iload_n 1, 1) := by decide +kernel
theorem dX12_goesRound_33 : decode cX12_goesRound 33 = .ok (.if_icmp .eq 5, 3) := by decide +kernel
theorem dX12_goesRound_36 : decode cX12_goesRound 36 = .ok (.iconst 0, 1) := by decide +kernel
theorem dX12_goesRound_37 : decode cX12_goesRound 37 = .ok (.ireturn, 1) := by decide +kernel
theorem dX12_goesRound_38 : decode cX12_goesRound 38 = .ok (.iconst 0, 1) := by decide +kernel
theorem dX12_goesRound_39 : decode cX12_goesRound 39 = .ok (.istore_n 3, 1) := by decide +kernel
theorem dX12_goesRound_40 : decode cX12_goesRound 40 = .ok (.iload_n 3, 1) := by decide +kernel
theorem dX12_goesRound_41 : decode cX12_goesRound 41 = .ok (.iload_n 2, 1) := by decide +kernel
theorem dX12_goesRound_42 : decode cX12_goesRound 42 = .ok (.invokestatic 107, 3) := by decide +kernel
theorem dX12_goesRound_45 : decode cX12_goesRound 45 = .ok (.ifCond .ne 34, 3) := by decide +kernel
theorem dX12_goesRound_48 : decode cX12_goesRound 48 = .ok (.iload_n 3, 1) := by decide +kernel
theorem dX12_goesRound_49 : decode cX12_goesRound 49 = .ok (.iconst 1, 1) := by decide +kernel
theorem dX12_goesRound_50 : decode cX12_goesRound 50 = .ok (.iload_n 2, 1) := by decide +kernel
theorem dX12_goesRound_51 : decode cX12_goesRound 51 = .ok (.ishl, 1) := by decide +kernel
theorem dX12_goesRound_52 : decode cX12_goesRound 52 = .ok (.ior, 1) := by decide +kernel
theorem dX12_goesRound_53 : decode cX12_goesRound 53 = .ok (.istore_n 3, 1) := by decide +kernel
theorem dX12_goesRound_54 : decode cX12_goesRound 54 = .ok (.aload_n 0, 1) := by decide +kernel
theorem dX12_goesRound_55 : decode cX12_goesRound 55 = .ok (.getfield 75, 3) := by decide +kernel
theorem dX12_goesRound_58 : decode cX12_goesRound 58 = .ok (.iload_n 2, 1) := by decide +kernel
theorem dX12_goesRound_59 : decode cX12_goesRound 59 = .ok (.aload_n 0, 1) := by decide +kernel
theorem dX12_goesRound_60 : decode cX12_goesRound 60 = .ok (.getfield 53, 3) := by decide +kernel
theorem dX12_goesRound_63 : decode cX12_goesRound 63 = .ok (.aload_n 0, 1) := by decide +kernel
theorem dX12_goesRound_64 : decode cX12_goesRound 64 = .ok (.iload_n 2, 1) := by decide +kernel
theorem dX12_goesRound_65 : decode cX12_goesRound 65 = .ok (.invokevirtual 448, 3) := by decide +kernel
theorem dX12_goesRound_68 : decode cX12_goesRound 68 = .ok (.iaload, 1) := by decide +kernel
theorem dX12_goesRound_69 : decode cX12_goesRound 69 = .ok (.iastore, 1) := by decide +kernel
theorem dX12_goesRound_70 : decode cX12_goesRound 70 = .ok (.aload_n 0, 1) := by decide +kernel
theorem dX12_goesRound_71 : decode cX12_goesRound 71 = .ok (.iload_n 2, 1) := by decide +kernel
theorem dX12_goesRound_72 : decode cX12_goesRound 72 = .ok (.invokevirtual 448, 3) := by decide +kernel
theorem dX12_goesRound_75 : decode cX12_goesRound 75 = .ok (.istore_n 2, 1) := by decide +kernel
theorem dX12_goesRound_76 : decode cX12_goesRound 76 = .ok (.goto (-36), 3) := by decide +kernel
theorem dX12_goesRound_79 : decode cX12_goesRound 79 = .ok (.aload_n 0, 1) := by decide +kernel
theorem dX12_goesRound_80 : decode cX12_goesRound 80 = .ok (.dup, 1) := by decide +kernel
theorem dX12_goesRound_81 : decode cX12_goesRound 81 = .ok (.getfield 445, 3) := by decide +kernel
theorem dX12_goesRound_84 : decode cX12_goesRound 84 = .ok (.iload_n 3, 1) := by decide +kernel
theorem dX12_goesRound_85 : decode cX12_goesRound 85 = .ok (.iconst (-1), 1) := by decide +kernel
theorem dX12_goesRound_86 : decode cX12_goesRound 86 = .ok (.ixor, 1) := by decide +kernel
theorem dX12_goesRound_87 : decode cX12_goesRound 87 = .ok (.iand, 1) := by decide +kernel
theorem dX12_goesRound_88 : decode cX12_goesRound 88 = .ok (.putfield 445, 3) := by decide +kernel
theorem dX12_goesRound_91 : decode cX12_goesRound 91 = .ok (.aload_n 0, 1) := by decide +kernel
theorem dX12_goesRound_92 : decode cX12_goesRound 92 = .ok (.dup, 1) := by decide +kernel
theorem dX12_goesRound_93 : decode cX12_goesRound 93 = .ok (.getfield 451, 3) := by decide +kernel
theorem dX12_goesRound_96 : decode cX12_goesRound 96 = .ok (.iconst 1, 1) := by decide +kernel
theorem dX12_goesRound_97 : decode cX12_goesRound 97 = .ok (.iadd, 1) := by decide +kernel
theorem dX12_goesRound_98 : decode cX12_goesRound 98 = .ok (.putfield 451, 3) := by decide +kernel
theorem dX12_goesRound_101 : decode cX12_goesRound 101 = .ok (.iconst 1, 1) := by decide +kernel
theorem dX12_goesRound_102 : decode cX12_goesRound 102 = .ok (.ireturn, 1) := by decide +kernel
theorem dX12_findTrade_0 : decode cX12_findTrade 0 = .ok (.aload_n 0, 1) := by decide +kernel
theorem dX12_findTrade_1 : decode cX12_findTrade 1 = .ok (.iconst 0, 1) := by decide +kernel
theorem dX12_findTrade_2 : decode cX12_findTrade 2 = .ok (.putfield 445, 3) := by decide +kernel
theorem dX12_findTrade_5 : decode cX12_findTrade 5 = .ok (.aload_n 0, 1) := by decide +kernel
theorem dX12_findTrade_6 : decode cX12_findTrade 6 = .ok (.iconst 0, 1) := by decide +kernel
theorem dX12_findTrade_7 : decode cX12_findTrade 7 = .ok (.putfield 451, 3) := by decide +kernel
theorem dX12_findTrade_10 : decode cX12_findTrade 10 = .ok (.iconst 0, 1) := by decide +kernel
theorem dX12_findTrade_11 : decode cX12_findTrade 11 = .ok (.istore_n 1, 1) := by decide +kernel
theorem dX12_findTrade_12 : decode cX12_findTrade 12 = .ok (.iload_n 1, 1) := by decide +kernel
theorem dX12_findTrade_13 : decode cX12_findTrade 13 = .ok (.aload_n 0, 1) := by decide +kernel
theorem dX12_findTrade_14 : decode cX12_findTrade 14 = .ok (.getfield 271, 3) := by decide +kernel
theorem dX12_findTrade_17 : decode cX12_findTrade 17 = .ok (.if_icmp .ge 33, 3) := by decide +kernel
theorem dX12_findTrade_20 : decode cX12_findTrade 20 = .ok (.aload_n 0, 1) := by decide +kernel
theorem dX12_findTrade_21 : decode cX12_findTrade 21 = .ok (.dup, 1) := by decide +kernel
theorem dX12_findTrade_22 : decode cX12_findTrade 22 = .ok (.getfield 445, 3) := by decide +kernel
theorem dX12_findTrade_25 : decode cX12_findTrade 25 = .ok (.aload_n 0, 1) := by decide +kernel
theorem dX12_findTrade_26 : decode cX12_findTrade 26 = .ok (.iload_n 1, 1) := by decide +kernel
theorem dX12_findTrade_27 : decode cX12_findTrade 27 = .ok (.invokevirtual 286, 3) := by decide +kernel
theorem dX12_findTrade_30 : decode cX12_findTrade 30 = .ok (.ifCond .eq 9, 3) := by decide +kernel
theorem dX12_findTrade_33 : decode cX12_findTrade 33 = .ok (.iconst 1, 1) := by decide +kernel
theorem dX12_findTrade_34 : decode cX12_findTrade 34 = .ok (.iload_n 1, 1) := by decide +kernel
theorem dX12_findTrade_35 : decode cX12_findTrade 35 = .ok (.ishl, 1) := by decide +kernel
theorem dX12_findTrade_36 : decode cX12_findTrade 36 = .ok (.goto 4, 3) := by decide +kernel
theorem dX12_findTrade_39 : decode cX12_findTrade 39 = .ok (.iconst 0, 1) := by decide +kernel
theorem dX12_findTrade_40 : decode cX12_findTrade 40 = .ok (.ior, 1) := by decide +kernel
theorem dX12_findTrade_41 : decode cX12_findTrade 41 = .ok (.putfield 445, 3) := by decide +kernel
theorem dX12_findTrade_44 : decode cX12_findTrade 44 = .ok (.iinc 1 1, 3) := by decide +kernel
theorem dX12_findTrade_47 : decode cX12_findTrade 47 = .ok (.goto (-35), 3) := by decide +kernel
theorem dX12_findTrade_50 : decode cX12_findTrade 50 = .ok (.aload_n 0, 1) := by decide +kernel
theorem dX12_findTrade_51 : decode cX12_findTrade 51 = .ok (.getfield 445, 3) := by decide +kernel
theorem dX12_findTrade_54 : decode cX12_findTrade 54 = .ok (.ifCond .eq 33, 3) := by decide +kernel
theorem dX12_findTrade_57 : decode cX12_findTrade 57 = .ok (.iconst 0, 1) := by decide +kernel
theorem dX12_findTrade_58 : decode cX12_findTrade 58 = .ok (.istore_n 1, 1) := by decide +kernel
theorem dX12_findTrade_59 : decode cX12_findTrade 59 = .ok (.aload_n 0, 1) := by decide +kernel
theorem dX12_findTrade_60 : decode cX12_findTrade 60 = .ok (.getfield 445, 3) := by decide +kernel
theorem dX12_findTrade_63 : decode cX12_findTrade 63 = .ok (.iload_n 1, 1) := by decide +kernel
theorem dX12_findTrade_64 : decode cX12_findTrade 64 = .ok (.invokestatic 107, 3) := by decide +kernel
theorem dX12_findTrade_67 : decode cX12_findTrade 67 = .ok (.ifCond .eq 11, 3) := by decide +kernel
theorem dX12_findTrade_70 : decode cX12_findTrade 70 = .ok (.aload_n 0, 1) := by decide +kernel
theorem dX12_findTrade_71 : decode cX12_findTrade 71 = .ok (.iload_n 1, 1) := by decide +kernel
theorem dX12_findTrade_72 : decode cX12_findTrade 72 = .ok (.invokevirtual 454, 3) := by decide +kernel
theorem dX12_findTrade_75 : decode cX12_findTrade 75 = .ok (.ifCond .ne 9, 3) := by decide +kernel
theorem dX12_findTrade_78 : decode cX12_findTrade 78 = .ok (.iinc 1 1, 3) := by decide +kernel
theorem dX12_findTrade_81 : decode cX12_findTrade 81 = .ok (.goto (-22), 3) := by decide +kernel
theorem dX12_findTrade_84 : decode cX12_findTrade 84 = .ok (.goto (-34), 3) := by decide +kernel
theorem dX12_findTrade_87 : decode cX12_findTrade 87 = .ok (.return_, 1) := by decide +kernel
theorem tf_12_445 : tFld TB0 12 445 = some (12, 48) := rfl
theorem tf_12_451 : tFld TB0 12 451 = some (12, 49) := rfl
set_option maxRecDepth 20000 in
theorem tm_12_382 : tMet TB0 12 382 = some (0, M_X12_likes) := rfl
set_option maxRecDepth 20000 in
theorem tm_12_448 : tMet TB0 12 448 = some (0, M_X12_pointsAt) := rfl
set_option maxRecDepth 20000 in
theorem tm_12_454 : tMet TB0 12 454 = some (0, M_X12_goesRound) := rfl
def rLe (h : mH) (m : Nat) (s : Int) : Prop := rI h m 48 = s ∧ 0 ≤ s ∧ s < 64
theorem rLe_c {S : Nat → Nat → Prop} {h h1 : mH} {m : Nat} {s : Int} (f : frm S h h1) (z : ∀ a k, a = m ∧ k = 48 → ¬ S a k) (H : rLe h m s) : rLe h1 m s := ⟨(frm_r f (z _ _ (by omega))).trans H.1, H.2⟩
def rGt (h : mH) (m : Nat) (r : Int → Int) (n : Int) : Prop := (∀ k : Int, 0 ≤ k → k < 6 → rI h (m + 22) k = r k) ∧ rI h m 49 = n
theorem rGt_c {S : Nat → Nat → Prop} {h h1 : mH} {m : Nat} {r : Int → Int} {n : Int} (f : frm S h h1) (z : ∀ a k, (a = m ∧ k = 49) ∨ a = m + 22 → ¬ S a k) (H : rGt h m r n) : rGt h1 m r n := ⟨fun k a c => (frm_r f (z _ _ (by omega))).trans (H.1 k a c), (frm_r f (z _ _ (by omega))).trans H.2⟩
theorem cyc_x {g : Int → Int} {s : Int} (o : okS g s) (n : nem s) : ∃ w, (0 ≤ w ∧ w < 6) ∧ hasZ s w ∧ cyc g s w := by
  obtain ⟨k, hk, p⟩ := n
  have q := it_in o hk.1 hk.2 p 6
  exact ⟨_, q.1, q.2, cyc_6 o hk.1 hk.2 p⟩
def exJ (h : mH) (m : Nat) (g : Int → Int) (s0 s : Int) : Prop := ∃ (r : Int → Int) (n : Int), rLe h m s ∧ rGt h m r n ∧ preT g s0 s n.toNat r ∧ (cardZ s + n ≤ 6 ∧ 0 ≤ n) ∧ okS g s ∧ sbs s s0
def exF (h : mH) (m : Nat) (g : Int → Int) : Prop := ∃ (s0 : Int) (r : Int → Int) (n : Int), stS g s0 ∧ rGt h m r n ∧ ttR g n.toNat s0 r ∧ (0 ≤ n ∧ n ≤ 6)
def gorP (h1 : mH) (m : Nat) (g : Int → Int) (s d : Int) (r : Int → Int) (n v : Int) : Prop := (v = 0 ∧ ¬ cyc g s d ∧ rLe h1 m s ∧ rGt h1 m r n) ∨ (v = 1 ∧ ∃ c, ring g s c ∧ rLe h1 m (subS s c) ∧ rGt h1 m (mixR g s c r) (n + 1))
theorem gorP_b {h1 : mH} {m : Nat} {g : Int → Int} {s d : Int} {r : Int → Int} {n v : Int} (H : gorP h1 m g s d r n v) : v = 0 ∨ v = 1 := by
  rcases H with q | q
  · exact Or.inl q.1
  · exact Or.inr q.1
set_option maxHeartbeats 400000 in
theorem zp_X12_likesS {ad : mA} {dd : Nat} {h : mH} {Q : mQ} {m : Nat} {g : Int → Int} (hk : rk h m) (HB : rB h m g)  (d : Int) (d_r : -2147483648 ≤ d ∧ d < 2147483648) (u : Int) (u_r : -2147483648 ≤ u ∧ u < 2147483648) (o : Int) (o_r : -2147483648 ≤ o ∧ o < 2147483648) (p1 : 0 ≤ d ∧ d < nd g) (p2 : 0 ≤ u ∧ u < nu g) (p3 : 0 ≤ o ∧ o < nu g) (kq : Q (some (.int (zI (bZ (scU g d o < scU g d u))))) h) : mCal TB0 ad (dd + 3) M_X12_likes [.ref m, .int (zI d), .int (zI u), .int (zI o)] h 0 0 Q := by
  refine ⟨Nat.le_of_ble_eq_true rfl, ?_⟩
  show mEv TB0 ad M_X12_likes (dd + 3) (0, 0) (mCal TB0 ad (dd + 2)) (fun v h' z => z.1 = 0 ∧ Q v h') 0 [some (.ref m), some (.int (zI d)), some (.int (zI u)), some (.int (zI o)), none] [] h (0, 0)
  have w1 := rB_n HB
  have w2 := rB_nd HB
  have w3 := rB_nu HB
  refine e_iload_n dX12_likes_0 rfl ?_
  refine z_bipush (6) dX12_likes_1 rfl ?_
  refine z_icmp_ne 10 dX12_likes_3 rfl ⟨by omega, by omega⟩ ⟨by omega, by omega⟩ (fun c1 => ?_) (fun c1 => ?_)
  · skip
    refine e_aload_n dX12_likes_10 rfl ?_
    refine e_iload_n dX12_likes_11 rfl ?_
    refine e_iload_n dX12_likes_12 rfl ?_
    refine e_callV [.int _, .int _] dX12_likes_13 tm_12_283 rfl (Nat.le_of_ble_eq_true rfl) (rk_s hk) (Nat.le_of_ble_eq_true rfl) (Nat.le_refl _) (Nat.le_refl _) rfl (zp_X12_fitOf hk HB d ⟨by omega, by omega⟩ u ⟨by omega, by omega⟩ (by omega) ?_)
    have y2 := fitZ_b g d u
    refine e_aload_n dX12_likes_16 rfl ?_
    refine e_iload_n dX12_likes_17 rfl ?_
    refine e_iload_n dX12_likes_18 rfl ?_
    refine e_callV [.int _, .int _] dX12_likes_19 tm_12_283 rfl (Nat.le_of_ble_eq_true rfl) (rk_s hk) (Nat.le_of_ble_eq_true rfl) (Nat.le_refl _) (Nat.le_refl _) rfl (zp_X12_fitOf hk HB d ⟨by omega, by omega⟩ o ⟨by omega, by omega⟩ (by omega) ?_)
    have y3 := fitZ_b g d o
    refine z_isub dX12_likes_22 ?_
    refine e_istore (L' := [_, _, _, _, _]) dX12_likes_23 (Nat.le_of_ble_eq_true rfl) rfl ?_
    refine e_iload dX12_likes_25 rfl ?_
    refine z_if_gt 40 dX12_likes_27 rfl ⟨by omega, by omega⟩ (fun c4 => ?_) (fun c4 => ?_)
    · skip
      refine z_iconst (1) dX12_likes_40 rfl ?_
      refine e_goto 45 dX12_likes_41 rfl ?_
      refine z_bret dX12_likes_45 rfl (Or.inr rfl) ⟨rfl, ?_⟩
      refine z_q1 kq ?_
      unfold scU; omega
    · skip
      refine e_iload dX12_likes_30 rfl ?_
      refine z_if_ne 44 dX12_likes_32 rfl ⟨by omega, by omega⟩ (fun c5 => ?_) (fun c5 => ?_)
      · skip
        refine z_iconst (0) dX12_likes_44 rfl ?_
        refine z_bret dX12_likes_45 rfl (Or.inl rfl) ⟨rfl, ?_⟩
        refine z_q0 kq ?_
        unfold scU; omega
      · skip
        refine e_iload_n dX12_likes_35 rfl ?_
        refine e_iload_n dX12_likes_36 rfl ?_
        refine z_icmp_ge 44 dX12_likes_37 rfl ⟨by omega, by omega⟩ ⟨by omega, by omega⟩ (fun c6 => ?_) (fun c6 => ?_)
        · skip
          refine z_iconst (0) dX12_likes_44 rfl ?_
          refine z_bret dX12_likes_45 rfl (Or.inl rfl) ⟨rfl, ?_⟩
          refine z_q0 kq ?_
          unfold scU; omega
        · skip
          refine z_iconst (1) dX12_likes_40 rfl ?_
          refine e_goto 45 dX12_likes_41 rfl ?_
          refine z_bret dX12_likes_45 rfl (Or.inr rfl) ⟨rfl, ?_⟩
          refine z_q1 kq ?_
          unfold scU; omega
  · exfalso; omega
set_option maxHeartbeats 1000000 in
theorem zp_X12_pointsAt {ad : mA} {dd : Nat} {h : mH} {Q : mQ} {m : Nat} {g : Int → Int} {s : Int} (hk : rk h m) (HB : rB h m g) (HM : rM h m g) (HL : rLe h m s)  (d : Int) (d_r : -2147483648 ≤ d ∧ d < 2147483648) (ps : okS g s) (p1 : 0 ≤ d ∧ d < nd g) (kq : Q (some (.int (zI (ptZ g s d)))) h) : mCal TB0 ad (dd + 4) M_X12_pointsAt [.ref m, .int (zI d)] h 0 0 Q := by
  refine ⟨Nat.le_of_ble_eq_true rfl, ?_⟩
  show mEv TB0 ad M_X12_pointsAt (dd + 4) (0, 0) (mCal TB0 ad (dd + 3)) (fun v h' z => z.1 = 0 ∧ Q v h') 0 [some (.ref m), some (.int (zI d)), none, none] [] h (0, 0)
  have w1 := rB_n HB
  have w2 := rB_nd HB
  have w3 := rB_nu HB
  have o1 := ps.2.1
  refine z_iconst (-1) dX12_pointsAt_0 rfl ?_
  refine e_istore_n (L' := [_, _, _, _]) dX12_pointsAt_1 (Nat.le_of_ble_eq_true rfl) rfl ?_
  refine z_iconst (0) dX12_pointsAt_2 rfl ?_
  refine e_istore_n (L' := [_, _, _, _]) dX12_pointsAt_3 (Nat.le_of_ble_eq_true rfl) rfl ?_
  have lp1 : ∀ (n1 : Nat) (b e : Int), (nd g - e).toNat = n1 → (0 ≤ e ∧ e ≤ nd g) → (fmax (fun k => hasZ s k) (fun e => scU g d (dm g e)) e b) → mEv TB0 ad M_X12_pointsAt (dd + 4) (0, 0) (mCal TB0 ad (dd + 3)) (fun v h' z => z.1 = 0 ∧ Q v h') 4 [some (.ref m), some (.int (zI d)), some (.int (zI b)), some (.int (zI e))] [] h (0, 0) := by
    intro n1
    induction n1 using Nat.strongRecOn with
    | ind n1 ih1 =>
    intro b e  hn1  I1 I3
    refine e_iload_n dX12_pointsAt_4 rfl ?_
    have qb := fmax_b I3
    refine e_aload_n dX12_pointsAt_5 rfl ?_
    refine z_get (nd g) dX12_pointsAt_6 tf_12_271 (rk_s hk) (Or.inl rfl) (rB_nd HB) ?_
    have y2 := rB_n HB
    refine z_icmp_ge 60 dX12_pointsAt_9 rfl ⟨by omega, by omega⟩ ⟨by omega, by omega⟩ (fun c3 => ?_) (fun c3 => ?_)
    · skip
      refine e_iload_n dX12_pointsAt_60 rfl ?_
      refine z_iret dX12_pointsAt_61 rfl ⟨rfl, ?_⟩
      refine z_q kq ?_
      rw [show b = ptZ g s d from pt_u (by omega) (by rw [show nd g = e by omega]; exact I3)]
    · skip
      refine e_aload_n dX12_pointsAt_12 rfl ?_
      refine z_get s dX12_pointsAt_13 tf_12_445 (rk_s hk) (Or.inl rfl) HL.1 ?_
      have y4 := HL.2
      refine e_iload_n dX12_pointsAt_16 rfl ?_
      refine e_callS [.int _, .int _] dX12_pointsAt_17 tm_12_107 rfl (Nat.le_of_ble_eq_true rfl) (Nat.le_refl _) (Nat.le_refl _) rfl (zp_X12_has s ⟨by omega, by omega⟩ e ⟨by omega, by omega⟩ (by omega) (by omega) (by omega) ?_)
      refine z_ifb_eq 52 dX12_pointsAt_20 rfl (fun c5 => ?_) (fun c5 => ?_)
      · skip
        refine e_iload_n dX12_pointsAt_52 rfl ?_
        refine e_istore_n (L' := [_, _, _, _]) dX12_pointsAt_53 (Nat.le_of_ble_eq_true rfl) rfl ?_
        refine z_iinc (L' := [_, _, _, _]) dX12_pointsAt_54 rfl rfl ?_
        refine e_goto 4 dX12_pointsAt_57 rfl ?_
        exact ih1 _ (by omega) b (e + 1)  rfl  (by omega) (by first | exact fmax_no I3 (by assumption) | exact fmax_new I3 (by omega) (by assumption) (Or.inl (by omega)) | exact fmax_new I3 (by omega) (by assumption) (Or.inr (by assumption)) | exact fmax_keep I3 (by omega) (by show scU g d (dm g e) ≤ scU g d (dm g b); omega))
      · skip
        refine e_iload_n dX12_pointsAt_23 rfl ?_
        refine z_iconst (-1) dX12_pointsAt_24 rfl ?_
        refine z_icmp_eq 48 dX12_pointsAt_25 rfl ⟨by omega, by omega⟩ ⟨by omega, by omega⟩ (fun c6 => ?_) (fun c6 => ?_)
        · skip
          refine e_iload_n dX12_pointsAt_48 rfl ?_
          refine e_goto 53 dX12_pointsAt_49 rfl ?_
          refine e_istore_n (L' := [_, _, _, _]) dX12_pointsAt_53 (Nat.le_of_ble_eq_true rfl) rfl ?_
          refine z_iinc (L' := [_, _, _, _]) dX12_pointsAt_54 rfl rfl ?_
          refine e_goto 4 dX12_pointsAt_57 rfl ?_
          exact ih1 _ (by omega) e (e + 1)  rfl  (by omega) (by first | exact fmax_no I3 (by assumption) | exact fmax_new I3 (by omega) (by assumption) (Or.inl (by omega)) | exact fmax_new I3 (by omega) (by assumption) (Or.inr (by assumption)) | exact fmax_keep I3 (by omega) (by show scU g d (dm g e) ≤ scU g d (dm g b); omega))
        · skip
          have he : hasZ s e := by assumption
          have oe := ps.2.2 e (by omega) (by omega) he
          have ob := ps.2.2 b (by omega) (by omega) (fmax_p I3 (by omega))
          refine e_aload_n dX12_pointsAt_28 rfl ?_
          refine e_iload_n dX12_pointsAt_29 rfl ?_
          refine e_aload_n dX12_pointsAt_30 rfl ?_
          refine e_get (.ref (m + 15)) dX12_pointsAt_31 tf_12_53 (rk_s hk) (congrArg va_rf (rk_r15 hk)) ?_
          refine e_iload_n dX12_pointsAt_34 rfl ?_
          refine z_ild (dm g e) dX12_pointsAt_35 (rk_a15 hk) (by decide) (by omega) (by omega) (rM_d HM (by omega) (by omega)) ?_
          have y7 := wM_d (rM_w HM) (show 0 ≤ e by omega) (by omega)
          refine e_aload_n dX12_pointsAt_36 rfl ?_
          refine e_get (.ref (m + 15)) dX12_pointsAt_37 tf_12_53 (rk_s hk) (congrArg va_rf (rk_r15 hk)) ?_
          refine e_iload_n dX12_pointsAt_40 rfl ?_
          refine z_ild (dm g b) dX12_pointsAt_41 (rk_a15 hk) (by decide) (by omega) (by omega) (rM_d HM (by omega) (by omega)) ?_
          have y8 := wM_d (rM_w HM) (show 0 ≤ b by omega) (by omega)
          refine e_callV [.int _, .int _, .int _] dX12_pointsAt_42 tm_12_382 rfl (Nat.le_of_ble_eq_true rfl) (rk_s hk) (Nat.le_of_ble_eq_true rfl) (Nat.le_refl _) (Nat.le_refl _) rfl (zp_X12_likesS hk HB d ⟨by omega, by omega⟩ (dm g e) ⟨by omega, by omega⟩ (dm g b) ⟨by omega, by omega⟩ (by omega) (by omega) (by omega) ?_)
          refine z_ifb_eq 52 dX12_pointsAt_45 rfl (fun c9 => ?_) (fun c9 => ?_)
          · skip
            refine e_iload_n dX12_pointsAt_52 rfl ?_
            refine e_istore_n (L' := [_, _, _, _]) dX12_pointsAt_53 (Nat.le_of_ble_eq_true rfl) rfl ?_
            refine z_iinc (L' := [_, _, _, _]) dX12_pointsAt_54 rfl rfl ?_
            refine e_goto 4 dX12_pointsAt_57 rfl ?_
            exact ih1 _ (by omega) b (e + 1)  rfl  (by omega) (by first | exact fmax_no I3 (by assumption) | exact fmax_new I3 (by omega) (by assumption) (Or.inl (by omega)) | exact fmax_new I3 (by omega) (by assumption) (Or.inr (by assumption)) | exact fmax_keep I3 (by omega) (by show scU g d (dm g e) ≤ scU g d (dm g b); omega))
          · skip
            refine e_iload_n dX12_pointsAt_48 rfl ?_
            refine e_goto 53 dX12_pointsAt_49 rfl ?_
            refine e_istore_n (L' := [_, _, _, _]) dX12_pointsAt_53 (Nat.le_of_ble_eq_true rfl) rfl ?_
            refine z_iinc (L' := [_, _, _, _]) dX12_pointsAt_54 rfl rfl ?_
            refine e_goto 4 dX12_pointsAt_57 rfl ?_
            exact ih1 _ (by omega) e (e + 1)  rfl  (by omega) (by first | exact fmax_no I3 (by assumption) | exact fmax_new I3 (by omega) (by assumption) (Or.inl (by omega)) | exact fmax_new I3 (by omega) (by assumption) (Or.inr (by assumption)) | exact fmax_keep I3 (by omega) (by show scU g d (dm g e) ≤ scU g d (dm g b); omega))
  exact lp1 _ (-1) 0  rfl  (by omega) (fmax_0 _ _ (by omega))
set_option maxHeartbeats 4000000 in
theorem zp_X12_goesRound {ad : mA} {dd : Nat} {h : mH} {Q : mQ} {m : Nat} {g r : Int → Int} {s n : Int} (hk : rk h m) (HB : rB h m g) (HM : rM h m g) (HL : rLe h m s) (HG : rGt h m r n)  (d : Int) (d_r : -2147483648 ≤ d ∧ d < 2147483648) (ps : okS g s) (p1 : 0 ≤ d ∧ d < 6) (p2 : hasZ s d) (p3 : 0 ≤ n ∧ n < 100) (kq : ∀ v : Int, True → ∀ h1, frm (fun a k => (a = m ∧ (k = 48 ∨ k = 49)) ∨ a = m + 22) h h1 → (gorP h1 m g s d r n v) → Q (some (.int (zI v))) h1) : mCal TB0 ad (dd + 5) M_X12_goesRound [.ref m, .int (zI d)] h 0 0 Q := by
  refine ⟨Nat.le_of_ble_eq_true rfl, ?_⟩
  show mEv TB0 ad M_X12_goesRound (dd + 5) (0, 0) (mCal TB0 ad (dd + 4)) (fun v h' z => z.1 = 0 ∧ Q v h') 0 [some (.ref m), some (.int (zI d)), none, none] [] h (0, 0)
  have FR0 : frm (fun a k => (a = m ∧ (k = 48 ∨ k = 49)) ∨ a = m + 22) h h := frm_0 h
  have w1 := rB_n HB
  have w2 := rB_nd HB
  have w3 := rB_nu HB
  have o1 := ps.2.1
  have od := ps.2.2 d p1.1 p1.2 p2
  refine e_aload_n dX12_goesRound_0 rfl ?_
  refine e_iload_n dX12_goesRound_1 rfl ?_
  refine e_callV [.int _] dX12_goesRound_2 tm_12_448 rfl (Nat.le_of_ble_eq_true rfl) (rk_s hk) (Nat.le_of_ble_eq_true rfl) (Nat.le_refl _) (Nat.le_refl _) rfl (zp_X12_pointsAt hk HB HM HL d ⟨by omega, by omega⟩ (by omega) (by omega) ?_)
  refine e_istore_n (L' := [_, _, _, _]) dX12_goesRound_5 (Nat.le_of_ble_eq_true rfl) rfl ?_
  refine z_iconst (0) dX12_goesRound_6 rfl ?_
  refine e_istore_n (L' := [_, _, _, _]) dX12_goesRound_7 (Nat.le_of_ble_eq_true rfl) rfl ?_
  have lp1 : ∀ (n1 : Nat) (x k : Int), (6 - k).toNat = n1 → (0 ≤ k ∧ k ≤ 6) → (x = itZ g s d (k + 1).toNat) → (∀ p : Nat, 1 ≤ p → p ≤ k → itZ g s d p ≠ d) → mEv TB0 ad M_X12_goesRound (dd + 5) (0, 0) (mCal TB0 ad (dd + 4)) (fun v h' z => z.1 = 0 ∧ Q v h') 8 [some (.ref m), some (.int (zI d)), some (.int (zI x)), some (.int (zI k))] [] h (0, 0) := by
    intro n1
    induction n1 using Nat.strongRecOn with
    | ind n1 ih1 =>
    intro x k  hn1  I1 I2 I4
    refine e_iload_n dX12_goesRound_8 rfl ?_
    have xi := it_in ps p1.1 p1.2 p2 (k + 1).toNat
    rw [← I2] at xi
    have xn := ps.2.2 x xi.1.1 xi.1.2 xi.2
    refine z_bipush (6) dX12_goesRound_9 rfl ?_
    refine z_icmp_ge 31 dX12_goesRound_11 rfl ⟨by omega, by omega⟩ ⟨by omega, by omega⟩ (fun c2 => ?_) (fun c2 => ?_)
    · skip
      refine e_iload_n dX12_goesRound_31 rfl ?_
      refine e_iload_n dX12_goesRound_32 rfl ?_
      refine z_icmp_eq 38 dX12_goesRound_33 rfl ⟨by omega, by omega⟩ ⟨by omega, by omega⟩ (fun c3 => ?_) (fun c3 => ?_)
      · skip
        have cy : cyc g s d := ⟨(k + 1).toNat, by omega, by rw [← I2]; omega⟩
        refine z_iconst (0) dX12_goesRound_38 rfl ?_
        refine e_istore_n (L' := [_, _, _, _]) dX12_goesRound_39 (Nat.le_of_ble_eq_true rfl) rfl ?_
        have lp4 : ∀ (n4 : Nat) (z c j : Int) (h4 : mH), (7 - j).toNat = n4 → (rk h4 m) → (rB h4 m g) → (rM h4 m g) → (rLe h4 m s) → (frm (fun a k => (a = m ∧ (k = 48 ∨ k = 49)) ∨ a = m + 22) h h4) → (0 ≤ j) → (orb g s d j.toNat c) → (z = itZ g s d j.toNat) → (∀ k : Int, 0 ≤ k → k < 6 → rI h4 (m + 22) k = if hasZ c k then dm g (ptZ g s k) else r k) → (rI h4 m 49 = n) → mEv TB0 ad M_X12_goesRound (dd + 5) (0, 0) (mCal TB0 ad (dd + 4)) (fun v h' z => z.1 = 0 ∧ Q v h') 40 [some (.ref m), some (.int (zI d)), some (.int (zI z)), some (.int (zI c))] [] h4 (0, 0) := by
          intro n4
          induction n4 using Nat.strongRecOn with
          | ind n4 ih4 =>
          intro z c j h4 hn4 k5 H6 H7 H8 FR9 J1 J2 J3 J4 J5
          refine e_iload_n dX12_goesRound_40 rfl ?_
          have j6 := orb_6 ps p1.1 p1.2 p2 J2
          have zi := it_in ps p1.1 p1.2 p2 j.toNat
          rw [← J3] at zi
          have zn := ps.2.2 z zi.1.1 zi.1.2 zi.2
          have cb := J2.1
          refine e_iload_n dX12_goesRound_41 rfl ?_
          refine e_callS [.int _, .int _] dX12_goesRound_42 tm_12_107 rfl (Nat.le_of_ble_eq_true rfl) (Nat.le_refl _) (Nat.le_refl _) rfl (zp_X12_has c ⟨by omega, by omega⟩ z ⟨by omega, by omega⟩ (by omega) (by omega) (by omega) ?_)
          refine z_ifb_ne 79 dX12_goesRound_45 rfl (fun c10 => ?_) (fun c10 => ?_)
          · skip
            have w : ring g s c := orb_r ps p1.1 p1.2 p2 cy J2 (by rw [← J3]; assumption)
            refine e_aload_n dX12_goesRound_79 rfl ?_
            refine e_dup dX12_goesRound_80 rfl ?_
            refine z_get s dX12_goesRound_81 tf_12_445 (rk_s k5) (Or.inl rfl) H8.1 ?_
            have y11 := H8.2
            refine e_iload_n dX12_goesRound_84 rfl ?_
            refine z_iconst (-1) dX12_goesRound_85 rfl ?_
            refine z_inot dX12_goesRound_86 (by omega) ?_
            refine z_iandn dX12_goesRound_87 (by omega) (by omega) ?_
            have y12 := subS_b s c
            refine z_put dX12_goesRound_88 tf_12_445 (rk_s k5) rfl (Or.inl rfl) (fun h13 e14 => ?_)
            have f15 := frm_1 e14
            have k16 := rk_q (frm_s f15) k5
            have H17 := rB_c f15 (fun a k q => by omega) H6
            have H18 := rM_c f15 (fun a k q => by omega) H7
            have FR19 := frm_t FR9 (frm_m (S' := (fun a k => (a = m ∧ (k = 48 ∨ k = 49)) ∨ a = m + 22)) f15 (fun a k q => by omega))
            refine e_aload_n dX12_goesRound_91 rfl ?_
            refine e_dup dX12_goesRound_92 rfl ?_
            refine z_get n dX12_goesRound_93 tf_12_451 (rk_s k16) (Or.inl rfl) (((frm_r f15 (by omega))).trans J5) ?_
            refine z_iconst (1) dX12_goesRound_96 rfl ?_
            refine z_iadd dX12_goesRound_97 ?_
            refine z_put dX12_goesRound_98 tf_12_451 (rk_s k16) rfl (Or.inl rfl) (fun h20 e21 => ?_)
            have f22 := frm_1 e21
            have k23 := rk_q (frm_s f22) k16
            have H24 := rB_c f22 (fun a k q => by omega) H17
            have H25 := rM_c f22 (fun a k q => by omega) H18
            have FR26 := frm_t FR19 (frm_m (S' := (fun a k => (a = m ∧ (k = 48 ∨ k = 49)) ∨ a = m + 22)) f22 (fun a k q => by omega))
            refine z_iconst (1) dX12_goesRound_101 rfl ?_
            refine z_bret dX12_goesRound_102 rfl (Or.inr rfl) ⟨rfl, ?_⟩
            exact kq 1 trivial _ FR26 (Or.inr ⟨rfl, c, w, ⟨(show rI h20 m 48 = (subS s c) from ((frm_r f22 (by omega)).trans (rI_eq e14 ⟨by omega, by omega⟩))), by have := subS_b s c; omega⟩, fun k a e => (((frm_r f22 (by omega)).trans (frm_r f15 (by omega)))).trans (J4 k a e), (show rI h20 m 49 = (n + 1) from (rI_eq e21 ⟨by omega, by omega⟩))⟩)
          · skip
            refine e_iload_n dX12_goesRound_48 rfl ?_
            refine z_iconst (1) dX12_goesRound_49 rfl ?_
            refine e_iload_n dX12_goesRound_50 rfl ?_
            refine z_ishl dX12_goesRound_51 (by omega) (by omega) (by omega) (by omega) ?_
            have y27 := shlZ_b 1 z
            refine z_ior dX12_goesRound_52 (by omega) (by omega) (by omega) (by omega) ?_
            have y28 := orZ_b c (shlZ 1 z)
            refine e_istore_n (L' := [_, _, _, _]) dX12_goesRound_53 (Nat.le_of_ble_eq_true rfl) rfl ?_
            refine e_aload_n dX12_goesRound_54 rfl ?_
            refine e_get (.ref (m + 22)) dX12_goesRound_55 tf_12_75 (rk_s k5) (congrArg va_rf (rk_r22 k5)) ?_
            refine e_iload_n dX12_goesRound_58 rfl ?_
            refine e_aload_n dX12_goesRound_59 rfl ?_
            refine e_get (.ref (m + 15)) dX12_goesRound_60 tf_12_53 (rk_s k5) (congrArg va_rf (rk_r15 k5)) ?_
            refine e_aload_n dX12_goesRound_63 rfl ?_
            refine e_iload_n dX12_goesRound_64 rfl ?_
            refine e_callV [.int _] dX12_goesRound_65 tm_12_448 rfl (Nat.le_of_ble_eq_true rfl) (rk_s k5) (Nat.le_of_ble_eq_true rfl) (Nat.le_refl _) (Nat.le_refl _) rfl (zp_X12_pointsAt k5 H6 H7 H8 z ⟨by omega, by omega⟩ (by omega) (by omega) ?_)
            have pz := pt_in ps ⟨d, p1, p2⟩ z
            have pw := ps.2.2 (ptZ g s z) pz.1.1 (by omega) pz.2
            refine z_ild (dm g (ptZ g s z)) dX12_goesRound_68 (rk_a15 k5) (by decide) (by omega) (by omega) (rM_d H7 (by omega) (by omega)) ?_
            have y29 := wM_d (rM_w H7) (show 0 ≤ (ptZ g s z) by omega) (by omega)
            refine z_ist dX12_goesRound_69 (rk_a22 k5) (by decide) (by omega) (by omega) (fun h30 e31 => ?_)
            have f32 := frm_1 e31
            have k33 := rk_q (frm_s f32) k5
            have H34 := rB_c f32 (fun a k q => by omega) H6
            have H35 := rM_c f32 (fun a k q => by omega) H7
            have H36 := rLe_c f32 (fun a k q => by omega) H8
            have FR37 := frm_t FR9 (frm_m (S' := (fun a k => (a = m ∧ (k = 48 ∨ k = 49)) ∨ a = m + 22)) f32 (fun a k q => by omega))
            refine e_aload_n dX12_goesRound_70 rfl ?_
            refine e_iload_n dX12_goesRound_71 rfl ?_
            refine e_callV [.int _] dX12_goesRound_72 tm_12_448 rfl (Nat.le_of_ble_eq_true rfl) (rk_s k33) (Nat.le_of_ble_eq_true rfl) (Nat.le_refl _) (Nat.le_refl _) rfl (zp_X12_pointsAt k33 H34 H35 H36 z ⟨by omega, by omega⟩ (by omega) (by omega) ?_)
            refine e_istore_n (L' := [_, _, _, _]) dX12_goesRound_75 (Nat.le_of_ble_eq_true rfl) rfl ?_
            refine e_goto 40 dX12_goesRound_76 rfl ?_
            exact ih4 _ (by omega) (ptZ g s z) (orZ c (shlZ 1 z)) (j + 1) h30 rfl k33 H34 H35 H36 FR37 (by omega) (by rw [show (j + 1).toNat = j.toNat + 1 by omega, J3]; exact orb_s J2 (by omega) (by rw [← J3]; assumption)) (by rw [it_s (by omega), ← J3]) (fun k a e => by
                      rw [or_if (by omega) a]
                      by_cases q : k = z
                      · rw [if_pos q, q]; exact (rI_eq e31 ⟨by omega, by omega⟩)
                      · rw [if_neg q]; exact ((frm_r f32 (by omega))).trans (J4 k a e)) (((frm_r f32 (by omega))).trans J5)
        exact lp4 _ x 0 0 h rfl hk HB HM HL FR0 (by omega) (orb_0 g s d) (show x = d by omega) (fun k a c => (HG.1 k a c).trans (if_neg (has_0 k)).symm) HG.2
      · skip
        have I4 : ∀ p : Nat, 1 ≤ p → p ≤ k + 1 → itZ g s d p ≠ d := fun p a c e => by
          by_cases q : (p : Int) = k + 1
          · rw [show p = (k + 1).toNat by omega, ← I2] at e; omega
          · exact I4 p a (by omega) e
        refine z_iconst (0) dX12_goesRound_36 rfl ?_
        refine z_bret dX12_goesRound_37 rfl (Or.inl rfl) ⟨rfl, ?_⟩
        exact kq 0 trivial _ FR0 (Or.inl ⟨rfl, fun ⟨p, hp, ep⟩ => I4 p hp.1 (by omega) ep, HL, HG⟩)
    · skip
      refine e_iload_n dX12_goesRound_14 rfl ?_
      refine e_iload_n dX12_goesRound_15 rfl ?_
      refine z_icmp_eq 31 dX12_goesRound_16 rfl ⟨by omega, by omega⟩ ⟨by omega, by omega⟩ (fun c38 => ?_) (fun c38 => ?_)
      · skip
        refine e_iload_n dX12_goesRound_31 rfl ?_
        refine e_iload_n dX12_goesRound_32 rfl ?_
        refine z_icmp_eq 38 dX12_goesRound_33 rfl ⟨by omega, by omega⟩ ⟨by omega, by omega⟩ (fun c39 => ?_) (fun c39 => ?_)
        · skip
          have cy : cyc g s d := ⟨(k + 1).toNat, by omega, by rw [← I2]; omega⟩
          refine z_iconst (0) dX12_goesRound_38 rfl ?_
          refine e_istore_n (L' := [_, _, _, _]) dX12_goesRound_39 (Nat.le_of_ble_eq_true rfl) rfl ?_
          have lp40 : ∀ (n40 : Nat) (z c j : Int) (h40 : mH), (7 - j).toNat = n40 → (rk h40 m) → (rB h40 m g) → (rM h40 m g) → (rLe h40 m s) → (frm (fun a k => (a = m ∧ (k = 48 ∨ k = 49)) ∨ a = m + 22) h h40) → (0 ≤ j) → (orb g s d j.toNat c) → (z = itZ g s d j.toNat) → (∀ k : Int, 0 ≤ k → k < 6 → rI h40 (m + 22) k = if hasZ c k then dm g (ptZ g s k) else r k) → (rI h40 m 49 = n) → mEv TB0 ad M_X12_goesRound (dd + 5) (0, 0) (mCal TB0 ad (dd + 4)) (fun v h' z => z.1 = 0 ∧ Q v h') 40 [some (.ref m), some (.int (zI d)), some (.int (zI z)), some (.int (zI c))] [] h40 (0, 0) := by
            intro n40
            induction n40 using Nat.strongRecOn with
            | ind n40 ih40 =>
            intro z c j h40 hn40 k41 H42 H43 H44 FR45 J1 J2 J3 J4 J5
            refine e_iload_n dX12_goesRound_40 rfl ?_
            have j6 := orb_6 ps p1.1 p1.2 p2 J2
            have zi := it_in ps p1.1 p1.2 p2 j.toNat
            rw [← J3] at zi
            have zn := ps.2.2 z zi.1.1 zi.1.2 zi.2
            have cb := J2.1
            refine e_iload_n dX12_goesRound_41 rfl ?_
            refine e_callS [.int _, .int _] dX12_goesRound_42 tm_12_107 rfl (Nat.le_of_ble_eq_true rfl) (Nat.le_refl _) (Nat.le_refl _) rfl (zp_X12_has c ⟨by omega, by omega⟩ z ⟨by omega, by omega⟩ (by omega) (by omega) (by omega) ?_)
            refine z_ifb_ne 79 dX12_goesRound_45 rfl (fun c46 => ?_) (fun c46 => ?_)
            · skip
              have w : ring g s c := orb_r ps p1.1 p1.2 p2 cy J2 (by rw [← J3]; assumption)
              refine e_aload_n dX12_goesRound_79 rfl ?_
              refine e_dup dX12_goesRound_80 rfl ?_
              refine z_get s dX12_goesRound_81 tf_12_445 (rk_s k41) (Or.inl rfl) H44.1 ?_
              have y47 := H44.2
              refine e_iload_n dX12_goesRound_84 rfl ?_
              refine z_iconst (-1) dX12_goesRound_85 rfl ?_
              refine z_inot dX12_goesRound_86 (by omega) ?_
              refine z_iandn dX12_goesRound_87 (by omega) (by omega) ?_
              have y48 := subS_b s c
              refine z_put dX12_goesRound_88 tf_12_445 (rk_s k41) rfl (Or.inl rfl) (fun h49 e50 => ?_)
              have f51 := frm_1 e50
              have k52 := rk_q (frm_s f51) k41
              have H53 := rB_c f51 (fun a k q => by omega) H42
              have H54 := rM_c f51 (fun a k q => by omega) H43
              have FR55 := frm_t FR45 (frm_m (S' := (fun a k => (a = m ∧ (k = 48 ∨ k = 49)) ∨ a = m + 22)) f51 (fun a k q => by omega))
              refine e_aload_n dX12_goesRound_91 rfl ?_
              refine e_dup dX12_goesRound_92 rfl ?_
              refine z_get n dX12_goesRound_93 tf_12_451 (rk_s k52) (Or.inl rfl) (((frm_r f51 (by omega))).trans J5) ?_
              refine z_iconst (1) dX12_goesRound_96 rfl ?_
              refine z_iadd dX12_goesRound_97 ?_
              refine z_put dX12_goesRound_98 tf_12_451 (rk_s k52) rfl (Or.inl rfl) (fun h56 e57 => ?_)
              have f58 := frm_1 e57
              have k59 := rk_q (frm_s f58) k52
              have H60 := rB_c f58 (fun a k q => by omega) H53
              have H61 := rM_c f58 (fun a k q => by omega) H54
              have FR62 := frm_t FR55 (frm_m (S' := (fun a k => (a = m ∧ (k = 48 ∨ k = 49)) ∨ a = m + 22)) f58 (fun a k q => by omega))
              refine z_iconst (1) dX12_goesRound_101 rfl ?_
              refine z_bret dX12_goesRound_102 rfl (Or.inr rfl) ⟨rfl, ?_⟩
              exact kq 1 trivial _ FR62 (Or.inr ⟨rfl, c, w, ⟨(show rI h56 m 48 = (subS s c) from ((frm_r f58 (by omega)).trans (rI_eq e50 ⟨by omega, by omega⟩))), by have := subS_b s c; omega⟩, fun k a e => (((frm_r f58 (by omega)).trans (frm_r f51 (by omega)))).trans (J4 k a e), (show rI h56 m 49 = (n + 1) from (rI_eq e57 ⟨by omega, by omega⟩))⟩)
            · skip
              refine e_iload_n dX12_goesRound_48 rfl ?_
              refine z_iconst (1) dX12_goesRound_49 rfl ?_
              refine e_iload_n dX12_goesRound_50 rfl ?_
              refine z_ishl dX12_goesRound_51 (by omega) (by omega) (by omega) (by omega) ?_
              have y63 := shlZ_b 1 z
              refine z_ior dX12_goesRound_52 (by omega) (by omega) (by omega) (by omega) ?_
              have y64 := orZ_b c (shlZ 1 z)
              refine e_istore_n (L' := [_, _, _, _]) dX12_goesRound_53 (Nat.le_of_ble_eq_true rfl) rfl ?_
              refine e_aload_n dX12_goesRound_54 rfl ?_
              refine e_get (.ref (m + 22)) dX12_goesRound_55 tf_12_75 (rk_s k41) (congrArg va_rf (rk_r22 k41)) ?_
              refine e_iload_n dX12_goesRound_58 rfl ?_
              refine e_aload_n dX12_goesRound_59 rfl ?_
              refine e_get (.ref (m + 15)) dX12_goesRound_60 tf_12_53 (rk_s k41) (congrArg va_rf (rk_r15 k41)) ?_
              refine e_aload_n dX12_goesRound_63 rfl ?_
              refine e_iload_n dX12_goesRound_64 rfl ?_
              refine e_callV [.int _] dX12_goesRound_65 tm_12_448 rfl (Nat.le_of_ble_eq_true rfl) (rk_s k41) (Nat.le_of_ble_eq_true rfl) (Nat.le_refl _) (Nat.le_refl _) rfl (zp_X12_pointsAt k41 H42 H43 H44 z ⟨by omega, by omega⟩ (by omega) (by omega) ?_)
              have pz := pt_in ps ⟨d, p1, p2⟩ z
              have pw := ps.2.2 (ptZ g s z) pz.1.1 (by omega) pz.2
              refine z_ild (dm g (ptZ g s z)) dX12_goesRound_68 (rk_a15 k41) (by decide) (by omega) (by omega) (rM_d H43 (by omega) (by omega)) ?_
              have y65 := wM_d (rM_w H43) (show 0 ≤ (ptZ g s z) by omega) (by omega)
              refine z_ist dX12_goesRound_69 (rk_a22 k41) (by decide) (by omega) (by omega) (fun h66 e67 => ?_)
              have f68 := frm_1 e67
              have k69 := rk_q (frm_s f68) k41
              have H70 := rB_c f68 (fun a k q => by omega) H42
              have H71 := rM_c f68 (fun a k q => by omega) H43
              have H72 := rLe_c f68 (fun a k q => by omega) H44
              have FR73 := frm_t FR45 (frm_m (S' := (fun a k => (a = m ∧ (k = 48 ∨ k = 49)) ∨ a = m + 22)) f68 (fun a k q => by omega))
              refine e_aload_n dX12_goesRound_70 rfl ?_
              refine e_iload_n dX12_goesRound_71 rfl ?_
              refine e_callV [.int _] dX12_goesRound_72 tm_12_448 rfl (Nat.le_of_ble_eq_true rfl) (rk_s k69) (Nat.le_of_ble_eq_true rfl) (Nat.le_refl _) (Nat.le_refl _) rfl (zp_X12_pointsAt k69 H70 H71 H72 z ⟨by omega, by omega⟩ (by omega) (by omega) ?_)
              refine e_istore_n (L' := [_, _, _, _]) dX12_goesRound_75 (Nat.le_of_ble_eq_true rfl) rfl ?_
              refine e_goto 40 dX12_goesRound_76 rfl ?_
              exact ih40 _ (by omega) (ptZ g s z) (orZ c (shlZ 1 z)) (j + 1) h66 rfl k69 H70 H71 H72 FR73 (by omega) (by rw [show (j + 1).toNat = j.toNat + 1 by omega, J3]; exact orb_s J2 (by omega) (by rw [← J3]; assumption)) (by rw [it_s (by omega), ← J3]) (fun k a e => by
                        rw [or_if (by omega) a]
                        by_cases q : k = z
                        · rw [if_pos q, q]; exact (rI_eq e67 ⟨by omega, by omega⟩)
                        · rw [if_neg q]; exact ((frm_r f68 (by omega))).trans (J4 k a e)) (((frm_r f68 (by omega))).trans J5)
          exact lp40 _ x 0 0 h rfl hk HB HM HL FR0 (by omega) (orb_0 g s d) (show x = d by omega) (fun k a c => (HG.1 k a c).trans (if_neg (has_0 k)).symm) HG.2
        · skip
          have I4 : ∀ p : Nat, 1 ≤ p → p ≤ k + 1 → itZ g s d p ≠ d := fun p a c e => by
            by_cases q : (p : Int) = k + 1
            · rw [show p = (k + 1).toNat by omega, ← I2] at e; omega
            · exact I4 p a (by omega) e
          refine z_iconst (0) dX12_goesRound_36 rfl ?_
          refine z_bret dX12_goesRound_37 rfl (Or.inl rfl) ⟨rfl, ?_⟩
          exact kq 0 trivial _ FR0 (Or.inl ⟨rfl, fun ⟨p, hp, ep⟩ => I4 p hp.1 (by omega) ep, HL, HG⟩)
      · skip
        refine e_aload_n dX12_goesRound_19 rfl ?_
        refine e_iload_n dX12_goesRound_20 rfl ?_
        refine e_callV [.int _] dX12_goesRound_21 tm_12_448 rfl (Nat.le_of_ble_eq_true rfl) (rk_s hk) (Nat.le_of_ble_eq_true rfl) (Nat.le_refl _) (Nat.le_refl _) rfl (zp_X12_pointsAt hk HB HM HL x ⟨by omega, by omega⟩ (by omega) (by omega) ?_)
        refine e_istore_n (L' := [_, _, _, _]) dX12_goesRound_24 (Nat.le_of_ble_eq_true rfl) rfl ?_
        refine z_iinc (L' := [_, _, _, _]) dX12_goesRound_25 rfl rfl ?_
        refine e_goto 8 dX12_goesRound_28 rfl ?_
        exact ih1 _ (by omega) (ptZ g s x) (k + 1)  rfl  (by omega) (by rw [it_s (i := k + 1) (by omega), ← I2]) (fun p a c e => by
                  by_cases q : (p : Int) = k + 1
                  · rw [show p = (k + 1).toNat by omega, ← I2] at e; omega
                  · exact I4 p a (by omega) e)
  exact lp1 _ (ptZ g s d) 0  rfl  (by omega) rfl (fun p a c => by omega)
set_option maxHeartbeats 4000000 in
theorem zp_X12_findTrade {ad : mA} {dd : Nat} {h : mH} {Q : mQ} {m : Nat} {g : Int → Int} (hk : rk h m) (HB : rB h m g) (HM : rM h m g)    (kq : ∀ h1, frm (fun a k => (a = m ∧ (k = 48 ∨ k = 49)) ∨ a = m + 22) h h1 → (exF h1 m g) → Q none h1) : mCal TB0 ad (dd + 6) M_X12_findTrade [.ref m] h 0 0 Q := by
  refine ⟨Nat.le_of_ble_eq_true rfl, ?_⟩
  show mEv TB0 ad M_X12_findTrade (dd + 6) (0, 0) (mCal TB0 ad (dd + 5)) (fun v h' z => z.1 = 0 ∧ Q v h') 0 [some (.ref m), none] [] h (0, 0)
  have FR0 : frm (fun a k => (a = m ∧ (k = 48 ∨ k = 49)) ∨ a = m + 22) h h := frm_0 h
  have w1 := rB_n HB
  have w2 := rB_nd HB
  have w3 := rB_nu HB
  refine e_aload_n dX12_findTrade_0 rfl ?_
  refine z_iconst (0) dX12_findTrade_1 rfl ?_
  refine z_put dX12_findTrade_2 tf_12_445 (rk_s hk) rfl (Or.inl rfl) (fun h1 e2 => ?_)
  have f3 := frm_1 e2
  have k4 := rk_q (frm_s f3) hk
  have H5 := rB_c f3 (fun a k q => by omega) HB
  have H6 := rM_c f3 (fun a k q => by omega) HM
  have FR7 := frm_t FR0 (frm_m (S' := (fun a k => (a = m ∧ (k = 48 ∨ k = 49)) ∨ a = m + 22)) f3 (fun a k q => by omega))
  refine e_aload_n dX12_findTrade_5 rfl ?_
  refine z_iconst (0) dX12_findTrade_6 rfl ?_
  refine z_put dX12_findTrade_7 tf_12_451 (rk_s k4) rfl (Or.inl rfl) (fun h8 e9 => ?_)
  have f10 := frm_1 e9
  have k11 := rk_q (frm_s f10) k4
  have H12 := rB_c f10 (fun a k q => by omega) H5
  have H13 := rM_c f10 (fun a k q => by omega) H6
  have FR14 := frm_t FR7 (frm_m (S' := (fun a k => (a = m ∧ (k = 48 ∨ k = 49)) ∨ a = m + 22)) f10 (fun a k q => by omega))
  refine z_iconst (0) dX12_findTrade_10 rfl ?_
  refine e_istore_n (L' := [_, _]) dX12_findTrade_11 (Nat.le_of_ble_eq_true rfl) rfl ?_
  have lp15 : ∀ (n15 : Nat) (d s : Int) (h15 : mH), (nd g - d).toNat = n15 → (rk h15 m) → (rB h15 m g) → (rM h15 m g) → (frm (fun a k => (a = m ∧ (k = 48 ∨ k = 49)) ∨ a = m + 22) h h15) → (0 ≤ d ∧ d ≤ nd g) → (rI h15 m 48 = s) → (prS (fun k => dm g k ≠ -1) s d) → (rI h15 m 49 = 0) → mEv TB0 ad M_X12_findTrade (dd + 6) (0, 0) (mCal TB0 ad (dd + 5)) (fun v h' z => z.1 = 0 ∧ Q v h') 12 [some (.ref m), some (.int (zI d))] [] h15 (0, 0) := by
    intro n15
    induction n15 using Nat.strongRecOn with
    | ind n15 ih15 =>
    intro d s h15 hn15 k16 H17 H18 FR19 I1 I2 I3 I4
    refine e_iload_n dX12_findTrade_12 rfl ?_
    have sb := prS_b I3
    refine e_aload_n dX12_findTrade_13 rfl ?_
    refine z_get (nd g) dX12_findTrade_14 tf_12_271 (rk_s k16) (Or.inl rfl) (rB_nd H17) ?_
    have y20 := rB_n H17
    refine z_icmp_ge 50 dX12_findTrade_17 rfl ⟨by omega, by omega⟩ ⟨by omega, by omega⟩ (fun c21 => ?_) (fun c21 => ?_)
    · skip
      have s0 : stS g s := stS_of I3 (by omega) (fun k a c => Iff.rfl)
      have o0 := stS_ok (by omega) s0
      have lp22 : ∀ (n22 : Nat) (t : Int) (h22 : mH), (cardZ t).toNat = n22 → (rk h22 m) → (rB h22 m g) → (rM h22 m g) → (frm (fun a k => (a = m ∧ (k = 48 ∨ k = 49)) ∨ a = m + 22) h h22) → (exJ h22 m g s t) → mEv TB0 ad M_X12_findTrade (dd + 6) (0, 0) (mCal TB0 ad (dd + 5)) (fun v h' z => z.1 = 0 ∧ Q v h') 50 [some (.ref m), none] [] h22 (0, 0) := by
        intro n22
        induction n22 using Nat.strongRecOn with
        | ind n22 ih22 =>
        intro t h22 hn22 k23 H24 H25 FR26 JX
        refine e_aload_n dX12_findTrade_50 rfl ?_
        obtain ⟨r, n, GL, G1, G2, G3, G4, G5⟩ := JX
        have tb := G4.2.1
        have cb := cardZ_b t
        refine z_get t dX12_findTrade_51 tf_12_445 (rk_s k23) (Or.inl rfl) GL.1 ?_
        have y27 := GL.2
        refine z_if_eq 87 dX12_findTrade_54 rfl ⟨by omega, by omega⟩ (fun c28 => ?_) (fun c28 => ?_)
        · skip
          refine e_vret dX12_findTrade_87 rfl ⟨rfl, ?_⟩
          exact kq _ FR26 ⟨s, r, n, s0, G1, preT_e o0 G2 ((nem_0 tb.1 tb.2).mp (by omega)), by omega⟩
        · skip
          obtain ⟨ww, w1, w2, w3⟩ := cyc_x G4 (Classical.byContradiction (fun z => absurd ((nem_0 tb.1 tb.2).mpr z) (by omega)))
          refine z_iconst (0) dX12_findTrade_57 rfl ?_
          refine e_istore_n (L' := [_, _]) dX12_findTrade_58 (Nat.le_of_ble_eq_true rfl) rfl ?_
          have lp29 : ∀ (n29 : Nat) (d2 : Int) (h29 : mH), (6 - d2).toNat = n29 → (rk h29 m) → (rB h29 m g) → (rM h29 m g) → (frm (fun a k => (a = m ∧ (k = 48 ∨ k = 49)) ∨ a = m + 22) h h29) → (0 ≤ d2 ∧ d2 ≤ ww) → (∀ e, 0 ≤ e → e < d2 → ¬ (hasZ t e ∧ cyc g t e)) → (rLe h29 m t) → (rGt h29 m r n) → mEv TB0 ad M_X12_findTrade (dd + 6) (0, 0) (mCal TB0 ad (dd + 5)) (fun v h' z => z.1 = 0 ∧ Q v h') 59 [some (.ref m), some (.int (zI d2))] [] h29 (0, 0) := by
            intro n29
            induction n29 using Nat.strongRecOn with
            | ind n29 ih29 =>
            intro d2 h29 hn29 k30 H31 H32 FR33 D1 D2 N1 N2
            refine e_aload_n dX12_findTrade_59 rfl ?_
            skip
            refine z_get t dX12_findTrade_60 tf_12_445 (rk_s k30) (Or.inl rfl) N1.1 ?_
            have y34 := N1.2
            refine e_iload_n dX12_findTrade_63 rfl ?_
            refine e_callS [.int _, .int _] dX12_findTrade_64 tm_12_107 rfl (Nat.le_of_ble_eq_true rfl) (Nat.le_refl _) (Nat.le_refl _) rfl (zp_X12_has t ⟨by omega, by omega⟩ d2 ⟨by omega, by omega⟩ (by omega) (by omega) (by omega) ?_)
            refine z_ifb_eq 78 dX12_findTrade_67 rfl (fun c35 => ?_) (fun c35 => ?_)
            · skip
              have nd2 : ¬ (hasZ t d2 ∧ cyc g t d2) := fun z => by have := z.1; contradiction
              refine z_iinc (L' := [_, _]) dX12_findTrade_78 rfl rfl ?_
              refine e_goto 59 dX12_findTrade_81 rfl ?_
              exact ih29 _ (by omega) (d2 + 1) h29 rfl k30 H31 H32 FR33 (by
                        rcases (show d2 < ww ∨ d2 = ww by omega) with q | q
                        · omega
                        · exfalso; rw [q] at nd2; exact nd2 ⟨w2, w3⟩) (allS (P := fun e => hasZ t e ∧ cyc g t e) D2 nd2) N1 N2
            · skip
              refine e_aload_n dX12_findTrade_70 rfl ?_
              refine e_iload_n dX12_findTrade_71 rfl ?_
              refine e_callV [.int _] dX12_findTrade_72 tm_12_454 rfl (Nat.le_of_ble_eq_true rfl) (rk_s k30) (Nat.le_of_ble_eq_true rfl) (Nat.le_refl _) (Nat.le_refl _) rfl (zp_X12_goesRound k30 H31 H32 N1 N2 d2 ⟨by omega, by omega⟩ G4 (by omega) (by assumption) (by omega) (fun v36 p37 h38 f39 p40 => ?_))
              have k41 := rk_q (frm_s f39) k30
              have H42 := rB_c f39 (fun a k q => by omega) H31
              have H43 := rM_c f39 (fun a k q => by omega) H32
              have FR44 := frm_t FR33 (frm_m (S' := (fun a k => (a = m ∧ (k = 48 ∨ k = 49)) ∨ a = m + 22)) f39 (fun a k q => by omega))
              have gb := gorP_b p40
              refine z_if_ne 84 dX12_findTrade_75 rfl ⟨by omega, by omega⟩ (fun c45 => ?_) (fun c45 => ?_)
              · skip
                have yq : ∃ c, ring g t c ∧ rLe h38 m (subS t c) ∧ rGt h38 m (mixR g t c r) (n + 1) := by
                  rcases p40 with q | q
                  · exact absurd q.1 (by omega)
                  · exact q.2
                obtain ⟨c, w, q2, q3⟩ := yq
                have rc := ring_card G4 w
                have rb := cardZ_b (subS t c)
                refine e_goto 50 dX12_findTrade_84 rfl ?_
                skip
                exact mEv_wk (by exact ⟨Or.inr rfl, Or.inl rfl, trivial⟩) (ih22 _ (by omega) (subS t c) h38 rfl k41 H42 H43 FR44 (⟨mixR g t c r, n + 1, q2, q3, by rw [show (n + 1).toNat = n.toNat + 1 by omega]; exact preT_s o0 G4 G5 G2 w, by have := ring_card G4 w; omega, (okS_sub G4 w.1).1, fun k a e p => G5 k a e ((okS_sub G4 w.1).2 k a e p)⟩))
              · skip
                have nq : ¬ cyc g t d2 ∧ rLe h38 m t ∧ rGt h38 m r n := by
                  rcases p40 with q | q
                  · exact q.2
                  · exact absurd q.1 (by omega)
                have M1 := nq.2.1
                have M2 := nq.2.2
                have nd2 : ¬ (hasZ t d2 ∧ cyc g t d2) := fun z => nq.1 z.2
                refine z_iinc (L' := [_, _]) dX12_findTrade_78 rfl rfl ?_
                refine e_goto 59 dX12_findTrade_81 rfl ?_
                exact ih29 _ (by omega) (d2 + 1) h38 rfl k41 H42 H43 FR44 (by
                          rcases (show d2 < ww ∨ d2 = ww by omega) with q | q
                          · omega
                          · exfalso; rw [q] at nd2; exact nd2 ⟨w2, w3⟩) (allS (P := fun e => hasZ t e ∧ cyc g t e) D2 nd2) M1 M2
          exact lp29 _ 0 h22 rfl k23 H24 H25 FR26 (by omega) (fun e a c => by omega) GL G1
      exact mEv_wk (by exact ⟨Or.inr rfl, Or.inl rfl, trivial⟩) (lp22 _ s h15 rfl k16 H17 H18 FR19 (⟨fun k => rI h15 (m + 22) k, 0, ⟨I2, I3.1⟩, ⟨fun k a c => rfl, I4⟩, preT_0 o0 _, by have := cardZ_b s; omega, o0, fun k a e p => p⟩))
    · skip
      refine e_aload_n dX12_findTrade_20 rfl ?_
      refine e_dup dX12_findTrade_21 rfl ?_
      refine z_get s dX12_findTrade_22 tf_12_445 (rk_s k16) (Or.inl rfl) I2 ?_
      refine e_aload_n dX12_findTrade_25 rfl ?_
      refine e_iload_n dX12_findTrade_26 rfl ?_
      refine e_callV [.int _] dX12_findTrade_27 tm_12_286 rfl (Nat.le_of_ble_eq_true rfl) (rk_s k16) (Nat.le_of_ble_eq_true rfl) (Nat.le_refl _) (Nat.le_refl _) rfl (zp_X12_isPaired k16 H18 d ⟨by omega, by omega⟩ (by omega) (by omega) ?_)
      have y46 := wM_d (rM_w H18) (show 0 ≤ d by omega) (by omega)
      refine z_ifb_eq 39 dX12_findTrade_30 rfl (fun c47 => ?_) (fun c47 => ?_)
      · skip
        refine z_iconst (0) dX12_findTrade_39 rfl ?_
        refine z_ior dX12_findTrade_40 (by omega) (by omega) (by omega) (by omega) ?_
        have y48 := orZ_b s 0
        refine z_put dX12_findTrade_41 tf_12_445 (rk_s k16) rfl (Or.inl rfl) (fun h49 e50 => ?_)
        have f51 := frm_1 e50
        have k52 := rk_q (frm_s f51) k16
        have H53 := rB_c f51 (fun a k q => by omega) H17
        have H54 := rM_c f51 (fun a k q => by omega) H18
        have FR55 := frm_t FR19 (frm_m (S' := (fun a k => (a = m ∧ (k = 48 ∨ k = 49)) ∨ a = m + 22)) f51 (fun a k q => by omega))
        refine z_iinc (L' := [_, _]) dX12_findTrade_44 rfl rfl ?_
        refine e_goto 12 dX12_findTrade_47 rfl ?_
        exact ih15 _ (by omega) (d + 1) (orZ s 0) h49 rfl k52 H53 H54 FR55 (by omega) (show rI h49 m 48 = (orZ s 0) from (rI_eq e50 ⟨by omega, by omega⟩)) (by first | exact prS_y I3 (by omega) (by omega) (by assumption) | exact prS_n I3 (by assumption)) (((frm_r f51 (by omega))).trans I4)
      · skip
        refine z_iconst (1) dX12_findTrade_33 rfl ?_
        refine e_iload_n dX12_findTrade_34 rfl ?_
        refine z_ishl dX12_findTrade_35 (by omega) (by omega) (by omega) (by omega) ?_
        have y56 := shlZ_b 1 d
        refine e_goto 40 dX12_findTrade_36 rfl ?_
        refine z_ior dX12_findTrade_40 (by omega) (by omega) (by omega) (by omega) ?_
        have y57 := orZ_b s (shlZ 1 d)
        refine z_put dX12_findTrade_41 tf_12_445 (rk_s k16) rfl (Or.inl rfl) (fun h58 e59 => ?_)
        have f60 := frm_1 e59
        have k61 := rk_q (frm_s f60) k16
        have H62 := rB_c f60 (fun a k q => by omega) H17
        have H63 := rM_c f60 (fun a k q => by omega) H18
        have FR64 := frm_t FR19 (frm_m (S' := (fun a k => (a = m ∧ (k = 48 ∨ k = 49)) ∨ a = m + 22)) f60 (fun a k q => by omega))
        refine z_iinc (L' := [_, _]) dX12_findTrade_44 rfl rfl ?_
        refine e_goto 12 dX12_findTrade_47 rfl ?_
        exact ih15 _ (by omega) (d + 1) (orZ s (shlZ 1 d)) h58 rfl k61 H62 H63 FR64 (by omega) (show rI h58 m 48 = (orZ s (shlZ 1 d)) from (rI_eq e59 ⟨by omega, by omega⟩)) (by first | exact prS_y I3 (by omega) (by omega) (by assumption) | exact prS_n I3 (by assumption)) (((frm_r f60 (by omega))).trans I4)
  exact lp15 _ 0 0 h8 rfl k11 H12 H13 FR14 (by omega) (show rI h8 m 48 = 0 from ((frm_r f10 (by omega)).trans (rI_eq e2 ⟨by omega, by omega⟩))) (prS_0 _) (show rI h8 m 49 = 0 from (rI_eq e9 ⟨by omega, by omega⟩))
