/-! SEASON: the day's end, deeds -/
theorem dX0_rust_0 : decode cX0_rust 0 = .ok (.iconst 0, 1) := by decide +kernel
theorem dX0_rust_1 : decode cX0_rust 1 = .ok (.istore_n 2, 1) := by decide +kernel
theorem dX0_rust_2 : decode cX0_rust 2 = .ok (.iload_n 2, 1) := by decide +kernel
theorem dX0_rust_3 : decode cX0_rust 3 = .ok (.aload_n 0, 1) := by decide +kernel
theorem dX0_rust_4 : decode cX0_rust 4 = .ok (.getfield 27, 3) := by decide +kernel
theorem dX0_rust_7 : decode cX0_rust 7 = .ok (.if_icmp .ge 41, 3) := by decide +kernel
theorem dX0_rust_10 : decode cX0_rust 10 = .ok (.iload_n 2, 1) := by decide +kernel
theorem dX0_rust_11 : decode cX0_rust 11 = .ok (.bipush 6, 2) := by decide +kernel
theorem dX0_rust_13 : decode cX0_rust 13 = .ok (.if_icmp .ge 35, 3) := by decide +kernel
theorem dX0_rust_16 : decode cX0_rust 16 = .ok (.iload_n 1, 1) := by decide +kernel
theorem dX0_rust_17 : decode cX0_rust 17 = .ok (.iload_n 2, 1) := by decide +kernel
theorem dX0_rust_18 : decode cX0_rust 18 = .ok (.ishr, 1) := by decide +kernel
theorem dX0_rust_19 : decode cX0_rust 19 = .ok (.iconst 1, 1) := by decide +kernel
theorem dX0_rust_20 : decode cX0_rust 20 = .ok (.iand, 1) := by decide +kernel
theorem dX0_rust_21 : decode cX0_rust 21 = .ok (.ifCond .ne 21, 3) := by decide +kernel
theorem dX0_rust_24 : decode cX0_rust 24 = .ok (.aload_n 0, 1) := by decide +kernel
theorem dX0_rust_25 : decode cX0_rust 25 = .ok (.getfield 18, 3) := by decide +kernel
theorem dX0_rust_28 : decode cX0_rust 28 = .ok (.iload_n 2, 1) := by decide +kernel
theorem dX0_rust_29 : decode cX0_rust 29 = .ok (.iconst 0, 1) := by decide +kernel
theorem dX0_rust_30 : decode cX0_rust 30 = .ok (.aload_n 0, 1) := by decide +kernel
theorem dX0_rust_31 : decode cX0_rust 31 = .ok (.getfield 18, 3) := by decide +kernel
theorem dX0_rust_34 : decode cX0_rust 34 = .ok (.iload_n 2, 1) := by decide +kernel
theorem dX0_rust_35 : decode cX0_rust 35 = .ok (.iaload, 1) := by decide +kernel
theorem dX0_rust_36 : decode cX0_rust 36 = .ok (.iconst 1, 1) := by decide +kernel
theorem dX0_rust_37 : decode cX0_rust 37 = .ok (.isub, 1) := by decide +kernel
theorem dX0_rust_38 : decode cX0_rust 38 = .ok (.invokestatic 41, 3) := by decide +kernel
theorem dX0_rust_41 : decode cX0_rust 41 = .ok (.iastore, 1) := by decide +kernel
theorem dX0_rust_42 : decode cX0_rust 42 = .ok (.iinc 2 1, 3) := by decide +kernel
theorem dX0_rust_45 : decode cX0_rust 45 = .ok (.goto (-43), 3) := by decide +kernel
theorem dX0_rust_48 : decode cX0_rust 48 = .ok (.return_, 1) := by decide +kernel
theorem dX7_begin_0 : decode cX7_begin 0 = .ok (.aload_n 0, 1) := by decide +kernel
theorem dX7_begin_1 : decode cX7_begin 1 = .ok (.getfield 12, 3) := by decide +kernel
theorem dX7_begin_4 : decode cX7_begin 4 = .ok (.aload_n 1, 1) := by decide +kernel
theorem dX7_begin_5 : decode cX7_begin 5 = .ok (.invokevirtual 46, 3) := by decide +kernel
theorem dX7_begin_8 : decode cX7_begin 8 = .ok (.aload_n 0, 1) := by decide +kernel
theorem dX7_begin_9 : decode cX7_begin 9 = .ok (.iconst 0, 1) := by decide +kernel
theorem dX7_begin_10 : decode cX7_begin 10 = .ok (.putfield 18, 3) := by decide +kernel
theorem dX7_begin_13 : decode cX7_begin 13 = .ok (.aload_n 0, 1) := by decide +kernel
theorem dX7_begin_14 : decode cX7_begin 14 = .ok (.iconst 0, 1) := by decide +kernel
theorem dX7_begin_15 : decode cX7_begin 15 = .ok (.putfield 22, 3) := by decide +kernel
theorem dX7_begin_18 : decode cX7_begin 18 = .ok (.aload_n 0, 1) := by decide +kernel
theorem dX7_begin_19 : decode cX7_begin 19 = .ok (.iconst 0, 1) := by decide +kernel
theorem dX7_begin_20 : decode cX7_begin 20 = .ok (.putfield 25, 3) := by decide +kernel
theorem dX7_begin_23 : decode cX7_begin 23 = .ok (.aload_n 0, 1) := by decide +kernel
theorem dX7_begin_24 : decode cX7_begin 24 = .ok (.invokevirtual 50, 3) := by decide +kernel
theorem dX7_begin_27 : decode cX7_begin 27 = .ok (.return_, 1) := by decide +kernel
theorem dX7_coolDown_0 : decode cX7_coolDown 0 = .ok (.aload_n 0, 1) := by decide +kernel
theorem dX7_coolDown_1 : decode cX7_coolDown 1 = .ok (.iconst 0, 1) := by decide +kernel
theorem dX7_coolDown_2 : decode cX7_coolDown 2 = .ok (.putfield 28, 3) := by decide +kernel
theorem dX7_coolDown_5 : decode cX7_coolDown 5 = .ok (.aload_n 0, 1) := by decide +kernel
theorem dX7_coolDown_6 : decode cX7_coolDown 6 = .ok (.iconst 0, 1) := by decide +kernel
theorem dX7_coolDown_7 : decode cX7_coolDown 7 = .ok (.putfield 31, 3) := by decide +kernel
theorem dX7_coolDown_10 : decode cX7_coolDown 10 = .ok (.aload_n 0, 1) := by decide +kernel
theorem dX7_coolDown_11 : decode cX7_coolDown 11 = .ok (.iconst 0, 1) := by decide +kernel
theorem dX7_coolDown_12 : decode cX7_coolDown 12 = .ok (.putfield 34, 3) := by decide +kernel
theorem dX7_coolDown_15 : decode cX7_coolDown 15 = .ok (.aload_n 0, 1) := by decide +kernel
theorem dX7_coolDown_16 : decode cX7_coolDown 16 = .ok (.iconst 0, 1) := by decide +kernel
theorem dX7_coolDown_17 : decode cX7_coolDown 17 = .ok (.putfield 37, 3) := by decide +kernel
theorem dX7_coolDown_20 : decode cX7_coolDown 20 = .ok (.aload_n 0, 1) := by decide +kernel
theorem dX7_coolDown_21 : decode cX7_coolDown 21 = .ok (.iconst 0, 1) := by decide +kernel
theorem dX7_coolDown_22 : decode cX7_coolDown 22 = .ok (.putfield 40, 3) := by decide +kernel
theorem dX7_coolDown_25 : decode cX7_coolDown 25 = .ok (.return_, 1) := by decide +kernel
theorem dX7_perform_0 : decode cX7_perform 0 = .ok (.iload_n 1, 1) := by decide +kernel
theorem dX7_perform_1 : decode cX7_perform 1 = .ok (.tableswitch 78 0 5 #[39, 46, 52, 58, 65, 72], 39) := by decide +kernel
theorem dX7_perform_40 : decode cX7_perform 40 = .ok (.aload_n 0, 1) := by decide +kernel
theorem dX7_perform_41 : decode cX7_perform 41 = .ok (.iload_n 2, 1) := by decide +kernel
theorem dX7_perform_42 : decode cX7_perform 42 = .ok (.iload_n 3, 1) := by decide +kernel
theorem dX7_perform_43 : decode cX7_perform 43 = .ok (.invokevirtual 93, 3) := by decide +kernel
theorem dX7_perform_46 : decode cX7_perform 46 = .ok (.ireturn, 1) := by decide +kernel
theorem dX7_perform_47 : decode cX7_perform 47 = .ok (.aload_n 0, 1) := by decide +kernel
theorem dX7_perform_48 : decode cX7_perform 48 = .ok (.iload_n 2, 1) := by decide +kernel
theorem dX7_perform_49 : decode cX7_perform 49 = .ok (.invokevirtual 97, 3) := by decide +kernel
theorem dX7_perform_52 : decode cX7_perform 52 = .ok (.ireturn, 1) := by decide +kernel
theorem dX7_perform_53 : decode cX7_perform 53 = .ok (.aload_n 0, 1) := by decide +kernel
theorem dX7_perform_54 : decode cX7_perform 54 = .ok (.iload_n 2, 1) := by decide +kernel
theorem dX7_perform_55 : decode cX7_perform 55 = .ok (.invokevirtual 101, 3) := by decide +kernel
theorem dX7_perform_58 : decode cX7_perform 58 = .ok (.ireturn, 1) := by decide +kernel
theorem dX7_perform_59 : decode cX7_perform 59 = .ok (.aload_n 0, 1) := by decide +kernel
theorem dX7_perform_60 : decode cX7_perform 60 = .ok (.iload_n 2, 1) := by decide +kernel
theorem dX7_perform_61 : decode cX7_perform 61 = .ok (.iload_n 3, 1) := by decide +kernel
theorem dX7_perform_62 : decode cX7_perform 62 = .ok (.invokevirtual 107, 3) := by decide +kernel
theorem dX7_perform_65 : decode cX7_perform 65 = .ok (.ireturn, 1) := by decide +kernel
theorem dX7_perform_66 : decode cX7_perform 66 = .ok (.aload_n 0, 1) := by decide +kernel
theorem dX7_perform_67 : decode cX7_perform 67 = .ok (.iload_n 2, 1) := by decide +kernel
theorem dX7_perform_68 : decode cX7_perform 68 = .ok (.iload_n 3, 1) := by decide +kernel
theorem dX7_perform_69 : decode cX7_perform 69 = .ok (.invokevirtual 110, 3) := by decide +kernel
theorem dX7_perform_72 : decode cX7_perform 72 = .ok (.ireturn, 1) := by decide +kernel
theorem dX7_perform_73 : decode cX7_perform 73 = .ok (.aload_n 0, 1) := by decide +kernel
theorem dX7_perform_74 : decode cX7_perform 74 = .ok (.iload_n 2, 1) := by decide +kernel
theorem dX7_perform_75 : decode cX7_perform 75 = .ok (.invokevirtual 113, 3) := by decide +kernel
theorem dX7_perform_78 : decode cX7_perform 78 = .ok (.ireturn, 1) := by decide +kernel
theorem dX7_perform_79 : decode cX7_perform 79 = .ok (.iload_n 1, 1) := by decide +kernel
theorem dX7_perform_80 : decode cX7_perform 80 = .ok (.bipush 6, 2) := by decide +kernel
theorem dX7_perform_82 : decode cX7_perform 82 = .ok (.if_icmp .ne 14, 3) := by decide +kernel
theorem dX7_perform_85 : decode cX7_perform 85 = .ok (.aload_n 0, 1) := by decide +kernel
theorem dX7_perform_86 : decode cX7_perform 86 = .ok (.invokevirtual 116, 3) := by decide +kernel
theorem dX7_perform_89 : decode cX7_perform 89 = .ok (.ifCond .eq 7, 3) := by decide +kernel
theorem dX7_perform_92 : decode cX7_perform 92 = .ok (.iconst 1, 1) := by decide +kernel
theorem dX7_perform_93 : decode cX7_perform 93 = .ok (.goto 4, 3) := by decide +kernel
theorem dX7_perform_96 : decode cX7_perform 96 = .ok (.iconst 0, 1) := by decide +kernel
theorem dX7_perform_97 : decode cX7_perform 97 = .ok (.ireturn, 1) := by decide +kernel
theorem dX7_endDay_0 : decode cX7_endDay 0 = .ok (.aload_n 0, 1) := by decide +kernel
theorem dX7_endDay_1 : decode cX7_endDay 1 = .ok (.getfield 18, 3) := by decide +kernel
theorem dX7_endDay_4 : decode cX7_endDay 4 = .ok (.bipush 99, 2) := by decide +kernel
theorem dX7_endDay_6 : decode cX7_endDay 6 = .ok (.if_icmp .lt 5, 3) := by decide +kernel
theorem dX7_endDay_9 : decode cX7_endDay 9 = .ok (.iconst 0, 1) := by decide +kernel
theorem dX7_endDay_10 : decode cX7_endDay 10 = .ok (.ireturn, 1) := by decide +kernel
theorem dX7_endDay_11 : decode cX7_endDay 11 = .ok (.aload_n 0, 1) := by decide +kernel
theorem dX7_endDay_12 : decode cX7_endDay 12 = .ok (.getfield 12, 3) := by decide +kernel
theorem dX7_endDay_15 : decode cX7_endDay 15 = .ok (.getfield 75, 3) := by decide +kernel
theorem dX7_endDay_18 : decode cX7_endDay 18 = .ok (.aload_n 0, 1) := by decide +kernel
theorem dX7_endDay_19 : decode cX7_endDay 19 = .ok (.getfield 37, 3) := by decide +kernel
theorem dX7_endDay_22 : decode cX7_endDay 22 = .ok (.aload_n 0, 1) := by decide +kernel
theorem dX7_endDay_23 : decode cX7_endDay 23 = .ok (.getfield 31, 3) := by decide +kernel
theorem dX7_endDay_26 : decode cX7_endDay 26 = .ok (.ior, 1) := by decide +kernel
theorem dX7_endDay_27 : decode cX7_endDay 27 = .ok (.invokevirtual 168, 3) := by decide +kernel
theorem dX7_endDay_30 : decode cX7_endDay 30 = .ok (.aload_n 0, 1) := by decide +kernel
theorem dX7_endDay_31 : decode cX7_endDay 31 = .ok (.getfield 12, 3) := by decide +kernel
theorem dX7_endDay_34 : decode cX7_endDay 34 = .ok (.getfield 90, 3) := by decide +kernel
theorem dX7_endDay_37 : decode cX7_endDay 37 = .ok (.aload_n 0, 1) := by decide +kernel
theorem dX7_endDay_38 : decode cX7_endDay 38 = .ok (.getfield 40, 3) := by decide +kernel
theorem dX7_endDay_41 : decode cX7_endDay 41 = .ok (.aload_n 0, 1) := by decide +kernel
theorem dX7_endDay_42 : decode cX7_endDay 42 = .ok (.getfield 34, 3) := by decide +kernel
theorem dX7_endDay_45 : decode cX7_endDay 45 = .ok (.ior, 1) := by decide +kernel
theorem dX7_endDay_46 : decode cX7_endDay 46 = .ok (.invokevirtual 168, 3) := by decide +kernel
theorem dX7_endDay_49 : decode cX7_endDay 49 = .ok (.aload_n 0, 1) := by decide +kernel
theorem dX7_endDay_50 : decode cX7_endDay 50 = .ok (.invokevirtual 50, 3) := by decide +kernel
theorem dX7_endDay_53 : decode cX7_endDay 53 = .ok (.aload_n 0, 1) := by decide +kernel
theorem dX7_endDay_54 : decode cX7_endDay 54 = .ok (.dup, 1) := by decide +kernel
theorem dX7_endDay_55 : decode cX7_endDay 55 = .ok (.getfield 18, 3) := by decide +kernel
theorem dX7_endDay_58 : decode cX7_endDay 58 = .ok (.iconst 1, 1) := by decide +kernel
theorem dX7_endDay_59 : decode cX7_endDay 59 = .ok (.iadd, 1) := by decide +kernel
theorem dX7_endDay_60 : decode cX7_endDay 60 = .ok (.putfield 18, 3) := by decide +kernel
theorem dX7_endDay_63 : decode cX7_endDay 63 = .ok (.iconst 1, 1) := by decide +kernel
theorem dX7_endDay_64 : decode cX7_endDay 64 = .ok (.ireturn, 1) := by decide +kernel
set_option maxRecDepth 20000 in
theorem tm_0_41 : tMet TB0 0 41 = some (10, M_none) := rfl
set_option maxRecDepth 20000 in
theorem tm_7_46 : tMet TB0 7 46 = some (0, M_X2_copyFrom) := rfl
set_option maxRecDepth 20000 in
theorem tm_7_50 : tMet TB0 7 50 = some (0, M_X7_coolDown) := rfl
set_option maxRecDepth 20000 in
theorem tm_7_93 : tMet TB0 7 93 = some (0, M_X7_rivetThem) := rfl
set_option maxRecDepth 20000 in
theorem tm_7_97 : tMet TB0 7 97 = some (0, M_X7_heatHim) := rfl
set_option maxRecDepth 20000 in
theorem tm_7_101 : tMet TB0 7 101 = some (0, M_X7_partThem) := rfl
set_option maxRecDepth 20000 in
theorem tm_7_107 : tMet TB0 7 107 = some (0, M_X7_cutCloth) := rfl
set_option maxRecDepth 20000 in
theorem tm_7_110 : tMet TB0 7 110 = some (0, M_X7_grindBlade) := rfl
set_option maxRecDepth 20000 in
theorem tm_7_113 : tMet TB0 7 113 = some (0, M_X7_oilThem) := rfl
set_option maxRecDepth 20000 in
theorem tm_7_116 : tMet TB0 7 116 = some (0, M_X7_endDay) := rfl
set_option maxRecDepth 20000 in
theorem tm_7_168 : tMet TB0 7 168 = some (0, M_X0_rust) := rfl
set_option maxHeartbeats 400000 in
theorem zp_X0_rust {ad : mA} {dd : Nat} {h : mH} {Q : mQ} {b : Nat}  (hk : blk h b)  (w : Int) (w_r : -2147483648 ≤ w ∧ w < 2147483648) (p1 : 0 ≤ w ∧ w < 64) (p2 : 0 ≤ rI h b 5 ∧ rI h b 5 ≤ 6) (p3 : ∀ j : Int, 0 ≤ j → j < rI h b 5 → 0 ≤ rI h (b + 3) j ∧ rI h (b + 3) j ≤ 20) (kq : ∀ h1, frm (fun a k => a = b + 3) h h1 → (∀ j : Int, 0 ≤ j → j < 6 → rI h1 (b + 3) j = if j < rI h b 5 ∧ ¬ hasZ w j then max 0 (rI h (b + 3) j - 1) else rI h (b + 3) j) → Q none h1) : mCal TB0 ad (dd + 1) M_X0_rust [.ref b, .int (zI w)] h 0 0 Q := by
  refine ⟨Nat.le_of_ble_eq_true rfl, ?_⟩
  show mEv TB0 ad M_X0_rust (dd + 1) (0, 0) (mCal TB0 ad (dd + 0)) (fun v h' z => z.1 = 0 ∧ Q v h') 0 [some (.ref b), some (.int (zI w)), none] [] h (0, 0)
  have FR0 : frm (fun a k => a = b + 3) h h := frm_0 h
  refine z_iconst (0) dX0_rust_0 rfl ?_
  refine e_istore_n (L' := [_, _, _]) dX0_rust_1 (Nat.le_of_ble_eq_true rfl) rfl ?_
  have lp1 : ∀ (n1 : Nat) (i : Int) (h1 : mH), (6 - i).toNat = n1 → (blk h1 b) → (frm (fun a k => a = b + 3) h h1) → (0 ≤ i) → (i ≤ rI h b 5) → (∀ j : Int, 0 ≤ j → j < 6 → rI h1 (b + 3) j = if j < i ∧ ¬ hasZ w j then max 0 (rI h (b + 3) j - 1) else rI h (b + 3) j) → mEv TB0 ad M_X0_rust (dd + 1) (0, 0) (mCal TB0 ad (dd + 0)) (fun v h' z => z.1 = 0 ∧ Q v h') 2 [some (.ref b), some (.int (zI w)), some (.int (zI i))] [] h1 (0, 0) := by
    intro n1
    induction n1 using Nat.strongRecOn with
    | ind n1 ih1 =>
    intro i h1 hn1 k2 FR3 I1 I2 I3
    refine e_iload_n dX0_rust_2 rfl ?_
    refine e_aload_n dX0_rust_3 rfl ?_
    refine z_get (rI h b 5) dX0_rust_4 tf_0_27 (congrArg Prod.fst (bl_s0 k2)) (Or.inl rfl) (frm_r FR3 (by omega)) ?_
    refine z_icmp_ge 48 dX0_rust_7 rfl ⟨by omega, by omega⟩ ⟨by omega, by omega⟩ (fun c4 => ?_) (fun c4 => ?_)
    · skip
      refine e_vret dX0_rust_48 rfl ⟨rfl, ?_⟩
      exact kq _ FR3 (fun j a c => by rw [I3 j a c, show i = rI h b 5 by omega])
    · skip
      refine e_iload_n dX0_rust_10 rfl ?_
      refine z_bipush (6) dX0_rust_11 rfl ?_
      refine z_icmp_ge 48 dX0_rust_13 rfl ⟨by omega, by omega⟩ ⟨by omega, by omega⟩ (fun c5 => ?_) (fun c5 => ?_)
      · skip
        refine e_vret dX0_rust_48 rfl ⟨rfl, ?_⟩
        exact kq _ FR3 (fun j a c => by rw [I3 j a c, show i = rI h b 5 by omega])
      · skip
        refine e_iload_n dX0_rust_16 rfl ?_
        refine e_iload_n dX0_rust_17 rfl ?_
        refine z_ishr dX0_rust_18 (by omega) (by omega) (by omega) (by omega) ?_
        have y6 := shrZ_b w i
        refine z_iconst (1) dX0_rust_19 rfl ?_
        refine z_iand dX0_rust_20 (by omega) (by omega) (by omega) (by omega) ?_
        have y7 := andZ_b (shrZ w i) 1
        refine z_if_ne 42 dX0_rust_21 rfl ⟨by omega, by omega⟩ (fun c8 => ?_) (fun c8 => ?_)
        · skip
          refine z_iinc (L' := [_, _, _]) dX0_rust_42 rfl rfl ?_
          refine e_goto 2 dX0_rust_45 rfl ?_
          exact ih1 _ (by omega) (i + 1) h1 rfl k2 FR3 (by omega) (by omega) (fun j a c => by
                    refine (I3 j a c).trans ?_
                    by_cases z : j = i
                    · subst z
                      have hb : hasZ w j := hasZ_i.mp (by omega)
                      rw [if_neg (by omega), if_neg (fun x => x.2 hb)]
                    · by_cases y : j < i ∧ ¬ hasZ w j
                      · rw [if_pos y, if_pos ⟨by omega, y.2⟩]
                      · rw [if_neg y, if_neg (fun x => y ⟨by omega, x.2⟩)])
        · skip
          refine e_aload_n dX0_rust_24 rfl ?_
          refine e_get (.ref (b + 3)) dX0_rust_25 tf_0_18 (congrArg Prod.fst (bl_s0 k2)) (congrArg va_rf (bl_r0_2 k2)) ?_
          refine e_iload_n dX0_rust_28 rfl ?_
          refine z_iconst (0) dX0_rust_29 rfl ?_
          refine e_aload_n dX0_rust_30 rfl ?_
          refine e_get (.ref (b + 3)) dX0_rust_31 tf_0_18 (congrArg Prod.fst (bl_s0 k2)) (congrArg va_rf (bl_r0_2 k2)) ?_
          refine e_iload_n dX0_rust_34 rfl ?_
          refine z_ild (rI h (b + 3) i) dX0_rust_35 (bl_s3 k2) (by decide) (by omega) (by omega) ((I3 i I1 (by omega)).trans (if_neg (by omega))) ?_
          have y9 := p3 i (by omega) (by omega)
          refine z_iconst (1) dX0_rust_36 rfl ?_
          refine z_isub dX0_rust_37 ?_
          refine z_mmax dX0_rust_38 tm_0_41 (Nat.le_of_ble_eq_true rfl) ⟨by omega, by omega⟩ ⟨by omega, by omega⟩ ?_
          refine z_ist dX0_rust_41 (bl_s3 k2) (by decide) (by omega) (by omega) (fun h10 e11 => ?_)
          have f12 := frm_1 e11
          have k13 := lk_q (frm_s f12) k2
          have FR14 := frm_t FR3 (frm_m (S' := (fun a k => a = b + 3)) f12 (fun a k q => by omega))
          refine z_iinc (L' := [_, _, _]) dX0_rust_42 rfl rfl ?_
          refine e_goto 2 dX0_rust_45 rfl ?_
          exact ih1 _ (by omega) (i + 1) h10 rfl k13 FR14 (by omega) (by omega) (fun j a c => by
                    by_cases z : j = i
                    · subst z
                      have hb : ¬ hasZ w j := fun y => by have := hasZ_i.mpr y; omega
                      rw [if_pos ⟨by omega, hb⟩]; exact (rI_eq e11 ⟨by omega, by omega⟩)
                    · refine ((frm_r f12 (by omega))).trans ((I3 j a c).trans ?_)
                      by_cases y : j < i ∧ ¬ hasZ w j
                      · rw [if_pos y, if_pos ⟨by omega, y.2⟩]
                      · rw [if_neg y, if_neg (fun x => y ⟨by omega, x.2⟩)])
  exact lp1 _ 0 h rfl hk FR0 (by omega) (by omega) (fun j a c => (if_neg (by omega)).symm)
set_option maxHeartbeats 400000 in
theorem zp_X7_coolDown {ad : mA} {dd : Nat} {h : mH} {Q : mQ} {s : Nat}  (hk : sek h s)    (kq : ∀ h1, frm (fun a k => a = s ∧ 4 ≤ k ∧ k ≤ 8) h h1 → (rI h1 s 4 = 0 ∧ rI h1 s 5 = 0 ∧ rI h1 s 6 = 0 ∧ rI h1 s 7 = 0 ∧ rI h1 s 8 = 0) → Q none h1) : mCal TB0 ad (dd + 1) M_X7_coolDown [.ref s] h 0 0 Q := by
  refine ⟨Nat.le_of_ble_eq_true rfl, ?_⟩
  show mEv TB0 ad M_X7_coolDown (dd + 1) (0, 0) (mCal TB0 ad (dd + 0)) (fun v h' z => z.1 = 0 ∧ Q v h') 0 [some (.ref s)] [] h (0, 0)
  have FR0 : frm (fun a k => a = s ∧ 4 ≤ k ∧ k ≤ 8) h h := frm_0 h
  refine e_aload_n dX7_coolDown_0 rfl ?_
  refine z_iconst (0) dX7_coolDown_1 rfl ?_
  refine z_put dX7_coolDown_2 tf_7_28 (congrArg Prod.fst (se_s0 hk)) rfl (Or.inl rfl) (fun h1 e2 => ?_)
  have f3 := frm_1 e2
  have k4 := lk_q (frm_s f3) hk
  have FR5 := frm_t FR0 (frm_m (S' := (fun a k => a = s ∧ 4 ≤ k ∧ k ≤ 8)) f3 (fun a k q => by omega))
  refine e_aload_n dX7_coolDown_5 rfl ?_
  refine z_iconst (0) dX7_coolDown_6 rfl ?_
  refine z_put dX7_coolDown_7 tf_7_31 (congrArg Prod.fst (se_s0 k4)) rfl (Or.inl rfl) (fun h6 e7 => ?_)
  have f8 := frm_1 e7
  have k9 := lk_q (frm_s f8) k4
  have FR10 := frm_t FR5 (frm_m (S' := (fun a k => a = s ∧ 4 ≤ k ∧ k ≤ 8)) f8 (fun a k q => by omega))
  refine e_aload_n dX7_coolDown_10 rfl ?_
  refine z_iconst (0) dX7_coolDown_11 rfl ?_
  refine z_put dX7_coolDown_12 tf_7_34 (congrArg Prod.fst (se_s0 k9)) rfl (Or.inl rfl) (fun h11 e12 => ?_)
  have f13 := frm_1 e12
  have k14 := lk_q (frm_s f13) k9
  have FR15 := frm_t FR10 (frm_m (S' := (fun a k => a = s ∧ 4 ≤ k ∧ k ≤ 8)) f13 (fun a k q => by omega))
  refine e_aload_n dX7_coolDown_15 rfl ?_
  refine z_iconst (0) dX7_coolDown_16 rfl ?_
  refine z_put dX7_coolDown_17 tf_7_37 (congrArg Prod.fst (se_s0 k14)) rfl (Or.inl rfl) (fun h16 e17 => ?_)
  have f18 := frm_1 e17
  have k19 := lk_q (frm_s f18) k14
  have FR20 := frm_t FR15 (frm_m (S' := (fun a k => a = s ∧ 4 ≤ k ∧ k ≤ 8)) f18 (fun a k q => by omega))
  refine e_aload_n dX7_coolDown_20 rfl ?_
  refine z_iconst (0) dX7_coolDown_21 rfl ?_
  refine z_put dX7_coolDown_22 tf_7_40 (congrArg Prod.fst (se_s0 k19)) rfl (Or.inl rfl) (fun h21 e22 => ?_)
  have f23 := frm_1 e22
  have k24 := lk_q (frm_s f23) k19
  have FR25 := frm_t FR20 (frm_m (S' := (fun a k => a = s ∧ 4 ≤ k ∧ k ≤ 8)) f23 (fun a k q => by omega))
  refine e_vret dX7_coolDown_25 rfl ⟨rfl, ?_⟩
  exact kq _ FR25 ⟨(((frm_r f23 (by omega)).trans ((frm_r f18 (by omega)).trans ((frm_r f13 (by omega)).trans (frm_r f8 (by omega))))).trans (rI_eq e2 ⟨by omega, by omega⟩)), (((frm_r f23 (by omega)).trans ((frm_r f18 (by omega)).trans (frm_r f13 (by omega)))).trans (rI_eq e7 ⟨by omega, by omega⟩)), (((frm_r f23 (by omega)).trans (frm_r f18 (by omega))).trans (rI_eq e12 ⟨by omega, by omega⟩)), ((frm_r f23 (by omega)).trans (rI_eq e17 ⟨by omega, by omega⟩)), (rI_eq e22 ⟨by omega, by omega⟩)⟩
set_option maxHeartbeats 2000000 in
theorem zp_X7_endDay {ad : mA} {dd : Nat} {h : mH} {Q : mQ} {s : Nat} {g q : Int → Int} {n : Int} (hk : sek h s) (HF : isF h (s + 1) g) (HQ : isS h s q n)   (pn : n < 1000) (kq : ∀ h1, frm (fun a k => (a = s ∧ (k = 1 ∨ (4 ≤ k ∧ k ≤ 8))) ∨ a = s + 5 ∨ a = s + 11) h h1 → (isF h1 (s + 1) (dyG g q)) → (isS h1 s (dyQ q) (n + 1)) → Q (some (.int (zI (bZ (q 0 < 99))))) h1) : mCal TB0 ad (dd + 2) M_X7_endDay [.ref s] h 0 0 Q := by
  refine ⟨Nat.le_of_ble_eq_true rfl, ?_⟩
  show mEv TB0 ad M_X7_endDay (dd + 2) (0, 0) (mCal TB0 ad (dd + 1)) (fun v h' z => z.1 = 0 ∧ Q v h') 0 [some (.ref s)] [] h (0, 0)
  have FR0 : frm (fun a k => (a = s ∧ (k = 1 ∨ (4 ≤ k ∧ k ≤ 8))) ∨ a = s + 5 ∨ a = s + 11) h h := frm_0 h
  have w1 := isF_n HF
  have w2 : rI h (s + 2) 5 = nd g := isF_nd HF
  have w3 : rI h (s + 8) 5 = nu g := isF_nu HF
  have W := isF_w HF
  have wq := wfQ_e HQ.1
  have r0 : ∀ j : Int, 0 ≤ j → j < rI h (s + 2) 5 → 0 ≤ rI h (s + 2 + 3) j ∧ rI h (s + 2 + 3) j ≤ 20 := fun j a c => by
    rw [show rI h (s + 2 + 3) j = de g j from isF_de HF a (by omega)]; have := wB_d W.1 a (show j < nd g by omega); omega
  refine e_aload_n dX7_endDay_0 rfl ?_
  refine z_get (q 0) dX7_endDay_1 tf_7_18 (congrArg Prod.fst (se_s0 hk)) (Or.inl rfl) HQ.2.1 ?_
  have y1 := wfQ_e HQ.1
  refine z_bipush (99) dX7_endDay_4 rfl ?_
  refine z_icmp_lt 11 dX7_endDay_6 rfl ⟨by omega, by omega⟩ ⟨by omega, by omega⟩ (fun c2 => ?_) (fun c2 => ?_)
  · skip
    refine e_aload_n dX7_endDay_11 rfl ?_
    refine e_get (.ref (s + 1)) dX7_endDay_12 tf_7_12 (congrArg Prod.fst (se_s0 hk)) (congrArg va_rf (se_r0_0 hk)) ?_
    refine e_get (.ref (s + 2)) dX7_endDay_15 tf_7_75 (congrArg Prod.fst (se_s1 hk)) (congrArg va_rf (se_r1_0 hk)) ?_
    refine e_aload_n dX7_endDay_18 rfl ?_
    refine z_get (q 6) dX7_endDay_19 tf_7_37 (congrArg Prod.fst (se_s0 hk)) (Or.inl rfl) HQ.2.2.2.2.2.2.2.1 ?_
    have y3 := wfQ_e HQ.1
    refine e_aload_n dX7_endDay_22 rfl ?_
    refine z_get (q 4) dX7_endDay_23 tf_7_31 (congrArg Prod.fst (se_s0 hk)) (Or.inl rfl) HQ.2.2.2.2.2.1 ?_
    have y4 := wfQ_e HQ.1
    refine z_ior dX7_endDay_26 (by omega) (by omega) (by omega) (by omega) ?_
    have y5 := orZ_b (q 6) (q 4)
    refine e_callV [.int _] dX7_endDay_27 tm_7_168 rfl (Nat.le_of_ble_eq_true rfl) (congrArg Prod.fst (se_s2 hk)) (Nat.le_of_ble_eq_true rfl) (Nat.le_refl _) (Nat.le_refl _) rfl (zp_X0_rust (se_bl2 hk) (orZ (q 6) (q 4)) ⟨by omega, by omega⟩ (by omega) (by omega) r0 (fun  h6 f7 p8 => ?_))
    have k9 := lk_q (frm_s f7) hk
    have H10 := isS_c f7 (fun a k q1 q2 q3 => by omega) HQ
    have FR11 := frm_t FR0 (frm_m (S' := (fun a k => (a = s ∧ (k = 1 ∨ (4 ≤ k ∧ k ≤ 8))) ∨ a = s + 5 ∨ a = s + 11)) f7 (fun a k q => by omega))
    have r1 : rI h6 (s + 8) 5 = nu g := (frm_r f7 (by omega)).trans w3
    have r2 : ∀ j : Int, 0 ≤ j → j < rI h6 (s + 8) 5 → 0 ≤ rI h6 (s + 8 + 3) j ∧ rI h6 (s + 8 + 3) j ≤ 20 := fun j a c => by
      rw [frm_r f7 (by omega), show rI h (s + 8 + 3) j = ue g j from isF_ue HF a (by omega)]; have := wB_u W.1 a (show j < nu g by omega); omega
    refine e_aload_n dX7_endDay_30 rfl ?_
    refine e_get (.ref (s + 1)) dX7_endDay_31 tf_7_12 (congrArg Prod.fst (se_s0 k9)) (congrArg va_rf (se_r0_0 k9)) ?_
    refine e_get (.ref (s + 8)) dX7_endDay_34 tf_7_90 (congrArg Prod.fst (se_s1 k9)) (congrArg va_rf (se_r1_1 k9)) ?_
    refine e_aload_n dX7_endDay_37 rfl ?_
    refine z_get (q 7) dX7_endDay_38 tf_7_40 (congrArg Prod.fst (se_s0 k9)) (Or.inl rfl) H10.2.2.2.2.2.2.2.2 ?_
    have y12 := wfQ_e H10.1
    refine e_aload_n dX7_endDay_41 rfl ?_
    refine z_get (q 5) dX7_endDay_42 tf_7_34 (congrArg Prod.fst (se_s0 k9)) (Or.inl rfl) H10.2.2.2.2.2.2.1 ?_
    have y13 := wfQ_e H10.1
    refine z_ior dX7_endDay_45 (by omega) (by omega) (by omega) (by omega) ?_
    have y14 := orZ_b (q 7) (q 5)
    refine e_callV [.int _] dX7_endDay_46 tm_7_168 rfl (Nat.le_of_ble_eq_true rfl) (congrArg Prod.fst (se_s8 k9)) (Nat.le_of_ble_eq_true rfl) (Nat.le_refl _) (Nat.le_refl _) rfl (zp_X0_rust (se_bl8 k9) (orZ (q 7) (q 5)) ⟨by omega, by omega⟩ (by omega) (by omega) r2 (fun  h15 f16 p17 => ?_))
    have k18 := lk_q (frm_s f16) k9
    have H19 := isS_c f16 (fun a k q1 q2 q3 => by omega) H10
    have FR20 := frm_t FR11 (frm_m (S' := (fun a k => (a = s ∧ (k = 1 ∨ (4 ≤ k ∧ k ≤ 8))) ∨ a = s + 5 ∨ a = s + 11)) f16 (fun a k q => by omega))
    have HN : isF h15 (s + 1) (rstG g (orZ (q 6) (q 4)) (orZ (q 7) (q 5))) := isF_rst HF (frm_t (frm_m f7 (fun a k q => by omega)) (frm_m f16 (fun a k q => by omega))) (fun j a c => by
        refine ((frm_r f16 (by omega)).trans (p8 j a c)).trans ?_
        rw [w2]) (fun j a c => by
        refine (p17 j a c).trans ?_
        rw [r1, show rI h6 (s + 8 + 3) j = rI h (s + 8 + 3) j from frm_r f7 (by omega)])
    refine e_aload_n dX7_endDay_49 rfl ?_
    refine e_callV [] dX7_endDay_50 tm_7_50 rfl (Nat.le_of_ble_eq_true rfl) (congrArg Prod.fst (se_s0 k18)) (Nat.le_of_ble_eq_true rfl) (Nat.le_refl _) (Nat.le_refl _) rfl (zp_X7_coolDown k18 (fun  h21 f22 p23 => ?_))
    have k24 := lk_q (frm_s f22) k18
    have H25 := isF_c f22 (fun a k q1 q2 => by omega) HN
    have FR26 := frm_t FR20 (frm_m (S' := (fun a k => (a = s ∧ (k = 1 ∨ (4 ≤ k ∧ k ≤ 8))) ∨ a = s + 5 ∨ a = s + 11)) f22 (fun a k q => by omega))
    skip
    refine e_aload_n dX7_endDay_53 rfl ?_
    refine e_dup dX7_endDay_54 rfl ?_
    refine z_get (q 0) dX7_endDay_55 tf_7_18 (congrArg Prod.fst (se_s0 k24)) (Or.inl rfl) (((frm_r f22 (by omega)).trans ((frm_r f16 (by omega)).trans (frm_r f7 (by omega)))).trans HQ.2.1) ?_
    refine z_iconst (1) dX7_endDay_58 rfl ?_
    refine z_iadd dX7_endDay_59 ?_
    refine z_put dX7_endDay_60 tf_7_18 (congrArg Prod.fst (se_s0 k24)) rfl (Or.inl rfl) (fun h27 e28 => ?_)
    have f29 := frm_1 e28
    have k30 := lk_q (frm_s f29) k24
    have H31 := isF_c f29 (fun a k q1 q2 => by omega) H25
    have FR32 := frm_t FR26 (frm_m (S' := (fun a k => (a = s ∧ (k = 1 ∨ (4 ≤ k ∧ k ≤ 8))) ∨ a = s + 5 ∨ a = s + 11)) f29 (fun a k q => by omega))
    refine z_iconst (1) dX7_endDay_63 rfl ?_
    refine z_bret dX7_endDay_64 rfl (Or.inr rfl) ⟨rfl, ?_⟩
    have C : q 0 < 99 := by omega
    refine z_q1 (kq _ FR32 ?_ ?_) C
    · unfold dyG; rw [if_pos C]; exact H31
    · unfold dyQ; rw [if_pos C]; exact ⟨wfQ_day HQ.1 pn C, (show rI h27 s 1 = ((q 0) + 1) from (rI_eq e28 ⟨by omega, by omega⟩)), (((frm_r f29 (by omega)).trans ((frm_r f22 (by omega)).trans ((frm_r f16 (by omega)).trans (frm_r f7 (by omega)))))).trans HQ.2.2.1, (((frm_r f29 (by omega)).trans ((frm_r f22 (by omega)).trans ((frm_r f16 (by omega)).trans (frm_r f7 (by omega)))))).trans HQ.2.2.2.1, ((frm_r f29 (by omega))).trans p23.1, ((frm_r f29 (by omega))).trans p23.2.1, ((frm_r f29 (by omega))).trans p23.2.2.1, ((frm_r f29 (by omega))).trans p23.2.2.2.1, ((frm_r f29 (by omega))).trans p23.2.2.2.2⟩
  · skip
    refine z_iconst (0) dX7_endDay_9 rfl ?_
    refine z_bret dX7_endDay_10 rfl (Or.inl rfl) ⟨rfl, ?_⟩
    have C : ¬ q 0 < 99 := by omega
    refine z_q0 (kq _ FR0 ?_ ?_) C
    · unfold dyG; rw [if_neg C]; exact HF
    · unfold dyQ; rw [if_neg C]; exact isS_1 HQ pn
theorem ok0 {g q : Int → Int} {a b : Int} : (cRiv g a b) ↔ okZ g q 0 a b := by
  constructor
  · intro z; exact Or.inl ⟨rfl, z⟩
  · rintro (z | z | z | z | z | z | z) <;> first | exact z.2 | (exfalso; have := z.1; omega)
theorem ok1 {g q : Int → Int} {a b : Int} : (cHea g q a) ↔ okZ g q 1 a b := by
  constructor
  · intro z; exact Or.inr (Or.inl ⟨rfl, z⟩)
  · rintro (z | z | z | z | z | z | z) <;> first | exact z.2 | (exfalso; have := z.1; omega)
theorem ok2 {g q : Int → Int} {a b : Int} : (cPar g q a) ↔ okZ g q 2 a b := by
  constructor
  · intro z; exact Or.inr (Or.inr (Or.inl ⟨rfl, z⟩))
  · rintro (z | z | z | z | z | z | z) <;> first | exact z.2 | (exfalso; have := z.1; omega)
theorem ok3 {g q : Int → Int} {a b : Int} : (cCut g q a b) ↔ okZ g q 3 a b := by
  constructor
  · intro z; exact Or.inr (Or.inr (Or.inr (Or.inl ⟨rfl, z⟩)))
  · rintro (z | z | z | z | z | z | z) <;> first | exact z.2 | (exfalso; have := z.1; omega)
theorem ok4 {g q : Int → Int} {a b : Int} : (gkP g q a b) ↔ okZ g q 4 a b := by
  constructor
  · intro z; exact Or.inr (Or.inr (Or.inr (Or.inr (Or.inl ⟨rfl, z⟩))))
  · rintro (z | z | z | z | z | z | z) <;> first | exact z.2 | (exfalso; have := z.1; omega)
theorem ok5 {g q : Int → Int} {a b : Int} : (0 ≤ a ∧ a < nd g) ↔ okZ g q 5 a b := by
  constructor
  · intro z; exact Or.inr (Or.inr (Or.inr (Or.inr (Or.inr (Or.inl ⟨rfl, z⟩)))))
  · rintro (z | z | z | z | z | z | z) <;> first | exact z.2 | (exfalso; have := z.1; omega)
theorem ok6 {g q : Int → Int} {a b : Int} : (q 0 < 99) ↔ okZ g q 6 a b := by
  constructor
  · intro z; exact Or.inr (Or.inr (Or.inr (Or.inr (Or.inr (Or.inr (⟨rfl, z⟩))))))
  · rintro (z | z | z | z | z | z | z) <;> first | exact z.2 | (exfalso; have := z.1; omega)
theorem nG0 {g q : Int → Int} {a b : Int} : nG g q 0 a b = rvG g a b := by unfold nG; simp
theorem nQ0 {g q : Int → Int} {a b : Int} : nQ g q 0 a b = q := by unfold nQ; simp
theorem nG1 {g q : Int → Int} {a b : Int} : nG g q 1 a b = g := by unfold nG; simp
theorem nQ1 {g q : Int → Int} {a b : Int} : nQ g q 1 a b = heQ g q a := by unfold nQ; simp
theorem nG2 {g q : Int → Int} {a b : Int} : nG g q 2 a b = paG g q a := by unfold nG; simp
theorem nQ2 {g q : Int → Int} {a b : Int} : nQ g q 2 a b = q := by unfold nQ; simp
theorem nG3 {g q : Int → Int} {a b : Int} : nG g q 3 a b = cuG g q a b := by unfold nG; simp
theorem nQ3 {g q : Int → Int} {a b : Int} : nQ g q 3 a b = cuQ g q a b := by unfold nQ; simp
theorem nG4 {g q : Int → Int} {a b : Int} : nG g q 4 a b = gkG g q a b := by unfold nG; simp
theorem nQ4 {g q : Int → Int} {a b : Int} : nQ g q 4 a b = q := by unfold nQ; simp
theorem nG5 {g q : Int → Int} {a b : Int} : nG g q 5 a b = g := by unfold nG; simp
theorem nQ5 {g q : Int → Int} {a b : Int} : nQ g q 5 a b = oiQ g q a := by unfold nQ; simp
theorem nG6 {g q : Int → Int} {a b : Int} : nG g q 6 a b = dyG g q := by unfold nG; simp
theorem nQ6 {g q : Int → Int} {a b : Int} : nQ g q 6 a b = dyQ q := by unfold nQ; simp
set_option maxHeartbeats 400000 in
theorem zp_X7_perform {ad : mA} {dd : Nat} {h : mH} {Q : mQ} {s : Nat} {g q : Int → Int} {n : Int} (hk : sek h s) (HF : isF h (s + 1) g) (HQ : isS h s q n)  (r : Int) (r_r : -2147483648 ≤ r ∧ r < 2147483648) (a : Int) (a_r : -2147483648 ≤ a ∧ a < 2147483648) (b : Int) (b_r : -2147483648 ≤ b ∧ b < 2147483648) (pn : n < 1000) (p1 : 0 ≤ r ∧ r ≤ 6) (p2 : r = 4 → a = 0 ∨ a = 1) (kq : ∀ h1, frm (fun a k => (a = s ∧ 1 ≤ k ∧ k ≤ 8) ∨ (s + 1 ≤ a ∧ a < s + 17)) h h1 → (isF h1 (s + 1) (nG g q r a b)) → (isS h1 s (nQ g q r a b) (n + 1)) → Q (some (.int (zI (bZ (okZ g q r a b))))) h1) : mCal TB0 ad (dd + 5) M_X7_perform [.ref s, .int (zI r), .int (zI a), .int (zI b)] h 0 0 Q := by
  refine ⟨Nat.le_of_ble_eq_true rfl, ?_⟩
  show mEv TB0 ad M_X7_perform (dd + 5) (0, 0) (mCal TB0 ad (dd + 4)) (fun v h' z => z.1 = 0 ∧ Q v h') 0 [some (.ref s), some (.int (zI r)), some (.int (zI a)), some (.int (zI b))] [] h (0, 0)
  have FR0 : frm (fun a k => (a = s ∧ 1 ≤ k ∧ k ≤ 8) ∨ (s + 1 ≤ a ∧ a < s + 17)) h h := frm_0 h
  refine e_iload_n dX7_perform_0 rfl ?_
  by_cases c1 : r = 0
  · skip
    refine z_tableV (0) 40 dX7_perform_1 c1 (by decide) (by decide +kernel) ?_
    refine e_aload_n dX7_perform_40 rfl ?_
    refine e_iload_n dX7_perform_41 rfl ?_
    refine e_iload_n dX7_perform_42 rfl ?_
    refine e_callV [.int _, .int _] dX7_perform_43 tm_7_93 rfl (Nat.le_of_ble_eq_true rfl) (congrArg Prod.fst (se_s0 hk)) (Nat.le_of_ble_eq_true rfl) (Nat.le_refl _) (Nat.le_refl _) rfl (zp_X7_rivetThem hk HF a ⟨by omega, by omega⟩ b ⟨by omega, by omega⟩ (fun  h2 f3 p4 => ?_))
    have k5 := lk_q (frm_s f3) hk
    have H6 := isS_c f3 (fun a k q1 q2 q3 => by omega) HQ
    have FR7 := frm_t FR0 (frm_m (S' := (fun a k => (a = s ∧ 1 ≤ k ∧ k ≤ 8) ∨ (s + 1 ≤ a ∧ a < s + 17))) f3 (fun a k q => by omega))
    refine z_bret dX7_perform_46 rfl (bZ_01 _) ⟨rfl, ?_⟩
    have e6 : r = 0 := by omega
    subst e6
    refine z_qb (kq _ FR7 ?_ ?_) ok0
    · rw [nG0]; exact p4
    · rw [nQ0]; exact (isS_1 H6 pn)
  by_cases c8 : r = 1
  · skip
    refine z_tableV (1) 47 dX7_perform_1 c8 (by decide) (by decide +kernel) ?_
    refine e_aload_n dX7_perform_47 rfl ?_
    refine e_iload_n dX7_perform_48 rfl ?_
    refine e_callV [.int _] dX7_perform_49 tm_7_97 rfl (Nat.le_of_ble_eq_true rfl) (congrArg Prod.fst (se_s0 hk)) (Nat.le_of_ble_eq_true rfl) (Nat.le_refl _) (Nat.le_refl _) rfl (zp_X7_heatHim hk HF HQ a ⟨by omega, by omega⟩ (by omega) (fun  h9 f10 p11 => ?_))
    have k12 := lk_q (frm_s f10) hk
    have H13 := isF_c f10 (fun a k q1 q2 => by omega) HF
    have FR14 := frm_t FR0 (frm_m (S' := (fun a k => (a = s ∧ 1 ≤ k ∧ k ≤ 8) ∨ (s + 1 ≤ a ∧ a < s + 17))) f10 (fun a k q => by omega))
    refine z_bret dX7_perform_52 rfl (bZ_01 _) ⟨rfl, ?_⟩
    have e6 : r = 1 := by omega
    subst e6
    refine z_qb (kq _ FR14 ?_ ?_) ok1
    · rw [nG1]; exact H13
    · rw [nQ1]; exact p11
  by_cases c15 : r = 2
  · skip
    refine z_tableV (2) 53 dX7_perform_1 c15 (by decide) (by decide +kernel) ?_
    refine e_aload_n dX7_perform_53 rfl ?_
    refine e_iload_n dX7_perform_54 rfl ?_
    refine e_callV [.int _] dX7_perform_55 tm_7_101 rfl (Nat.le_of_ble_eq_true rfl) (congrArg Prod.fst (se_s0 hk)) (Nat.le_of_ble_eq_true rfl) (Nat.le_refl _) (Nat.le_refl _) rfl (zp_X7_partThem hk HF HQ a ⟨by omega, by omega⟩ (fun  h16 f17 p18 => ?_))
    have k19 := lk_q (frm_s f17) hk
    have H20 := isS_c f17 (fun a k q1 q2 q3 => by omega) HQ
    have FR21 := frm_t FR0 (frm_m (S' := (fun a k => (a = s ∧ 1 ≤ k ∧ k ≤ 8) ∨ (s + 1 ≤ a ∧ a < s + 17))) f17 (fun a k q => by omega))
    refine z_bret dX7_perform_58 rfl (bZ_01 _) ⟨rfl, ?_⟩
    have e6 : r = 2 := by omega
    subst e6
    refine z_qb (kq _ FR21 ?_ ?_) ok2
    · rw [nG2]; exact p18
    · rw [nQ2]; exact (isS_1 H20 pn)
  by_cases c22 : r = 3
  · skip
    refine z_tableV (3) 59 dX7_perform_1 c22 (by decide) (by decide +kernel) ?_
    refine e_aload_n dX7_perform_59 rfl ?_
    refine e_iload_n dX7_perform_60 rfl ?_
    refine e_iload_n dX7_perform_61 rfl ?_
    refine e_callV [.int _, .int _] dX7_perform_62 tm_7_107 rfl (Nat.le_of_ble_eq_true rfl) (congrArg Prod.fst (se_s0 hk)) (Nat.le_of_ble_eq_true rfl) (Nat.le_refl _) (Nat.le_refl _) rfl (zp_X7_cutCloth hk HF HQ a ⟨by omega, by omega⟩ b ⟨by omega, by omega⟩ (by omega) (fun  h23 f24 p25 p26 => ?_))
    have k27 := lk_q (frm_s f24) hk
    have FR28 := frm_t FR0 (frm_m (S' := (fun a k => (a = s ∧ 1 ≤ k ∧ k ≤ 8) ∨ (s + 1 ≤ a ∧ a < s + 17))) f24 (fun a k q => by omega))
    refine z_bret dX7_perform_65 rfl (bZ_01 _) ⟨rfl, ?_⟩
    have e6 : r = 3 := by omega
    subst e6
    refine z_qb (kq _ FR28 ?_ ?_) ok3
    · rw [nG3]; exact p25
    · rw [nQ3]; exact p26
  by_cases c29 : r = 4
  · skip
    refine z_tableV (4) 66 dX7_perform_1 c29 (by decide) (by decide +kernel) ?_
    refine e_aload_n dX7_perform_66 rfl ?_
    refine e_iload_n dX7_perform_67 rfl ?_
    refine e_iload_n dX7_perform_68 rfl ?_
    refine e_callV [.int _, .int _] dX7_perform_69 tm_7_110 rfl (Nat.le_of_ble_eq_true rfl) (congrArg Prod.fst (se_s0 hk)) (Nat.le_of_ble_eq_true rfl) (Nat.le_refl _) (Nat.le_refl _) rfl (zp_X7_grindBlade hk HF HQ a ⟨by omega, by omega⟩ b ⟨by omega, by omega⟩ (by omega) (fun  h30 f31 p32 => ?_))
    have k33 := lk_q (frm_s f31) hk
    have H34 := isS_c f31 (fun a k q1 q2 q3 => by omega) HQ
    have FR35 := frm_t FR0 (frm_m (S' := (fun a k => (a = s ∧ 1 ≤ k ∧ k ≤ 8) ∨ (s + 1 ≤ a ∧ a < s + 17))) f31 (fun a k q => by omega))
    refine z_bret dX7_perform_72 rfl (bZ_01 _) ⟨rfl, ?_⟩
    have e6 : r = 4 := by omega
    subst e6
    refine z_qb (kq _ FR35 ?_ ?_) ok4
    · rw [nG4]; exact p32
    · rw [nQ4]; exact (isS_1 H34 pn)
  by_cases c36 : r = 5
  · skip
    refine z_tableV (5) 73 dX7_perform_1 c36 (by decide) (by decide +kernel) ?_
    refine e_aload_n dX7_perform_73 rfl ?_
    refine e_iload_n dX7_perform_74 rfl ?_
    refine e_callV [.int _] dX7_perform_75 tm_7_113 rfl (Nat.le_of_ble_eq_true rfl) (congrArg Prod.fst (se_s0 hk)) (Nat.le_of_ble_eq_true rfl) (Nat.le_refl _) (Nat.le_refl _) rfl (zp_X7_oilThem hk HF HQ a ⟨by omega, by omega⟩ (by omega) (fun  h37 f38 p39 => ?_))
    have k40 := lk_q (frm_s f38) hk
    have H41 := isF_c f38 (fun a k q1 q2 => by omega) HF
    have FR42 := frm_t FR0 (frm_m (S' := (fun a k => (a = s ∧ 1 ≤ k ∧ k ≤ 8) ∨ (s + 1 ≤ a ∧ a < s + 17))) f38 (fun a k q => by omega))
    refine z_bret dX7_perform_78 rfl (bZ_01 _) ⟨rfl, ?_⟩
    have e6 : r = 5 := by omega
    subst e6
    refine z_qb (kq _ FR42 ?_ ?_) ok5
    · rw [nG5]; exact H41
    · rw [nQ5]; exact p39
  refine z_tableD 79 dX7_perform_1 ⟨by omega, by omega⟩ (by omega) rfl ?_
  refine e_iload_n dX7_perform_79 rfl ?_
  refine z_bipush (6) dX7_perform_80 rfl ?_
  refine z_icmp_ne 96 dX7_perform_82 rfl ⟨by omega, by omega⟩ ⟨by omega, by omega⟩ (fun c43 => ?_) (fun c43 => ?_)
  · exfalso; omega
  · skip
    refine e_aload_n dX7_perform_85 rfl ?_
    refine e_callV [] dX7_perform_86 tm_7_116 rfl (Nat.le_of_ble_eq_true rfl) (congrArg Prod.fst (se_s0 hk)) (Nat.le_of_ble_eq_true rfl) (Nat.le_refl _) (Nat.le_refl _) rfl (zp_X7_endDay hk HF HQ (by omega) (fun  h44 f45 p46 p47 => ?_))
    have k48 := lk_q (frm_s f45) hk
    have FR49 := frm_t FR0 (frm_m (S' := (fun a k => (a = s ∧ 1 ≤ k ∧ k ≤ 8) ∨ (s + 1 ≤ a ∧ a < s + 17))) f45 (fun a k q => by omega))
    refine z_ifb_eq 96 dX7_perform_89 rfl (fun c50 => ?_) (fun c50 => ?_)
    · skip
      refine z_iconst (0) dX7_perform_96 rfl ?_
      refine z_bret dX7_perform_97 rfl (Or.inl rfl) ⟨rfl, ?_⟩
      have e6 : r = 6 := by omega
      subst e6
      refine z_q0 (kq _ FR49 ?_ ?_) (fun z => absurd (ok6.mpr z) (by assumption))
      · rw [nG6]; exact p46
      · rw [nQ6]; exact p47
    · skip
      refine z_iconst (1) dX7_perform_92 rfl ?_
      refine e_goto 97 dX7_perform_93 rfl ?_
      refine z_bret dX7_perform_97 rfl (Or.inr rfl) ⟨rfl, ?_⟩
      have e6 : r = 6 := by omega
      subst e6
      refine z_q1 (kq _ FR49 ?_ ?_) (ok6.mp (by assumption))
      · rw [nG6]; exact p46
      · rw [nQ6]; exact p47
set_option maxHeartbeats 400000 in
theorem zp_X7_begin {ad : mA} {dd : Nat} {h : mH} {Q : mQ} {s f : Nat} {g : Int → Int} (hk : sek h s) (hk1 : fgk h f) (HF : isF h f g)   (pd : s + 17 ≤ f ∨ f + 16 ≤ s) (kq : ∀ h1, frm (fun a k => (a = s ∧ 1 ≤ k ∧ k ≤ 8) ∨ (s + 1 ≤ a ∧ a < s + 17)) h h1 → (isF h1 (s + 1) g) → (isS h1 s (fun _ => 0) 0) → Q none h1) : mCal TB0 ad (dd + 3) M_X7_begin [.ref s, .ref f] h 0 0 Q := by
  refine ⟨Nat.le_of_ble_eq_true rfl, ?_⟩
  show mEv TB0 ad M_X7_begin (dd + 3) (0, 0) (mCal TB0 ad (dd + 2)) (fun v h' z => z.1 = 0 ∧ Q v h') 0 [some (.ref s), some (.ref f)] [] h (0, 0)
  have FR0 : frm (fun a k => (a = s ∧ 1 ≤ k ∧ k ≤ 8) ∨ (s + 1 ≤ a ∧ a < s + 17)) h h := frm_0 h
  refine e_aload_n dX7_begin_0 rfl ?_
  refine e_get (.ref (s + 1)) dX7_begin_1 tf_7_12 (congrArg Prod.fst (se_s0 hk)) (congrArg va_rf (se_r0_0 hk)) ?_
  refine e_aload_n dX7_begin_4 rfl ?_
  refine e_callV [.ref _] dX7_begin_5 tm_7_46 rfl (Nat.le_of_ble_eq_true rfl) (congrArg Prod.fst (se_s1 hk)) (Nat.le_of_ble_eq_true rfl) (Nat.le_refl _) (Nat.le_refl _) rfl (zp_X2_copyFrom (se_fg1 hk) hk1 (by omega) (fun  h1 f2 p3 => ?_))
  have k4 := lk_q (frm_s f2) hk
  have k5 := lk_q (frm_s f2) hk1
  have H6 := isF_c f2 (fun a k q1 q2 => by omega) HF
  have FR7 := frm_t FR0 (frm_m (S' := (fun a k => (a = s ∧ 1 ≤ k ∧ k ≤ 8) ∨ (s + 1 ≤ a ∧ a < s + 17))) f2 (fun a k q => by omega))
  have HN : isF h1 (s + 1) g := isF_eq p3 HF
  refine e_aload_n dX7_begin_8 rfl ?_
  refine z_iconst (0) dX7_begin_9 rfl ?_
  refine z_put dX7_begin_10 tf_7_18 (congrArg Prod.fst (se_s0 k4)) rfl (Or.inl rfl) (fun h8 e9 => ?_)
  have f10 := frm_1 e9
  have k11 := lk_q (frm_s f10) k4
  have k12 := lk_q (frm_s f10) k5
  have H13 := isF_c f10 (fun a k q1 q2 => by omega) H6
  have H14 := isF_c f10 (fun a k q1 q2 => by omega) HN
  have FR15 := frm_t FR7 (frm_m (S' := (fun a k => (a = s ∧ 1 ≤ k ∧ k ≤ 8) ∨ (s + 1 ≤ a ∧ a < s + 17))) f10 (fun a k q => by omega))
  refine e_aload_n dX7_begin_13 rfl ?_
  refine z_iconst (0) dX7_begin_14 rfl ?_
  refine z_put dX7_begin_15 tf_7_22 (congrArg Prod.fst (se_s0 k11)) rfl (Or.inl rfl) (fun h16 e17 => ?_)
  have f18 := frm_1 e17
  have k19 := lk_q (frm_s f18) k11
  have k20 := lk_q (frm_s f18) k12
  have H21 := isF_c f18 (fun a k q1 q2 => by omega) H13
  have H22 := isF_c f18 (fun a k q1 q2 => by omega) H14
  have FR23 := frm_t FR15 (frm_m (S' := (fun a k => (a = s ∧ 1 ≤ k ∧ k ≤ 8) ∨ (s + 1 ≤ a ∧ a < s + 17))) f18 (fun a k q => by omega))
  refine e_aload_n dX7_begin_18 rfl ?_
  refine z_iconst (0) dX7_begin_19 rfl ?_
  refine z_put dX7_begin_20 tf_7_25 (congrArg Prod.fst (se_s0 k19)) rfl (Or.inl rfl) (fun h24 e25 => ?_)
  have f26 := frm_1 e25
  have k27 := lk_q (frm_s f26) k19
  have k28 := lk_q (frm_s f26) k20
  have H29 := isF_c f26 (fun a k q1 q2 => by omega) H21
  have H30 := isF_c f26 (fun a k q1 q2 => by omega) H22
  have FR31 := frm_t FR23 (frm_m (S' := (fun a k => (a = s ∧ 1 ≤ k ∧ k ≤ 8) ∨ (s + 1 ≤ a ∧ a < s + 17))) f26 (fun a k q => by omega))
  refine e_aload_n dX7_begin_23 rfl ?_
  refine e_callV [] dX7_begin_24 tm_7_50 rfl (Nat.le_of_ble_eq_true rfl) (congrArg Prod.fst (se_s0 k27)) (Nat.le_of_ble_eq_true rfl) (Nat.le_refl _) (Nat.le_refl _) rfl (zp_X7_coolDown k27 (fun  h32 f33 p34 => ?_))
  have k35 := lk_q (frm_s f33) k27
  have k36 := lk_q (frm_s f33) k28
  have H37 := isF_c f33 (fun a k q1 q2 => by omega) H29
  have H38 := isF_c f33 (fun a k q1 q2 => by omega) H30
  have FR39 := frm_t FR31 (frm_m (S' := (fun a k => (a = s ∧ 1 ≤ k ∧ k ≤ 8) ∨ (s + 1 ≤ a ∧ a < s + 17))) f33 (fun a k q => by omega))
  skip
  refine e_vret dX7_begin_27 rfl ⟨rfl, ?_⟩
  exact kq _ FR39 H38 ⟨wfQ_0, (show rI h32 s 1 = 0 from (((frm_r f33 (by omega)).trans ((frm_r f26 (by omega)).trans (frm_r f18 (by omega)))).trans (rI_eq e9 ⟨by omega, by omega⟩))), (show rI h32 s 2 = 0 from (((frm_r f33 (by omega)).trans (frm_r f26 (by omega))).trans (rI_eq e17 ⟨by omega, by omega⟩))), (show rI h32 s 3 = 0 from ((frm_r f33 (by omega)).trans (rI_eq e25 ⟨by omega, by omega⟩))), p34.1, p34.2.1, p34.2.2.1, p34.2.2.2.1, p34.2.2.2.2⟩
