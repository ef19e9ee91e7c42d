/-! TEXT: lines of a year, as the class takes them -/
theorem dX6_deedSort_0 : decode cX6_deedSort 0 = .ok (.aload_n 0, 1) := by decide +kernel
theorem dX6_deedSort_1 : decode cX6_deedSort 1 = .ok (.ldc 138, 2) := by decide +kernel
theorem dX6_deedSort_3 : decode cX6_deedSort 3 = .ok (.invokevirtual 123, 3) := by decide +kernel
theorem dX6_deedSort_6 : decode cX6_deedSort 6 = .ok (.ifCond .eq 5, 3) := by decide +kernel
theorem dX6_deedSort_9 : decode cX6_deedSort 9 = .ok (.iconst 0, 1) := by decide +kernel
theorem dX6_deedSort_10 : decode cX6_deedSort 10 = .ok (.ireturn, 1) := by decide +kernel
theorem dX6_deedSort_11 : decode cX6_deedSort 11 = .ok (.aload_n 0, 1) := by decide +kernel
theorem dX6_deedSort_12 : decode cX6_deedSort 12 = .ok (.ldc 193, 2) := by decide +kernel
theorem dX6_deedSort_14 : decode cX6_deedSort 14 = .ok (.invokevirtual 123, 3) := by decide +kernel
theorem dX6_deedSort_17 : decode cX6_deedSort 17 = .ok (.ifCond .eq 5, 3) := by decide +kernel
theorem dX6_deedSort_20 : decode cX6_deedSort 20 = .ok (.iconst 1, 1) := by decide +kernel
theorem dX6_deedSort_21 : decode cX6_deedSort 21 = .ok (.ireturn, 1) := by decide +kernel
theorem dX6_deedSort_22 : decode cX6_deedSort 22 = .ok (.aload_n 0, 1) := by decide +kernel
theorem dX6_deedSort_23 : decode cX6_deedSort 23 = .ok (.ldc 195, 2) := by decide +kernel
theorem dX6_deedSort_25 : decode cX6_deedSort 25 = .ok (.invokevirtual 123, 3) := by decide +kernel
theorem dX6_deedSort_28 : decode cX6_deedSort 28 = .ok (.ifCond .eq 5, 3) := by decide +kernel
theorem dX6_deedSort_31 : decode cX6_deedSort 31 = .ok (.iconst 2, 1) := by decide +kernel
theorem dX6_deedSort_32 : decode cX6_deedSort 32 = .ok (.ireturn, 1) := by decide +kernel
theorem dX6_deedSort_33 : decode cX6_deedSort 33 = .ok (.aload_n 0, 1) := by decide +kernel
theorem dX6_deedSort_34 : decode cX6_deedSort 34 = .ok (.ldc 197, 2) := by decide +kernel
theorem dX6_deedSort_36 : decode cX6_deedSort 36 = .ok (.invokevirtual 123, 3) := by decide +kernel
theorem dX6_deedSort_39 : decode cX6_deedSort 39 = .ok (.ifCond .eq 5, 3) := by decide +kernel
theorem dX6_deedSort_42 : decode cX6_deedSort 42 = .ok (.iconst 3, 1) := by decide +kernel
theorem dX6_deedSort_43 : decode cX6_deedSort 43 = .ok (.ireturn, 1) := by decide +kernel
theorem dX6_deedSort_44 : decode cX6_deedSort 44 = .ok (.aload_n 0, 1) := by decide +kernel
theorem dX6_deedSort_45 : decode cX6_deedSort 45 = .ok (.ldc 199, 2) := by decide +kernel
theorem dX6_deedSort_47 : decode cX6_deedSort 47 = .ok (.invokevirtual 123, 3) := by decide +kernel
theorem dX6_deedSort_50 : decode cX6_deedSort 50 = .ok (.ifCond .eq 5, 3) := by decide +kernel
theorem dX6_deedSort_53 : decode cX6_deedSort 53 = .ok (.iconst 4, 1) := by decide +kernel
theorem dX6_deedSort_54 : decode cX6_deedSort 54 = .ok (.ireturn, 1) := by decide +kernel
theorem dX6_deedSort_55 : decode cX6_deedSort 55 = .ok (.aload_n 0, 1) := by decide +kernel
theorem dX6_deedSort_56 : decode cX6_deedSort 56 = .ok (.ldc 201, 2) := by decide +kernel
theorem dX6_deedSort_58 : decode cX6_deedSort 58 = .ok (.invokevirtual 123, 3) := by decide +kernel
theorem dX6_deedSort_61 : decode cX6_deedSort 61 = .ok (.ifCond .eq 5, 3) := by decide +kernel
theorem dX6_deedSort_64 : decode cX6_deedSort 64 = .ok (.iconst 5, 1) := by decide +kernel
theorem dX6_deedSort_65 : decode cX6_deedSort 65 = .ok (.ireturn, 1) := by decide +kernel
theorem dX6_deedSort_66 : decode cX6_deedSort 66 = .ok (.aload_n 0, 1) := by decide +kernel
theorem dX6_deedSort_67 : decode cX6_deedSort 67 = .ok (.ldc 203, 2) := by decide +kernel
theorem dX6_deedSort_69 : decode cX6_deedSort 69 = .ok (.invokevirtual 123, 3) := by decide +kernel
theorem dX6_deedSort_72 : decode cX6_deedSort 72 = .ok (.ifCond .eq 8, 3) := by decide +kernel
theorem dX6_deedSort_75 : decode cX6_deedSort 75 = .ok (.bipush 6, 2) := by decide +kernel
theorem dX6_deedSort_77 : decode cX6_deedSort 77 = .ok (.goto 4, 3) := by decide +kernel
theorem dX6_deedSort_80 : decode cX6_deedSort 80 = .ok (.iconst (-1), 1) := by decide +kernel
theorem dX6_deedSort_81 : decode cX6_deedSort 81 = .ok (.ireturn, 1) := by decide +kernel
theorem dX6_takeDeedNumbers_0 : decode cX6_takeDeedNumbers 0 = .ok (.iload_n 1, 1) := by decide +kernel
theorem dX6_takeDeedNumbers_1 : decode cX6_takeDeedNumbers 1 = .ok (.tableswitch 94 0 6 #[43, 94, 94, 43, 69, 94, 92], 43) := by decide +kernel
theorem dX6_takeDeedNumbers_44 : decode cX6_takeDeedNumbers 44 = .ok (.aload_n 0, 1) := by decide +kernel
theorem dX6_takeDeedNumbers_45 : decode cX6_takeDeedNumbers 45 = .ok (.iconst 0, 1) := by decide +kernel
theorem dX6_takeDeedNumbers_46 : decode cX6_takeDeedNumbers 46 = .ok (.iconst 0, 1) := by decide +kernel
theorem dX6_takeDeedNumbers_47 : decode cX6_takeDeedNumbers 47 = .ok (.iconst 5, 1) := by decide +kernel
theorem dX6_takeDeedNumbers_48 : decode cX6_takeDeedNumbers 48 = .ok (.invokevirtual 156, 3) := by decide +kernel
theorem dX6_takeDeedNumbers_51 : decode cX6_takeDeedNumbers 51 = .ok (.ifCond .eq 17, 3) := by decide +kernel
theorem dX6_takeDeedNumbers_54 : decode cX6_takeDeedNumbers 54 = .ok (.aload_n 0, 1) := by decide +kernel
theorem dX6_takeDeedNumbers_55 : decode cX6_takeDeedNumbers 55 = .ok (.iconst 1, 1) := by decide +kernel
theorem dX6_takeDeedNumbers_56 : decode cX6_takeDeedNumbers 56 = .ok (.iconst 0, 1) := by decide +kernel
theorem dX6_takeDeedNumbers_57 : decode cX6_takeDeedNumbers 57 = .ok (.iconst 5, 1) := by decide +kernel
theorem dX6_takeDeedNumbers_58 : decode cX6_takeDeedNumbers 58 = .ok (.invokevirtual 156, 3) := by decide +kernel
theorem dX6_takeDeedNumbers_61 : decode cX6_takeDeedNumbers 61 = .ok (.ifCond .eq 7, 3) := by decide +kernel
theorem dX6_takeDeedNumbers_64 : decode cX6_takeDeedNumbers 64 = .ok (.iconst 1, 1) := by decide +kernel
theorem dX6_takeDeedNumbers_65 : decode cX6_takeDeedNumbers 65 = .ok (.goto 4, 3) := by decide +kernel
theorem dX6_takeDeedNumbers_68 : decode cX6_takeDeedNumbers 68 = .ok (.iconst 0, 1) := by decide +kernel
theorem dX6_takeDeedNumbers_69 : decode cX6_takeDeedNumbers 69 = .ok (.ireturn, 1) := by decide +kernel
theorem dX6_takeDeedNumbers_70 : decode cX6_takeDeedNumbers 70 = .ok (.aload_n 0, 1) := by decide +kernel
theorem dX6_takeDeedNumbers_71 : decode cX6_takeDeedNumbers 71 = .ok (.invokevirtual 205, 3) := by decide +kernel
theorem dX6_takeDeedNumbers_74 : decode cX6_takeDeedNumbers 74 = .ok (.ifCond .eq 17, 3) := by decide +kernel
theorem dX6_takeDeedNumbers_77 : decode cX6_takeDeedNumbers 77 = .ok (.aload_n 0, 1) := by decide +kernel
theorem dX6_takeDeedNumbers_78 : decode cX6_takeDeedNumbers 78 = .ok (.iconst 1, 1) := by decide +kernel
theorem dX6_takeDeedNumbers_79 : decode cX6_takeDeedNumbers 79 = .ok (.iconst 0, 1) := by decide +kernel
theorem dX6_takeDeedNumbers_80 : decode cX6_takeDeedNumbers 80 = .ok (.iconst 5, 1) := by decide +kernel
theorem dX6_takeDeedNumbers_81 : decode cX6_takeDeedNumbers 81 = .ok (.invokevirtual 156, 3) := by decide +kernel
theorem dX6_takeDeedNumbers_84 : decode cX6_takeDeedNumbers 84 = .ok (.ifCond .eq 7, 3) := by decide +kernel
theorem dX6_takeDeedNumbers_87 : decode cX6_takeDeedNumbers 87 = .ok (.iconst 1, 1) := by decide +kernel
theorem dX6_takeDeedNumbers_88 : decode cX6_takeDeedNumbers 88 = .ok (.goto 4, 3) := by decide +kernel
theorem dX6_takeDeedNumbers_91 : decode cX6_takeDeedNumbers 91 = .ok (.iconst 0, 1) := by decide +kernel
theorem dX6_takeDeedNumbers_92 : decode cX6_takeDeedNumbers 92 = .ok (.ireturn, 1) := by decide +kernel
theorem dX6_takeDeedNumbers_93 : decode cX6_takeDeedNumbers 93 = .ok (.iconst 1, 1) := by decide +kernel
theorem dX6_takeDeedNumbers_94 : decode cX6_takeDeedNumbers 94 = .ok (.ireturn, 1) := by decide +kernel
theorem dX6_takeDeedNumbers_95 : decode cX6_takeDeedNumbers 95 = .ok (.aload_n 0, 1) := by decide +kernel
theorem dX6_takeDeedNumbers_96 : decode cX6_takeDeedNumbers 96 = .ok (.iconst 0, 1) := by decide +kernel
theorem dX6_takeDeedNumbers_97 : decode cX6_takeDeedNumbers 97 = .ok (.iconst 0, 1) := by decide +kernel
theorem dX6_takeDeedNumbers_98 : decode cX6_takeDeedNumbers 98 = .ok (.iconst 5, 1) := by decide +kernel
theorem dX6_takeDeedNumbers_99 : decode cX6_takeDeedNumbers 99 = .ok (.invokevirtual 156, 3) := by decide +kernel
theorem dX6_takeDeedNumbers_102 : decode cX6_takeDeedNumbers 102 = .ok (.ireturn, 1) := by decide +kernel
theorem dX6_clueSort_0 : decode cX6_clueSort 0 = .ok (.aload_n 0, 1) := by decide +kernel
theorem dX6_clueSort_1 : decode cX6_clueSort 1 = .ok (.ldc 219, 2) := by decide +kernel
theorem dX6_clueSort_3 : decode cX6_clueSort 3 = .ok (.invokevirtual 123, 3) := by decide +kernel
theorem dX6_clueSort_6 : decode cX6_clueSort 6 = .ok (.ifCond .eq 5, 3) := by decide +kernel
theorem dX6_clueSort_9 : decode cX6_clueSort 9 = .ok (.iconst 0, 1) := by decide +kernel
theorem dX6_clueSort_10 : decode cX6_clueSort 10 = .ok (.ireturn, 1) := by decide +kernel
theorem dX6_clueSort_11 : decode cX6_clueSort 11 = .ok (.aload_n 0, 1) := by decide +kernel
theorem dX6_clueSort_12 : decode cX6_clueSort 12 = .ok (.ldc 221, 2) := by decide +kernel
theorem dX6_clueSort_14 : decode cX6_clueSort 14 = .ok (.invokevirtual 123, 3) := by decide +kernel
theorem dX6_clueSort_17 : decode cX6_clueSort 17 = .ok (.ifCond .eq 5, 3) := by decide +kernel
theorem dX6_clueSort_20 : decode cX6_clueSort 20 = .ok (.iconst 1, 1) := by decide +kernel
theorem dX6_clueSort_21 : decode cX6_clueSort 21 = .ok (.ireturn, 1) := by decide +kernel
theorem dX6_clueSort_22 : decode cX6_clueSort 22 = .ok (.aload_n 0, 1) := by decide +kernel
theorem dX6_clueSort_23 : decode cX6_clueSort 23 = .ok (.ldc 223, 2) := by decide +kernel
theorem dX6_clueSort_25 : decode cX6_clueSort 25 = .ok (.invokevirtual 123, 3) := by decide +kernel
theorem dX6_clueSort_28 : decode cX6_clueSort 28 = .ok (.ifCond .eq 5, 3) := by decide +kernel
theorem dX6_clueSort_31 : decode cX6_clueSort 31 = .ok (.iconst 2, 1) := by decide +kernel
theorem dX6_clueSort_32 : decode cX6_clueSort 32 = .ok (.ireturn, 1) := by decide +kernel
theorem dX6_clueSort_33 : decode cX6_clueSort 33 = .ok (.aload_n 0, 1) := by decide +kernel
theorem dX6_clueSort_34 : decode cX6_clueSort 34 = .ok (.ldc 225, 2) := by decide +kernel
theorem dX6_clueSort_36 : decode cX6_clueSort 36 = .ok (.invokevirtual 123, 3) := by decide +kernel
theorem dX6_clueSort_39 : decode cX6_clueSort 39 = .ok (.ifCond .eq 7, 3) := by decide +kernel
theorem dX6_clueSort_42 : decode cX6_clueSort 42 = .ok (.iconst 3, 1) := by decide +kernel
theorem dX6_clueSort_43 : decode cX6_clueSort 43 = .ok (.goto 4, 3) := by decide +kernel
theorem dX6_clueSort_46 : decode cX6_clueSort 46 = .ok (.iconst (-1), 1) := by decide +kernel
theorem dX6_clueSort_47 : decode cX6_clueSort 47 = .ok (.ireturn, 1) := by decide +kernel
theorem dX6_takeSide_0 : decode cX6_takeSide 0 = .ok (.aload_n 0, 1) := by decide +kernel
theorem dX6_takeSide_1 : decode cX6_takeSide 1 = .ok (.ldc 131, 2) := by decide +kernel
theorem dX6_takeSide_3 : decode cX6_takeSide 3 = .ok (.invokevirtual 123, 3) := by decide +kernel
theorem dX6_takeSide_6 : decode cX6_takeSide 6 = .ok (.istore_n 1, 1) := by decide +kernel
theorem dX6_takeSide_7 : decode cX6_takeSide 7 = .ok (.iload_n 1, 1) := by decide +kernel
theorem dX6_takeSide_8 : decode cX6_takeSide 8 = .ok (.ifCond .ne 17, 3) := by decide +kernel
theorem dX6_takeSide_11 : decode cX6_takeSide 11 = .ok (.aload_n 0, 1) := by decide +kernel
theorem dX6_takeSide_12 : decode cX6_takeSide 12 = .ok (.ldc 121, 2) := by decide +kernel
theorem dX6_takeSide_14 : decode cX6_takeSide 14 = .ok (.invokevirtual 123, 3) := by decide +kernel
theorem dX6_takeSide_17 : decode cX6_takeSide 17 = .ok (.ifCond .ne 8, 3) := by decide +kernel
theorem dX6_takeSide_20 : decode cX6_takeSide 20 = .ok (.aload_n 0, 1) := by decide +kernel
theorem dX6_takeSide_21 : decode cX6_takeSide 21 = .ok (.invokevirtual 143, 3) := by decide +kernel
theorem dX6_takeSide_24 : decode cX6_takeSide 24 = .ok (.ireturn, 1) := by decide +kernel
theorem dX6_takeSide_25 : decode cX6_takeSide 25 = .ok (.aload_n 0, 1) := by decide +kernel
theorem dX6_takeSide_26 : decode cX6_takeSide 26 = .ok (.getfield 43, 3) := by decide +kernel
theorem dX6_takeSide_29 : decode cX6_takeSide 29 = .ok (.iconst 0, 1) := by decide +kernel
theorem dX6_takeSide_30 : decode cX6_takeSide 30 = .ok (.iload_n 1, 1) := by decide +kernel
theorem dX6_takeSide_31 : decode cX6_takeSide 31 = .ok (.ifCond .eq 7, 3) := by decide +kernel
theorem dX6_takeSide_34 : decode cX6_takeSide 34 = .ok (.iconst 1, 1) := by decide +kernel
theorem dX6_takeSide_35 : decode cX6_takeSide 35 = .ok (.goto 4, 3) := by decide +kernel
theorem dX6_takeSide_38 : decode cX6_takeSide 38 = .ok (.iconst 0, 1) := by decide +kernel
theorem dX6_takeSide_39 : decode cX6_takeSide 39 = .ok (.iastore, 1) := by decide +kernel
theorem dX6_takeSide_40 : decode cX6_takeSide 40 = .ok (.aload_n 0, 1) := by decide +kernel
theorem dX6_takeSide_41 : decode cX6_takeSide 41 = .ok (.invokevirtual 118, 3) := by decide +kernel
theorem dX6_takeSide_44 : decode cX6_takeSide 44 = .ok (.iconst 1, 1) := by decide +kernel
theorem dX6_takeSide_45 : decode cX6_takeSide 45 = .ok (.ireturn, 1) := by decide +kernel
set_option maxRecDepth 20000 in
theorem tm_6_123 : tMet TB0 6 123 = some (0, M_X6_isWord) := rfl
set_option maxRecDepth 20000 in
theorem tm_6_205 : tMet TB0 6 205 = some (0, M_X6_takeSide) := rfl
theorem tl_6_121 : tLdc TB0 6 121 = some (.inr 5) := rfl
theorem tl_6_131 : tLdc TB0 6 131 = some (.inr 6) := rfl
theorem tl_6_138 : tLdc TB0 6 138 = some (.inr 8) := rfl
theorem tl_6_193 : tLdc TB0 6 193 = some (.inr 9) := rfl
theorem tl_6_195 : tLdc TB0 6 195 = some (.inr 10) := rfl
theorem tl_6_197 : tLdc TB0 6 197 = some (.inr 11) := rfl
theorem tl_6_199 : tLdc TB0 6 199 = some (.inr 12) := rfl
theorem tl_6_201 : tLdc TB0 6 201 = some (.inr 13) := rfl
theorem tl_6_203 : tLdc TB0 6 203 = some (.inr 14) := rfl
theorem tl_6_219 : tLdc TB0 6 219 = some (.inr 16) := rfl
theorem tl_6_221 : tLdc TB0 6 221 = some (.inr 17) := rfl
theorem tl_6_223 : tLdc TB0 6 223 = some (.inr 18) := rfl
theorem tl_6_225 : tLdc TB0 6 225 = some (.inr 19) := rfl
/-! TEXT: lines of a year and of clues, as the class takes them -/
set_option maxHeartbeats 1000000 in
theorem zp_X6_takeSide_up {ad : mA} {dd : Nat} {h : mH} {Q : mQ} {y : Nat} {T : Int → Int} {L p f q : Int} (hk : rdk h y) (HT : rdT h y T L) (HP : rdP h y T L p) (HF : rdF h y f q) (HA : adK ad)  (pu : tkW T L p = 30064) (kq : ∀ v : Int, (v = 0 ∨ v = 1) → ∀ h1, frm (fun a k => (a = y ∧ (k = 3 ∨ k = 4 ∨ (8 ≤ k ∧ k ≤ 11))) ∨ (a = y + 26 ∧ k = 0)) h h1 → (sdP h1 y T L p f q v) → Q (some (.int (zI v))) h1) : mCal TB0 ad (dd + 7) M_X6_takeSide [.ref y] h 0 0 Q := by
  refine ⟨Nat.le_of_ble_eq_true rfl, ?_⟩
  show mEv TB0 ad M_X6_takeSide (dd + 7) (0, 0) (mCal TB0 ad (dd + 6)) (fun v h' z => z.1 = 0 ∧ Q v h') 0 [some (.ref y), none] [] h (0, 0)
  have FR0 : frm (fun a k => (a = y ∧ (k = 3 ∨ k = 4 ∨ (8 ≤ k ∧ k ≤ 11))) ∨ (a = y + 26 ∧ k = 0)) h h := frm_0 h
  have w1 := HT.1
  have tb := tk_b (T := T) HP.1.1 HP.1.2
  have p0 := HP.1
  refine e_aload_n dX6_takeSide_0 rfl ?_
  refine e_ldcS dX6_takeSide_1 tl_6_131 ?_
  refine e_callV [.ref _] dX6_takeSide_3 tm_6_123 rfl (Nat.le_of_ble_eq_true rfl) (congrArg Prod.fst (rd_s0 hk)) (Nat.le_of_ble_eq_true rfl) (Nat.le_refl _) (Nat.le_refl _) rfl (zp_X6_isWord_up hk HT HP HA ?_)
  refine e_istore_n (L' := [_, _]) dX6_takeSide_6 (Nat.le_of_ble_eq_true rfl) rfl ?_
  refine e_iload_n dX6_takeSide_7 rfl ?_
  refine z_ifb_ne 25 dX6_takeSide_8 rfl (fun c1 => ?_) (fun c1 => ?_)
  · skip
    refine e_aload_n dX6_takeSide_25 rfl ?_
    refine e_get (.ref (y + 26)) dX6_takeSide_26 tf_6_43 (congrArg Prod.fst (rd_s0 hk)) (congrArg va_rf (rd_r0_6 hk)) ?_
    refine z_iconst (0) dX6_takeSide_29 rfl ?_
    refine e_iload_n dX6_takeSide_30 rfl ?_
    refine z_ifb_eq 38 dX6_takeSide_31 rfl (fun c2 => ?_) (fun c2 => ?_)
    · exfalso; omega
    · skip
      refine z_iconst (1) dX6_takeSide_34 rfl ?_
      refine e_goto 39 dX6_takeSide_35 rfl ?_
      refine z_ist dX6_takeSide_39 (rd_s26 hk) (by decide) (by omega) (by omega) (fun h3 e4 => ?_)
      have f5 := frm_1 e4
      have k6 := lk_q (frm_s f5) hk
      have H7 := rdT_c f5 (fun a k q => by omega) HT
      have H8 := rdP_c f5 (fun a k q => by omega) HP
      have H9 := rdF_c f5 (fun a k q => by omega) HF
      have FR10 := frm_t FR0 (frm_m (S' := (fun a k => (a = y ∧ (k = 3 ∨ k = 4 ∨ (8 ≤ k ∧ k ≤ 11))) ∨ (a = y + 26 ∧ k = 0))) f5 (fun a k q => by omega))
      have n11 : rI h3 (y + 26) 0 = 1 := rI_eq e4 ⟨by omega, by omega⟩
      refine e_aload_n dX6_takeSide_40 rfl ?_
      have PA41 := H8.2.1
      refine e_callV [] dX6_takeSide_41 tm_6_118 rfl (Nat.le_of_ble_eq_true rfl) (congrArg Prod.fst (rd_s0 k6)) (Nat.le_of_ble_eq_true rfl) (Nat.le_refl _) (Nat.le_refl _) rfl (zp_X6_advance k6 H7 (tkE T L p) PA41 (by omega) (fun  h12 f13 p14 => ?_))
      have k15 := lk_q (frm_s f13) k6
      have H16 := rdT_c f13 (fun a k q => by omega) H7
      have H17 := rdF_c f13 (fun a k q => by omega) H9
      have FR18 := frm_t FR10 (frm_m (S' := (fun a k => (a = y ∧ (k = 3 ∨ k = 4 ∨ (8 ≤ k ∧ k ≤ 11))) ∨ (a = y + 26 ∧ k = 0))) f13 (fun a k q => by omega))
      refine z_iconst (1) dX6_takeSide_44 rfl ?_
      refine z_bret dX6_takeSide_45 rfl (Or.inr rfl) ⟨rfl, ?_⟩
      exact kq 1 (Or.inr rfl) _ FR18 (Or.inl ⟨rfl, by omega, p14, H17, (((frm_r f13 (by omega))).trans n11).trans (by first | rw [if_pos (by omega)] | rw [if_neg (by omega)])⟩)
  · exfalso; omega
set_option maxHeartbeats 1000000 in
theorem zp_X6_takeSide_down {ad : mA} {dd : Nat} {h : mH} {Q : mQ} {y : Nat} {T : Int → Int} {L p f q : Int} (hk : rdk h y) (HT : rdT h y T L) (HP : rdP h y T L p) (HF : rdF h y f q) (HA : adK ad)  (pu : tkW T L p = 1685026670) (kq : ∀ v : Int, (v = 0 ∨ v = 1) → ∀ h1, frm (fun a k => (a = y ∧ (k = 3 ∨ k = 4 ∨ (8 ≤ k ∧ k ≤ 11))) ∨ (a = y + 26 ∧ k = 0)) h h1 → (sdP h1 y T L p f q v) → Q (some (.int (zI v))) h1) : mCal TB0 ad (dd + 7) M_X6_takeSide [.ref y] h 0 0 Q := by
  refine ⟨Nat.le_of_ble_eq_true rfl, ?_⟩
  show mEv TB0 ad M_X6_takeSide (dd + 7) (0, 0) (mCal TB0 ad (dd + 6)) (fun v h' z => z.1 = 0 ∧ Q v h') 0 [some (.ref y), none] [] h (0, 0)
  have FR0 : frm (fun a k => (a = y ∧ (k = 3 ∨ k = 4 ∨ (8 ≤ k ∧ k ≤ 11))) ∨ (a = y + 26 ∧ k = 0)) h h := frm_0 h
  have w1 := HT.1
  have tb := tk_b (T := T) HP.1.1 HP.1.2
  have p0 := HP.1
  refine e_aload_n dX6_takeSide_0 rfl ?_
  refine e_ldcS dX6_takeSide_1 tl_6_131 ?_
  refine e_callV [.ref _] dX6_takeSide_3 tm_6_123 rfl (Nat.le_of_ble_eq_true rfl) (congrArg Prod.fst (rd_s0 hk)) (Nat.le_of_ble_eq_true rfl) (Nat.le_refl _) (Nat.le_refl _) rfl (zp_X6_isWord_up hk HT HP HA ?_)
  refine e_istore_n (L' := [_, _]) dX6_takeSide_6 (Nat.le_of_ble_eq_true rfl) rfl ?_
  refine e_iload_n dX6_takeSide_7 rfl ?_
  refine z_ifb_ne 25 dX6_takeSide_8 rfl (fun c1 => ?_) (fun c1 => ?_)
  · exfalso; omega
  · skip
    refine e_aload_n dX6_takeSide_11 rfl ?_
    refine e_ldcS dX6_takeSide_12 tl_6_121 ?_
    refine e_callV [.ref _] dX6_takeSide_14 tm_6_123 rfl (Nat.le_of_ble_eq_true rfl) (congrArg Prod.fst (rd_s0 hk)) (Nat.le_of_ble_eq_true rfl) (Nat.le_refl _) (Nat.le_refl _) rfl (zp_X6_isWord_down hk HT HP HA ?_)
    refine z_ifb_ne 25 dX6_takeSide_17 rfl (fun c2 => ?_) (fun c2 => ?_)
    · skip
      refine e_aload_n dX6_takeSide_25 rfl ?_
      refine e_get (.ref (y + 26)) dX6_takeSide_26 tf_6_43 (congrArg Prod.fst (rd_s0 hk)) (congrArg va_rf (rd_r0_6 hk)) ?_
      refine z_iconst (0) dX6_takeSide_29 rfl ?_
      refine e_iload_n dX6_takeSide_30 rfl ?_
      refine z_ifb_eq 38 dX6_takeSide_31 rfl (fun c3 => ?_) (fun c3 => ?_)
      · skip
        refine z_iconst (0) dX6_takeSide_38 rfl ?_
        refine z_ist dX6_takeSide_39 (rd_s26 hk) (by decide) (by omega) (by omega) (fun h4 e5 => ?_)
        have f6 := frm_1 e5
        have k7 := lk_q (frm_s f6) hk
        have H8 := rdT_c f6 (fun a k q => by omega) HT
        have H9 := rdP_c f6 (fun a k q => by omega) HP
        have H10 := rdF_c f6 (fun a k q => by omega) HF
        have FR11 := frm_t FR0 (frm_m (S' := (fun a k => (a = y ∧ (k = 3 ∨ k = 4 ∨ (8 ≤ k ∧ k ≤ 11))) ∨ (a = y + 26 ∧ k = 0))) f6 (fun a k q => by omega))
        have n12 : rI h4 (y + 26) 0 = 0 := rI_eq e5 ⟨by omega, by omega⟩
        refine e_aload_n dX6_takeSide_40 rfl ?_
        have PA41 := H9.2.1
        refine e_callV [] dX6_takeSide_41 tm_6_118 rfl (Nat.le_of_ble_eq_true rfl) (congrArg Prod.fst (rd_s0 k7)) (Nat.le_of_ble_eq_true rfl) (Nat.le_refl _) (Nat.le_refl _) rfl (zp_X6_advance k7 H8 (tkE T L p) PA41 (by omega) (fun  h13 f14 p15 => ?_))
        have k16 := lk_q (frm_s f14) k7
        have H17 := rdT_c f14 (fun a k q => by omega) H8
        have H18 := rdF_c f14 (fun a k q => by omega) H10
        have FR19 := frm_t FR11 (frm_m (S' := (fun a k => (a = y ∧ (k = 3 ∨ k = 4 ∨ (8 ≤ k ∧ k ≤ 11))) ∨ (a = y + 26 ∧ k = 0))) f14 (fun a k q => by omega))
        refine z_iconst (1) dX6_takeSide_44 rfl ?_
        refine z_bret dX6_takeSide_45 rfl (Or.inr rfl) ⟨rfl, ?_⟩
        exact kq 1 (Or.inr rfl) _ FR19 (Or.inl ⟨rfl, by omega, p15, H18, (((frm_r f14 (by omega))).trans n12).trans (by first | rw [if_pos (by omega)] | rw [if_neg (by omega)])⟩)
      · exfalso; omega
    · exfalso; omega
set_option maxHeartbeats 1000000 in
theorem zp_X6_takeSide_no {ad : mA} {dd : Nat} {h : mH} {Q : mQ} {y : Nat} {T : Int → Int} {L p f q : Int} (hk : rdk h y) (HT : rdT h y T L) (HP : rdP h y T L p) (HF : rdF h y f q) (HA : adK ad)  (pu : tkW T L p ≠ 1685026670 ∧ tkW T L p ≠ 30064) (kq : ∀ v : Int, (v = 0 ∨ v = 1) → ∀ h1, frm (fun a k => (a = y ∧ (k = 3 ∨ k = 4 ∨ (8 ≤ k ∧ k ≤ 11))) ∨ (a = y + 26 ∧ k = 0)) h h1 → (sdP h1 y T L p f q v) → Q (some (.int (zI v))) h1) : mCal TB0 ad (dd + 7) M_X6_takeSide [.ref y] h 0 0 Q := by
  refine ⟨Nat.le_of_ble_eq_true rfl, ?_⟩
  show mEv TB0 ad M_X6_takeSide (dd + 7) (0, 0) (mCal TB0 ad (dd + 6)) (fun v h' z => z.1 = 0 ∧ Q v h') 0 [some (.ref y), none] [] h (0, 0)
  have FR0 : frm (fun a k => (a = y ∧ (k = 3 ∨ k = 4 ∨ (8 ≤ k ∧ k ≤ 11))) ∨ (a = y + 26 ∧ k = 0)) h h := frm_0 h
  have w1 := HT.1
  have tb := tk_b (T := T) HP.1.1 HP.1.2
  have p0 := HP.1
  refine e_aload_n dX6_takeSide_0 rfl ?_
  refine e_ldcS dX6_takeSide_1 tl_6_131 ?_
  refine e_callV [.ref _] dX6_takeSide_3 tm_6_123 rfl (Nat.le_of_ble_eq_true rfl) (congrArg Prod.fst (rd_s0 hk)) (Nat.le_of_ble_eq_true rfl) (Nat.le_refl _) (Nat.le_refl _) rfl (zp_X6_isWord_up hk HT HP HA ?_)
  refine e_istore_n (L' := [_, _]) dX6_takeSide_6 (Nat.le_of_ble_eq_true rfl) rfl ?_
  refine e_iload_n dX6_takeSide_7 rfl ?_
  refine z_ifb_ne 25 dX6_takeSide_8 rfl (fun c1 => ?_) (fun c1 => ?_)
  · exfalso; omega
  · skip
    refine e_aload_n dX6_takeSide_11 rfl ?_
    refine e_ldcS dX6_takeSide_12 tl_6_121 ?_
    refine e_callV [.ref _] dX6_takeSide_14 tm_6_123 rfl (Nat.le_of_ble_eq_true rfl) (congrArg Prod.fst (rd_s0 hk)) (Nat.le_of_ble_eq_true rfl) (Nat.le_refl _) (Nat.le_refl _) rfl (zp_X6_isWord_down hk HT HP HA ?_)
    refine z_ifb_ne 25 dX6_takeSide_17 rfl (fun c2 => ?_) (fun c2 => ?_)
    · exfalso; omega
    · skip
      refine e_aload_n dX6_takeSide_20 rfl ?_
      refine e_callV [] dX6_takeSide_21 tm_6_143 rfl (Nat.le_of_ble_eq_true rfl) (congrArg Prod.fst (rd_s0 hk)) (Nat.le_of_ble_eq_true rfl) (Nat.le_refl _) (Nat.le_refl _) rfl (zp_X6_refuse hk HP (by omega) (fun  h3 f4 p5 => ?_))
      have k6 := lk_q (frm_s f4) hk
      have H7 := rdT_c f4 (fun a k q => by omega) HT
      have H8 := rdP_c f4 (fun a k q => by omega) HP
      have FR9 := frm_t FR0 (frm_m (S' := (fun a k => (a = y ∧ (k = 3 ∨ k = 4 ∨ (8 ≤ k ∧ k ≤ 11))) ∨ (a = y + 26 ∧ k = 0))) f4 (fun a k q => by omega))
      refine z_bret dX6_takeSide_24 rfl (bZ_01 _) ⟨rfl, ?_⟩
      exact kq 0 (Or.inl rfl) _ FR9 (Or.inr ⟨rfl, by omega, p5⟩)
set_option maxHeartbeats 400000 in
theorem zp_X6_deedSort_rivet {ad : mA} {dd : Nat} {h : mH} {Q : mQ} {y : Nat} {T : Int → Int} {L p : Int} (hk : rdk h y) (HT : rdT h y T L) (HP : rdP h y T L p) (HA : adK ad)  (pu : tkW T L p = 491395638644) (kq : Q (some (.int (zI 0))) h) : mCal TB0 ad (dd + 7) M_X6_deedSort [.ref y] h 0 0 Q := by
  refine ⟨Nat.le_of_ble_eq_true rfl, ?_⟩
  show mEv TB0 ad M_X6_deedSort (dd + 7) (0, 0) (mCal TB0 ad (dd + 6)) (fun v h' z => z.1 = 0 ∧ Q v h') 0 [some (.ref y)] [] h (0, 0)
  refine e_aload_n dX6_deedSort_0 rfl ?_
  refine e_ldcS dX6_deedSort_1 tl_6_138 ?_
  refine e_callV [.ref _] dX6_deedSort_3 tm_6_123 rfl (Nat.le_of_ble_eq_true rfl) (congrArg Prod.fst (rd_s0 hk)) (Nat.le_of_ble_eq_true rfl) (Nat.le_refl _) (Nat.le_refl _) rfl (zp_X6_isWord_rivet hk HT HP HA ?_)
  refine z_ifb_eq 11 dX6_deedSort_6 rfl (fun c1 => ?_) (fun c1 => ?_)
  · exfalso; omega
  · skip
    refine z_iconst (0) dX6_deedSort_9 rfl ?_
    refine z_iret dX6_deedSort_10 rfl ⟨rfl, ?_⟩
    refine z_q kq ?_
    rfl
set_option maxHeartbeats 400000 in
theorem zp_X6_deedSort_heat {ad : mA} {dd : Nat} {h : mH} {Q : mQ} {y : Nat} {T : Int → Int} {L p : Int} (hk : rdk h y) (HT : rdT h y T L) (HP : rdP h y T L p) (HA : adK ad)  (pu : tkW T L p = 1751474548) (kq : Q (some (.int (zI 1))) h) : mCal TB0 ad (dd + 7) M_X6_deedSort [.ref y] h 0 0 Q := by
  refine ⟨Nat.le_of_ble_eq_true rfl, ?_⟩
  show mEv TB0 ad M_X6_deedSort (dd + 7) (0, 0) (mCal TB0 ad (dd + 6)) (fun v h' z => z.1 = 0 ∧ Q v h') 0 [some (.ref y)] [] h (0, 0)
  refine e_aload_n dX6_deedSort_0 rfl ?_
  refine e_ldcS dX6_deedSort_1 tl_6_138 ?_
  refine e_callV [.ref _] dX6_deedSort_3 tm_6_123 rfl (Nat.le_of_ble_eq_true rfl) (congrArg Prod.fst (rd_s0 hk)) (Nat.le_of_ble_eq_true rfl) (Nat.le_refl _) (Nat.le_refl _) rfl (zp_X6_isWord_rivet hk HT HP HA ?_)
  refine z_ifb_eq 11 dX6_deedSort_6 rfl (fun c1 => ?_) (fun c1 => ?_)
  · skip
    refine e_aload_n dX6_deedSort_11 rfl ?_
    refine e_ldcS dX6_deedSort_12 tl_6_193 ?_
    refine e_callV [.ref _] dX6_deedSort_14 tm_6_123 rfl (Nat.le_of_ble_eq_true rfl) (congrArg Prod.fst (rd_s0 hk)) (Nat.le_of_ble_eq_true rfl) (Nat.le_refl _) (Nat.le_refl _) rfl (zp_X6_isWord_heat hk HT HP HA ?_)
    refine z_ifb_eq 22 dX6_deedSort_17 rfl (fun c2 => ?_) (fun c2 => ?_)
    · exfalso; omega
    · skip
      refine z_iconst (1) dX6_deedSort_20 rfl ?_
      refine z_iret dX6_deedSort_21 rfl ⟨rfl, ?_⟩
      refine z_q kq ?_
      rfl
  · exfalso; omega
set_option maxHeartbeats 400000 in
theorem zp_X6_deedSort_part {ad : mA} {dd : Nat} {h : mH} {Q : mQ} {y : Nat} {T : Int → Int} {L p : Int} (hk : rdk h y) (HT : rdT h y T L) (HP : rdP h y T L p) (HA : adK ad)  (pu : tkW T L p = 1885434484) (kq : Q (some (.int (zI 2))) h) : mCal TB0 ad (dd + 7) M_X6_deedSort [.ref y] h 0 0 Q := by
  refine ⟨Nat.le_of_ble_eq_true rfl, ?_⟩
  show mEv TB0 ad M_X6_deedSort (dd + 7) (0, 0) (mCal TB0 ad (dd + 6)) (fun v h' z => z.1 = 0 ∧ Q v h') 0 [some (.ref y)] [] h (0, 0)
  refine e_aload_n dX6_deedSort_0 rfl ?_
  refine e_ldcS dX6_deedSort_1 tl_6_138 ?_
  refine e_callV [.ref _] dX6_deedSort_3 tm_6_123 rfl (Nat.le_of_ble_eq_true rfl) (congrArg Prod.fst (rd_s0 hk)) (Nat.le_of_ble_eq_true rfl) (Nat.le_refl _) (Nat.le_refl _) rfl (zp_X6_isWord_rivet hk HT HP HA ?_)
  refine z_ifb_eq 11 dX6_deedSort_6 rfl (fun c1 => ?_) (fun c1 => ?_)
  · skip
    refine e_aload_n dX6_deedSort_11 rfl ?_
    refine e_ldcS dX6_deedSort_12 tl_6_193 ?_
    refine e_callV [.ref _] dX6_deedSort_14 tm_6_123 rfl (Nat.le_of_ble_eq_true rfl) (congrArg Prod.fst (rd_s0 hk)) (Nat.le_of_ble_eq_true rfl) (Nat.le_refl _) (Nat.le_refl _) rfl (zp_X6_isWord_heat hk HT HP HA ?_)
    refine z_ifb_eq 22 dX6_deedSort_17 rfl (fun c2 => ?_) (fun c2 => ?_)
    · skip
      refine e_aload_n dX6_deedSort_22 rfl ?_
      refine e_ldcS dX6_deedSort_23 tl_6_195 ?_
      refine e_callV [.ref _] dX6_deedSort_25 tm_6_123 rfl (Nat.le_of_ble_eq_true rfl) (congrArg Prod.fst (rd_s0 hk)) (Nat.le_of_ble_eq_true rfl) (Nat.le_refl _) (Nat.le_refl _) rfl (zp_X6_isWord_part hk HT HP HA ?_)
      refine z_ifb_eq 33 dX6_deedSort_28 rfl (fun c3 => ?_) (fun c3 => ?_)
      · exfalso; omega
      · skip
        refine z_iconst (2) dX6_deedSort_31 rfl ?_
        refine z_iret dX6_deedSort_32 rfl ⟨rfl, ?_⟩
        refine z_q kq ?_
        rfl
    · exfalso; omega
  · exfalso; omega
set_option maxHeartbeats 400000 in
theorem zp_X6_deedSort_cut {ad : mA} {dd : Nat} {h : mH} {Q : mQ} {y : Nat} {T : Int → Int} {L p : Int} (hk : rdk h y) (HT : rdT h y T L) (HP : rdP h y T L p) (HA : adK ad)  (pu : tkW T L p = 6518132) (kq : Q (some (.int (zI 3))) h) : mCal TB0 ad (dd + 7) M_X6_deedSort [.ref y] h 0 0 Q := by
  refine ⟨Nat.le_of_ble_eq_true rfl, ?_⟩
  show mEv TB0 ad M_X6_deedSort (dd + 7) (0, 0) (mCal TB0 ad (dd + 6)) (fun v h' z => z.1 = 0 ∧ Q v h') 0 [some (.ref y)] [] h (0, 0)
  refine e_aload_n dX6_deedSort_0 rfl ?_
  refine e_ldcS dX6_deedSort_1 tl_6_138 ?_
  refine e_callV [.ref _] dX6_deedSort_3 tm_6_123 rfl (Nat.le_of_ble_eq_true rfl) (congrArg Prod.fst (rd_s0 hk)) (Nat.le_of_ble_eq_true rfl) (Nat.le_refl _) (Nat.le_refl _) rfl (zp_X6_isWord_rivet hk HT HP HA ?_)
  refine z_ifb_eq 11 dX6_deedSort_6 rfl (fun c1 => ?_) (fun c1 => ?_)
  · skip
    refine e_aload_n dX6_deedSort_11 rfl ?_
    refine e_ldcS dX6_deedSort_12 tl_6_193 ?_
    refine e_callV [.ref _] dX6_deedSort_14 tm_6_123 rfl (Nat.le_of_ble_eq_true rfl) (congrArg Prod.fst (rd_s0 hk)) (Nat.le_of_ble_eq_true rfl) (Nat.le_refl _) (Nat.le_refl _) rfl (zp_X6_isWord_heat hk HT HP HA ?_)
    refine z_ifb_eq 22 dX6_deedSort_17 rfl (fun c2 => ?_) (fun c2 => ?_)
    · skip
      refine e_aload_n dX6_deedSort_22 rfl ?_
      refine e_ldcS dX6_deedSort_23 tl_6_195 ?_
      refine e_callV [.ref _] dX6_deedSort_25 tm_6_123 rfl (Nat.le_of_ble_eq_true rfl) (congrArg Prod.fst (rd_s0 hk)) (Nat.le_of_ble_eq_true rfl) (Nat.le_refl _) (Nat.le_refl _) rfl (zp_X6_isWord_part hk HT HP HA ?_)
      refine z_ifb_eq 33 dX6_deedSort_28 rfl (fun c3 => ?_) (fun c3 => ?_)
      · skip
        refine e_aload_n dX6_deedSort_33 rfl ?_
        refine e_ldcS dX6_deedSort_34 tl_6_197 ?_
        refine e_callV [.ref _] dX6_deedSort_36 tm_6_123 rfl (Nat.le_of_ble_eq_true rfl) (congrArg Prod.fst (rd_s0 hk)) (Nat.le_of_ble_eq_true rfl) (Nat.le_refl _) (Nat.le_refl _) rfl (zp_X6_isWord_cut hk HT HP HA ?_)
        refine z_ifb_eq 44 dX6_deedSort_39 rfl (fun c4 => ?_) (fun c4 => ?_)
        · exfalso; omega
        · skip
          refine z_iconst (3) dX6_deedSort_42 rfl ?_
          refine z_iret dX6_deedSort_43 rfl ⟨rfl, ?_⟩
          refine z_q kq ?_
          rfl
      · exfalso; omega
    · exfalso; omega
  · exfalso; omega
set_option maxHeartbeats 400000 in
theorem zp_X6_deedSort_grind {ad : mA} {dd : Nat} {h : mH} {Q : mQ} {y : Nat} {T : Int → Int} {L p : Int} (hk : rdk h y) (HT : rdT h y T L) (HP : rdP h y T L p) (HA : adK ad)  (pu : tkW T L p = 444301143652) (kq : Q (some (.int (zI 4))) h) : mCal TB0 ad (dd + 7) M_X6_deedSort [.ref y] h 0 0 Q := by
  refine ⟨Nat.le_of_ble_eq_true rfl, ?_⟩
  show mEv TB0 ad M_X6_deedSort (dd + 7) (0, 0) (mCal TB0 ad (dd + 6)) (fun v h' z => z.1 = 0 ∧ Q v h') 0 [some (.ref y)] [] h (0, 0)
  refine e_aload_n dX6_deedSort_0 rfl ?_
  refine e_ldcS dX6_deedSort_1 tl_6_138 ?_
  refine e_callV [.ref _] dX6_deedSort_3 tm_6_123 rfl (Nat.le_of_ble_eq_true rfl) (congrArg Prod.fst (rd_s0 hk)) (Nat.le_of_ble_eq_true rfl) (Nat.le_refl _) (Nat.le_refl _) rfl (zp_X6_isWord_rivet hk HT HP HA ?_)
  refine z_ifb_eq 11 dX6_deedSort_6 rfl (fun c1 => ?_) (fun c1 => ?_)
  · skip
    refine e_aload_n dX6_deedSort_11 rfl ?_
    refine e_ldcS dX6_deedSort_12 tl_6_193 ?_
    refine e_callV [.ref _] dX6_deedSort_14 tm_6_123 rfl (Nat.le_of_ble_eq_true rfl) (congrArg Prod.fst (rd_s0 hk)) (Nat.le_of_ble_eq_true rfl) (Nat.le_refl _) (Nat.le_refl _) rfl (zp_X6_isWord_heat hk HT HP HA ?_)
    refine z_ifb_eq 22 dX6_deedSort_17 rfl (fun c2 => ?_) (fun c2 => ?_)
    · skip
      refine e_aload_n dX6_deedSort_22 rfl ?_
      refine e_ldcS dX6_deedSort_23 tl_6_195 ?_
      refine e_callV [.ref _] dX6_deedSort_25 tm_6_123 rfl (Nat.le_of_ble_eq_true rfl) (congrArg Prod.fst (rd_s0 hk)) (Nat.le_of_ble_eq_true rfl) (Nat.le_refl _) (Nat.le_refl _) rfl (zp_X6_isWord_part hk HT HP HA ?_)
      refine z_ifb_eq 33 dX6_deedSort_28 rfl (fun c3 => ?_) (fun c3 => ?_)
      · skip
        refine e_aload_n dX6_deedSort_33 rfl ?_
        refine e_ldcS dX6_deedSort_34 tl_6_197 ?_
        refine e_callV [.ref _] dX6_deedSort_36 tm_6_123 rfl (Nat.le_of_ble_eq_true rfl) (congrArg Prod.fst (rd_s0 hk)) (Nat.le_of_ble_eq_true rfl) (Nat.le_refl _) (Nat.le_refl _) rfl (zp_X6_isWord_cut hk HT HP HA ?_)
        refine z_ifb_eq 44 dX6_deedSort_39 rfl (fun c4 => ?_) (fun c4 => ?_)
        · skip
          refine e_aload_n dX6_deedSort_44 rfl ?_
          refine e_ldcS dX6_deedSort_45 tl_6_199 ?_
          refine e_callV [.ref _] dX6_deedSort_47 tm_6_123 rfl (Nat.le_of_ble_eq_true rfl) (congrArg Prod.fst (rd_s0 hk)) (Nat.le_of_ble_eq_true rfl) (Nat.le_refl _) (Nat.le_refl _) rfl (zp_X6_isWord_grind hk HT HP HA ?_)
          refine z_ifb_eq 55 dX6_deedSort_50 rfl (fun c5 => ?_) (fun c5 => ?_)
          · exfalso; omega
          · skip
            refine z_iconst (4) dX6_deedSort_53 rfl ?_
            refine z_iret dX6_deedSort_54 rfl ⟨rfl, ?_⟩
            refine z_q kq ?_
            rfl
        · exfalso; omega
      · exfalso; omega
    · exfalso; omega
  · exfalso; omega
set_option maxHeartbeats 400000 in
theorem zp_X6_deedSort_oil {ad : mA} {dd : Nat} {h : mH} {Q : mQ} {y : Nat} {T : Int → Int} {L p : Int} (hk : rdk h y) (HT : rdT h y T L) (HP : rdP h y T L p) (HA : adK ad)  (pu : tkW T L p = 7301484) (kq : Q (some (.int (zI 5))) h) : mCal TB0 ad (dd + 7) M_X6_deedSort [.ref y] h 0 0 Q := by
  refine ⟨Nat.le_of_ble_eq_true rfl, ?_⟩
  show mEv TB0 ad M_X6_deedSort (dd + 7) (0, 0) (mCal TB0 ad (dd + 6)) (fun v h' z => z.1 = 0 ∧ Q v h') 0 [some (.ref y)] [] h (0, 0)
  refine e_aload_n dX6_deedSort_0 rfl ?_
  refine e_ldcS dX6_deedSort_1 tl_6_138 ?_
  refine e_callV [.ref _] dX6_deedSort_3 tm_6_123 rfl (Nat.le_of_ble_eq_true rfl) (congrArg Prod.fst (rd_s0 hk)) (Nat.le_of_ble_eq_true rfl) (Nat.le_refl _) (Nat.le_refl _) rfl (zp_X6_isWord_rivet hk HT HP HA ?_)
  refine z_ifb_eq 11 dX6_deedSort_6 rfl (fun c1 => ?_) (fun c1 => ?_)
  · skip
    refine e_aload_n dX6_deedSort_11 rfl ?_
    refine e_ldcS dX6_deedSort_12 tl_6_193 ?_
    refine e_callV [.ref _] dX6_deedSort_14 tm_6_123 rfl (Nat.le_of_ble_eq_true rfl) (congrArg Prod.fst (rd_s0 hk)) (Nat.le_of_ble_eq_true rfl) (Nat.le_refl _) (Nat.le_refl _) rfl (zp_X6_isWord_heat hk HT HP HA ?_)
    refine z_ifb_eq 22 dX6_deedSort_17 rfl (fun c2 => ?_) (fun c2 => ?_)
    · skip
      refine e_aload_n dX6_deedSort_22 rfl ?_
      refine e_ldcS dX6_deedSort_23 tl_6_195 ?_
      refine e_callV [.ref _] dX6_deedSort_25 tm_6_123 rfl (Nat.le_of_ble_eq_true rfl) (congrArg Prod.fst (rd_s0 hk)) (Nat.le_of_ble_eq_true rfl) (Nat.le_refl _) (Nat.le_refl _) rfl (zp_X6_isWord_part hk HT HP HA ?_)
      refine z_ifb_eq 33 dX6_deedSort_28 rfl (fun c3 => ?_) (fun c3 => ?_)
      · skip
        refine e_aload_n dX6_deedSort_33 rfl ?_
        refine e_ldcS dX6_deedSort_34 tl_6_197 ?_
        refine e_callV [.ref _] dX6_deedSort_36 tm_6_123 rfl (Nat.le_of_ble_eq_true rfl) (congrArg Prod.fst (rd_s0 hk)) (Nat.le_of_ble_eq_true rfl) (Nat.le_refl _) (Nat.le_refl _) rfl (zp_X6_isWord_cut hk HT HP HA ?_)
        refine z_ifb_eq 44 dX6_deedSort_39 rfl (fun c4 => ?_) (fun c4 => ?_)
        · skip
          refine e_aload_n dX6_deedSort_44 rfl ?_
          refine e_ldcS dX6_deedSort_45 tl_6_199 ?_
          refine e_callV [.ref _] dX6_deedSort_47 tm_6_123 rfl (Nat.le_of_ble_eq_true rfl) (congrArg Prod.fst (rd_s0 hk)) (Nat.le_of_ble_eq_true rfl) (Nat.le_refl _) (Nat.le_refl _) rfl (zp_X6_isWord_grind hk HT HP HA ?_)
          refine z_ifb_eq 55 dX6_deedSort_50 rfl (fun c5 => ?_) (fun c5 => ?_)
          · skip
            refine e_aload_n dX6_deedSort_55 rfl ?_
            refine e_ldcS dX6_deedSort_56 tl_6_201 ?_
            refine e_callV [.ref _] dX6_deedSort_58 tm_6_123 rfl (Nat.le_of_ble_eq_true rfl) (congrArg Prod.fst (rd_s0 hk)) (Nat.le_of_ble_eq_true rfl) (Nat.le_refl _) (Nat.le_refl _) rfl (zp_X6_isWord_oil hk HT HP HA ?_)
            refine z_ifb_eq 66 dX6_deedSort_61 rfl (fun c6 => ?_) (fun c6 => ?_)
            · exfalso; omega
            · skip
              refine z_iconst (5) dX6_deedSort_64 rfl ?_
              refine z_iret dX6_deedSort_65 rfl ⟨rfl, ?_⟩
              refine z_q kq ?_
              rfl
          · exfalso; omega
        · exfalso; omega
      · exfalso; omega
    · exfalso; omega
  · exfalso; omega
set_option maxHeartbeats 400000 in
theorem zp_X6_deedSort_day {ad : mA} {dd : Nat} {h : mH} {Q : mQ} {y : Nat} {T : Int → Int} {L p : Int} (hk : rdk h y) (HT : rdT h y T L) (HP : rdP h y T L p) (HA : adK ad)  (pu : tkW T L p = 6578553) (kq : Q (some (.int (zI 6))) h) : mCal TB0 ad (dd + 7) M_X6_deedSort [.ref y] h 0 0 Q := by
  refine ⟨Nat.le_of_ble_eq_true rfl, ?_⟩
  show mEv TB0 ad M_X6_deedSort (dd + 7) (0, 0) (mCal TB0 ad (dd + 6)) (fun v h' z => z.1 = 0 ∧ Q v h') 0 [some (.ref y)] [] h (0, 0)
  refine e_aload_n dX6_deedSort_0 rfl ?_
  refine e_ldcS dX6_deedSort_1 tl_6_138 ?_
  refine e_callV [.ref _] dX6_deedSort_3 tm_6_123 rfl (Nat.le_of_ble_eq_true rfl) (congrArg Prod.fst (rd_s0 hk)) (Nat.le_of_ble_eq_true rfl) (Nat.le_refl _) (Nat.le_refl _) rfl (zp_X6_isWord_rivet hk HT HP HA ?_)
  refine z_ifb_eq 11 dX6_deedSort_6 rfl (fun c1 => ?_) (fun c1 => ?_)
  · skip
    refine e_aload_n dX6_deedSort_11 rfl ?_
    refine e_ldcS dX6_deedSort_12 tl_6_193 ?_
    refine e_callV [.ref _] dX6_deedSort_14 tm_6_123 rfl (Nat.le_of_ble_eq_true rfl) (congrArg Prod.fst (rd_s0 hk)) (Nat.le_of_ble_eq_true rfl) (Nat.le_refl _) (Nat.le_refl _) rfl (zp_X6_isWord_heat hk HT HP HA ?_)
    refine z_ifb_eq 22 dX6_deedSort_17 rfl (fun c2 => ?_) (fun c2 => ?_)
    · skip
      refine e_aload_n dX6_deedSort_22 rfl ?_
      refine e_ldcS dX6_deedSort_23 tl_6_195 ?_
      refine e_callV [.ref _] dX6_deedSort_25 tm_6_123 rfl (Nat.le_of_ble_eq_true rfl) (congrArg Prod.fst (rd_s0 hk)) (Nat.le_of_ble_eq_true rfl) (Nat.le_refl _) (Nat.le_refl _) rfl (zp_X6_isWord_part hk HT HP HA ?_)
      refine z_ifb_eq 33 dX6_deedSort_28 rfl (fun c3 => ?_) (fun c3 => ?_)
      · skip
        refine e_aload_n dX6_deedSort_33 rfl ?_
        refine e_ldcS dX6_deedSort_34 tl_6_197 ?_
        refine e_callV [.ref _] dX6_deedSort_36 tm_6_123 rfl (Nat.le_of_ble_eq_true rfl) (congrArg Prod.fst (rd_s0 hk)) (Nat.le_of_ble_eq_true rfl) (Nat.le_refl _) (Nat.le_refl _) rfl (zp_X6_isWord_cut hk HT HP HA ?_)
        refine z_ifb_eq 44 dX6_deedSort_39 rfl (fun c4 => ?_) (fun c4 => ?_)
        · skip
          refine e_aload_n dX6_deedSort_44 rfl ?_
          refine e_ldcS dX6_deedSort_45 tl_6_199 ?_
          refine e_callV [.ref _] dX6_deedSort_47 tm_6_123 rfl (Nat.le_of_ble_eq_true rfl) (congrArg Prod.fst (rd_s0 hk)) (Nat.le_of_ble_eq_true rfl) (Nat.le_refl _) (Nat.le_refl _) rfl (zp_X6_isWord_grind hk HT HP HA ?_)
          refine z_ifb_eq 55 dX6_deedSort_50 rfl (fun c5 => ?_) (fun c5 => ?_)
          · skip
            refine e_aload_n dX6_deedSort_55 rfl ?_
            refine e_ldcS dX6_deedSort_56 tl_6_201 ?_
            refine e_callV [.ref _] dX6_deedSort_58 tm_6_123 rfl (Nat.le_of_ble_eq_true rfl) (congrArg Prod.fst (rd_s0 hk)) (Nat.le_of_ble_eq_true rfl) (Nat.le_refl _) (Nat.le_refl _) rfl (zp_X6_isWord_oil hk HT HP HA ?_)
            refine z_ifb_eq 66 dX6_deedSort_61 rfl (fun c6 => ?_) (fun c6 => ?_)
            · skip
              refine e_aload_n dX6_deedSort_66 rfl ?_
              refine e_ldcS dX6_deedSort_67 tl_6_203 ?_
              refine e_callV [.ref _] dX6_deedSort_69 tm_6_123 rfl (Nat.le_of_ble_eq_true rfl) (congrArg Prod.fst (rd_s0 hk)) (Nat.le_of_ble_eq_true rfl) (Nat.le_refl _) (Nat.le_refl _) rfl (zp_X6_isWord_day hk HT HP HA ?_)
              refine z_ifb_eq 80 dX6_deedSort_72 rfl (fun c7 => ?_) (fun c7 => ?_)
              · exfalso; omega
              · skip
                refine z_bipush (6) dX6_deedSort_75 rfl ?_
                refine e_goto 81 dX6_deedSort_77 rfl ?_
                refine z_iret dX6_deedSort_81 rfl ⟨rfl, ?_⟩
                refine z_q kq ?_
                rfl
            · exfalso; omega
          · exfalso; omega
        · exfalso; omega
      · exfalso; omega
    · exfalso; omega
  · exfalso; omega
set_option maxHeartbeats 400000 in
theorem zp_X6_deedSort_bad {ad : mA} {dd : Nat} {h : mH} {Q : mQ} {y : Nat} {T : Int → Int} {L p : Int} (hk : rdk h y) (HT : rdT h y T L) (HP : rdP h y T L p) (HA : adK ad)  (pu : tkW T L p ≠ 491395638644 ∧ tkW T L p ≠ 1751474548 ∧ tkW T L p ≠ 1885434484 ∧ tkW T L p ≠ 6518132 ∧ tkW T L p ≠ 444301143652 ∧ tkW T L p ≠ 7301484 ∧ tkW T L p ≠ 6578553) (kq : Q (some (.int (zI (-1)))) h) : mCal TB0 ad (dd + 7) M_X6_deedSort [.ref y] h 0 0 Q := by
  refine ⟨Nat.le_of_ble_eq_true rfl, ?_⟩
  show mEv TB0 ad M_X6_deedSort (dd + 7) (0, 0) (mCal TB0 ad (dd + 6)) (fun v h' z => z.1 = 0 ∧ Q v h') 0 [some (.ref y)] [] h (0, 0)
  refine e_aload_n dX6_deedSort_0 rfl ?_
  refine e_ldcS dX6_deedSort_1 tl_6_138 ?_
  refine e_callV [.ref _] dX6_deedSort_3 tm_6_123 rfl (Nat.le_of_ble_eq_true rfl) (congrArg Prod.fst (rd_s0 hk)) (Nat.le_of_ble_eq_true rfl) (Nat.le_refl _) (Nat.le_refl _) rfl (zp_X6_isWord_rivet hk HT HP HA ?_)
  refine z_ifb_eq 11 dX6_deedSort_6 rfl (fun c1 => ?_) (fun c1 => ?_)
  · skip
    refine e_aload_n dX6_deedSort_11 rfl ?_
    refine e_ldcS dX6_deedSort_12 tl_6_193 ?_
    refine e_callV [.ref _] dX6_deedSort_14 tm_6_123 rfl (Nat.le_of_ble_eq_true rfl) (congrArg Prod.fst (rd_s0 hk)) (Nat.le_of_ble_eq_true rfl) (Nat.le_refl _) (Nat.le_refl _) rfl (zp_X6_isWord_heat hk HT HP HA ?_)
    refine z_ifb_eq 22 dX6_deedSort_17 rfl (fun c2 => ?_) (fun c2 => ?_)
    · skip
      refine e_aload_n dX6_deedSort_22 rfl ?_
      refine e_ldcS dX6_deedSort_23 tl_6_195 ?_
      refine e_callV [.ref _] dX6_deedSort_25 tm_6_123 rfl (Nat.le_of_ble_eq_true rfl) (congrArg Prod.fst (rd_s0 hk)) (Nat.le_of_ble_eq_true rfl) (Nat.le_refl _) (Nat.le_refl _) rfl (zp_X6_isWord_part hk HT HP HA ?_)
      refine z_ifb_eq 33 dX6_deedSort_28 rfl (fun c3 => ?_) (fun c3 => ?_)
      · skip
        refine e_aload_n dX6_deedSort_33 rfl ?_
        refine e_ldcS dX6_deedSort_34 tl_6_197 ?_
        refine e_callV [.ref _] dX6_deedSort_36 tm_6_123 rfl (Nat.le_of_ble_eq_true rfl) (congrArg Prod.fst (rd_s0 hk)) (Nat.le_of_ble_eq_true rfl) (Nat.le_refl _) (Nat.le_refl _) rfl (zp_X6_isWord_cut hk HT HP HA ?_)
        refine z_ifb_eq 44 dX6_deedSort_39 rfl (fun c4 => ?_) (fun c4 => ?_)
        · skip
          refine e_aload_n dX6_deedSort_44 rfl ?_
          refine e_ldcS dX6_deedSort_45 tl_6_199 ?_
          refine e_callV [.ref _] dX6_deedSort_47 tm_6_123 rfl (Nat.le_of_ble_eq_true rfl) (congrArg Prod.fst (rd_s0 hk)) (Nat.le_of_ble_eq_true rfl) (Nat.le_refl _) (Nat.le_refl _) rfl (zp_X6_isWord_grind hk HT HP HA ?_)
          refine z_ifb_eq 55 dX6_deedSort_50 rfl (fun c5 => ?_) (fun c5 => ?_)
          · skip
            refine e_aload_n dX6_deedSort_55 rfl ?_
            refine e_ldcS dX6_deedSort_56 tl_6_201 ?_
            refine e_callV [.ref _] dX6_deedSort_58 tm_6_123 rfl (Nat.le_of_ble_eq_true rfl) (congrArg Prod.fst (rd_s0 hk)) (Nat.le_of_ble_eq_true rfl) (Nat.le_refl _) (Nat.le_refl _) rfl (zp_X6_isWord_oil hk HT HP HA ?_)
            refine z_ifb_eq 66 dX6_deedSort_61 rfl (fun c6 => ?_) (fun c6 => ?_)
            · skip
              refine e_aload_n dX6_deedSort_66 rfl ?_
              refine e_ldcS dX6_deedSort_67 tl_6_203 ?_
              refine e_callV [.ref _] dX6_deedSort_69 tm_6_123 rfl (Nat.le_of_ble_eq_true rfl) (congrArg Prod.fst (rd_s0 hk)) (Nat.le_of_ble_eq_true rfl) (Nat.le_refl _) (Nat.le_refl _) rfl (zp_X6_isWord_day hk HT HP HA ?_)
              refine z_ifb_eq 80 dX6_deedSort_72 rfl (fun c7 => ?_) (fun c7 => ?_)
              · skip
                refine z_iconst (-1) dX6_deedSort_80 rfl ?_
                refine z_iret dX6_deedSort_81 rfl ⟨rfl, ?_⟩
                refine z_q kq ?_
                rfl
              · exfalso; omega
            · exfalso; omega
          · exfalso; omega
        · exfalso; omega
      · exfalso; omega
    · exfalso; omega
  · exfalso; omega
set_option maxHeartbeats 400000 in
theorem zp_X6_clueSort_long {ad : mA} {dd : Nat} {h : mH} {Q : mQ} {y : Nat} {T : Int → Int} {L p : Int} (hk : rdk h y) (HT : rdT h y T L) (HP : rdP h y T L p) (HA : adK ad)  (pu : tkW T L p = 1819242087) (kq : Q (some (.int (zI 0))) h) : mCal TB0 ad (dd + 7) M_X6_clueSort [.ref y] h 0 0 Q := by
  refine ⟨Nat.le_of_ble_eq_true rfl, ?_⟩
  show mEv TB0 ad M_X6_clueSort (dd + 7) (0, 0) (mCal TB0 ad (dd + 6)) (fun v h' z => z.1 = 0 ∧ Q v h') 0 [some (.ref y)] [] h (0, 0)
  refine e_aload_n dX6_clueSort_0 rfl ?_
  refine e_ldcS dX6_clueSort_1 tl_6_219 ?_
  refine e_callV [.ref _] dX6_clueSort_3 tm_6_123 rfl (Nat.le_of_ble_eq_true rfl) (congrArg Prod.fst (rd_s0 hk)) (Nat.le_of_ble_eq_true rfl) (Nat.le_refl _) (Nat.le_refl _) rfl (zp_X6_isWord_long hk HT HP HA ?_)
  refine z_ifb_eq 11 dX6_clueSort_6 rfl (fun c1 => ?_) (fun c1 => ?_)
  · exfalso; omega
  · skip
    refine z_iconst (0) dX6_clueSort_9 rfl ?_
    refine z_iret dX6_clueSort_10 rfl ⟨rfl, ?_⟩
    refine z_q kq ?_
    rfl
set_option maxHeartbeats 400000 in
theorem zp_X6_clueSort_apart {ad : mA} {dd : Nat} {h : mH} {Q : mQ} {y : Nat} {T : Int → Int} {L p : Int} (hk : rdk h y) (HT : rdT h y T L) (HP : rdP h y T L p) (HA : adK ad)  (pu : tkW T L p = 418497262196) (kq : Q (some (.int (zI 1))) h) : mCal TB0 ad (dd + 7) M_X6_clueSort [.ref y] h 0 0 Q := by
  refine ⟨Nat.le_of_ble_eq_true rfl, ?_⟩
  show mEv TB0 ad M_X6_clueSort (dd + 7) (0, 0) (mCal TB0 ad (dd + 6)) (fun v h' z => z.1 = 0 ∧ Q v h') 0 [some (.ref y)] [] h (0, 0)
  refine e_aload_n dX6_clueSort_0 rfl ?_
  refine e_ldcS dX6_clueSort_1 tl_6_219 ?_
  refine e_callV [.ref _] dX6_clueSort_3 tm_6_123 rfl (Nat.le_of_ble_eq_true rfl) (congrArg Prod.fst (rd_s0 hk)) (Nat.le_of_ble_eq_true rfl) (Nat.le_refl _) (Nat.le_refl _) rfl (zp_X6_isWord_long hk HT HP HA ?_)
  refine z_ifb_eq 11 dX6_clueSort_6 rfl (fun c1 => ?_) (fun c1 => ?_)
  · skip
    refine e_aload_n dX6_clueSort_11 rfl ?_
    refine e_ldcS dX6_clueSort_12 tl_6_221 ?_
    refine e_callV [.ref _] dX6_clueSort_14 tm_6_123 rfl (Nat.le_of_ble_eq_true rfl) (congrArg Prod.fst (rd_s0 hk)) (Nat.le_of_ble_eq_true rfl) (Nat.le_refl _) (Nat.le_refl _) rfl (zp_X6_isWord_apart hk HT HP HA ?_)
    refine z_ifb_eq 22 dX6_clueSort_17 rfl (fun c2 => ?_) (fun c2 => ?_)
    · exfalso; omega
    · skip
      refine z_iconst (1) dX6_clueSort_20 rfl ?_
      refine z_iret dX6_clueSort_21 rfl ⟨rfl, ?_⟩
      refine z_q kq ?_
      rfl
  · exfalso; omega
set_option maxHeartbeats 400000 in
theorem zp_X6_clueSort_rough {ad : mA} {dd : Nat} {h : mH} {Q : mQ} {y : Nat} {T : Int → Int} {L p : Int} (hk : rdk h y) (HT : rdT h y T L) (HP : rdP h y T L p) (HA : adK ad)  (pu : tkW T L p = 491496236904) (kq : Q (some (.int (zI 2))) h) : mCal TB0 ad (dd + 7) M_X6_clueSort [.ref y] h 0 0 Q := by
  refine ⟨Nat.le_of_ble_eq_true rfl, ?_⟩
  show mEv TB0 ad M_X6_clueSort (dd + 7) (0, 0) (mCal TB0 ad (dd + 6)) (fun v h' z => z.1 = 0 ∧ Q v h') 0 [some (.ref y)] [] h (0, 0)
  refine e_aload_n dX6_clueSort_0 rfl ?_
  refine e_ldcS dX6_clueSort_1 tl_6_219 ?_
  refine e_callV [.ref _] dX6_clueSort_3 tm_6_123 rfl (Nat.le_of_ble_eq_true rfl) (congrArg Prod.fst (rd_s0 hk)) (Nat.le_of_ble_eq_true rfl) (Nat.le_refl _) (Nat.le_refl _) rfl (zp_X6_isWord_long hk HT HP HA ?_)
  refine z_ifb_eq 11 dX6_clueSort_6 rfl (fun c1 => ?_) (fun c1 => ?_)
  · skip
    refine e_aload_n dX6_clueSort_11 rfl ?_
    refine e_ldcS dX6_clueSort_12 tl_6_221 ?_
    refine e_callV [.ref _] dX6_clueSort_14 tm_6_123 rfl (Nat.le_of_ble_eq_true rfl) (congrArg Prod.fst (rd_s0 hk)) (Nat.le_of_ble_eq_true rfl) (Nat.le_refl _) (Nat.le_refl _) rfl (zp_X6_isWord_apart hk HT HP HA ?_)
    refine z_ifb_eq 22 dX6_clueSort_17 rfl (fun c2 => ?_) (fun c2 => ?_)
    · skip
      refine e_aload_n dX6_clueSort_22 rfl ?_
      refine e_ldcS dX6_clueSort_23 tl_6_223 ?_
      refine e_callV [.ref _] dX6_clueSort_25 tm_6_123 rfl (Nat.le_of_ble_eq_true rfl) (congrArg Prod.fst (rd_s0 hk)) (Nat.le_of_ble_eq_true rfl) (Nat.le_refl _) (Nat.le_refl _) rfl (zp_X6_isWord_rough hk HT HP HA ?_)
      refine z_ifb_eq 33 dX6_clueSort_28 rfl (fun c3 => ?_) (fun c3 => ?_)
      · exfalso; omega
      · skip
        refine z_iconst (2) dX6_clueSort_31 rfl ?_
        refine z_iret dX6_clueSort_32 rfl ⟨rfl, ?_⟩
        refine z_q kq ?_
        rfl
    · exfalso; omega
  · exfalso; omega
set_option maxHeartbeats 400000 in
theorem zp_X6_clueSort_left {ad : mA} {dd : Nat} {h : mH} {Q : mQ} {y : Nat} {T : Int → Int} {L p : Int} (hk : rdk h y) (HT : rdT h y T L) (HP : rdP h y T L p) (HA : adK ad)  (pu : tkW T L p = 1818584692) (kq : Q (some (.int (zI 3))) h) : mCal TB0 ad (dd + 7) M_X6_clueSort [.ref y] h 0 0 Q := by
  refine ⟨Nat.le_of_ble_eq_true rfl, ?_⟩
  show mEv TB0 ad M_X6_clueSort (dd + 7) (0, 0) (mCal TB0 ad (dd + 6)) (fun v h' z => z.1 = 0 ∧ Q v h') 0 [some (.ref y)] [] h (0, 0)
  refine e_aload_n dX6_clueSort_0 rfl ?_
  refine e_ldcS dX6_clueSort_1 tl_6_219 ?_
  refine e_callV [.ref _] dX6_clueSort_3 tm_6_123 rfl (Nat.le_of_ble_eq_true rfl) (congrArg Prod.fst (rd_s0 hk)) (Nat.le_of_ble_eq_true rfl) (Nat.le_refl _) (Nat.le_refl _) rfl (zp_X6_isWord_long hk HT HP HA ?_)
  refine z_ifb_eq 11 dX6_clueSort_6 rfl (fun c1 => ?_) (fun c1 => ?_)
  · skip
    refine e_aload_n dX6_clueSort_11 rfl ?_
    refine e_ldcS dX6_clueSort_12 tl_6_221 ?_
    refine e_callV [.ref _] dX6_clueSort_14 tm_6_123 rfl (Nat.le_of_ble_eq_true rfl) (congrArg Prod.fst (rd_s0 hk)) (Nat.le_of_ble_eq_true rfl) (Nat.le_refl _) (Nat.le_refl _) rfl (zp_X6_isWord_apart hk HT HP HA ?_)
    refine z_ifb_eq 22 dX6_clueSort_17 rfl (fun c2 => ?_) (fun c2 => ?_)
    · skip
      refine e_aload_n dX6_clueSort_22 rfl ?_
      refine e_ldcS dX6_clueSort_23 tl_6_223 ?_
      refine e_callV [.ref _] dX6_clueSort_25 tm_6_123 rfl (Nat.le_of_ble_eq_true rfl) (congrArg Prod.fst (rd_s0 hk)) (Nat.le_of_ble_eq_true rfl) (Nat.le_refl _) (Nat.le_refl _) rfl (zp_X6_isWord_rough hk HT HP HA ?_)
      refine z_ifb_eq 33 dX6_clueSort_28 rfl (fun c3 => ?_) (fun c3 => ?_)
      · skip
        refine e_aload_n dX6_clueSort_33 rfl ?_
        refine e_ldcS dX6_clueSort_34 tl_6_225 ?_
        refine e_callV [.ref _] dX6_clueSort_36 tm_6_123 rfl (Nat.le_of_ble_eq_true rfl) (congrArg Prod.fst (rd_s0 hk)) (Nat.le_of_ble_eq_true rfl) (Nat.le_refl _) (Nat.le_refl _) rfl (zp_X6_isWord_left hk HT HP HA ?_)
        refine z_ifb_eq 46 dX6_clueSort_39 rfl (fun c4 => ?_) (fun c4 => ?_)
        · exfalso; omega
        · skip
          refine z_iconst (3) dX6_clueSort_42 rfl ?_
          refine e_goto 47 dX6_clueSort_43 rfl ?_
          refine z_iret dX6_clueSort_47 rfl ⟨rfl, ?_⟩
          refine z_q kq ?_
          rfl
      · exfalso; omega
    · exfalso; omega
  · exfalso; omega
set_option maxHeartbeats 400000 in
theorem zp_X6_clueSort_bad {ad : mA} {dd : Nat} {h : mH} {Q : mQ} {y : Nat} {T : Int → Int} {L p : Int} (hk : rdk h y) (HT : rdT h y T L) (HP : rdP h y T L p) (HA : adK ad)  (pu : tkW T L p ≠ 1819242087 ∧ tkW T L p ≠ 418497262196 ∧ tkW T L p ≠ 491496236904 ∧ tkW T L p ≠ 1818584692) (kq : Q (some (.int (zI (-1)))) h) : mCal TB0 ad (dd + 7) M_X6_clueSort [.ref y] h 0 0 Q := by
  refine ⟨Nat.le_of_ble_eq_true rfl, ?_⟩
  show mEv TB0 ad M_X6_clueSort (dd + 7) (0, 0) (mCal TB0 ad (dd + 6)) (fun v h' z => z.1 = 0 ∧ Q v h') 0 [some (.ref y)] [] h (0, 0)
  refine e_aload_n dX6_clueSort_0 rfl ?_
  refine e_ldcS dX6_clueSort_1 tl_6_219 ?_
  refine e_callV [.ref _] dX6_clueSort_3 tm_6_123 rfl (Nat.le_of_ble_eq_true rfl) (congrArg Prod.fst (rd_s0 hk)) (Nat.le_of_ble_eq_true rfl) (Nat.le_refl _) (Nat.le_refl _) rfl (zp_X6_isWord_long hk HT HP HA ?_)
  refine z_ifb_eq 11 dX6_clueSort_6 rfl (fun c1 => ?_) (fun c1 => ?_)
  · skip
    refine e_aload_n dX6_clueSort_11 rfl ?_
    refine e_ldcS dX6_clueSort_12 tl_6_221 ?_
    refine e_callV [.ref _] dX6_clueSort_14 tm_6_123 rfl (Nat.le_of_ble_eq_true rfl) (congrArg Prod.fst (rd_s0 hk)) (Nat.le_of_ble_eq_true rfl) (Nat.le_refl _) (Nat.le_refl _) rfl (zp_X6_isWord_apart hk HT HP HA ?_)
    refine z_ifb_eq 22 dX6_clueSort_17 rfl (fun c2 => ?_) (fun c2 => ?_)
    · skip
      refine e_aload_n dX6_clueSort_22 rfl ?_
      refine e_ldcS dX6_clueSort_23 tl_6_223 ?_
      refine e_callV [.ref _] dX6_clueSort_25 tm_6_123 rfl (Nat.le_of_ble_eq_true rfl) (congrArg Prod.fst (rd_s0 hk)) (Nat.le_of_ble_eq_true rfl) (Nat.le_refl _) (Nat.le_refl _) rfl (zp_X6_isWord_rough hk HT HP HA ?_)
      refine z_ifb_eq 33 dX6_clueSort_28 rfl (fun c3 => ?_) (fun c3 => ?_)
      · skip
        refine e_aload_n dX6_clueSort_33 rfl ?_
        refine e_ldcS dX6_clueSort_34 tl_6_225 ?_
        refine e_callV [.ref _] dX6_clueSort_36 tm_6_123 rfl (Nat.le_of_ble_eq_true rfl) (congrArg Prod.fst (rd_s0 hk)) (Nat.le_of_ble_eq_true rfl) (Nat.le_refl _) (Nat.le_refl _) rfl (zp_X6_isWord_left hk HT HP HA ?_)
        refine z_ifb_eq 46 dX6_clueSort_39 rfl (fun c4 => ?_) (fun c4 => ?_)
        · skip
          refine z_iconst (-1) dX6_clueSort_46 rfl ?_
          refine z_iret dX6_clueSort_47 rfl ⟨rfl, ?_⟩
          refine z_q kq ?_
          rfl
        · exfalso; omega
      · exfalso; omega
    · exfalso; omega
  · exfalso; omega
def td2 (h : mH) (y : Nat) (T : Int → Int) (L p f q v : Int) : Prop := (v = 1 ∧ tkK T L p = 1 ∧ tkK T L (tkE T L p) = 1 ∧ rdP h y T L (tkE T L (tkE T L p)) ∧ rdF h y (ntF (¬ (0 ≤ tkV T L (tkE T L p) ∧ tkV T L (tkE T L p) ≤ 5)) 2 (ntF (¬ (0 ≤ tkV T L p ∧ tkV T L p ≤ 5)) 2 f)) (ntQ (¬ (0 ≤ tkV T L (tkE T L p) ∧ tkV T L (tkE T L p) ≤ 5)) (tkS T L (tkE T L p)) (ntF (¬ (0 ≤ tkV T L p ∧ tkV T L p ≤ 5)) 2 f) (ntQ (¬ (0 ≤ tkV T L p ∧ tkV T L p ≤ 5)) (tkS T L p) f q)) ∧ rI h (y + 26) 0 = tkV T L p ∧ rI h (y + 26) 1 = tkV T L (tkE T L p)) ∨ (v = 0 ∧ tkK T L p ≠ 1 ∧ rdF h y 1 (tkS T L p)) ∨ (v = 0 ∧ tkK T L p = 1 ∧ tkK T L (tkE T L p) ≠ 1 ∧ rdF h y 1 (tkS T L (tkE T L p)))
def td4 (h : mH) (y : Nat) (T : Int → Int) (L p f q v : Int) : Prop := (v = 1 ∧ (tkW T L p = 1685026670 ∨ tkW T L p = 30064) ∧ tkK T L (tkE T L p) = 1 ∧ rdP h y T L (tkE T L (tkE T L p)) ∧ rdF h y (ntF (¬ (0 ≤ tkV T L (tkE T L p) ∧ tkV T L (tkE T L p) ≤ 5)) 2 f) (ntQ (¬ (0 ≤ tkV T L (tkE T L p) ∧ tkV T L (tkE T L p) ≤ 5)) (tkS T L (tkE T L p)) f q) ∧ rI h (y + 26) 0 = (if tkW T L p = 30064 then 1 else 0) ∧ rI h (y + 26) 1 = tkV T L (tkE T L p)) ∨ (v = 0 ∧ ¬ (tkW T L p = 1685026670 ∨ tkW T L p = 30064) ∧ rdF h y 1 (tkS T L p)) ∨ (v = 0 ∧ (tkW T L p = 1685026670 ∨ tkW T L p = 30064) ∧ tkK T L (tkE T L p) ≠ 1 ∧ rdF h y 1 (tkS T L (tkE T L p)))
theorem sd_1 {h : mH} {y : Nat} {T : Int → Int} {L p f q v : Int} (H : sdP h y T L p f q v) (z : v ≠ 0) : (tkW T L p = 1685026670 ∨ tkW T L p = 30064) ∧ rdP h y T L (tkE T L p) ∧ rdF h y f q ∧ rI h (y + 26) 0 = if tkW T L p = 30064 then 1 else 0 := by
  rcases H with w | w
  · exact w.2
  · exact absurd w.1 z
theorem sd_0 {h : mH} {y : Nat} {T : Int → Int} {L p f q v : Int} (H : sdP h y T L p f q v) (z : v = 0) : ¬ (tkW T L p = 1685026670 ∨ tkW T L p = 30064) ∧ rdF h y 1 (tkS T L p) := by
  rcases H with w | w
  · exact absurd w.1 (by omega)
  · exact w.2
set_option maxHeartbeats 1000000 in
theorem zp_X6_takeDeedNumbers_0 {ad : mA} {dd : Nat} {h : mH} {Q : mQ} {y : Nat} {T : Int → Int} {L p f q : Int} (hk : rdk h y) (HT : rdT h y T L) (HP : rdP h y T L p) (HF : rdF h y f q)    (kq : ∀ v : Int, (v = 0 ∨ v = 1) → ∀ h1, frm (fun a k => (a = y ∧ (k = 3 ∨ k = 4 ∨ (8 ≤ k ∧ k ≤ 11))) ∨ (a = y + 26 ∧ k ≤ 1)) h h1 → (td2 h1 y T L p f q v) → Q (some (.int (zI v))) h1) : mCal TB0 ad (dd + 8) M_X6_takeDeedNumbers [.ref y, .int (zI 0)] h 0 0 Q := by
  refine ⟨Nat.le_of_ble_eq_true rfl, ?_⟩
  show mEv TB0 ad M_X6_takeDeedNumbers (dd + 8) (0, 0) (mCal TB0 ad (dd + 7)) (fun v h' z => z.1 = 0 ∧ Q v h') 0 [some (.ref y), some (.int (zI 0))] [] h (0, 0)
  have FR0 : frm (fun a k => (a = y ∧ (k = 3 ∨ k = 4 ∨ (8 ≤ k ∧ k ≤ 11))) ∨ (a = y + 26 ∧ k ≤ 1)) h h := frm_0 h
  have w1 := HT.1
  have tb := tk_b (T := T) HP.1.1 HP.1.2
  have p0 := HP.1
  refine e_iload_n dX6_takeDeedNumbers_0 rfl ?_
  refine z_tableV (0) 44 dX6_takeDeedNumbers_1 rfl (by decide) (by decide +kernel) ?_
  skip
  refine e_aload_n dX6_takeDeedNumbers_44 rfl ?_
  refine z_iconst (0) dX6_takeDeedNumbers_45 rfl ?_
  refine z_iconst (0) dX6_takeDeedNumbers_46 rfl ?_
  refine z_iconst (5) dX6_takeDeedNumbers_47 rfl ?_
  refine e_callV [.int _, .int _, .int _] dX6_takeDeedNumbers_48 tm_6_156 rfl (Nat.le_of_ble_eq_true rfl) (congrArg Prod.fst (rd_s0 hk)) (Nat.le_of_ble_eq_true rfl) (Nat.le_refl _) (Nat.le_refl _) rfl (zp_X6_takeNumber hk HT HP HF 0 ⟨by omega, by omega⟩ 0 ⟨by omega, by omega⟩ 5 ⟨by omega, by omega⟩ (by omega) (fun v1 p2 h3 f4 p5 => ?_))
  have k6 := lk_q (frm_s f4) hk
  have H7 := rdT_c f4 (fun a k q => by omega) HT
  have FR8 := frm_t FR0 (frm_m (S' := (fun a k => (a = y ∧ (k = 3 ∨ k = 4 ∨ (8 ≤ k ∧ k ≤ 11))) ∨ (a = y + 26 ∧ k ≤ 1))) f4 (fun a k q => by omega))
  skip
  refine z_if_eq 68 dX6_takeDeedNumbers_51 rfl ⟨by omega, by omega⟩ (fun c9 => ?_) (fun c9 => ?_)
  · skip
    obtain ⟨k0, f0⟩ := tn_0 p5 (by omega)
    refine z_iconst (0) dX6_takeDeedNumbers_68 rfl ?_
    refine z_bret dX6_takeDeedNumbers_69 rfl (Or.inl rfl) ⟨rfl, ?_⟩
    exact kq 0 (Or.inl rfl) _ FR8 (Or.inr (Or.inl ⟨rfl, k0, f0⟩))
  · skip
    obtain ⟨K10, K10p, K10f, K10n⟩ := tn_1 p5 (by omega)
    refine e_aload_n dX6_takeDeedNumbers_54 rfl ?_
    refine z_iconst (1) dX6_takeDeedNumbers_55 rfl ?_
    refine z_iconst (0) dX6_takeDeedNumbers_56 rfl ?_
    refine z_iconst (5) dX6_takeDeedNumbers_57 rfl ?_
    refine e_callV [.int _, .int _, .int _] dX6_takeDeedNumbers_58 tm_6_156 rfl (Nat.le_of_ble_eq_true rfl) (congrArg Prod.fst (rd_s0 k6)) (Nat.le_of_ble_eq_true rfl) (Nat.le_refl _) (Nat.le_refl _) rfl (zp_X6_takeNumber k6 H7 K10p K10f 1 ⟨by omega, by omega⟩ 0 ⟨by omega, by omega⟩ 5 ⟨by omega, by omega⟩ (by omega) (fun v11 p12 h13 f14 p15 => ?_))
    have k16 := lk_q (frm_s f14) k6
    have H17 := rdT_c f14 (fun a k q => by omega) H7
    have FR18 := frm_t FR8 (frm_m (S' := (fun a k => (a = y ∧ (k = 3 ∨ k = 4 ∨ (8 ≤ k ∧ k ≤ 11))) ∨ (a = y + 26 ∧ k ≤ 1))) f14 (fun a k q => by omega))
    skip
    refine z_if_eq 68 dX6_takeDeedNumbers_61 rfl ⟨by omega, by omega⟩ (fun c19 => ?_) (fun c19 => ?_)
    · skip
      obtain ⟨k0, f0⟩ := tn_0 p15 (by omega)
      refine z_iconst (0) dX6_takeDeedNumbers_68 rfl ?_
      refine z_bret dX6_takeDeedNumbers_69 rfl (Or.inl rfl) ⟨rfl, ?_⟩
      exact kq 0 (Or.inl rfl) _ FR18 (Or.inr (Or.inr ⟨rfl, K10, k0, f0⟩))
    · skip
      obtain ⟨K20, K20p, K20f, K20n⟩ := tn_1 p15 (by omega)
      refine z_iconst (1) dX6_takeDeedNumbers_64 rfl ?_
      refine e_goto 69 dX6_takeDeedNumbers_65 rfl ?_
      refine z_bret dX6_takeDeedNumbers_69 rfl (Or.inr rfl) ⟨rfl, ?_⟩
      exact kq 1 (Or.inr rfl) _ FR18 (Or.inl ⟨rfl, K10, K20, K20p, K20f, ((frm_r f14 (by omega))).trans K10n, K20n⟩)
set_option maxHeartbeats 1000000 in
theorem zp_X6_takeDeedNumbers_3 {ad : mA} {dd : Nat} {h : mH} {Q : mQ} {y : Nat} {T : Int → Int} {L p f q : Int} (hk : rdk h y) (HT : rdT h y T L) (HP : rdP h y T L p) (HF : rdF h y f q)    (kq : ∀ v : Int, (v = 0 ∨ v = 1) → ∀ h1, frm (fun a k => (a = y ∧ (k = 3 ∨ k = 4 ∨ (8 ≤ k ∧ k ≤ 11))) ∨ (a = y + 26 ∧ k ≤ 1)) h h1 → (td2 h1 y T L p f q v) → Q (some (.int (zI v))) h1) : mCal TB0 ad (dd + 8) M_X6_takeDeedNumbers [.ref y, .int (zI 3)] h 0 0 Q := by
  refine ⟨Nat.le_of_ble_eq_true rfl, ?_⟩
  show mEv TB0 ad M_X6_takeDeedNumbers (dd + 8) (0, 0) (mCal TB0 ad (dd + 7)) (fun v h' z => z.1 = 0 ∧ Q v h') 0 [some (.ref y), some (.int (zI 3))] [] h (0, 0)
  have FR0 : frm (fun a k => (a = y ∧ (k = 3 ∨ k = 4 ∨ (8 ≤ k ∧ k ≤ 11))) ∨ (a = y + 26 ∧ k ≤ 1)) h h := frm_0 h
  have w1 := HT.1
  have tb := tk_b (T := T) HP.1.1 HP.1.2
  have p0 := HP.1
  refine e_iload_n dX6_takeDeedNumbers_0 rfl ?_
  refine z_tableV (3) 44 dX6_takeDeedNumbers_1 rfl (by decide) (by decide +kernel) ?_
  skip
  refine e_aload_n dX6_takeDeedNumbers_44 rfl ?_
  refine z_iconst (0) dX6_takeDeedNumbers_45 rfl ?_
  refine z_iconst (0) dX6_takeDeedNumbers_46 rfl ?_
  refine z_iconst (5) dX6_takeDeedNumbers_47 rfl ?_
  refine e_callV [.int _, .int _, .int _] dX6_takeDeedNumbers_48 tm_6_156 rfl (Nat.le_of_ble_eq_true rfl) (congrArg Prod.fst (rd_s0 hk)) (Nat.le_of_ble_eq_true rfl) (Nat.le_refl _) (Nat.le_refl _) rfl (zp_X6_takeNumber hk HT HP HF 0 ⟨by omega, by omega⟩ 0 ⟨by omega, by omega⟩ 5 ⟨by omega, by omega⟩ (by omega) (fun v1 p2 h3 f4 p5 => ?_))
  have k6 := lk_q (frm_s f4) hk
  have H7 := rdT_c f4 (fun a k q => by omega) HT
  have FR8 := frm_t FR0 (frm_m (S' := (fun a k => (a = y ∧ (k = 3 ∨ k = 4 ∨ (8 ≤ k ∧ k ≤ 11))) ∨ (a = y + 26 ∧ k ≤ 1))) f4 (fun a k q => by omega))
  skip
  refine z_if_eq 68 dX6_takeDeedNumbers_51 rfl ⟨by omega, by omega⟩ (fun c9 => ?_) (fun c9 => ?_)
  · skip
    obtain ⟨k0, f0⟩ := tn_0 p5 (by omega)
    refine z_iconst (0) dX6_takeDeedNumbers_68 rfl ?_
    refine z_bret dX6_takeDeedNumbers_69 rfl (Or.inl rfl) ⟨rfl, ?_⟩
    exact kq 0 (Or.inl rfl) _ FR8 (Or.inr (Or.inl ⟨rfl, k0, f0⟩))
  · skip
    obtain ⟨K10, K10p, K10f, K10n⟩ := tn_1 p5 (by omega)
    refine e_aload_n dX6_takeDeedNumbers_54 rfl ?_
    refine z_iconst (1) dX6_takeDeedNumbers_55 rfl ?_
    refine z_iconst (0) dX6_takeDeedNumbers_56 rfl ?_
    refine z_iconst (5) dX6_takeDeedNumbers_57 rfl ?_
    refine e_callV [.int _, .int _, .int _] dX6_takeDeedNumbers_58 tm_6_156 rfl (Nat.le_of_ble_eq_true rfl) (congrArg Prod.fst (rd_s0 k6)) (Nat.le_of_ble_eq_true rfl) (Nat.le_refl _) (Nat.le_refl _) rfl (zp_X6_takeNumber k6 H7 K10p K10f 1 ⟨by omega, by omega⟩ 0 ⟨by omega, by omega⟩ 5 ⟨by omega, by omega⟩ (by omega) (fun v11 p12 h13 f14 p15 => ?_))
    have k16 := lk_q (frm_s f14) k6
    have H17 := rdT_c f14 (fun a k q => by omega) H7
    have FR18 := frm_t FR8 (frm_m (S' := (fun a k => (a = y ∧ (k = 3 ∨ k = 4 ∨ (8 ≤ k ∧ k ≤ 11))) ∨ (a = y + 26 ∧ k ≤ 1))) f14 (fun a k q => by omega))
    skip
    refine z_if_eq 68 dX6_takeDeedNumbers_61 rfl ⟨by omega, by omega⟩ (fun c19 => ?_) (fun c19 => ?_)
    · skip
      obtain ⟨k0, f0⟩ := tn_0 p15 (by omega)
      refine z_iconst (0) dX6_takeDeedNumbers_68 rfl ?_
      refine z_bret dX6_takeDeedNumbers_69 rfl (Or.inl rfl) ⟨rfl, ?_⟩
      exact kq 0 (Or.inl rfl) _ FR18 (Or.inr (Or.inr ⟨rfl, K10, k0, f0⟩))
    · skip
      obtain ⟨K20, K20p, K20f, K20n⟩ := tn_1 p15 (by omega)
      refine z_iconst (1) dX6_takeDeedNumbers_64 rfl ?_
      refine e_goto 69 dX6_takeDeedNumbers_65 rfl ?_
      refine z_bret dX6_takeDeedNumbers_69 rfl (Or.inr rfl) ⟨rfl, ?_⟩
      exact kq 1 (Or.inr rfl) _ FR18 (Or.inl ⟨rfl, K10, K20, K20p, K20f, ((frm_r f14 (by omega))).trans K10n, K20n⟩)
set_option maxHeartbeats 400000 in
theorem zp_X6_takeDeedNumbers_1 {ad : mA} {dd : Nat} {h : mH} {Q : mQ} {y : Nat} {T : Int → Int} {L p f q : Int} (hk : rdk h y) (HT : rdT h y T L) (HP : rdP h y T L p) (HF : rdF h y f q)    (kq : ∀ v : Int, (v = 0 ∨ v = 1) → ∀ h1, frm (fun a k => (a = y ∧ (k = 3 ∨ k = 4 ∨ (8 ≤ k ∧ k ≤ 11))) ∨ (a = y + 26 ∧ k = 0)) h h1 → (tnP h1 y T L p f q 0 5 0 v) → Q (some (.int (zI v))) h1) : mCal TB0 ad (dd + 8) M_X6_takeDeedNumbers [.ref y, .int (zI 1)] h 0 0 Q := by
  refine ⟨Nat.le_of_ble_eq_true rfl, ?_⟩
  show mEv TB0 ad M_X6_takeDeedNumbers (dd + 8) (0, 0) (mCal TB0 ad (dd + 7)) (fun v h' z => z.1 = 0 ∧ Q v h') 0 [some (.ref y), some (.int (zI 1))] [] h (0, 0)
  have FR0 : frm (fun a k => (a = y ∧ (k = 3 ∨ k = 4 ∨ (8 ≤ k ∧ k ≤ 11))) ∨ (a = y + 26 ∧ k = 0)) h h := frm_0 h
  have w1 := HT.1
  have tb := tk_b (T := T) HP.1.1 HP.1.2
  have p0 := HP.1
  refine e_iload_n dX6_takeDeedNumbers_0 rfl ?_
  refine z_tableV (1) 95 dX6_takeDeedNumbers_1 rfl (by decide) (by decide +kernel) ?_
  refine e_aload_n dX6_takeDeedNumbers_95 rfl ?_
  refine z_iconst (0) dX6_takeDeedNumbers_96 rfl ?_
  refine z_iconst (0) dX6_takeDeedNumbers_97 rfl ?_
  refine z_iconst (5) dX6_takeDeedNumbers_98 rfl ?_
  refine e_callV [.int _, .int _, .int _] dX6_takeDeedNumbers_99 tm_6_156 rfl (Nat.le_of_ble_eq_true rfl) (congrArg Prod.fst (rd_s0 hk)) (Nat.le_of_ble_eq_true rfl) (Nat.le_refl _) (Nat.le_refl _) rfl (zp_X6_takeNumber hk HT HP HF 0 ⟨by omega, by omega⟩ 0 ⟨by omega, by omega⟩ 5 ⟨by omega, by omega⟩ (by omega) (fun v1 p2 h3 f4 p5 => ?_))
  have k6 := lk_q (frm_s f4) hk
  have H7 := rdT_c f4 (fun a k q => by omega) HT
  have FR8 := frm_t FR0 (frm_m (S' := (fun a k => (a = y ∧ (k = 3 ∨ k = 4 ∨ (8 ≤ k ∧ k ≤ 11))) ∨ (a = y + 26 ∧ k = 0))) f4 (fun a k q => by omega))
  skip
  refine z_bret dX6_takeDeedNumbers_102 rfl (by omega) ⟨rfl, ?_⟩
  exact kq _ (by assumption) _ FR8 p5
set_option maxHeartbeats 400000 in
theorem zp_X6_takeDeedNumbers_2 {ad : mA} {dd : Nat} {h : mH} {Q : mQ} {y : Nat} {T : Int → Int} {L p f q : Int} (hk : rdk h y) (HT : rdT h y T L) (HP : rdP h y T L p) (HF : rdF h y f q)    (kq : ∀ v : Int, (v = 0 ∨ v = 1) → ∀ h1, frm (fun a k => (a = y ∧ (k = 3 ∨ k = 4 ∨ (8 ≤ k ∧ k ≤ 11))) ∨ (a = y + 26 ∧ k = 0)) h h1 → (tnP h1 y T L p f q 0 5 0 v) → Q (some (.int (zI v))) h1) : mCal TB0 ad (dd + 8) M_X6_takeDeedNumbers [.ref y, .int (zI 2)] h 0 0 Q := by
  refine ⟨Nat.le_of_ble_eq_true rfl, ?_⟩
  show mEv TB0 ad M_X6_takeDeedNumbers (dd + 8) (0, 0) (mCal TB0 ad (dd + 7)) (fun v h' z => z.1 = 0 ∧ Q v h') 0 [some (.ref y), some (.int (zI 2))] [] h (0, 0)
  have FR0 : frm (fun a k => (a = y ∧ (k = 3 ∨ k = 4 ∨ (8 ≤ k ∧ k ≤ 11))) ∨ (a = y + 26 ∧ k = 0)) h h := frm_0 h
  have w1 := HT.1
  have tb := tk_b (T := T) HP.1.1 HP.1.2
  have p0 := HP.1
  refine e_iload_n dX6_takeDeedNumbers_0 rfl ?_
  refine z_tableV (2) 95 dX6_takeDeedNumbers_1 rfl (by decide) (by decide +kernel) ?_
  refine e_aload_n dX6_takeDeedNumbers_95 rfl ?_
  refine z_iconst (0) dX6_takeDeedNumbers_96 rfl ?_
  refine z_iconst (0) dX6_takeDeedNumbers_97 rfl ?_
  refine z_iconst (5) dX6_takeDeedNumbers_98 rfl ?_
  refine e_callV [.int _, .int _, .int _] dX6_takeDeedNumbers_99 tm_6_156 rfl (Nat.le_of_ble_eq_true rfl) (congrArg Prod.fst (rd_s0 hk)) (Nat.le_of_ble_eq_true rfl) (Nat.le_refl _) (Nat.le_refl _) rfl (zp_X6_takeNumber hk HT HP HF 0 ⟨by omega, by omega⟩ 0 ⟨by omega, by omega⟩ 5 ⟨by omega, by omega⟩ (by omega) (fun v1 p2 h3 f4 p5 => ?_))
  have k6 := lk_q (frm_s f4) hk
  have H7 := rdT_c f4 (fun a k q => by omega) HT
  have FR8 := frm_t FR0 (frm_m (S' := (fun a k => (a = y ∧ (k = 3 ∨ k = 4 ∨ (8 ≤ k ∧ k ≤ 11))) ∨ (a = y + 26 ∧ k = 0))) f4 (fun a k q => by omega))
  skip
  refine z_bret dX6_takeDeedNumbers_102 rfl (by omega) ⟨rfl, ?_⟩
  exact kq _ (by assumption) _ FR8 p5
set_option maxHeartbeats 400000 in
theorem zp_X6_takeDeedNumbers_5 {ad : mA} {dd : Nat} {h : mH} {Q : mQ} {y : Nat} {T : Int → Int} {L p f q : Int} (hk : rdk h y) (HT : rdT h y T L) (HP : rdP h y T L p) (HF : rdF h y f q)    (kq : ∀ v : Int, (v = 0 ∨ v = 1) → ∀ h1, frm (fun a k => (a = y ∧ (k = 3 ∨ k = 4 ∨ (8 ≤ k ∧ k ≤ 11))) ∨ (a = y + 26 ∧ k = 0)) h h1 → (tnP h1 y T L p f q 0 5 0 v) → Q (some (.int (zI v))) h1) : mCal TB0 ad (dd + 8) M_X6_takeDeedNumbers [.ref y, .int (zI 5)] h 0 0 Q := by
  refine ⟨Nat.le_of_ble_eq_true rfl, ?_⟩
  show mEv TB0 ad M_X6_takeDeedNumbers (dd + 8) (0, 0) (mCal TB0 ad (dd + 7)) (fun v h' z => z.1 = 0 ∧ Q v h') 0 [some (.ref y), some (.int (zI 5))] [] h (0, 0)
  have FR0 : frm (fun a k => (a = y ∧ (k = 3 ∨ k = 4 ∨ (8 ≤ k ∧ k ≤ 11))) ∨ (a = y + 26 ∧ k = 0)) h h := frm_0 h
  have w1 := HT.1
  have tb := tk_b (T := T) HP.1.1 HP.1.2
  have p0 := HP.1
  refine e_iload_n dX6_takeDeedNumbers_0 rfl ?_
  refine z_tableV (5) 95 dX6_takeDeedNumbers_1 rfl (by decide) (by decide +kernel) ?_
  refine e_aload_n dX6_takeDeedNumbers_95 rfl ?_
  refine z_iconst (0) dX6_takeDeedNumbers_96 rfl ?_
  refine z_iconst (0) dX6_takeDeedNumbers_97 rfl ?_
  refine z_iconst (5) dX6_takeDeedNumbers_98 rfl ?_
  refine e_callV [.int _, .int _, .int _] dX6_takeDeedNumbers_99 tm_6_156 rfl (Nat.le_of_ble_eq_true rfl) (congrArg Prod.fst (rd_s0 hk)) (Nat.le_of_ble_eq_true rfl) (Nat.le_refl _) (Nat.le_refl _) rfl (zp_X6_takeNumber hk HT HP HF 0 ⟨by omega, by omega⟩ 0 ⟨by omega, by omega⟩ 5 ⟨by omega, by omega⟩ (by omega) (fun v1 p2 h3 f4 p5 => ?_))
  have k6 := lk_q (frm_s f4) hk
  have H7 := rdT_c f4 (fun a k q => by omega) HT
  have FR8 := frm_t FR0 (frm_m (S' := (fun a k => (a = y ∧ (k = 3 ∨ k = 4 ∨ (8 ≤ k ∧ k ≤ 11))) ∨ (a = y + 26 ∧ k = 0))) f4 (fun a k q => by omega))
  skip
  refine z_bret dX6_takeDeedNumbers_102 rfl (by omega) ⟨rfl, ?_⟩
  exact kq _ (by assumption) _ FR8 p5
set_option maxHeartbeats 400000 in
theorem zp_X6_takeDeedNumbers_6 {ad : mA} {dd : Nat} {h : mH} {Q : mQ} {y : Nat}  (hk : rdk h y)    (kq : Q (some (.int (zI (bZ True)))) h) : mCal TB0 ad (dd + 8) M_X6_takeDeedNumbers [.ref y, .int (zI 6)] h 0 0 Q := by
  refine ⟨Nat.le_of_ble_eq_true rfl, ?_⟩
  show mEv TB0 ad M_X6_takeDeedNumbers (dd + 8) (0, 0) (mCal TB0 ad (dd + 7)) (fun v h' z => z.1 = 0 ∧ Q v h') 0 [some (.ref y), some (.int (zI 6))] [] h (0, 0)
  refine e_iload_n dX6_takeDeedNumbers_0 rfl ?_
  refine z_tableV (6) 93 dX6_takeDeedNumbers_1 rfl (by decide) (by decide +kernel) ?_
  refine z_iconst (1) dX6_takeDeedNumbers_93 rfl ?_
  refine z_bret dX6_takeDeedNumbers_94 rfl (Or.inr rfl) ⟨rfl, ?_⟩
  refine z_q1 kq ?_
  trivial
set_option maxHeartbeats 1000000 in
theorem zp_X6_takeDeedNumbers_4_up {ad : mA} {dd : Nat} {h : mH} {Q : mQ} {y : Nat} {T : Int → Int} {L p f q : Int} (hk : rdk h y) (HT : rdT h y T L) (HP : rdP h y T L p) (HF : rdF h y f q) (HA : adK ad)  (pu : tkW T L p = 30064) (kq : ∀ v : Int, (v = 0 ∨ v = 1) → ∀ h1, frm (fun a k => (a = y ∧ (k = 3 ∨ k = 4 ∨ (8 ≤ k ∧ k ≤ 11))) ∨ (a = y + 26 ∧ k ≤ 1)) h h1 → (td4 h1 y T L p f q v) → Q (some (.int (zI v))) h1) : mCal TB0 ad (dd + 8) M_X6_takeDeedNumbers [.ref y, .int (zI 4)] h 0 0 Q := by
  refine ⟨Nat.le_of_ble_eq_true rfl, ?_⟩
  show mEv TB0 ad M_X6_takeDeedNumbers (dd + 8) (0, 0) (mCal TB0 ad (dd + 7)) (fun v h' z => z.1 = 0 ∧ Q v h') 0 [some (.ref y), some (.int (zI 4))] [] h (0, 0)
  have FR0 : frm (fun a k => (a = y ∧ (k = 3 ∨ k = 4 ∨ (8 ≤ k ∧ k ≤ 11))) ∨ (a = y + 26 ∧ k ≤ 1)) h h := frm_0 h
  have w1 := HT.1
  have tb := tk_b (T := T) HP.1.1 HP.1.2
  have p0 := HP.1
  refine e_iload_n dX6_takeDeedNumbers_0 rfl ?_
  refine z_tableV (4) 70 dX6_takeDeedNumbers_1 rfl (by decide) (by decide +kernel) ?_
  refine e_aload_n dX6_takeDeedNumbers_70 rfl ?_
  refine e_callV [] dX6_takeDeedNumbers_71 tm_6_205 rfl (Nat.le_of_ble_eq_true rfl) (congrArg Prod.fst (rd_s0 hk)) (Nat.le_of_ble_eq_true rfl) (Nat.le_refl _) (Nat.le_refl _) rfl (zp_X6_takeSide_up hk HT HP HF HA (by omega) (fun v1 p2 h3 f4 p5 => ?_))
  have k6 := lk_q (frm_s f4) hk
  have H7 := rdT_c f4 (fun a k q => by omega) HT
  have FR8 := frm_t FR0 (frm_m (S' := (fun a k => (a = y ∧ (k = 3 ∨ k = 4 ∨ (8 ≤ k ∧ k ≤ 11))) ∨ (a = y + 26 ∧ k ≤ 1))) f4 (fun a k q => by omega))
  skip
  refine z_if_eq 91 dX6_takeDeedNumbers_74 rfl ⟨by omega, by omega⟩ (fun c9 => ?_) (fun c9 => ?_)
  · skip
    obtain ⟨k0, f0⟩ := sd_0 p5 (by omega)
    refine z_iconst (0) dX6_takeDeedNumbers_91 rfl ?_
    refine z_bret dX6_takeDeedNumbers_92 rfl (Or.inl rfl) ⟨rfl, ?_⟩
    exact kq 0 (Or.inl rfl) _ FR8 (Or.inr (Or.inl ⟨rfl, k0, f0⟩))
  · skip
    obtain ⟨Sw, Sp, Sf, Sn⟩ := sd_1 p5 (by omega)
    refine e_aload_n dX6_takeDeedNumbers_77 rfl ?_
    refine z_iconst (1) dX6_takeDeedNumbers_78 rfl ?_
    refine z_iconst (0) dX6_takeDeedNumbers_79 rfl ?_
    refine z_iconst (5) dX6_takeDeedNumbers_80 rfl ?_
    refine e_callV [.int _, .int _, .int _] dX6_takeDeedNumbers_81 tm_6_156 rfl (Nat.le_of_ble_eq_true rfl) (congrArg Prod.fst (rd_s0 k6)) (Nat.le_of_ble_eq_true rfl) (Nat.le_refl _) (Nat.le_refl _) rfl (zp_X6_takeNumber k6 H7 Sp Sf 1 ⟨by omega, by omega⟩ 0 ⟨by omega, by omega⟩ 5 ⟨by omega, by omega⟩ (by omega) (fun v10 p11 h12 f13 p14 => ?_))
    have k15 := lk_q (frm_s f13) k6
    have H16 := rdT_c f13 (fun a k q => by omega) H7
    have FR17 := frm_t FR8 (frm_m (S' := (fun a k => (a = y ∧ (k = 3 ∨ k = 4 ∨ (8 ≤ k ∧ k ≤ 11))) ∨ (a = y + 26 ∧ k ≤ 1))) f13 (fun a k q => by omega))
    skip
    refine z_if_eq 91 dX6_takeDeedNumbers_84 rfl ⟨by omega, by omega⟩ (fun c18 => ?_) (fun c18 => ?_)
    · skip
      obtain ⟨k0, f0⟩ := tn_0 p14 (by omega)
      refine z_iconst (0) dX6_takeDeedNumbers_91 rfl ?_
      refine z_bret dX6_takeDeedNumbers_92 rfl (Or.inl rfl) ⟨rfl, ?_⟩
      exact kq 0 (Or.inl rfl) _ FR17 (Or.inr (Or.inr ⟨rfl, Sw, k0, f0⟩))
    · skip
      obtain ⟨K19, K19p, K19f, K19n⟩ := tn_1 p14 (by omega)
      refine z_iconst (1) dX6_takeDeedNumbers_87 rfl ?_
      refine e_goto 92 dX6_takeDeedNumbers_88 rfl ?_
      refine z_bret dX6_takeDeedNumbers_92 rfl (Or.inr rfl) ⟨rfl, ?_⟩
      exact kq 1 (Or.inr rfl) _ FR17 (Or.inl ⟨rfl, Sw, K19, K19p, K19f, ((frm_r f13 (by omega))).trans Sn, K19n⟩)
set_option maxHeartbeats 1000000 in
theorem zp_X6_takeDeedNumbers_4_down {ad : mA} {dd : Nat} {h : mH} {Q : mQ} {y : Nat} {T : Int → Int} {L p f q : Int} (hk : rdk h y) (HT : rdT h y T L) (HP : rdP h y T L p) (HF : rdF h y f q) (HA : adK ad)  (pu : tkW T L p = 1685026670) (kq : ∀ v : Int, (v = 0 ∨ v = 1) → ∀ h1, frm (fun a k => (a = y ∧ (k = 3 ∨ k = 4 ∨ (8 ≤ k ∧ k ≤ 11))) ∨ (a = y + 26 ∧ k ≤ 1)) h h1 → (td4 h1 y T L p f q v) → Q (some (.int (zI v))) h1) : mCal TB0 ad (dd + 8) M_X6_takeDeedNumbers [.ref y, .int (zI 4)] h 0 0 Q := by
  refine ⟨Nat.le_of_ble_eq_true rfl, ?_⟩
  show mEv TB0 ad M_X6_takeDeedNumbers (dd + 8) (0, 0) (mCal TB0 ad (dd + 7)) (fun v h' z => z.1 = 0 ∧ Q v h') 0 [some (.ref y), some (.int (zI 4))] [] h (0, 0)
  have FR0 : frm (fun a k => (a = y ∧ (k = 3 ∨ k = 4 ∨ (8 ≤ k ∧ k ≤ 11))) ∨ (a = y + 26 ∧ k ≤ 1)) h h := frm_0 h
  have w1 := HT.1
  have tb := tk_b (T := T) HP.1.1 HP.1.2
  have p0 := HP.1
  refine e_iload_n dX6_takeDeedNumbers_0 rfl ?_
  refine z_tableV (4) 70 dX6_takeDeedNumbers_1 rfl (by decide) (by decide +kernel) ?_
  refine e_aload_n dX6_takeDeedNumbers_70 rfl ?_
  refine e_callV [] dX6_takeDeedNumbers_71 tm_6_205 rfl (Nat.le_of_ble_eq_true rfl) (congrArg Prod.fst (rd_s0 hk)) (Nat.le_of_ble_eq_true rfl) (Nat.le_refl _) (Nat.le_refl _) rfl (zp_X6_takeSide_down hk HT HP HF HA (by omega) (fun v1 p2 h3 f4 p5 => ?_))
  have k6 := lk_q (frm_s f4) hk
  have H7 := rdT_c f4 (fun a k q => by omega) HT
  have FR8 := frm_t FR0 (frm_m (S' := (fun a k => (a = y ∧ (k = 3 ∨ k = 4 ∨ (8 ≤ k ∧ k ≤ 11))) ∨ (a = y + 26 ∧ k ≤ 1))) f4 (fun a k q => by omega))
  skip
  refine z_if_eq 91 dX6_takeDeedNumbers_74 rfl ⟨by omega, by omega⟩ (fun c9 => ?_) (fun c9 => ?_)
  · skip
    obtain ⟨k0, f0⟩ := sd_0 p5 (by omega)
    refine z_iconst (0) dX6_takeDeedNumbers_91 rfl ?_
    refine z_bret dX6_takeDeedNumbers_92 rfl (Or.inl rfl) ⟨rfl, ?_⟩
    exact kq 0 (Or.inl rfl) _ FR8 (Or.inr (Or.inl ⟨rfl, k0, f0⟩))
  · skip
    obtain ⟨Sw, Sp, Sf, Sn⟩ := sd_1 p5 (by omega)
    refine e_aload_n dX6_takeDeedNumbers_77 rfl ?_
    refine z_iconst (1) dX6_takeDeedNumbers_78 rfl ?_
    refine z_iconst (0) dX6_takeDeedNumbers_79 rfl ?_
    refine z_iconst (5) dX6_takeDeedNumbers_80 rfl ?_
    refine e_callV [.int _, .int _, .int _] dX6_takeDeedNumbers_81 tm_6_156 rfl (Nat.le_of_ble_eq_true rfl) (congrArg Prod.fst (rd_s0 k6)) (Nat.le_of_ble_eq_true rfl) (Nat.le_refl _) (Nat.le_refl _) rfl (zp_X6_takeNumber k6 H7 Sp Sf 1 ⟨by omega, by omega⟩ 0 ⟨by omega, by omega⟩ 5 ⟨by omega, by omega⟩ (by omega) (fun v10 p11 h12 f13 p14 => ?_))
    have k15 := lk_q (frm_s f13) k6
    have H16 := rdT_c f13 (fun a k q => by omega) H7
    have FR17 := frm_t FR8 (frm_m (S' := (fun a k => (a = y ∧ (k = 3 ∨ k = 4 ∨ (8 ≤ k ∧ k ≤ 11))) ∨ (a = y + 26 ∧ k ≤ 1))) f13 (fun a k q => by omega))
    skip
    refine z_if_eq 91 dX6_takeDeedNumbers_84 rfl ⟨by omega, by omega⟩ (fun c18 => ?_) (fun c18 => ?_)
    · skip
      obtain ⟨k0, f0⟩ := tn_0 p14 (by omega)
      refine z_iconst (0) dX6_takeDeedNumbers_91 rfl ?_
      refine z_bret dX6_takeDeedNumbers_92 rfl (Or.inl rfl) ⟨rfl, ?_⟩
      exact kq 0 (Or.inl rfl) _ FR17 (Or.inr (Or.inr ⟨rfl, Sw, k0, f0⟩))
    · skip
      obtain ⟨K19, K19p, K19f, K19n⟩ := tn_1 p14 (by omega)
      refine z_iconst (1) dX6_takeDeedNumbers_87 rfl ?_
      refine e_goto 92 dX6_takeDeedNumbers_88 rfl ?_
      refine z_bret dX6_takeDeedNumbers_92 rfl (Or.inr rfl) ⟨rfl, ?_⟩
      exact kq 1 (Or.inr rfl) _ FR17 (Or.inl ⟨rfl, Sw, K19, K19p, K19f, ((frm_r f13 (by omega))).trans Sn, K19n⟩)
set_option maxHeartbeats 1000000 in
theorem zp_X6_takeDeedNumbers_4_no {ad : mA} {dd : Nat} {h : mH} {Q : mQ} {y : Nat} {T : Int → Int} {L p f q : Int} (hk : rdk h y) (HT : rdT h y T L) (HP : rdP h y T L p) (HF : rdF h y f q) (HA : adK ad)  (pu : tkW T L p ≠ 1685026670 ∧ tkW T L p ≠ 30064) (kq : ∀ v : Int, (v = 0 ∨ v = 1) → ∀ h1, frm (fun a k => (a = y ∧ (k = 3 ∨ k = 4 ∨ (8 ≤ k ∧ k ≤ 11))) ∨ (a = y + 26 ∧ k ≤ 1)) h h1 → (td4 h1 y T L p f q v) → Q (some (.int (zI v))) h1) : mCal TB0 ad (dd + 8) M_X6_takeDeedNumbers [.ref y, .int (zI 4)] h 0 0 Q := by
  refine ⟨Nat.le_of_ble_eq_true rfl, ?_⟩
  show mEv TB0 ad M_X6_takeDeedNumbers (dd + 8) (0, 0) (mCal TB0 ad (dd + 7)) (fun v h' z => z.1 = 0 ∧ Q v h') 0 [some (.ref y), some (.int (zI 4))] [] h (0, 0)
  have FR0 : frm (fun a k => (a = y ∧ (k = 3 ∨ k = 4 ∨ (8 ≤ k ∧ k ≤ 11))) ∨ (a = y + 26 ∧ k ≤ 1)) h h := frm_0 h
  have w1 := HT.1
  have tb := tk_b (T := T) HP.1.1 HP.1.2
  have p0 := HP.1
  refine e_iload_n dX6_takeDeedNumbers_0 rfl ?_
  refine z_tableV (4) 70 dX6_takeDeedNumbers_1 rfl (by decide) (by decide +kernel) ?_
  refine e_aload_n dX6_takeDeedNumbers_70 rfl ?_
  refine e_callV [] dX6_takeDeedNumbers_71 tm_6_205 rfl (Nat.le_of_ble_eq_true rfl) (congrArg Prod.fst (rd_s0 hk)) (Nat.le_of_ble_eq_true rfl) (Nat.le_refl _) (Nat.le_refl _) rfl (zp_X6_takeSide_no hk HT HP HF HA (by omega) (fun v1 p2 h3 f4 p5 => ?_))
  have k6 := lk_q (frm_s f4) hk
  have H7 := rdT_c f4 (fun a k q => by omega) HT
  have FR8 := frm_t FR0 (frm_m (S' := (fun a k => (a = y ∧ (k = 3 ∨ k = 4 ∨ (8 ≤ k ∧ k ≤ 11))) ∨ (a = y + 26 ∧ k ≤ 1))) f4 (fun a k q => by omega))
  skip
  refine z_if_eq 91 dX6_takeDeedNumbers_74 rfl ⟨by omega, by omega⟩ (fun c9 => ?_) (fun c9 => ?_)
  · skip
    obtain ⟨k0, f0⟩ := sd_0 p5 (by omega)
    refine z_iconst (0) dX6_takeDeedNumbers_91 rfl ?_
    refine z_bret dX6_takeDeedNumbers_92 rfl (Or.inl rfl) ⟨rfl, ?_⟩
    exact kq 0 (Or.inl rfl) _ FR8 (Or.inr (Or.inl ⟨rfl, k0, f0⟩))
  · skip
    obtain ⟨Sw, Sp, Sf, Sn⟩ := sd_1 p5 (by omega)
    refine e_aload_n dX6_takeDeedNumbers_77 rfl ?_
    refine z_iconst (1) dX6_takeDeedNumbers_78 rfl ?_
    refine z_iconst (0) dX6_takeDeedNumbers_79 rfl ?_
    refine z_iconst (5) dX6_takeDeedNumbers_80 rfl ?_
    refine e_callV [.int _, .int _, .int _] dX6_takeDeedNumbers_81 tm_6_156 rfl (Nat.le_of_ble_eq_true rfl) (congrArg Prod.fst (rd_s0 k6)) (Nat.le_of_ble_eq_true rfl) (Nat.le_refl _) (Nat.le_refl _) rfl (zp_X6_takeNumber k6 H7 Sp Sf 1 ⟨by omega, by omega⟩ 0 ⟨by omega, by omega⟩ 5 ⟨by omega, by omega⟩ (by omega) (fun v10 p11 h12 f13 p14 => ?_))
    have k15 := lk_q (frm_s f13) k6
    have H16 := rdT_c f13 (fun a k q => by omega) H7
    have FR17 := frm_t FR8 (frm_m (S' := (fun a k => (a = y ∧ (k = 3 ∨ k = 4 ∨ (8 ≤ k ∧ k ≤ 11))) ∨ (a = y + 26 ∧ k ≤ 1))) f13 (fun a k q => by omega))
    skip
    refine z_if_eq 91 dX6_takeDeedNumbers_84 rfl ⟨by omega, by omega⟩ (fun c18 => ?_) (fun c18 => ?_)
    · skip
      obtain ⟨k0, f0⟩ := tn_0 p14 (by omega)
      refine z_iconst (0) dX6_takeDeedNumbers_91 rfl ?_
      refine z_bret dX6_takeDeedNumbers_92 rfl (Or.inl rfl) ⟨rfl, ?_⟩
      exact kq 0 (Or.inl rfl) _ FR17 (Or.inr (Or.inr ⟨rfl, Sw, k0, f0⟩))
    · skip
      obtain ⟨K19, K19p, K19f, K19n⟩ := tn_1 p14 (by omega)
      refine z_iconst (1) dX6_takeDeedNumbers_87 rfl ?_
      refine e_goto 92 dX6_takeDeedNumbers_88 rfl ?_
      refine z_bret dX6_takeDeedNumbers_92 rfl (Or.inr rfl) ⟨rfl, ?_⟩
      exact kq 1 (Or.inr rfl) _ FR17 (Or.inl ⟨rfl, Sw, K19, K19p, K19f, ((frm_r f13 (by omega))).trans Sn, K19n⟩)
