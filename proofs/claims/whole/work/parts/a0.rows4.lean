/-! ROWS of the class: what is asked; ops 9, 10, 11, 22 -/
theorem dX5_numberOf_0 : decode cX5_numberOf 0 = .ok (.aload_n 0, 1) := by decide +kernel
theorem dX5_numberOf_1 : decode cX5_numberOf 1 = .ok (.aload_n 1, 1) := by decide +kernel
theorem dX5_numberOf_2 : decode cX5_numberOf 2 = .ok (.invokevirtual 86, 3) := by decide +kernel
theorem dX5_numberOf_5 : decode cX5_numberOf 5 = .ok (.aload_n 0, 1) := by decide +kernel
theorem dX5_numberOf_6 : decode cX5_numberOf 6 = .ok (.iload_n 2, 1) := by decide +kernel
theorem dX5_numberOf_7 : decode cX5_numberOf 7 = .ok (.invokevirtual 96, 3) := by decide +kernel
theorem dX5_numberOf_10 : decode cX5_numberOf 10 = .ok (.istore_n 3, 1) := by decide +kernel
theorem dX5_numberOf_11 : decode cX5_numberOf 11 = .ok (.iload_n 2, 1) := by decide +kernel
theorem dX5_numberOf_12 : decode cX5_numberOf 12 = .ok (.iconst 3, 1) := by decide +kernel
theorem dX5_numberOf_13 : decode cX5_numberOf 13 = .ok (.if_icmp .ne 7, 3) := by decide +kernel
theorem dX5_numberOf_16 : decode cX5_numberOf 16 = .ok (.iload_n 3, 1) := by decide +kernel
theorem dX5_numberOf_17 : decode cX5_numberOf 17 = .ok (.goto 5, 3) := by decide +kernel
theorem dX5_numberOf_20 : decode cX5_numberOf 20 = .ok (.iload_n 3, 1) := by decide +kernel
theorem dX5_numberOf_21 : decode cX5_numberOf 21 = .ok (.ineg, 1) := by decide +kernel
theorem dX5_numberOf_22 : decode cX5_numberOf 22 = .ok (.ireturn, 1) := by decide +kernel
theorem dX5_standingRows_0 : decode cX5_standingRows 0 = .ok (.aload_n 0, 1) := by decide +kernel
theorem dX5_standingRows_1 : decode cX5_standingRows 1 = .ok (.aload_n 1, 1) := by decide +kernel
theorem dX5_standingRows_2 : decode cX5_standingRows 2 = .ok (.invokevirtual 86, 3) := by decide +kernel
theorem dX5_standingRows_5 : decode cX5_standingRows 5 = .ok (.aload_n 0, 1) := by decide +kernel
theorem dX5_standingRows_6 : decode cX5_standingRows 6 = .ok (.invokevirtual 111, 3) := by decide +kernel
theorem dX5_standingRows_9 : decode cX5_standingRows 9 = .ok (.iconst 0, 1) := by decide +kernel
theorem dX5_standingRows_10 : decode cX5_standingRows 10 = .ok (.istore_n 2, 1) := by decide +kernel
theorem dX5_standingRows_11 : decode cX5_standingRows 11 = .ok (.iconst 1, 1) := by decide +kernel
theorem dX5_standingRows_12 : decode cX5_standingRows 12 = .ok (.istore_n 3, 1) := by decide +kernel
theorem dX5_standingRows_13 : decode cX5_standingRows 13 = .ok (.iconst 0, 1) := by decide +kernel
theorem dX5_standingRows_14 : decode cX5_standingRows 14 = .ok (.istore 4, 2) := by decide +kernel
theorem dX5_standingRows_16 : decode cX5_standingRows 16 = .ok (.iload 4, 2) := by decide +kernel
theorem dX5_standingRows_18 : decode cX5_standingRows 18 = .ok (.sipush 720, 3) := by decide +kernel
theorem dX5_standingRows_21 : decode cX5_standingRows 21 = .ok (.if_icmp .ge 37, 3) := by decide +kernel
theorem dX5_standingRows_24 : decode cX5_standingRows 24 = .ok (.iload_n 3, 1) := by decide +kernel
theorem dX5_standingRows_25 : decode cX5_standingRows 25 = .ok (.ifCond .eq 33, 3) := by decide +kernel
theorem dX5_standingRows_28 : decode cX5_standingRows 28 = .ok (.aload_n 0, 1) := by decide +kernel
theorem dX5_standingRows_29 : decode cX5_standingRows 29 = .ok (.invokevirtual 114, 3) := by decide +kernel
theorem dX5_standingRows_32 : decode cX5_standingRows 32 = .ok (.iload_n 2, 1) := by decide +kernel
theorem dX5_standingRows_33 : decode cX5_standingRows 33 = .ok (.aload_n 0, 1) := by decide +kernel
theorem dX5_standingRows_34 : decode cX5_standingRows 34 = .ok (.invokevirtual 120, 3) := by decide +kernel
theorem dX5_standingRows_37 : decode cX5_standingRows 37 = .ok (.ifCond .eq 7, 3) := by decide +kernel
theorem dX5_standingRows_40 : decode cX5_standingRows 40 = .ok (.iconst 1, 1) := by decide +kernel
theorem dX5_standingRows_41 : decode cX5_standingRows 41 = .ok (.goto 4, 3) := by decide +kernel
theorem dX5_standingRows_44 : decode cX5_standingRows 44 = .ok (.iconst 0, 1) := by decide +kernel
theorem dX5_standingRows_45 : decode cX5_standingRows 45 = .ok (.iadd, 1) := by decide +kernel
theorem dX5_standingRows_46 : decode cX5_standingRows 46 = .ok (.istore_n 2, 1) := by decide +kernel
theorem dX5_standingRows_47 : decode cX5_standingRows 47 = .ok (.aload_n 0, 1) := by decide +kernel
theorem dX5_standingRows_48 : decode cX5_standingRows 48 = .ok (.invokevirtual 130, 3) := by decide +kernel
theorem dX5_standingRows_51 : decode cX5_standingRows 51 = .ok (.istore_n 3, 1) := by decide +kernel
theorem dX5_standingRows_52 : decode cX5_standingRows 52 = .ok (.iinc 4 1, 3) := by decide +kernel
theorem dX5_standingRows_55 : decode cX5_standingRows 55 = .ok (.goto (-39), 3) := by decide +kernel
theorem dX5_standingRows_58 : decode cX5_standingRows 58 = .ok (.iload_n 2, 1) := by decide +kernel
theorem dX5_standingRows_59 : decode cX5_standingRows 59 = .ok (.ireturn, 1) := by decide +kernel
set_option maxRecDepth 20000 in
theorem tm_5_96 : tMet TB0 5 96 = some (0, M_X5_search) := rfl
set_option maxRecDepth 20000 in
theorem tm_11_151 : tMet TB0 11 151 = some (0, M_X5_standingRows) := rfl
set_option maxRecDepth 20000 in
theorem tm_11_155 : tMet TB0 11 155 = some (0, M_X5_numberOf) := rfl
set_option maxHeartbeats 1000000 in
theorem zp_X5_pick_3 {ad : mA} {dd : Nat} {h : mH} {Q : mQ} {y f : Nat} {g : Int → Int} (hk : mak h y) (hk1 : fgk h f) (HF : isF h f g)   (pd : y + 17 ≤ f ∨ f + 16 ≤ y + 1) (pd2 : f + 16 ≤ y + 33 ∨ y + 42 ≤ f) (kq : ∀ h1, frm (fun a k => (y + 1 ≤ a ∧ a < y + 17) ∨ (y + 33 ≤ a ∧ a ≤ y + 41)) h h1 → (isF h1 (y + 1) g) → (bdC h1 y g) → (∃ r, mrC h1 y g r ∧ rwR g 3 r) → Q none h1) : mCal TB0 ad (dd + 5) M_X5_pick [.ref y, .ref f, .int (zI 3)] h 0 0 Q := by
  refine ⟨Nat.le_of_ble_eq_true rfl, ?_⟩
  show mEv TB0 ad M_X5_pick (dd + 5) (0, 0) (mCal TB0 ad (dd + 4)) (fun v h' z => z.1 = 0 ∧ Q v h') 0 [some (.ref y), some (.ref f), some (.int (zI 3))] [] h (0, 0)
  have FR0 : frm (fun a k => (y + 1 ≤ a ∧ a < y + 17) ∨ (y + 33 ≤ a ∧ a ≤ y + 41)) h h := frm_0 h
  have w1 := isF_n HF
  have W := isF_w HF
  refine e_aload_n dX5_pick_0 rfl ?_
  refine e_aload_n dX5_pick_1 rfl ?_
  refine e_callV [.ref _] dX5_pick_2 tm_5_86 rfl (Nat.le_of_ble_eq_true rfl) (congrArg Prod.fst (ma_s0 hk)) (Nat.le_of_ble_eq_true rfl) (Nat.le_refl _) (Nat.le_refl _) rfl (zp_X5_bind hk hk1 HF (by omega) (fun  h1 f2 p3 p4 => ?_))
  have k5 := lk_q (frm_s f2) hk
  have k6 := lk_q (frm_s f2) hk1
  have H7 := isF_c f2 (fun a k q1 q2 => by omega) HF
  have FR8 := frm_t FR0 (frm_m (S' := (fun a k => (y + 1 ≤ a ∧ a < y + 17) ∨ (y + 33 ≤ a ∧ a ≤ y + 41))) f2 (fun a k q => by omega))
  skip
  refine e_aload_n dX5_pick_5 rfl ?_
  refine e_get (.ref (y + 33)) dX5_pick_6 tf_5_21 (congrArg Prod.fst (ma_s0 k5)) (congrArg va_rf (ma_r0_2 k5)) ?_
  refine z_bipush (6) dX5_pick_9 rfl ?_
  refine e_callS [.ref _, .int _] dX5_pick_11 tm_5_74 rfl (Nat.le_of_ble_eq_true rfl) (Nat.le_refl _) (Nat.le_refl _) rfl (zp_fill (ma_s33 k5) (by decide) ⟨by omega, by omega⟩ (fun h9 f10 e11 => ?_))
  have k12 := lk_q (frm_s f10) k5
  have k13 := lk_q (frm_s f10) k6
  have H14 := isF_c f10 (fun a k q1 q2 => by omega) p3
  have H15 := bdC_c f10 (fun a k q => by omega) p4
  have FR16 := frm_t FR8 (frm_m (S' := (fun a k => (y + 1 ≤ a ∧ a < y + 17) ∨ (y + 33 ≤ a ∧ a ≤ y + 41))) f10 (fun a k q => by omega))
  refine e_aload_n dX5_pick_14 rfl ?_
  refine e_get (.ref (y + 34)) dX5_pick_15 tf_5_25 (congrArg Prod.fst (ma_s0 k12)) (congrArg va_rf (ma_r0_3 k12)) ?_
  refine z_bipush (6) dX5_pick_18 rfl ?_
  refine e_callS [.ref _, .int _] dX5_pick_20 tm_5_74 rfl (Nat.le_of_ble_eq_true rfl) (Nat.le_refl _) (Nat.le_refl _) rfl (zp_fill (ma_s34 k12) (by decide) ⟨by omega, by omega⟩ (fun h17 f18 e19 => ?_))
  have k20 := lk_q (frm_s f18) k12
  have k21 := lk_q (frm_s f18) k13
  have H22 := isF_c f18 (fun a k q1 q2 => by omega) H14
  have H23 := bdC_c f18 (fun a k q => by omega) H15
  have FR24 := frm_t FR16 (frm_m (S' := (fun a k => (y + 1 ≤ a ∧ a < y + 17) ∨ (y + 33 ≤ a ∧ a ≤ y + 41))) f18 (fun a k q => by omega))
  refine e_iload_n dX5_pick_23 rfl ?_
  refine z_if_ne 34 dX5_pick_24 rfl ⟨by omega, by omega⟩ (fun c25 => ?_) (fun c25 => ?_)
  · skip
    refine e_iload_n dX5_pick_34 rfl ?_
    refine z_iconst (1) dX5_pick_35 rfl ?_
    refine z_icmp_ne 82 dX5_pick_36 rfl ⟨by omega, by omega⟩ ⟨by omega, by omega⟩ (fun c26 => ?_) (fun c26 => ?_)
    · skip
      refine e_iload_n dX5_pick_82 rfl ?_
      refine z_iconst (2) dX5_pick_83 rfl ?_
      refine z_icmp_ne 130 dX5_pick_84 rfl ⟨by omega, by omega⟩ ⟨by omega, by omega⟩ (fun c27 => ?_) (fun c27 => ?_)
      · skip
        refine e_aload_n dX5_pick_130 rfl ?_
        refine e_iload_n dX5_pick_131 rfl ?_
        refine e_callV [.int _] dX5_pick_132 tm_5_96 rfl (Nat.le_of_ble_eq_true rfl) (congrArg Prod.fst (ma_s0 k20)) (Nat.le_of_ble_eq_true rfl) (Nat.le_refl _) (Nat.le_refl _) rfl (zp_X5_search_3 k20 H22 H23 (fun v28 p29 h30 f31 p32 => ?_))
        have k33 := lk_q (frm_s f31) k20
        have k34 := lk_q (frm_s f31) k21
        have H35 := isF_c f31 (fun a k q1 q2 => by omega) H22
        have H36 := bdC_c f31 (fun a k q => by omega) H23
        have FR37 := frm_t FR24 (frm_m (S' := (fun a k => (y + 1 ≤ a ∧ a < y + 17) ∨ (y + 33 ≤ a ∧ a ≤ y + 41))) f31 (fun a k q => by omega))
        skip
        refine e_pop dX5_pick_135 rfl ?_
        refine e_vret dX5_pick_136 rfl ⟨rfl, ?_⟩
        obtain ⟨k, SK, MK⟩ := p32
        exact kq _ FR37 H35 H36 ⟨dgZ k, MK, sr_R (by omega) (by omega) SK⟩
      · exfalso; omega
    · exfalso; omega
  · exfalso; omega
set_option maxHeartbeats 1000000 in
theorem zp_X5_numberOf_3 {ad : mA} {dd : Nat} {h : mH} {Q : mQ} {y f : Nat} {g : Int → Int} (hk : mak h y) (hk1 : fgk h f) (HF : isF h f g)   (pd : y + 17 ≤ f ∨ f + 16 ≤ y + 1) (pd2 : f + 16 ≤ y + 33 ∨ y + 42 ≤ f) (kq : ∀ v : Int, (rwsP g 0 v) → ∀ h1, frm (fun a k => (y + 1 ≤ a ∧ a < y + 17) ∨ (y + 33 ≤ a ∧ a ≤ y + 41)) h h1 → Q (some (.int (zI v))) h1) : mCal TB0 ad (dd + 5) M_X5_numberOf [.ref y, .ref f, .int (zI 3)] h 0 0 Q := by
  refine ⟨Nat.le_of_ble_eq_true rfl, ?_⟩
  show mEv TB0 ad M_X5_numberOf (dd + 5) (0, 0) (mCal TB0 ad (dd + 4)) (fun v h' z => z.1 = 0 ∧ Q v h') 0 [some (.ref y), some (.ref f), some (.int (zI 3)), none] [] h (0, 0)
  have FR0 : frm (fun a k => (y + 1 ≤ a ∧ a < y + 17) ∨ (y + 33 ≤ a ∧ a ≤ y + 41)) h h := frm_0 h
  have w1 := isF_n HF
  have W := isF_w HF
  refine e_aload_n dX5_numberOf_0 rfl ?_
  refine e_aload_n dX5_numberOf_1 rfl ?_
  refine e_callV [.ref _] dX5_numberOf_2 tm_5_86 rfl (Nat.le_of_ble_eq_true rfl) (congrArg Prod.fst (ma_s0 hk)) (Nat.le_of_ble_eq_true rfl) (Nat.le_refl _) (Nat.le_refl _) rfl (zp_X5_bind hk hk1 HF (by omega) (fun  h1 f2 p3 p4 => ?_))
  have k5 := lk_q (frm_s f2) hk
  have k6 := lk_q (frm_s f2) hk1
  have H7 := isF_c f2 (fun a k q1 q2 => by omega) HF
  have FR8 := frm_t FR0 (frm_m (S' := (fun a k => (y + 1 ≤ a ∧ a < y + 17) ∨ (y + 33 ≤ a ∧ a ≤ y + 41))) f2 (fun a k q => by omega))
  skip
  refine e_aload_n dX5_numberOf_5 rfl ?_
  refine e_iload_n dX5_numberOf_6 rfl ?_
  refine e_callV [.int _] dX5_numberOf_7 tm_5_96 rfl (Nat.le_of_ble_eq_true rfl) (congrArg Prod.fst (ma_s0 k5)) (Nat.le_of_ble_eq_true rfl) (Nat.le_refl _) (Nat.le_refl _) rfl (zp_X5_search_3 k5 p3 p4 (fun v9 p10 h11 f12 p13 => ?_))
  have k14 := lk_q (frm_s f12) k5
  have k15 := lk_q (frm_s f12) k6
  have H16 := isF_c f12 (fun a k q1 q2 => by omega) p3
  have H17 := bdC_c f12 (fun a k q => by omega) p4
  have FR18 := frm_t FR8 (frm_m (S' := (fun a k => (y + 1 ≤ a ∧ a < y + 17) ∨ (y + 33 ≤ a ∧ a ≤ y + 41))) f12 (fun a k q => by omega))
  obtain ⟨k, SK, EK⟩ : ∃ k, srP g 3 k ∧ v9 = -(wSr g 3 k) := by assumption
  refine e_istore_n (L' := [_, _, _, _]) dX5_numberOf_10 (Nat.le_of_ble_eq_true rfl) rfl ?_
  refine e_iload_n dX5_numberOf_11 rfl ?_
  refine z_iconst (3) dX5_numberOf_12 rfl ?_
  refine z_icmp_ne 20 dX5_numberOf_13 rfl ⟨by omega, by omega⟩ ⟨by omega, by omega⟩ (fun c19 => ?_) (fun c19 => ?_)
  · exfalso; omega
  · skip
    refine e_iload_n dX5_numberOf_16 rfl ?_
    refine e_goto 22 dX5_numberOf_17 rfl ?_
    refine z_iret dX5_numberOf_22 rfl ⟨rfl, ?_⟩
    exact kq _ (sr_0 SK EK) _ FR18
set_option maxHeartbeats 1000000 in
theorem zp_X5_pick_4 {ad : mA} {dd : Nat} {h : mH} {Q : mQ} {y f : Nat} {g : Int → Int} (hk : mak h y) (hk1 : fgk h f) (HF : isF h f g)   (pd : y + 17 ≤ f ∨ f + 16 ≤ y + 1) (pd2 : f + 16 ≤ y + 33 ∨ y + 42 ≤ f) (kq : ∀ h1, frm (fun a k => (y + 1 ≤ a ∧ a < y + 17) ∨ (y + 33 ≤ a ∧ a ≤ y + 41)) h h1 → (isF h1 (y + 1) g) → (bdC h1 y g) → (∃ r, mrC h1 y g r ∧ rwR g 4 r) → Q none h1) : mCal TB0 ad (dd + 5) M_X5_pick [.ref y, .ref f, .int (zI 4)] h 0 0 Q := by
  refine ⟨Nat.le_of_ble_eq_true rfl, ?_⟩
  show mEv TB0 ad M_X5_pick (dd + 5) (0, 0) (mCal TB0 ad (dd + 4)) (fun v h' z => z.1 = 0 ∧ Q v h') 0 [some (.ref y), some (.ref f), some (.int (zI 4))] [] h (0, 0)
  have FR0 : frm (fun a k => (y + 1 ≤ a ∧ a < y + 17) ∨ (y + 33 ≤ a ∧ a ≤ y + 41)) h h := frm_0 h
  have w1 := isF_n HF
  have W := isF_w HF
  refine e_aload_n dX5_pick_0 rfl ?_
  refine e_aload_n dX5_pick_1 rfl ?_
  refine e_callV [.ref _] dX5_pick_2 tm_5_86 rfl (Nat.le_of_ble_eq_true rfl) (congrArg Prod.fst (ma_s0 hk)) (Nat.le_of_ble_eq_true rfl) (Nat.le_refl _) (Nat.le_refl _) rfl (zp_X5_bind hk hk1 HF (by omega) (fun  h1 f2 p3 p4 => ?_))
  have k5 := lk_q (frm_s f2) hk
  have k6 := lk_q (frm_s f2) hk1
  have H7 := isF_c f2 (fun a k q1 q2 => by omega) HF
  have FR8 := frm_t FR0 (frm_m (S' := (fun a k => (y + 1 ≤ a ∧ a < y + 17) ∨ (y + 33 ≤ a ∧ a ≤ y + 41))) f2 (fun a k q => by omega))
  skip
  refine e_aload_n dX5_pick_5 rfl ?_
  refine e_get (.ref (y + 33)) dX5_pick_6 tf_5_21 (congrArg Prod.fst (ma_s0 k5)) (congrArg va_rf (ma_r0_2 k5)) ?_
  refine z_bipush (6) dX5_pick_9 rfl ?_
  refine e_callS [.ref _, .int _] dX5_pick_11 tm_5_74 rfl (Nat.le_of_ble_eq_true rfl) (Nat.le_refl _) (Nat.le_refl _) rfl (zp_fill (ma_s33 k5) (by decide) ⟨by omega, by omega⟩ (fun h9 f10 e11 => ?_))
  have k12 := lk_q (frm_s f10) k5
  have k13 := lk_q (frm_s f10) k6
  have H14 := isF_c f10 (fun a k q1 q2 => by omega) p3
  have H15 := bdC_c f10 (fun a k q => by omega) p4
  have FR16 := frm_t FR8 (frm_m (S' := (fun a k => (y + 1 ≤ a ∧ a < y + 17) ∨ (y + 33 ≤ a ∧ a ≤ y + 41))) f10 (fun a k q => by omega))
  refine e_aload_n dX5_pick_14 rfl ?_
  refine e_get (.ref (y + 34)) dX5_pick_15 tf_5_25 (congrArg Prod.fst (ma_s0 k12)) (congrArg va_rf (ma_r0_3 k12)) ?_
  refine z_bipush (6) dX5_pick_18 rfl ?_
  refine e_callS [.ref _, .int _] dX5_pick_20 tm_5_74 rfl (Nat.le_of_ble_eq_true rfl) (Nat.le_refl _) (Nat.le_refl _) rfl (zp_fill (ma_s34 k12) (by decide) ⟨by omega, by omega⟩ (fun h17 f18 e19 => ?_))
  have k20 := lk_q (frm_s f18) k12
  have k21 := lk_q (frm_s f18) k13
  have H22 := isF_c f18 (fun a k q1 q2 => by omega) H14
  have H23 := bdC_c f18 (fun a k q => by omega) H15
  have FR24 := frm_t FR16 (frm_m (S' := (fun a k => (y + 1 ≤ a ∧ a < y + 17) ∨ (y + 33 ≤ a ∧ a ≤ y + 41))) f18 (fun a k q => by omega))
  refine e_iload_n dX5_pick_23 rfl ?_
  refine z_if_ne 34 dX5_pick_24 rfl ⟨by omega, by omega⟩ (fun c25 => ?_) (fun c25 => ?_)
  · skip
    refine e_iload_n dX5_pick_34 rfl ?_
    refine z_iconst (1) dX5_pick_35 rfl ?_
    refine z_icmp_ne 82 dX5_pick_36 rfl ⟨by omega, by omega⟩ ⟨by omega, by omega⟩ (fun c26 => ?_) (fun c26 => ?_)
    · skip
      refine e_iload_n dX5_pick_82 rfl ?_
      refine z_iconst (2) dX5_pick_83 rfl ?_
      refine z_icmp_ne 130 dX5_pick_84 rfl ⟨by omega, by omega⟩ ⟨by omega, by omega⟩ (fun c27 => ?_) (fun c27 => ?_)
      · skip
        refine e_aload_n dX5_pick_130 rfl ?_
        refine e_iload_n dX5_pick_131 rfl ?_
        refine e_callV [.int _] dX5_pick_132 tm_5_96 rfl (Nat.le_of_ble_eq_true rfl) (congrArg Prod.fst (ma_s0 k20)) (Nat.le_of_ble_eq_true rfl) (Nat.le_refl _) (Nat.le_refl _) rfl (zp_X5_search_4 k20 H22 H23 (fun v28 p29 h30 f31 p32 => ?_))
        have k33 := lk_q (frm_s f31) k20
        have k34 := lk_q (frm_s f31) k21
        have H35 := isF_c f31 (fun a k q1 q2 => by omega) H22
        have H36 := bdC_c f31 (fun a k q => by omega) H23
        have FR37 := frm_t FR24 (frm_m (S' := (fun a k => (y + 1 ≤ a ∧ a < y + 17) ∨ (y + 33 ≤ a ∧ a ≤ y + 41))) f31 (fun a k q => by omega))
        skip
        refine e_pop dX5_pick_135 rfl ?_
        refine e_vret dX5_pick_136 rfl ⟨rfl, ?_⟩
        obtain ⟨k, SK, MK⟩ := p32
        exact kq _ FR37 H35 H36 ⟨dgZ k, MK, sr_R (by omega) (by omega) SK⟩
      · exfalso; omega
    · exfalso; omega
  · exfalso; omega
set_option maxHeartbeats 1000000 in
theorem zp_X5_numberOf_4 {ad : mA} {dd : Nat} {h : mH} {Q : mQ} {y f : Nat} {g : Int → Int} (hk : mak h y) (hk1 : fgk h f) (HF : isF h f g)   (pd : y + 17 ≤ f ∨ f + 16 ≤ y + 1) (pd2 : f + 16 ≤ y + 33 ∨ y + 42 ≤ f) (kq : ∀ v : Int, (rwsP g 1 v) → ∀ h1, frm (fun a k => (y + 1 ≤ a ∧ a < y + 17) ∨ (y + 33 ≤ a ∧ a ≤ y + 41)) h h1 → Q (some (.int (zI v))) h1) : mCal TB0 ad (dd + 5) M_X5_numberOf [.ref y, .ref f, .int (zI 4)] h 0 0 Q := by
  refine ⟨Nat.le_of_ble_eq_true rfl, ?_⟩
  show mEv TB0 ad M_X5_numberOf (dd + 5) (0, 0) (mCal TB0 ad (dd + 4)) (fun v h' z => z.1 = 0 ∧ Q v h') 0 [some (.ref y), some (.ref f), some (.int (zI 4)), none] [] h (0, 0)
  have FR0 : frm (fun a k => (y + 1 ≤ a ∧ a < y + 17) ∨ (y + 33 ≤ a ∧ a ≤ y + 41)) h h := frm_0 h
  have w1 := isF_n HF
  have W := isF_w HF
  refine e_aload_n dX5_numberOf_0 rfl ?_
  refine e_aload_n dX5_numberOf_1 rfl ?_
  refine e_callV [.ref _] dX5_numberOf_2 tm_5_86 rfl (Nat.le_of_ble_eq_true rfl) (congrArg Prod.fst (ma_s0 hk)) (Nat.le_of_ble_eq_true rfl) (Nat.le_refl _) (Nat.le_refl _) rfl (zp_X5_bind hk hk1 HF (by omega) (fun  h1 f2 p3 p4 => ?_))
  have k5 := lk_q (frm_s f2) hk
  have k6 := lk_q (frm_s f2) hk1
  have H7 := isF_c f2 (fun a k q1 q2 => by omega) HF
  have FR8 := frm_t FR0 (frm_m (S' := (fun a k => (y + 1 ≤ a ∧ a < y + 17) ∨ (y + 33 ≤ a ∧ a ≤ y + 41))) f2 (fun a k q => by omega))
  skip
  refine e_aload_n dX5_numberOf_5 rfl ?_
  refine e_iload_n dX5_numberOf_6 rfl ?_
  refine e_callV [.int _] dX5_numberOf_7 tm_5_96 rfl (Nat.le_of_ble_eq_true rfl) (congrArg Prod.fst (ma_s0 k5)) (Nat.le_of_ble_eq_true rfl) (Nat.le_refl _) (Nat.le_refl _) rfl (zp_X5_search_4 k5 p3 p4 (fun v9 p10 h11 f12 p13 => ?_))
  have k14 := lk_q (frm_s f12) k5
  have k15 := lk_q (frm_s f12) k6
  have H16 := isF_c f12 (fun a k q1 q2 => by omega) p3
  have H17 := bdC_c f12 (fun a k q => by omega) p4
  have FR18 := frm_t FR8 (frm_m (S' := (fun a k => (y + 1 ≤ a ∧ a < y + 17) ∨ (y + 33 ≤ a ∧ a ≤ y + 41))) f12 (fun a k q => by omega))
  obtain ⟨k, SK, EK⟩ : ∃ k, srP g 4 k ∧ v9 = -(wSr g 4 k) := by assumption
  refine e_istore_n (L' := [_, _, _, _]) dX5_numberOf_10 (Nat.le_of_ble_eq_true rfl) rfl ?_
  refine e_iload_n dX5_numberOf_11 rfl ?_
  refine z_iconst (3) dX5_numberOf_12 rfl ?_
  refine z_icmp_ne 20 dX5_numberOf_13 rfl ⟨by omega, by omega⟩ ⟨by omega, by omega⟩ (fun c19 => ?_) (fun c19 => ?_)
  · skip
    refine e_iload_n dX5_numberOf_20 rfl ?_
    refine z_ineg dX5_numberOf_21 ?_
    refine z_iret dX5_numberOf_22 rfl ⟨rfl, ?_⟩
    exact kq _ (sr_1 (by omega) SK (by omega)) _ FR18
  · exfalso; omega
set_option maxHeartbeats 1000000 in
theorem zp_X5_pick_5 {ad : mA} {dd : Nat} {h : mH} {Q : mQ} {y f : Nat} {g : Int → Int} (hk : mak h y) (hk1 : fgk h f) (HF : isF h f g)   (pd : y + 17 ≤ f ∨ f + 16 ≤ y + 1) (pd2 : f + 16 ≤ y + 33 ∨ y + 42 ≤ f) (kq : ∀ h1, frm (fun a k => (y + 1 ≤ a ∧ a < y + 17) ∨ (y + 33 ≤ a ∧ a ≤ y + 41)) h h1 → (isF h1 (y + 1) g) → (bdC h1 y g) → (∃ r, mrC h1 y g r ∧ rwR g 5 r) → Q none h1) : mCal TB0 ad (dd + 5) M_X5_pick [.ref y, .ref f, .int (zI 5)] h 0 0 Q := by
  refine ⟨Nat.le_of_ble_eq_true rfl, ?_⟩
  show mEv TB0 ad M_X5_pick (dd + 5) (0, 0) (mCal TB0 ad (dd + 4)) (fun v h' z => z.1 = 0 ∧ Q v h') 0 [some (.ref y), some (.ref f), some (.int (zI 5))] [] h (0, 0)
  have FR0 : frm (fun a k => (y + 1 ≤ a ∧ a < y + 17) ∨ (y + 33 ≤ a ∧ a ≤ y + 41)) h h := frm_0 h
  have w1 := isF_n HF
  have W := isF_w HF
  refine e_aload_n dX5_pick_0 rfl ?_
  refine e_aload_n dX5_pick_1 rfl ?_
  refine e_callV [.ref _] dX5_pick_2 tm_5_86 rfl (Nat.le_of_ble_eq_true rfl) (congrArg Prod.fst (ma_s0 hk)) (Nat.le_of_ble_eq_true rfl) (Nat.le_refl _) (Nat.le_refl _) rfl (zp_X5_bind hk hk1 HF (by omega) (fun  h1 f2 p3 p4 => ?_))
  have k5 := lk_q (frm_s f2) hk
  have k6 := lk_q (frm_s f2) hk1
  have H7 := isF_c f2 (fun a k q1 q2 => by omega) HF
  have FR8 := frm_t FR0 (frm_m (S' := (fun a k => (y + 1 ≤ a ∧ a < y + 17) ∨ (y + 33 ≤ a ∧ a ≤ y + 41))) f2 (fun a k q => by omega))
  skip
  refine e_aload_n dX5_pick_5 rfl ?_
  refine e_get (.ref (y + 33)) dX5_pick_6 tf_5_21 (congrArg Prod.fst (ma_s0 k5)) (congrArg va_rf (ma_r0_2 k5)) ?_
  refine z_bipush (6) dX5_pick_9 rfl ?_
  refine e_callS [.ref _, .int _] dX5_pick_11 tm_5_74 rfl (Nat.le_of_ble_eq_true rfl) (Nat.le_refl _) (Nat.le_refl _) rfl (zp_fill (ma_s33 k5) (by decide) ⟨by omega, by omega⟩ (fun h9 f10 e11 => ?_))
  have k12 := lk_q (frm_s f10) k5
  have k13 := lk_q (frm_s f10) k6
  have H14 := isF_c f10 (fun a k q1 q2 => by omega) p3
  have H15 := bdC_c f10 (fun a k q => by omega) p4
  have FR16 := frm_t FR8 (frm_m (S' := (fun a k => (y + 1 ≤ a ∧ a < y + 17) ∨ (y + 33 ≤ a ∧ a ≤ y + 41))) f10 (fun a k q => by omega))
  refine e_aload_n dX5_pick_14 rfl ?_
  refine e_get (.ref (y + 34)) dX5_pick_15 tf_5_25 (congrArg Prod.fst (ma_s0 k12)) (congrArg va_rf (ma_r0_3 k12)) ?_
  refine z_bipush (6) dX5_pick_18 rfl ?_
  refine e_callS [.ref _, .int _] dX5_pick_20 tm_5_74 rfl (Nat.le_of_ble_eq_true rfl) (Nat.le_refl _) (Nat.le_refl _) rfl (zp_fill (ma_s34 k12) (by decide) ⟨by omega, by omega⟩ (fun h17 f18 e19 => ?_))
  have k20 := lk_q (frm_s f18) k12
  have k21 := lk_q (frm_s f18) k13
  have H22 := isF_c f18 (fun a k q1 q2 => by omega) H14
  have H23 := bdC_c f18 (fun a k q => by omega) H15
  have FR24 := frm_t FR16 (frm_m (S' := (fun a k => (y + 1 ≤ a ∧ a < y + 17) ∨ (y + 33 ≤ a ∧ a ≤ y + 41))) f18 (fun a k q => by omega))
  refine e_iload_n dX5_pick_23 rfl ?_
  refine z_if_ne 34 dX5_pick_24 rfl ⟨by omega, by omega⟩ (fun c25 => ?_) (fun c25 => ?_)
  · skip
    refine e_iload_n dX5_pick_34 rfl ?_
    refine z_iconst (1) dX5_pick_35 rfl ?_
    refine z_icmp_ne 82 dX5_pick_36 rfl ⟨by omega, by omega⟩ ⟨by omega, by omega⟩ (fun c26 => ?_) (fun c26 => ?_)
    · skip
      refine e_iload_n dX5_pick_82 rfl ?_
      refine z_iconst (2) dX5_pick_83 rfl ?_
      refine z_icmp_ne 130 dX5_pick_84 rfl ⟨by omega, by omega⟩ ⟨by omega, by omega⟩ (fun c27 => ?_) (fun c27 => ?_)
      · skip
        refine e_aload_n dX5_pick_130 rfl ?_
        refine e_iload_n dX5_pick_131 rfl ?_
        refine e_callV [.int _] dX5_pick_132 tm_5_96 rfl (Nat.le_of_ble_eq_true rfl) (congrArg Prod.fst (ma_s0 k20)) (Nat.le_of_ble_eq_true rfl) (Nat.le_refl _) (Nat.le_refl _) rfl (zp_X5_search_5 k20 H22 H23 (fun v28 p29 h30 f31 p32 => ?_))
        have k33 := lk_q (frm_s f31) k20
        have k34 := lk_q (frm_s f31) k21
        have H35 := isF_c f31 (fun a k q1 q2 => by omega) H22
        have H36 := bdC_c f31 (fun a k q => by omega) H23
        have FR37 := frm_t FR24 (frm_m (S' := (fun a k => (y + 1 ≤ a ∧ a < y + 17) ∨ (y + 33 ≤ a ∧ a ≤ y + 41))) f31 (fun a k q => by omega))
        skip
        refine e_pop dX5_pick_135 rfl ?_
        refine e_vret dX5_pick_136 rfl ⟨rfl, ?_⟩
        obtain ⟨k, SK, MK⟩ := p32
        exact kq _ FR37 H35 H36 ⟨dgZ k, MK, sr_R (by omega) (by omega) SK⟩
      · exfalso; omega
    · exfalso; omega
  · exfalso; omega
set_option maxHeartbeats 1000000 in
theorem zp_X5_numberOf_5 {ad : mA} {dd : Nat} {h : mH} {Q : mQ} {y f : Nat} {g : Int → Int} (hk : mak h y) (hk1 : fgk h f) (HF : isF h f g)   (pd : y + 17 ≤ f ∨ f + 16 ≤ y + 1) (pd2 : f + 16 ≤ y + 33 ∨ y + 42 ≤ f) (kq : ∀ v : Int, (rwsP g 2 v) → ∀ h1, frm (fun a k => (y + 1 ≤ a ∧ a < y + 17) ∨ (y + 33 ≤ a ∧ a ≤ y + 41)) h h1 → Q (some (.int (zI v))) h1) : mCal TB0 ad (dd + 5) M_X5_numberOf [.ref y, .ref f, .int (zI 5)] h 0 0 Q := by
  refine ⟨Nat.le_of_ble_eq_true rfl, ?_⟩
  show mEv TB0 ad M_X5_numberOf (dd + 5) (0, 0) (mCal TB0 ad (dd + 4)) (fun v h' z => z.1 = 0 ∧ Q v h') 0 [some (.ref y), some (.ref f), some (.int (zI 5)), none] [] h (0, 0)
  have FR0 : frm (fun a k => (y + 1 ≤ a ∧ a < y + 17) ∨ (y + 33 ≤ a ∧ a ≤ y + 41)) h h := frm_0 h
  have w1 := isF_n HF
  have W := isF_w HF
  refine e_aload_n dX5_numberOf_0 rfl ?_
  refine e_aload_n dX5_numberOf_1 rfl ?_
  refine e_callV [.ref _] dX5_numberOf_2 tm_5_86 rfl (Nat.le_of_ble_eq_true rfl) (congrArg Prod.fst (ma_s0 hk)) (Nat.le_of_ble_eq_true rfl) (Nat.le_refl _) (Nat.le_refl _) rfl (zp_X5_bind hk hk1 HF (by omega) (fun  h1 f2 p3 p4 => ?_))
  have k5 := lk_q (frm_s f2) hk
  have k6 := lk_q (frm_s f2) hk1
  have H7 := isF_c f2 (fun a k q1 q2 => by omega) HF
  have FR8 := frm_t FR0 (frm_m (S' := (fun a k => (y + 1 ≤ a ∧ a < y + 17) ∨ (y + 33 ≤ a ∧ a ≤ y + 41))) f2 (fun a k q => by omega))
  skip
  refine e_aload_n dX5_numberOf_5 rfl ?_
  refine e_iload_n dX5_numberOf_6 rfl ?_
  refine e_callV [.int _] dX5_numberOf_7 tm_5_96 rfl (Nat.le_of_ble_eq_true rfl) (congrArg Prod.fst (ma_s0 k5)) (Nat.le_of_ble_eq_true rfl) (Nat.le_refl _) (Nat.le_refl _) rfl (zp_X5_search_5 k5 p3 p4 (fun v9 p10 h11 f12 p13 => ?_))
  have k14 := lk_q (frm_s f12) k5
  have k15 := lk_q (frm_s f12) k6
  have H16 := isF_c f12 (fun a k q1 q2 => by omega) p3
  have H17 := bdC_c f12 (fun a k q => by omega) p4
  have FR18 := frm_t FR8 (frm_m (S' := (fun a k => (y + 1 ≤ a ∧ a < y + 17) ∨ (y + 33 ≤ a ∧ a ≤ y + 41))) f12 (fun a k q => by omega))
  obtain ⟨k, SK, EK⟩ : ∃ k, srP g 5 k ∧ v9 = -(wSr g 5 k) := by assumption
  refine e_istore_n (L' := [_, _, _, _]) dX5_numberOf_10 (Nat.le_of_ble_eq_true rfl) rfl ?_
  refine e_iload_n dX5_numberOf_11 rfl ?_
  refine z_iconst (3) dX5_numberOf_12 rfl ?_
  refine z_icmp_ne 20 dX5_numberOf_13 rfl ⟨by omega, by omega⟩ ⟨by omega, by omega⟩ (fun c19 => ?_) (fun c19 => ?_)
  · skip
    refine e_iload_n dX5_numberOf_20 rfl ?_
    refine z_ineg dX5_numberOf_21 ?_
    refine z_iret dX5_numberOf_22 rfl ⟨rfl, ?_⟩
    exact kq _ (sr_2 (by omega) SK (by omega)) _ FR18
  · exfalso; omega
set_option maxHeartbeats 2000000 in
theorem zp_X5_standingRows {ad : mA} {dd : Nat} {h : mH} {Q : mQ} {y f : Nat} {g : Int → Int} (hk : mak h y) (hk1 : fgk h f) (HF : isF h f g)   (pd : y + 17 ≤ f ∨ f + 16 ≤ y + 1) (pd2 : f + 16 ≤ y + 33 ∨ y + 42 ≤ f) (kq : ∀ h1, frm (fun a k => (y + 1 ≤ a ∧ a < y + 17) ∨ (y + 33 ≤ a ∧ a ≤ y + 41)) h h1 → Q (some (.int (zI 1))) h1) : mCal TB0 ad (dd + 4) M_X5_standingRows [.ref y, .ref f] h 0 0 Q := by
  refine ⟨Nat.le_of_ble_eq_true rfl, ?_⟩
  show mEv TB0 ad M_X5_standingRows (dd + 4) (0, 0) (mCal TB0 ad (dd + 3)) (fun v h' z => z.1 = 0 ∧ Q v h') 0 [some (.ref y), some (.ref f), none, none, none] [] h (0, 0)
  have FR0 : frm (fun a k => (y + 1 ≤ a ∧ a < y + 17) ∨ (y + 33 ≤ a ∧ a ≤ y + 41)) h h := frm_0 h
  have w1 := isF_n HF
  have W := isF_w HF
  obtain ⟨z, z1, z2⟩ := pSr_ex (g := g) (by omega) 3
  have z3 := z2.2 rfl
  refine e_aload_n dX5_standingRows_0 rfl ?_
  refine e_aload_n dX5_standingRows_1 rfl ?_
  refine e_callV [.ref _] dX5_standingRows_2 tm_5_86 rfl (Nat.le_of_ble_eq_true rfl) (congrArg Prod.fst (ma_s0 hk)) (Nat.le_of_ble_eq_true rfl) (Nat.le_refl _) (Nat.le_refl _) rfl (zp_X5_bind hk hk1 HF (by omega) (fun  h1 f2 p3 p4 => ?_))
  have k5 := lk_q (frm_s f2) hk
  have k6 := lk_q (frm_s f2) hk1
  have H7 := isF_c f2 (fun a k q1 q2 => by omega) HF
  have FR8 := frm_t FR0 (frm_m (S' := (fun a k => (y + 1 ≤ a ∧ a < y + 17) ∨ (y + 33 ≤ a ∧ a ≤ y + 41))) f2 (fun a k q => by omega))
  skip
  refine e_aload_n dX5_standingRows_5 rfl ?_
  refine e_callV [] dX5_standingRows_6 tm_5_111 rfl (Nat.le_of_ble_eq_true rfl) (congrArg Prod.fst (ma_s0 k5)) (Nat.le_of_ble_eq_true rfl) (Nat.le_refl _) (Nat.le_refl _) rfl (zp_X5_beginRows k5 p3 (fun  h9 f10 p11 => ?_))
  have k12 := lk_q (frm_s f10) k5
  have k13 := lk_q (frm_s f10) k6
  have H14 := isF_c f10 (fun a k q1 q2 => by omega) p3
  have H15 := bdC_c f10 (fun a k q => by omega) p4
  have FR16 := frm_t FR8 (frm_m (S' := (fun a k => (y + 1 ≤ a ∧ a < y + 17) ∨ (y + 33 ≤ a ∧ a ≤ y + 41))) f10 (fun a k q => by omega))
  obtain ⟨N0, C0, Z0⟩ := ckP_0 (g := g) (by omega)
  have OB := p11
  have zn : ¬ z < N0 := fun q => Z0 z z1.1 q z2.1
  refine z_iconst (0) dX5_standingRows_9 rfl ?_
  refine e_istore_n (L' := [_, _, _, _, _]) dX5_standingRows_10 (Nat.le_of_ble_eq_true rfl) rfl ?_
  refine z_iconst (1) dX5_standingRows_11 rfl ?_
  refine e_istore_n (L' := [_, _, _, _, _]) dX5_standingRows_12 (Nat.le_of_ble_eq_true rfl) rfl ?_
  refine z_iconst (0) dX5_standingRows_13 rfl ?_
  refine e_istore (L' := [_, _, _, _, _]) dX5_standingRows_14 (Nat.le_of_ble_eq_true rfl) rfl ?_
  have lp17 : ∀ (n17 : Nat) (t b i c N : Int) (h17 : mH), (720 - i).toNat = n17 → (mak h17 y) → (fgk h17 f) → (isF h17 (y + 1) g) → (bdC h17 y g) → (frm (fun a k => (y + 1 ≤ a ∧ a < y + 17) ∨ (y + 33 ≤ a ∧ a ≤ y + 41)) h h17) → (0 ≤ i ∧ i ≤ 720) → (ckP g i c N b) → (odC h17 y (oI c.toNat)) → (t = if z < N then 1 else 0) → mEv TB0 ad M_X5_standingRows (dd + 4) (0, 0) (mCal TB0 ad (dd + 3)) (fun v h' z => z.1 = 0 ∧ Q v h') 16 [some (.ref y), some (.ref f), some (.int (zI t)), some (.int (zI b)), some (.int (zI i))] [] h17 (0, 0) := by
    intro n17
    induction n17 using Nat.strongRecOn with
    | ind n17 ih17 =>
    intro t b i c N h17 hn17 k18 k19 H20 H21 FR22 I1 I2 I3 I4
    refine e_iload dX5_standingRows_16 rfl ?_
    have KB := ckP_b I2
    have TB : 0 ≤ t ∧ t ≤ 1 := by rw [I4]; split <;> omega
    refine z_sipush (720) dX5_standingRows_18 rfl ?_
    refine z_icmp_ge 58 dX5_standingRows_21 rfl ⟨by omega, by omega⟩ ⟨by omega, by omega⟩ (fun c23 => ?_) (fun c23 => ?_)
    · skip
      refine e_iload_n dX5_standingRows_58 rfl ?_
      refine z_iret dX5_standingRows_59 rfl ⟨rfl, ?_⟩
      refine z_q (kq _ FR22) ?_
      rw [I4, if_pos (by omega)]
    · skip
      refine e_iload_n dX5_standingRows_24 rfl ?_
      refine z_if_eq 58 dX5_standingRows_25 rfl ⟨by omega, by omega⟩ (fun c24 => ?_) (fun c24 => ?_)
      · skip
        refine e_iload_n dX5_standingRows_58 rfl ?_
        refine z_iret dX5_standingRows_59 rfl ⟨rfl, ?_⟩
        refine z_q (kq _ FR22) ?_
        rw [I4, if_pos (by omega)]
      · skip
        refine e_aload_n dX5_standingRows_28 rfl ?_
        have RK := ckP_r (by omega) I2 (by omega)
        have OC : orC h17 y g (dgZ N) := ⟨RK.1.1, fun d a e => (I3.1 d a (by omega)).trans (RK.2 d a e)⟩
        refine e_callV [] dX5_standingRows_29 tm_5_114 rfl (Nat.le_of_ble_eq_true rfl) (congrArg Prod.fst (ma_s0 k18)) (Nat.le_of_ble_eq_true rfl) (Nat.le_refl _) (Nat.le_refl _) rfl (zp_X5_takeRow k18 H20 OC (fun  h25 f26 p27 => ?_))
        have k28 := lk_q (frm_s f26) k18
        have k29 := lk_q (frm_s f26) k19
        have H30 := isF_c f26 (fun a k q1 q2 => by omega) H20
        have H31 := bdC_c f26 (fun a k q => by omega) H21
        have H32 := orC_c f26 (fun a k q => by omega) OC
        have FR33 := frm_t FR22 (frm_m (S' := (fun a k => (y + 1 ≤ a ∧ a < y + 17) ∨ (y + 33 ≤ a ∧ a ≤ y + 41))) f26 (fun a k q => by omega))
        skip
        refine e_iload_n dX5_standingRows_32 rfl ?_
        refine e_aload_n dX5_standingRows_33 rfl ?_
        refine e_callV [] dX5_standingRows_34 tm_5_120 rfl (Nat.le_of_ble_eq_true rfl) (congrArg Prod.fst (ma_s0 k28)) (Nat.le_of_ble_eq_true rfl) (Nat.le_refl _) (Nat.le_refl _) rfl (zp_X5_stands k28 H30 H31 p27 (fun v34 p35 => ?_))
        have SV : stV g (dgZ N) v34 := by assumption
        have SB : v34 = 0 ∨ v34 = 1 := by rcases SV with q | q; exact Or.inr q.1; exact Or.inl q.1
        refine z_if_eq 44 dX5_standingRows_37 rfl ⟨by omega, by omega⟩ (fun c36 => ?_) (fun c36 => ?_)
        · skip
          have ZN : z ≠ N := fun q => by rcases SV with w | w; exact absurd w.1 (by omega); exact w.2 (by rw [← q]; exact z3)
          refine z_iconst (0) dX5_standingRows_44 rfl ?_
          refine z_iadd dX5_standingRows_45 ?_
          refine e_istore_n (L' := [_, _, _, _, _]) dX5_standingRows_46 (Nat.le_of_ble_eq_true rfl) rfl ?_
          have OD : odC h25 y (oI c.toNat) := ⟨fun k a e => ((frm_r f26 (by omega))).trans (I3.1 k a e), I3.2⟩
          refine e_aload_n dX5_standingRows_47 rfl ?_
          refine e_callV [] dX5_standingRows_48 tm_5_130 rfl (Nat.le_of_ble_eq_true rfl) (congrArg Prod.fst (ma_s0 k28)) (Nat.le_of_ble_eq_true rfl) (Nat.le_refl _) (Nat.le_refl _) rfl (zp_X5_nextRow k28 H30 OD (fun v37 p38 h39 f40 p41 => ?_))
          have k42 := lk_q (frm_s f40) k28
          have k43 := lk_q (frm_s f40) k29
          have H44 := isF_c f40 (fun a k q1 q2 => by omega) H30
          have H45 := bdC_c f40 (fun a k q => by omega) H31
          have H46 := mrC_c f40 (fun a k q => by omega) p27
          have FR47 := frm_t FR33 (frm_m (S' := (fun a k => (y + 1 ≤ a ∧ a < y + 17) ∨ (y + 33 ≤ a ∧ a ≤ y + 41))) f40 (fun a k q => by omega))
          skip
          have NX : nxV (nd g) (nu g) (oI c.toNat) v37 := by assumption
          have nb := nxV_b NX
          obtain ⟨N', CK, NB, NF⟩ := ckP_n (by omega) I2 (by omega) NX
          refine e_istore_n (L' := [_, _, _, _, _]) dX5_standingRows_51 (Nat.le_of_ble_eq_true rfl) rfl ?_
          refine z_iinc (L' := [_, _, _, _, _]) dX5_standingRows_52 rfl rfl ?_
          refine e_goto 16 dX5_standingRows_55 rfl ?_
          exact ih17 _ (by omega) (t + 0) v37 (i + 1) ((cO (nxF (nd g) (nu g) (oI c.toNat)) : Nat) : Int) N' h39 rfl k42 k43 H44 H45 FR47 (by omega) CK (by rw [Int.toNat_natCast]; exact odC_e (oI_cO p41.2) p41) (by
                    have nf : ¬ (N < z ∧ z < N') := fun q => NF z q.1 q.2 z2.1
                    by_cases q : z < N
                    · rw [if_pos q] at I4; rw [if_pos (by omega)]; omega
                    · rw [if_neg q] at I4
                      by_cases w : z < N'
                      · rw [if_pos w]; omega
                      · rw [if_neg w]; omega)
        · skip
          have ZN : z = N := by
            have SN : stn g (dgZ N) := by rcases SV with w | w; exact w.2; exact absurd w.1 (by omega)
            exact dg_u z1.1 z1.2 (by omega) (by omega) (stn_u (by omega) z2.1.1 RK.1.1 z3 SN)
          refine z_iconst (1) dX5_standingRows_40 rfl ?_
          refine e_goto 45 dX5_standingRows_41 rfl ?_
          refine z_iadd dX5_standingRows_45 ?_
          refine e_istore_n (L' := [_, _, _, _, _]) dX5_standingRows_46 (Nat.le_of_ble_eq_true rfl) rfl ?_
          have OD : odC h25 y (oI c.toNat) := ⟨fun k a e => ((frm_r f26 (by omega))).trans (I3.1 k a e), I3.2⟩
          refine e_aload_n dX5_standingRows_47 rfl ?_
          refine e_callV [] dX5_standingRows_48 tm_5_130 rfl (Nat.le_of_ble_eq_true rfl) (congrArg Prod.fst (ma_s0 k28)) (Nat.le_of_ble_eq_true rfl) (Nat.le_refl _) (Nat.le_refl _) rfl (zp_X5_nextRow k28 H30 OD (fun v48 p49 h50 f51 p52 => ?_))
          have k53 := lk_q (frm_s f51) k28
          have k54 := lk_q (frm_s f51) k29
          have H55 := isF_c f51 (fun a k q1 q2 => by omega) H30
          have H56 := bdC_c f51 (fun a k q => by omega) H31
          have H57 := mrC_c f51 (fun a k q => by omega) p27
          have FR58 := frm_t FR33 (frm_m (S' := (fun a k => (y + 1 ≤ a ∧ a < y + 17) ∨ (y + 33 ≤ a ∧ a ≤ y + 41))) f51 (fun a k q => by omega))
          skip
          have NX : nxV (nd g) (nu g) (oI c.toNat) v48 := by assumption
          have nb := nxV_b NX
          obtain ⟨N', CK, NB, NF⟩ := ckP_n (by omega) I2 (by omega) NX
          refine e_istore_n (L' := [_, _, _, _, _]) dX5_standingRows_51 (Nat.le_of_ble_eq_true rfl) rfl ?_
          refine z_iinc (L' := [_, _, _, _, _]) dX5_standingRows_52 rfl rfl ?_
          refine e_goto 16 dX5_standingRows_55 rfl ?_
          exact ih17 _ (by omega) (t + 1) v48 (i + 1) ((cO (nxF (nd g) (nu g) (oI c.toNat)) : Nat) : Int) N' h50 rfl k53 k54 H55 H56 FR58 (by omega) CK (by rw [Int.toNat_natCast]; exact odC_e (oI_cO p52.2) p52) (by
                    have nf : ¬ (N < z ∧ z < N') := fun q => NF z q.1 q.2 z2.1
                    by_cases q : z < N
                    · rw [if_pos q] at I4; rw [if_pos (by omega)]; omega
                    · rw [if_neg q] at I4
                      by_cases w : z < N'
                      · rw [if_pos w]; omega
                      · rw [if_neg w]; omega)
  exact lp17 _ 0 1 0 ((cO (bgF (nu g)) : Nat) : Int) N0 h9 rfl k12 k13 H14 H15 FR16 (by omega) C0 (by rw [Int.toNat_natCast]; exact odC_e (oI_cO OB.2) OB) (by rw [if_neg zn])
set_option maxHeartbeats 1000000 in
theorem zp_X11_leaving_3 {ad : mA} {dd : Nat} {h : mH} {Q : mQ} {x : Nat} {σ : Sg} (hk : bk h x) (HX : clsT h (x + 1) σ)  (f : Int) (f_r : -2147483648 ≤ f ∧ f < 2147483648) (p1 : 0 ≤ f) (p2 : f < cn σ 0) (kq : ∀ v : Int, (∃ r, rwR (sG σ f) 3 r ∧ v = lvN (sG σ f) r) → ∀ h1, frm (fun a i => x + 56 ≤ a ∧ a < x + 157) h h1 → Q (some (.int (zI v))) h1) : mCal TB0 ad (dd + 6) M_X11_leaving [.ref x, .int (zI f), .int (zI 3)] h 0 0 Q := by
  refine ⟨Nat.le_of_ble_eq_true rfl, ?_⟩
  show mEv TB0 ad M_X11_leaving (dd + 6) (0, 0) (mCal TB0 ad (dd + 5)) (fun v h' z => z.1 = 0 ∧ Q v h') 0 [some (.ref x), some (.int (zI f)), some (.int (zI 3)), none] [] h (0, 0)
  have FR0 : frm (fun a i => x + 56 ≤ a ∧ a < x + 157) h h := frm_0 h
  have w1 := wS_n (clsT_w HX)
  have W := (clsT_w HX).2.2.1 f p1 p2
  have nW : (0 ≤ nd (sG σ f) ∧ nd (sG σ f) ≤ 6) ∧ (0 ≤ nu (sG σ f) ∧ nu (sG σ f) ≤ 6) := ⟨W.1.1, W.1.2.1⟩
  refine e_aload_n dX11_leaving_0 rfl ?_
  refine e_get (.ref (x + 1)) dX11_leaving_1 tf_11_10 (congrArg Prod.fst (bk_s0 hk)) (congrArg va_rf (bk_r0_0 hk)) ?_
  refine e_iload_n dX11_leaving_4 rfl ?_
  refine e_callV [.int _] dX11_leaving_5 tm_11_94 rfl (Nat.le_of_ble_eq_true rfl) (congrArg Prod.fst (bk_s1 hk)) (Nat.le_of_ble_eq_true rfl) (Nat.le_refl _) (Nat.le_refl _) rfl (zp_X8_forgeAt_in (bk_td1 hk) HX f ⟨by omega, by omega⟩ (by omega) (by omega) ?_)
  have k1 := fAt_k (bk_td1 hk) f
  have H2 := clsT_F HX (show 0 ≤ f by omega) (by omega)
  have y3 := fAt_b (x + 1) f
  refine e_astore_n (L' := [_, _, _, _]) dX11_leaving_8 (Nat.le_of_ble_eq_true rfl) rfl ?_
  refine e_aload_n dX11_leaving_9 rfl ?_
  refine e_ifnull 22 dX11_leaving_10 rfl ?_
  refine e_iload_n dX11_leaving_13 rfl ?_
  refine z_if_lt 22 dX11_leaving_14 rfl ⟨by omega, by omega⟩ (fun c4 => ?_) (fun c4 => ?_)
  · exfalso; omega
  · skip
    refine e_iload_n dX11_leaving_17 rfl ?_
    refine z_iconst (5) dX11_leaving_18 rfl ?_
    refine z_icmp_le 24 dX11_leaving_19 rfl ⟨by omega, by omega⟩ ⟨by omega, by omega⟩ (fun c5 => ?_) (fun c5 => ?_)
    · skip
      refine e_aload_n dX11_leaving_24 rfl ?_
      refine e_get (.ref (x + 100)) dX11_leaving_25 tf_11_37 (congrArg Prod.fst (bk_s0 hk)) (congrArg va_rf (bk_r0_4 hk)) ?_
      refine e_aload_n dX11_leaving_28 rfl ?_
      refine e_iload_n dX11_leaving_29 rfl ?_
      refine e_callV [.ref _, .int _] dX11_leaving_30 tm_11_127 rfl (Nat.le_of_ble_eq_true rfl) (congrArg Prod.fst (bk_s100 hk)) (Nat.le_of_ble_eq_true rfl) (Nat.le_refl _) (Nat.le_refl _) rfl (zp_X5_pick_3 (bk_ma100 hk) k1 H2 (by omega) (by omega) (fun  h6 f7 p8 p9 p10 => ?_))
      have k11 := bk_q (frm_s f7) hk
      have k12 := lk_q (frm_s f7) k1
      have H13 := clsT_c f7 (fun a k q1 q2 => by omega) HX
      have H14 := isF_c f7 (fun a k q1 q2 => by omega) H2
      have FR15 := frm_t FR0 (frm_m (S' := (fun a i => x + 56 ≤ a ∧ a < x + 157)) f7 (fun a k q => by omega))
      obtain ⟨r, MR, RR⟩ := p10
      refine e_aload_n dX11_leaving_33 rfl ?_
      refine e_get (.ref (x + 100)) dX11_leaving_34 tf_11_37 (congrArg Prod.fst (bk_s0 k11)) (congrArg va_rf (bk_r0_4 k11)) ?_
      refine e_callV [] dX11_leaving_37 tm_11_131 rfl (Nat.le_of_ble_eq_true rfl) (congrArg Prod.fst (bk_s100 k11)) (Nat.le_of_ble_eq_true rfl) (Nat.le_refl _) (Nat.le_refl _) rfl (zp_X5_leavingCouples (bk_ma100 k11) p8 p9 MR ?_)
      have y16 := lvN_b (show (0 ≤ nd (sG σ f) ∧ nd (sG σ f) ≤ 6) ∧ (0 ≤ nu (sG σ f) ∧ nu (sG σ f) ≤ 6) by omega) r
      refine z_iret dX11_leaving_40 rfl ⟨rfl, ?_⟩
      refine kq _ ?_ _ FR15
      exact ⟨r, RR, rfl⟩
    · exfalso; omega
set_option maxHeartbeats 1000000 in
theorem zp_X11_row_3 {ad : mA} {dd : Nat} {h : mH} {Q : mQ} {x : Nat} {σ : Sg} (hk : bk h x) (HX : clsT h (x + 1) σ)  (f : Int) (f_r : -2147483648 ≤ f ∧ f < 2147483648) (k : Int) (k_r : -2147483648 ≤ k ∧ k < 2147483648) (p1 : 0 ≤ f) (p2 : f < cn σ 0) (kq : ∀ v : Int, (((-1 ≤ k ∧ k < nd (sG σ f)) ∧ ∃ r, rwR (sG σ f) 3 r ∧ v = if k = -1 then inR r else r k) ∨ (¬ (-1 ≤ k ∧ k < nd (sG σ f)) ∧ v = -1)) → ∀ h1, frm (fun a i => x + 56 ≤ a ∧ a < x + 157) h h1 → Q (some (.int (zI v))) h1) : mCal TB0 ad (dd + 6) M_X11_row [.ref x, .int (zI f), .int (zI 3), .int (zI k)] h 0 0 Q := by
  refine ⟨Nat.le_of_ble_eq_true rfl, ?_⟩
  show mEv TB0 ad M_X11_row (dd + 6) (0, 0) (mCal TB0 ad (dd + 5)) (fun v h' z => z.1 = 0 ∧ Q v h') 0 [some (.ref x), some (.int (zI f)), some (.int (zI 3)), some (.int (zI k)), none] [] h (0, 0)
  have FR0 : frm (fun a i => x + 56 ≤ a ∧ a < x + 157) h h := frm_0 h
  have w1 := wS_n (clsT_w HX)
  have W := (clsT_w HX).2.2.1 f p1 p2
  have nW : (0 ≤ nd (sG σ f) ∧ nd (sG σ f) ≤ 6) ∧ (0 ≤ nu (sG σ f) ∧ nu (sG σ f) ≤ 6) := ⟨W.1.1, W.1.2.1⟩
  refine e_aload_n dX11_row_0 rfl ?_
  refine e_get (.ref (x + 1)) dX11_row_1 tf_11_10 (congrArg Prod.fst (bk_s0 hk)) (congrArg va_rf (bk_r0_0 hk)) ?_
  refine e_iload_n dX11_row_4 rfl ?_
  refine e_callV [.int _] dX11_row_5 tm_11_94 rfl (Nat.le_of_ble_eq_true rfl) (congrArg Prod.fst (bk_s1 hk)) (Nat.le_of_ble_eq_true rfl) (Nat.le_refl _) (Nat.le_refl _) rfl (zp_X8_forgeAt_in (bk_td1 hk) HX f ⟨by omega, by omega⟩ (by omega) (by omega) ?_)
  have k1 := fAt_k (bk_td1 hk) f
  have H2 := clsT_F HX (show 0 ≤ f by omega) (by omega)
  have y3 := fAt_b (x + 1) f
  refine e_astore (L' := [_, _, _, _, _]) dX11_row_8 (Nat.le_of_ble_eq_true rfl) rfl ?_
  refine e_aload dX11_row_10 rfl ?_
  refine e_ifnull 42 dX11_row_12 rfl ?_
  have v1 := isF_n H2
  have v2 := isF_nd H2
  have v3 := isF_nu H2
  refine e_iload_n dX11_row_15 rfl ?_
  refine z_iconst (1) dX11_row_16 rfl ?_
  refine z_icmp_lt 42 dX11_row_17 rfl ⟨by omega, by omega⟩ ⟨by omega, by omega⟩ (fun c4 => ?_) (fun c4 => ?_)
  · exfalso; omega
  · skip
    refine e_iload_n dX11_row_20 rfl ?_
    refine z_iconst (5) dX11_row_21 rfl ?_
    refine z_icmp_gt 42 dX11_row_22 rfl ⟨by omega, by omega⟩ ⟨by omega, by omega⟩ (fun c5 => ?_) (fun c5 => ?_)
    · exfalso; omega
    · skip
      refine e_iload_n dX11_row_25 rfl ?_
      refine z_iconst (-1) dX11_row_26 rfl ?_
      refine z_icmp_eq 44 dX11_row_27 rfl ⟨by omega, by omega⟩ ⟨by omega, by omega⟩ (fun c6 => ?_) (fun c6 => ?_)
      · skip
        refine e_aload_n dX11_row_44 rfl ?_
        refine e_get (.ref (x + 100)) dX11_row_45 tf_11_37 (congrArg Prod.fst (bk_s0 hk)) (congrArg va_rf (bk_r0_4 hk)) ?_
        refine e_aload dX11_row_48 rfl ?_
        refine e_iload_n dX11_row_50 rfl ?_
        refine e_callV [.ref _, .int _] dX11_row_51 tm_11_127 rfl (Nat.le_of_ble_eq_true rfl) (congrArg Prod.fst (bk_s100 hk)) (Nat.le_of_ble_eq_true rfl) (Nat.le_refl _) (Nat.le_refl _) rfl (zp_X5_pick_3 (bk_ma100 hk) k1 H2 (by omega) (by omega) (fun  h7 f8 p9 p10 p11 => ?_))
        have k12 := bk_q (frm_s f8) hk
        have k13 := lk_q (frm_s f8) k1
        have H14 := clsT_c f8 (fun a k q1 q2 => by omega) HX
        have H15 := isF_c f8 (fun a k q1 q2 => by omega) H2
        have FR16 := frm_t FR0 (frm_m (S' := (fun a i => x + 56 ≤ a ∧ a < x + 157)) f8 (fun a k q => by omega))
        obtain ⟨r, MR, RR⟩ := p11
        refine e_iload_n dX11_row_54 rfl ?_
        refine z_iconst (-1) dX11_row_55 rfl ?_
        refine z_icmp_ne 69 dX11_row_56 rfl ⟨by omega, by omega⟩ ⟨by omega, by omega⟩ (fun c17 => ?_) (fun c17 => ?_)
        · skip
          refine e_aload_n dX11_row_69 rfl ?_
          refine e_get (.ref (x + 100)) dX11_row_70 tf_11_37 (congrArg Prod.fst (bk_s0 k12)) (congrArg va_rf (bk_r0_4 k12)) ?_
          refine e_iload_n dX11_row_73 rfl ?_
          refine e_callV [.int _] dX11_row_74 tm_11_148 rfl (Nat.le_of_ble_eq_true rfl) (congrArg Prod.fst (bk_s100 k12)) (Nat.le_of_ble_eq_true rfl) (Nat.le_refl _) (Nat.le_refl _) rfl (zp_X5_upOf (bk_ma100 k12) MR k ⟨by omega, by omega⟩ (by omega) ?_)
          refine z_iret dX11_row_77 rfl ⟨rfl, ?_⟩
          refine kq _ ?_ _ FR16
          first | (exfalso; omega) | exact Or.inr ⟨by omega, rfl⟩ | exact Or.inl ⟨by omega, r, RR, by rw [if_pos (by omega)]⟩ | exact Or.inl ⟨by omega, r, RR, by rw [if_neg (by omega)]⟩
        · skip
          refine e_aload_n dX11_row_59 rfl ?_
          refine e_get (.ref (x + 100)) dX11_row_60 tf_11_37 (congrArg Prod.fst (bk_s0 k12)) (congrArg va_rf (bk_r0_4 k12)) ?_
          refine e_callV [] dX11_row_63 tm_11_145 rfl (Nat.le_of_ble_eq_true rfl) (congrArg Prod.fst (bk_s100 k12)) (Nat.le_of_ble_eq_true rfl) (Nat.le_refl _) (Nat.le_refl _) rfl (zp_X5_couples (bk_ma100 k12) p9 MR ?_)
          have y18 := inR_b r
          refine e_goto 77 dX11_row_66 rfl ?_
          refine z_iret dX11_row_77 rfl ⟨rfl, ?_⟩
          refine kq _ ?_ _ FR16
          first | (exfalso; omega) | exact Or.inr ⟨by omega, rfl⟩ | exact Or.inl ⟨by omega, r, RR, by rw [if_pos (by omega)]⟩ | exact Or.inl ⟨by omega, r, RR, by rw [if_neg (by omega)]⟩
      · skip
        refine e_aload dX11_row_30 rfl ?_
        refine e_get (.ref ((fAt (x + 1) f) + 1)) dX11_row_32 tf_11_135 (congrArg Prod.fst (fg_s0 k1)) (congrArg va_rf (fg_r0_0 k1)) ?_
        refine e_iload_n dX11_row_35 rfl ?_
        refine e_callV [.int _] dX11_row_36 tm_11_139 rfl (Nat.le_of_ble_eq_true rfl) (congrArg Prod.fst (fg_s1 k1)) (Nat.le_of_ble_eq_true rfl) (Nat.le_refl _) (Nat.le_refl _) rfl (zp_X0_has (fg_bl1 k1) k ⟨by omega, by omega⟩ ?_)
        refine z_ifb_ne 44 dX11_row_39 rfl (fun c19 => ?_) (fun c19 => ?_)
        · skip
          refine e_aload_n dX11_row_44 rfl ?_
          refine e_get (.ref (x + 100)) dX11_row_45 tf_11_37 (congrArg Prod.fst (bk_s0 hk)) (congrArg va_rf (bk_r0_4 hk)) ?_
          refine e_aload dX11_row_48 rfl ?_
          refine e_iload_n dX11_row_50 rfl ?_
          refine e_callV [.ref _, .int _] dX11_row_51 tm_11_127 rfl (Nat.le_of_ble_eq_true rfl) (congrArg Prod.fst (bk_s100 hk)) (Nat.le_of_ble_eq_true rfl) (Nat.le_refl _) (Nat.le_refl _) rfl (zp_X5_pick_3 (bk_ma100 hk) k1 H2 (by omega) (by omega) (fun  h20 f21 p22 p23 p24 => ?_))
          have k25 := bk_q (frm_s f21) hk
          have k26 := lk_q (frm_s f21) k1
          have H27 := clsT_c f21 (fun a k q1 q2 => by omega) HX
          have H28 := isF_c f21 (fun a k q1 q2 => by omega) H2
          have FR29 := frm_t FR0 (frm_m (S' := (fun a i => x + 56 ≤ a ∧ a < x + 157)) f21 (fun a k q => by omega))
          obtain ⟨r, MR, RR⟩ := p24
          refine e_iload_n dX11_row_54 rfl ?_
          refine z_iconst (-1) dX11_row_55 rfl ?_
          refine z_icmp_ne 69 dX11_row_56 rfl ⟨by omega, by omega⟩ ⟨by omega, by omega⟩ (fun c30 => ?_) (fun c30 => ?_)
          · skip
            refine e_aload_n dX11_row_69 rfl ?_
            refine e_get (.ref (x + 100)) dX11_row_70 tf_11_37 (congrArg Prod.fst (bk_s0 k25)) (congrArg va_rf (bk_r0_4 k25)) ?_
            refine e_iload_n dX11_row_73 rfl ?_
            refine e_callV [.int _] dX11_row_74 tm_11_148 rfl (Nat.le_of_ble_eq_true rfl) (congrArg Prod.fst (bk_s100 k25)) (Nat.le_of_ble_eq_true rfl) (Nat.le_refl _) (Nat.le_refl _) rfl (zp_X5_upOf (bk_ma100 k25) MR k ⟨by omega, by omega⟩ (by omega) ?_)
            refine z_iret dX11_row_77 rfl ⟨rfl, ?_⟩
            refine kq _ ?_ _ FR29
            first | (exfalso; omega) | exact Or.inr ⟨by omega, rfl⟩ | exact Or.inl ⟨by omega, r, RR, by rw [if_pos (by omega)]⟩ | exact Or.inl ⟨by omega, r, RR, by rw [if_neg (by omega)]⟩
          · skip
            refine e_aload_n dX11_row_59 rfl ?_
            refine e_get (.ref (x + 100)) dX11_row_60 tf_11_37 (congrArg Prod.fst (bk_s0 k25)) (congrArg va_rf (bk_r0_4 k25)) ?_
            refine e_callV [] dX11_row_63 tm_11_145 rfl (Nat.le_of_ble_eq_true rfl) (congrArg Prod.fst (bk_s100 k25)) (Nat.le_of_ble_eq_true rfl) (Nat.le_refl _) (Nat.le_refl _) rfl (zp_X5_couples (bk_ma100 k25) p22 MR ?_)
            have y31 := inR_b r
            refine e_goto 77 dX11_row_66 rfl ?_
            refine z_iret dX11_row_77 rfl ⟨rfl, ?_⟩
            refine kq _ ?_ _ FR29
            first | (exfalso; omega) | exact Or.inr ⟨by omega, rfl⟩ | exact Or.inl ⟨by omega, r, RR, by rw [if_pos (by omega)]⟩ | exact Or.inl ⟨by omega, r, RR, by rw [if_neg (by omega)]⟩
        · skip
          refine z_iconst (-1) dX11_row_42 rfl ?_
          refine z_iret dX11_row_43 rfl ⟨rfl, ?_⟩
          refine kq _ ?_ _ FR0
          first | (exfalso; omega) | exact Or.inr ⟨by omega, rfl⟩ | exact Or.inl ⟨by omega, r, RR, by rw [if_pos (by omega)]⟩ | exact Or.inl ⟨by omega, r, RR, by rw [if_neg (by omega)]⟩
set_option maxHeartbeats 1000000 in
theorem zp_X11_moves_3 {ad : mA} {dd : Nat} {h : mH} {Q : mQ} {x : Nat} {σ : Sg} (hk : bk h x) (HX : clsT h (x + 1) σ)  (f : Int) (f_r : -2147483648 ≤ f ∧ f < 2147483648) (p : Prop) [Decidable p] (p1 : 0 ≤ f) (p2 : f < cn σ 0) (kq : ∀ v : Int, (∃ r, rwR (sG σ f) 3 r ∧ v = if p then mvR (sG σ f) r else mvP (sG σ f) r) → ∀ h1, frm (fun a i => x + 56 ≤ a ∧ a < x + 157) h h1 → Q (some (.int (zI v))) h1) : mCal TB0 ad (dd + 6) M_X11_moves [.ref x, .int (zI f), .int (zI 3), .int (zI (bZ p))] h 0 0 Q := by
  refine ⟨Nat.le_of_ble_eq_true rfl, ?_⟩
  show mEv TB0 ad M_X11_moves (dd + 6) (0, 0) (mCal TB0 ad (dd + 5)) (fun v h' z => z.1 = 0 ∧ Q v h') 0 [some (.ref x), some (.int (zI f)), some (.int (zI 3)), some (.int (zI (bZ p))), none] [] h (0, 0)
  have FR0 : frm (fun a i => x + 56 ≤ a ∧ a < x + 157) h h := frm_0 h
  have w1 := wS_n (clsT_w HX)
  have W := (clsT_w HX).2.2.1 f p1 p2
  have nW : (0 ≤ nd (sG σ f) ∧ nd (sG σ f) ≤ 6) ∧ (0 ≤ nu (sG σ f) ∧ nu (sG σ f) ≤ 6) := ⟨W.1.1, W.1.2.1⟩
  refine e_aload_n dX11_moves_0 rfl ?_
  refine e_get (.ref (x + 1)) dX11_moves_1 tf_11_10 (congrArg Prod.fst (bk_s0 hk)) (congrArg va_rf (bk_r0_0 hk)) ?_
  refine e_iload_n dX11_moves_4 rfl ?_
  refine e_callV [.int _] dX11_moves_5 tm_11_94 rfl (Nat.le_of_ble_eq_true rfl) (congrArg Prod.fst (bk_s1 hk)) (Nat.le_of_ble_eq_true rfl) (Nat.le_refl _) (Nat.le_refl _) rfl (zp_X8_forgeAt_in (bk_td1 hk) HX f ⟨by omega, by omega⟩ (by omega) (by omega) ?_)
  have k1 := fAt_k (bk_td1 hk) f
  have H2 := clsT_F HX (show 0 ≤ f by omega) (by omega)
  have y3 := fAt_b (x + 1) f
  refine e_astore (L' := [_, _, _, _, _]) dX11_moves_8 (Nat.le_of_ble_eq_true rfl) rfl ?_
  refine e_aload dX11_moves_10 rfl ?_
  refine e_ifnull 25 dX11_moves_12 rfl ?_
  refine e_iload_n dX11_moves_15 rfl ?_
  refine z_iconst (1) dX11_moves_16 rfl ?_
  refine z_icmp_lt 25 dX11_moves_17 rfl ⟨by omega, by omega⟩ ⟨by omega, by omega⟩ (fun c4 => ?_) (fun c4 => ?_)
  · exfalso; omega
  · skip
    refine e_iload_n dX11_moves_20 rfl ?_
    refine z_iconst (5) dX11_moves_21 rfl ?_
    refine z_icmp_le 27 dX11_moves_22 rfl ⟨by omega, by omega⟩ ⟨by omega, by omega⟩ (fun c5 => ?_) (fun c5 => ?_)
    · skip
      refine e_aload_n dX11_moves_27 rfl ?_
      refine e_get (.ref (x + 100)) dX11_moves_28 tf_11_37 (congrArg Prod.fst (bk_s0 hk)) (congrArg va_rf (bk_r0_4 hk)) ?_
      refine e_aload dX11_moves_31 rfl ?_
      refine e_iload_n dX11_moves_33 rfl ?_
      refine e_callV [.ref _, .int _] dX11_moves_34 tm_11_127 rfl (Nat.le_of_ble_eq_true rfl) (congrArg Prod.fst (bk_s100 hk)) (Nat.le_of_ble_eq_true rfl) (Nat.le_refl _) (Nat.le_refl _) rfl (zp_X5_pick_3 (bk_ma100 hk) k1 H2 (by omega) (by omega) (fun  h6 f7 p8 p9 p10 => ?_))
      have k11 := bk_q (frm_s f7) hk
      have k12 := lk_q (frm_s f7) k1
      have H13 := clsT_c f7 (fun a k q1 q2 => by omega) HX
      have H14 := isF_c f7 (fun a k q1 q2 => by omega) H2
      have FR15 := frm_t FR0 (frm_m (S' := (fun a i => x + 56 ≤ a ∧ a < x + 157)) f7 (fun a k q => by omega))
      obtain ⟨r, MR, RR⟩ := p10
      refine e_iload_n dX11_moves_37 rfl ?_
      refine z_ifb_eq 51 dX11_moves_38 rfl (fun c16 => ?_) (fun c16 => ?_)
      · skip
        refine e_aload_n dX11_moves_51 rfl ?_
        refine e_get (.ref (x + 100)) dX11_moves_52 tf_11_37 (congrArg Prod.fst (bk_s0 k11)) (congrArg va_rf (bk_r0_4 k11)) ?_
        refine e_callV [] dX11_moves_55 tm_11_266 rfl (Nat.le_of_ble_eq_true rfl) (congrArg Prod.fst (bk_s100 k11)) (Nat.le_of_ble_eq_true rfl) (Nat.le_refl _) (Nat.le_refl _) rfl (zp_X5_toPart (bk_ma100 k11) p8 p9 MR ?_)
        refine z_iret dX11_moves_58 rfl ⟨rfl, ?_⟩
        refine kq _ ?_ _ FR15
        first | exact ⟨r, RR, by rw [if_pos (by assumption)]⟩ | exact ⟨r, RR, by rw [if_neg (by assumption)]⟩
      · skip
        refine e_aload_n dX11_moves_41 rfl ?_
        refine e_get (.ref (x + 100)) dX11_moves_42 tf_11_37 (congrArg Prod.fst (bk_s0 k11)) (congrArg va_rf (bk_r0_4 k11)) ?_
        refine e_callV [] dX11_moves_45 tm_11_263 rfl (Nat.le_of_ble_eq_true rfl) (congrArg Prod.fst (bk_s100 k11)) (Nat.le_of_ble_eq_true rfl) (Nat.le_refl _) (Nat.le_refl _) rfl (zp_X5_toRivet (bk_ma100 k11) p8 p9 MR ?_)
        refine e_goto 58 dX11_moves_48 rfl ?_
        refine z_iret dX11_moves_58 rfl ⟨rfl, ?_⟩
        refine kq _ ?_ _ FR15
        first | exact ⟨r, RR, by rw [if_pos (by assumption)]⟩ | exact ⟨r, RR, by rw [if_neg (by assumption)]⟩
    · exfalso; omega
set_option maxHeartbeats 1000000 in
theorem zp_X11_leaving_4 {ad : mA} {dd : Nat} {h : mH} {Q : mQ} {x : Nat} {σ : Sg} (hk : bk h x) (HX : clsT h (x + 1) σ)  (f : Int) (f_r : -2147483648 ≤ f ∧ f < 2147483648) (p1 : 0 ≤ f) (p2 : f < cn σ 0) (kq : ∀ v : Int, (∃ r, rwR (sG σ f) 4 r ∧ v = lvN (sG σ f) r) → ∀ h1, frm (fun a i => x + 56 ≤ a ∧ a < x + 157) h h1 → Q (some (.int (zI v))) h1) : mCal TB0 ad (dd + 6) M_X11_leaving [.ref x, .int (zI f), .int (zI 4)] h 0 0 Q := by
  refine ⟨Nat.le_of_ble_eq_true rfl, ?_⟩
  show mEv TB0 ad M_X11_leaving (dd + 6) (0, 0) (mCal TB0 ad (dd + 5)) (fun v h' z => z.1 = 0 ∧ Q v h') 0 [some (.ref x), some (.int (zI f)), some (.int (zI 4)), none] [] h (0, 0)
  have FR0 : frm (fun a i => x + 56 ≤ a ∧ a < x + 157) h h := frm_0 h
  have w1 := wS_n (clsT_w HX)
  have W := (clsT_w HX).2.2.1 f p1 p2
  have nW : (0 ≤ nd (sG σ f) ∧ nd (sG σ f) ≤ 6) ∧ (0 ≤ nu (sG σ f) ∧ nu (sG σ f) ≤ 6) := ⟨W.1.1, W.1.2.1⟩
  refine e_aload_n dX11_leaving_0 rfl ?_
  refine e_get (.ref (x + 1)) dX11_leaving_1 tf_11_10 (congrArg Prod.fst (bk_s0 hk)) (congrArg va_rf (bk_r0_0 hk)) ?_
  refine e_iload_n dX11_leaving_4 rfl ?_
  refine e_callV [.int _] dX11_leaving_5 tm_11_94 rfl (Nat.le_of_ble_eq_true rfl) (congrArg Prod.fst (bk_s1 hk)) (Nat.le_of_ble_eq_true rfl) (Nat.le_refl _) (Nat.le_refl _) rfl (zp_X8_forgeAt_in (bk_td1 hk) HX f ⟨by omega, by omega⟩ (by omega) (by omega) ?_)
  have k1 := fAt_k (bk_td1 hk) f
  have H2 := clsT_F HX (show 0 ≤ f by omega) (by omega)
  have y3 := fAt_b (x + 1) f
  refine e_astore_n (L' := [_, _, _, _]) dX11_leaving_8 (Nat.le_of_ble_eq_true rfl) rfl ?_
  refine e_aload_n dX11_leaving_9 rfl ?_
  refine e_ifnull 22 dX11_leaving_10 rfl ?_
  refine e_iload_n dX11_leaving_13 rfl ?_
  refine z_if_lt 22 dX11_leaving_14 rfl ⟨by omega, by omega⟩ (fun c4 => ?_) (fun c4 => ?_)
  · exfalso; omega
  · skip
    refine e_iload_n dX11_leaving_17 rfl ?_
    refine z_iconst (5) dX11_leaving_18 rfl ?_
    refine z_icmp_le 24 dX11_leaving_19 rfl ⟨by omega, by omega⟩ ⟨by omega, by omega⟩ (fun c5 => ?_) (fun c5 => ?_)
    · skip
      refine e_aload_n dX11_leaving_24 rfl ?_
      refine e_get (.ref (x + 100)) dX11_leaving_25 tf_11_37 (congrArg Prod.fst (bk_s0 hk)) (congrArg va_rf (bk_r0_4 hk)) ?_
      refine e_aload_n dX11_leaving_28 rfl ?_
      refine e_iload_n dX11_leaving_29 rfl ?_
      refine e_callV [.ref _, .int _] dX11_leaving_30 tm_11_127 rfl (Nat.le_of_ble_eq_true rfl) (congrArg Prod.fst (bk_s100 hk)) (Nat.le_of_ble_eq_true rfl) (Nat.le_refl _) (Nat.le_refl _) rfl (zp_X5_pick_4 (bk_ma100 hk) k1 H2 (by omega) (by omega) (fun  h6 f7 p8 p9 p10 => ?_))
      have k11 := bk_q (frm_s f7) hk
      have k12 := lk_q (frm_s f7) k1
      have H13 := clsT_c f7 (fun a k q1 q2 => by omega) HX
      have H14 := isF_c f7 (fun a k q1 q2 => by omega) H2
      have FR15 := frm_t FR0 (frm_m (S' := (fun a i => x + 56 ≤ a ∧ a < x + 157)) f7 (fun a k q => by omega))
      obtain ⟨r, MR, RR⟩ := p10
      refine e_aload_n dX11_leaving_33 rfl ?_
      refine e_get (.ref (x + 100)) dX11_leaving_34 tf_11_37 (congrArg Prod.fst (bk_s0 k11)) (congrArg va_rf (bk_r0_4 k11)) ?_
      refine e_callV [] dX11_leaving_37 tm_11_131 rfl (Nat.le_of_ble_eq_true rfl) (congrArg Prod.fst (bk_s100 k11)) (Nat.le_of_ble_eq_true rfl) (Nat.le_refl _) (Nat.le_refl _) rfl (zp_X5_leavingCouples (bk_ma100 k11) p8 p9 MR ?_)
      have y16 := lvN_b (show (0 ≤ nd (sG σ f) ∧ nd (sG σ f) ≤ 6) ∧ (0 ≤ nu (sG σ f) ∧ nu (sG σ f) ≤ 6) by omega) r
      refine z_iret dX11_leaving_40 rfl ⟨rfl, ?_⟩
      refine kq _ ?_ _ FR15
      exact ⟨r, RR, rfl⟩
    · exfalso; omega
set_option maxHeartbeats 1000000 in
theorem zp_X11_row_4 {ad : mA} {dd : Nat} {h : mH} {Q : mQ} {x : Nat} {σ : Sg} (hk : bk h x) (HX : clsT h (x + 1) σ)  (f : Int) (f_r : -2147483648 ≤ f ∧ f < 2147483648) (k : Int) (k_r : -2147483648 ≤ k ∧ k < 2147483648) (p1 : 0 ≤ f) (p2 : f < cn σ 0) (kq : ∀ v : Int, (((-1 ≤ k ∧ k < nd (sG σ f)) ∧ ∃ r, rwR (sG σ f) 4 r ∧ v = if k = -1 then inR r else r k) ∨ (¬ (-1 ≤ k ∧ k < nd (sG σ f)) ∧ v = -1)) → ∀ h1, frm (fun a i => x + 56 ≤ a ∧ a < x + 157) h h1 → Q (some (.int (zI v))) h1) : mCal TB0 ad (dd + 6) M_X11_row [.ref x, .int (zI f), .int (zI 4), .int (zI k)] h 0 0 Q := by
  refine ⟨Nat.le_of_ble_eq_true rfl, ?_⟩
  show mEv TB0 ad M_X11_row (dd + 6) (0, 0) (mCal TB0 ad (dd + 5)) (fun v h' z => z.1 = 0 ∧ Q v h') 0 [some (.ref x), some (.int (zI f)), some (.int (zI 4)), some (.int (zI k)), none] [] h (0, 0)
  have FR0 : frm (fun a i => x + 56 ≤ a ∧ a < x + 157) h h := frm_0 h
  have w1 := wS_n (clsT_w HX)
  have W := (clsT_w HX).2.2.1 f p1 p2
  have nW : (0 ≤ nd (sG σ f) ∧ nd (sG σ f) ≤ 6) ∧ (0 ≤ nu (sG σ f) ∧ nu (sG σ f) ≤ 6) := ⟨W.1.1, W.1.2.1⟩
  refine e_aload_n dX11_row_0 rfl ?_
  refine e_get (.ref (x + 1)) dX11_row_1 tf_11_10 (congrArg Prod.fst (bk_s0 hk)) (congrArg va_rf (bk_r0_0 hk)) ?_
  refine e_iload_n dX11_row_4 rfl ?_
  refine e_callV [.int _] dX11_row_5 tm_11_94 rfl (Nat.le_of_ble_eq_true rfl) (congrArg Prod.fst (bk_s1 hk)) (Nat.le_of_ble_eq_true rfl) (Nat.le_refl _) (Nat.le_refl _) rfl (zp_X8_forgeAt_in (bk_td1 hk) HX f ⟨by omega, by omega⟩ (by omega) (by omega) ?_)
  have k1 := fAt_k (bk_td1 hk) f
  have H2 := clsT_F HX (show 0 ≤ f by omega) (by omega)
  have y3 := fAt_b (x + 1) f
  refine e_astore (L' := [_, _, _, _, _]) dX11_row_8 (Nat.le_of_ble_eq_true rfl) rfl ?_
  refine e_aload dX11_row_10 rfl ?_
  refine e_ifnull 42 dX11_row_12 rfl ?_
  have v1 := isF_n H2
  have v2 := isF_nd H2
  have v3 := isF_nu H2
  refine e_iload_n dX11_row_15 rfl ?_
  refine z_iconst (1) dX11_row_16 rfl ?_
  refine z_icmp_lt 42 dX11_row_17 rfl ⟨by omega, by omega⟩ ⟨by omega, by omega⟩ (fun c4 => ?_) (fun c4 => ?_)
  · exfalso; omega
  · skip
    refine e_iload_n dX11_row_20 rfl ?_
    refine z_iconst (5) dX11_row_21 rfl ?_
    refine z_icmp_gt 42 dX11_row_22 rfl ⟨by omega, by omega⟩ ⟨by omega, by omega⟩ (fun c5 => ?_) (fun c5 => ?_)
    · exfalso; omega
    · skip
      refine e_iload_n dX11_row_25 rfl ?_
      refine z_iconst (-1) dX11_row_26 rfl ?_
      refine z_icmp_eq 44 dX11_row_27 rfl ⟨by omega, by omega⟩ ⟨by omega, by omega⟩ (fun c6 => ?_) (fun c6 => ?_)
      · skip
        refine e_aload_n dX11_row_44 rfl ?_
        refine e_get (.ref (x + 100)) dX11_row_45 tf_11_37 (congrArg Prod.fst (bk_s0 hk)) (congrArg va_rf (bk_r0_4 hk)) ?_
        refine e_aload dX11_row_48 rfl ?_
        refine e_iload_n dX11_row_50 rfl ?_
        refine e_callV [.ref _, .int _] dX11_row_51 tm_11_127 rfl (Nat.le_of_ble_eq_true rfl) (congrArg Prod.fst (bk_s100 hk)) (Nat.le_of_ble_eq_true rfl) (Nat.le_refl _) (Nat.le_refl _) rfl (zp_X5_pick_4 (bk_ma100 hk) k1 H2 (by omega) (by omega) (fun  h7 f8 p9 p10 p11 => ?_))
        have k12 := bk_q (frm_s f8) hk
        have k13 := lk_q (frm_s f8) k1
        have H14 := clsT_c f8 (fun a k q1 q2 => by omega) HX
        have H15 := isF_c f8 (fun a k q1 q2 => by omega) H2
        have FR16 := frm_t FR0 (frm_m (S' := (fun a i => x + 56 ≤ a ∧ a < x + 157)) f8 (fun a k q => by omega))
        obtain ⟨r, MR, RR⟩ := p11
        refine e_iload_n dX11_row_54 rfl ?_
        refine z_iconst (-1) dX11_row_55 rfl ?_
        refine z_icmp_ne 69 dX11_row_56 rfl ⟨by omega, by omega⟩ ⟨by omega, by omega⟩ (fun c17 => ?_) (fun c17 => ?_)
        · skip
          refine e_aload_n dX11_row_69 rfl ?_
          refine e_get (.ref (x + 100)) dX11_row_70 tf_11_37 (congrArg Prod.fst (bk_s0 k12)) (congrArg va_rf (bk_r0_4 k12)) ?_
          refine e_iload_n dX11_row_73 rfl ?_
          refine e_callV [.int _] dX11_row_74 tm_11_148 rfl (Nat.le_of_ble_eq_true rfl) (congrArg Prod.fst (bk_s100 k12)) (Nat.le_of_ble_eq_true rfl) (Nat.le_refl _) (Nat.le_refl _) rfl (zp_X5_upOf (bk_ma100 k12) MR k ⟨by omega, by omega⟩ (by omega) ?_)
          refine z_iret dX11_row_77 rfl ⟨rfl, ?_⟩
          refine kq _ ?_ _ FR16
          first | (exfalso; omega) | exact Or.inr ⟨by omega, rfl⟩ | exact Or.inl ⟨by omega, r, RR, by rw [if_pos (by omega)]⟩ | exact Or.inl ⟨by omega, r, RR, by rw [if_neg (by omega)]⟩
        · skip
          refine e_aload_n dX11_row_59 rfl ?_
          refine e_get (.ref (x + 100)) dX11_row_60 tf_11_37 (congrArg Prod.fst (bk_s0 k12)) (congrArg va_rf (bk_r0_4 k12)) ?_
          refine e_callV [] dX11_row_63 tm_11_145 rfl (Nat.le_of_ble_eq_true rfl) (congrArg Prod.fst (bk_s100 k12)) (Nat.le_of_ble_eq_true rfl) (Nat.le_refl _) (Nat.le_refl _) rfl (zp_X5_couples (bk_ma100 k12) p9 MR ?_)
          have y18 := inR_b r
          refine e_goto 77 dX11_row_66 rfl ?_
          refine z_iret dX11_row_77 rfl ⟨rfl, ?_⟩
          refine kq _ ?_ _ FR16
          first | (exfalso; omega) | exact Or.inr ⟨by omega, rfl⟩ | exact Or.inl ⟨by omega, r, RR, by rw [if_pos (by omega)]⟩ | exact Or.inl ⟨by omega, r, RR, by rw [if_neg (by omega)]⟩
      · skip
        refine e_aload dX11_row_30 rfl ?_
        refine e_get (.ref ((fAt (x + 1) f) + 1)) dX11_row_32 tf_11_135 (congrArg Prod.fst (fg_s0 k1)) (congrArg va_rf (fg_r0_0 k1)) ?_
        refine e_iload_n dX11_row_35 rfl ?_
        refine e_callV [.int _] dX11_row_36 tm_11_139 rfl (Nat.le_of_ble_eq_true rfl) (congrArg Prod.fst (fg_s1 k1)) (Nat.le_of_ble_eq_true rfl) (Nat.le_refl _) (Nat.le_refl _) rfl (zp_X0_has (fg_bl1 k1) k ⟨by omega, by omega⟩ ?_)
        refine z_ifb_ne 44 dX11_row_39 rfl (fun c19 => ?_) (fun c19 => ?_)
        · skip
          refine e_aload_n dX11_row_44 rfl ?_
          refine e_get (.ref (x + 100)) dX11_row_45 tf_11_37 (congrArg Prod.fst (bk_s0 hk)) (congrArg va_rf (bk_r0_4 hk)) ?_
          refine e_aload dX11_row_48 rfl ?_
          refine e_iload_n dX11_row_50 rfl ?_
          refine e_callV [.ref _, .int _] dX11_row_51 tm_11_127 rfl (Nat.le_of_ble_eq_true rfl) (congrArg Prod.fst (bk_s100 hk)) (Nat.le_of_ble_eq_true rfl) (Nat.le_refl _) (Nat.le_refl _) rfl (zp_X5_pick_4 (bk_ma100 hk) k1 H2 (by omega) (by omega) (fun  h20 f21 p22 p23 p24 => ?_))
          have k25 := bk_q (frm_s f21) hk
          have k26 := lk_q (frm_s f21) k1
          have H27 := clsT_c f21 (fun a k q1 q2 => by omega) HX
          have H28 := isF_c f21 (fun a k q1 q2 => by omega) H2
          have FR29 := frm_t FR0 (frm_m (S' := (fun a i => x + 56 ≤ a ∧ a < x + 157)) f21 (fun a k q => by omega))
          obtain ⟨r, MR, RR⟩ := p24
          refine e_iload_n dX11_row_54 rfl ?_
          refine z_iconst (-1) dX11_row_55 rfl ?_
          refine z_icmp_ne 69 dX11_row_56 rfl ⟨by omega, by omega⟩ ⟨by omega, by omega⟩ (fun c30 => ?_) (fun c30 => ?_)
          · skip
            refine e_aload_n dX11_row_69 rfl ?_
            refine e_get (.ref (x + 100)) dX11_row_70 tf_11_37 (congrArg Prod.fst (bk_s0 k25)) (congrArg va_rf (bk_r0_4 k25)) ?_
            refine e_iload_n dX11_row_73 rfl ?_
            refine e_callV [.int _] dX11_row_74 tm_11_148 rfl (Nat.le_of_ble_eq_true rfl) (congrArg Prod.fst (bk_s100 k25)) (Nat.le_of_ble_eq_true rfl) (Nat.le_refl _) (Nat.le_refl _) rfl (zp_X5_upOf (bk_ma100 k25) MR k ⟨by omega, by omega⟩ (by omega) ?_)
            refine z_iret dX11_row_77 rfl ⟨rfl, ?_⟩
            refine kq _ ?_ _ FR29
            first | (exfalso; omega) | exact Or.inr ⟨by omega, rfl⟩ | exact Or.inl ⟨by omega, r, RR, by rw [if_pos (by omega)]⟩ | exact Or.inl ⟨by omega, r, RR, by rw [if_neg (by omega)]⟩
          · skip
            refine e_aload_n dX11_row_59 rfl ?_
            refine e_get (.ref (x + 100)) dX11_row_60 tf_11_37 (congrArg Prod.fst (bk_s0 k25)) (congrArg va_rf (bk_r0_4 k25)) ?_
            refine e_callV [] dX11_row_63 tm_11_145 rfl (Nat.le_of_ble_eq_true rfl) (congrArg Prod.fst (bk_s100 k25)) (Nat.le_of_ble_eq_true rfl) (Nat.le_refl _) (Nat.le_refl _) rfl (zp_X5_couples (bk_ma100 k25) p22 MR ?_)
            have y31 := inR_b r
            refine e_goto 77 dX11_row_66 rfl ?_
            refine z_iret dX11_row_77 rfl ⟨rfl, ?_⟩
            refine kq _ ?_ _ FR29
            first | (exfalso; omega) | exact Or.inr ⟨by omega, rfl⟩ | exact Or.inl ⟨by omega, r, RR, by rw [if_pos (by omega)]⟩ | exact Or.inl ⟨by omega, r, RR, by rw [if_neg (by omega)]⟩
        · skip
          refine z_iconst (-1) dX11_row_42 rfl ?_
          refine z_iret dX11_row_43 rfl ⟨rfl, ?_⟩
          refine kq _ ?_ _ FR0
          first | (exfalso; omega) | exact Or.inr ⟨by omega, rfl⟩ | exact Or.inl ⟨by omega, r, RR, by rw [if_pos (by omega)]⟩ | exact Or.inl ⟨by omega, r, RR, by rw [if_neg (by omega)]⟩
set_option maxHeartbeats 1000000 in
theorem zp_X11_moves_4 {ad : mA} {dd : Nat} {h : mH} {Q : mQ} {x : Nat} {σ : Sg} (hk : bk h x) (HX : clsT h (x + 1) σ)  (f : Int) (f_r : -2147483648 ≤ f ∧ f < 2147483648) (p : Prop) [Decidable p] (p1 : 0 ≤ f) (p2 : f < cn σ 0) (kq : ∀ v : Int, (∃ r, rwR (sG σ f) 4 r ∧ v = if p then mvR (sG σ f) r else mvP (sG σ f) r) → ∀ h1, frm (fun a i => x + 56 ≤ a ∧ a < x + 157) h h1 → Q (some (.int (zI v))) h1) : mCal TB0 ad (dd + 6) M_X11_moves [.ref x, .int (zI f), .int (zI 4), .int (zI (bZ p))] h 0 0 Q := by
  refine ⟨Nat.le_of_ble_eq_true rfl, ?_⟩
  show mEv TB0 ad M_X11_moves (dd + 6) (0, 0) (mCal TB0 ad (dd + 5)) (fun v h' z => z.1 = 0 ∧ Q v h') 0 [some (.ref x), some (.int (zI f)), some (.int (zI 4)), some (.int (zI (bZ p))), none] [] h (0, 0)
  have FR0 : frm (fun a i => x + 56 ≤ a ∧ a < x + 157) h h := frm_0 h
  have w1 := wS_n (clsT_w HX)
  have W := (clsT_w HX).2.2.1 f p1 p2
  have nW : (0 ≤ nd (sG σ f) ∧ nd (sG σ f) ≤ 6) ∧ (0 ≤ nu (sG σ f) ∧ nu (sG σ f) ≤ 6) := ⟨W.1.1, W.1.2.1⟩
  refine e_aload_n dX11_moves_0 rfl ?_
  refine e_get (.ref (x + 1)) dX11_moves_1 tf_11_10 (congrArg Prod.fst (bk_s0 hk)) (congrArg va_rf (bk_r0_0 hk)) ?_
  refine e_iload_n dX11_moves_4 rfl ?_
  refine e_callV [.int _] dX11_moves_5 tm_11_94 rfl (Nat.le_of_ble_eq_true rfl) (congrArg Prod.fst (bk_s1 hk)) (Nat.le_of_ble_eq_true rfl) (Nat.le_refl _) (Nat.le_refl _) rfl (zp_X8_forgeAt_in (bk_td1 hk) HX f ⟨by omega, by omega⟩ (by omega) (by omega) ?_)
  have k1 := fAt_k (bk_td1 hk) f
  have H2 := clsT_F HX (show 0 ≤ f by omega) (by omega)
  have y3 := fAt_b (x + 1) f
  refine e_astore (L' := [_, _, _, _, _]) dX11_moves_8 (Nat.le_of_ble_eq_true rfl) rfl ?_
  refine e_aload dX11_moves_10 rfl ?_
  refine e_ifnull 25 dX11_moves_12 rfl ?_
  refine e_iload_n dX11_moves_15 rfl ?_
  refine z_iconst (1) dX11_moves_16 rfl ?_
  refine z_icmp_lt 25 dX11_moves_17 rfl ⟨by omega, by omega⟩ ⟨by omega, by omega⟩ (fun c4 => ?_) (fun c4 => ?_)
  · exfalso; omega
  · skip
    refine e_iload_n dX11_moves_20 rfl ?_
    refine z_iconst (5) dX11_moves_21 rfl ?_
    refine z_icmp_le 27 dX11_moves_22 rfl ⟨by omega, by omega⟩ ⟨by omega, by omega⟩ (fun c5 => ?_) (fun c5 => ?_)
    · skip
      refine e_aload_n dX11_moves_27 rfl ?_
      refine e_get (.ref (x + 100)) dX11_moves_28 tf_11_37 (congrArg Prod.fst (bk_s0 hk)) (congrArg va_rf (bk_r0_4 hk)) ?_
      refine e_aload dX11_moves_31 rfl ?_
      refine e_iload_n dX11_moves_33 rfl ?_
      refine e_callV [.ref _, .int _] dX11_moves_34 tm_11_127 rfl (Nat.le_of_ble_eq_true rfl) (congrArg Prod.fst (bk_s100 hk)) (Nat.le_of_ble_eq_true rfl) (Nat.le_refl _) (Nat.le_refl _) rfl (zp_X5_pick_4 (bk_ma100 hk) k1 H2 (by omega) (by omega) (fun  h6 f7 p8 p9 p10 => ?_))
      have k11 := bk_q (frm_s f7) hk
      have k12 := lk_q (frm_s f7) k1
      have H13 := clsT_c f7 (fun a k q1 q2 => by omega) HX
      have H14 := isF_c f7 (fun a k q1 q2 => by omega) H2
      have FR15 := frm_t FR0 (frm_m (S' := (fun a i => x + 56 ≤ a ∧ a < x + 157)) f7 (fun a k q => by omega))
      obtain ⟨r, MR, RR⟩ := p10
      refine e_iload_n dX11_moves_37 rfl ?_
      refine z_ifb_eq 51 dX11_moves_38 rfl (fun c16 => ?_) (fun c16 => ?_)
      · skip
        refine e_aload_n dX11_moves_51 rfl ?_
        refine e_get (.ref (x + 100)) dX11_moves_52 tf_11_37 (congrArg Prod.fst (bk_s0 k11)) (congrArg va_rf (bk_r0_4 k11)) ?_
        refine e_callV [] dX11_moves_55 tm_11_266 rfl (Nat.le_of_ble_eq_true rfl) (congrArg Prod.fst (bk_s100 k11)) (Nat.le_of_ble_eq_true rfl) (Nat.le_refl _) (Nat.le_refl _) rfl (zp_X5_toPart (bk_ma100 k11) p8 p9 MR ?_)
        refine z_iret dX11_moves_58 rfl ⟨rfl, ?_⟩
        refine kq _ ?_ _ FR15
        first | exact ⟨r, RR, by rw [if_pos (by assumption)]⟩ | exact ⟨r, RR, by rw [if_neg (by assumption)]⟩
      · skip
        refine e_aload_n dX11_moves_41 rfl ?_
        refine e_get (.ref (x + 100)) dX11_moves_42 tf_11_37 (congrArg Prod.fst (bk_s0 k11)) (congrArg va_rf (bk_r0_4 k11)) ?_
        refine e_callV [] dX11_moves_45 tm_11_263 rfl (Nat.le_of_ble_eq_true rfl) (congrArg Prod.fst (bk_s100 k11)) (Nat.le_of_ble_eq_true rfl) (Nat.le_refl _) (Nat.le_refl _) rfl (zp_X5_toRivet (bk_ma100 k11) p8 p9 MR ?_)
        refine e_goto 58 dX11_moves_48 rfl ?_
        refine z_iret dX11_moves_58 rfl ⟨rfl, ?_⟩
        refine kq _ ?_ _ FR15
        first | exact ⟨r, RR, by rw [if_pos (by assumption)]⟩ | exact ⟨r, RR, by rw [if_neg (by assumption)]⟩
    · exfalso; omega
set_option maxHeartbeats 1000000 in
theorem zp_X11_leaving_5 {ad : mA} {dd : Nat} {h : mH} {Q : mQ} {x : Nat} {σ : Sg} (hk : bk h x) (HX : clsT h (x + 1) σ)  (f : Int) (f_r : -2147483648 ≤ f ∧ f < 2147483648) (p1 : 0 ≤ f) (p2 : f < cn σ 0) (kq : ∀ v : Int, (∃ r, rwR (sG σ f) 5 r ∧ v = lvN (sG σ f) r) → ∀ h1, frm (fun a i => x + 56 ≤ a ∧ a < x + 157) h h1 → Q (some (.int (zI v))) h1) : mCal TB0 ad (dd + 6) M_X11_leaving [.ref x, .int (zI f), .int (zI 5)] h 0 0 Q := by
  refine ⟨Nat.le_of_ble_eq_true rfl, ?_⟩
  show mEv TB0 ad M_X11_leaving (dd + 6) (0, 0) (mCal TB0 ad (dd + 5)) (fun v h' z => z.1 = 0 ∧ Q v h') 0 [some (.ref x), some (.int (zI f)), some (.int (zI 5)), none] [] h (0, 0)
  have FR0 : frm (fun a i => x + 56 ≤ a ∧ a < x + 157) h h := frm_0 h
  have w1 := wS_n (clsT_w HX)
  have W := (clsT_w HX).2.2.1 f p1 p2
  have nW : (0 ≤ nd (sG σ f) ∧ nd (sG σ f) ≤ 6) ∧ (0 ≤ nu (sG σ f) ∧ nu (sG σ f) ≤ 6) := ⟨W.1.1, W.1.2.1⟩
  refine e_aload_n dX11_leaving_0 rfl ?_
  refine e_get (.ref (x + 1)) dX11_leaving_1 tf_11_10 (congrArg Prod.fst (bk_s0 hk)) (congrArg va_rf (bk_r0_0 hk)) ?_
  refine e_iload_n dX11_leaving_4 rfl ?_
  refine e_callV [.int _] dX11_leaving_5 tm_11_94 rfl (Nat.le_of_ble_eq_true rfl) (congrArg Prod.fst (bk_s1 hk)) (Nat.le_of_ble_eq_true rfl) (Nat.le_refl _) (Nat.le_refl _) rfl (zp_X8_forgeAt_in (bk_td1 hk) HX f ⟨by omega, by omega⟩ (by omega) (by omega) ?_)
  have k1 := fAt_k (bk_td1 hk) f
  have H2 := clsT_F HX (show 0 ≤ f by omega) (by omega)
  have y3 := fAt_b (x + 1) f
  refine e_astore_n (L' := [_, _, _, _]) dX11_leaving_8 (Nat.le_of_ble_eq_true rfl) rfl ?_
  refine e_aload_n dX11_leaving_9 rfl ?_
  refine e_ifnull 22 dX11_leaving_10 rfl ?_
  refine e_iload_n dX11_leaving_13 rfl ?_
  refine z_if_lt 22 dX11_leaving_14 rfl ⟨by omega, by omega⟩ (fun c4 => ?_) (fun c4 => ?_)
  · exfalso; omega
  · skip
    refine e_iload_n dX11_leaving_17 rfl ?_
    refine z_iconst (5) dX11_leaving_18 rfl ?_
    refine z_icmp_le 24 dX11_leaving_19 rfl ⟨by omega, by omega⟩ ⟨by omega, by omega⟩ (fun c5 => ?_) (fun c5 => ?_)
    · skip
      refine e_aload_n dX11_leaving_24 rfl ?_
      refine e_get (.ref (x + 100)) dX11_leaving_25 tf_11_37 (congrArg Prod.fst (bk_s0 hk)) (congrArg va_rf (bk_r0_4 hk)) ?_
      refine e_aload_n dX11_leaving_28 rfl ?_
      refine e_iload_n dX11_leaving_29 rfl ?_
      refine e_callV [.ref _, .int _] dX11_leaving_30 tm_11_127 rfl (Nat.le_of_ble_eq_true rfl) (congrArg Prod.fst (bk_s100 hk)) (Nat.le_of_ble_eq_true rfl) (Nat.le_refl _) (Nat.le_refl _) rfl (zp_X5_pick_5 (bk_ma100 hk) k1 H2 (by omega) (by omega) (fun  h6 f7 p8 p9 p10 => ?_))
      have k11 := bk_q (frm_s f7) hk
      have k12 := lk_q (frm_s f7) k1
      have H13 := clsT_c f7 (fun a k q1 q2 => by omega) HX
      have H14 := isF_c f7 (fun a k q1 q2 => by omega) H2
      have FR15 := frm_t FR0 (frm_m (S' := (fun a i => x + 56 ≤ a ∧ a < x + 157)) f7 (fun a k q => by omega))
      obtain ⟨r, MR, RR⟩ := p10
      refine e_aload_n dX11_leaving_33 rfl ?_
      refine e_get (.ref (x + 100)) dX11_leaving_34 tf_11_37 (congrArg Prod.fst (bk_s0 k11)) (congrArg va_rf (bk_r0_4 k11)) ?_
      refine e_callV [] dX11_leaving_37 tm_11_131 rfl (Nat.le_of_ble_eq_true rfl) (congrArg Prod.fst (bk_s100 k11)) (Nat.le_of_ble_eq_true rfl) (Nat.le_refl _) (Nat.le_refl _) rfl (zp_X5_leavingCouples (bk_ma100 k11) p8 p9 MR ?_)
      have y16 := lvN_b (show (0 ≤ nd (sG σ f) ∧ nd (sG σ f) ≤ 6) ∧ (0 ≤ nu (sG σ f) ∧ nu (sG σ f) ≤ 6) by omega) r
      refine z_iret dX11_leaving_40 rfl ⟨rfl, ?_⟩
      refine kq _ ?_ _ FR15
      exact ⟨r, RR, rfl⟩
    · exfalso; omega
set_option maxHeartbeats 1000000 in
theorem zp_X11_row_5 {ad : mA} {dd : Nat} {h : mH} {Q : mQ} {x : Nat} {σ : Sg} (hk : bk h x) (HX : clsT h (x + 1) σ)  (f : Int) (f_r : -2147483648 ≤ f ∧ f < 2147483648) (k : Int) (k_r : -2147483648 ≤ k ∧ k < 2147483648) (p1 : 0 ≤ f) (p2 : f < cn σ 0) (kq : ∀ v : Int, (((-1 ≤ k ∧ k < nd (sG σ f)) ∧ ∃ r, rwR (sG σ f) 5 r ∧ v = if k = -1 then inR r else r k) ∨ (¬ (-1 ≤ k ∧ k < nd (sG σ f)) ∧ v = -1)) → ∀ h1, frm (fun a i => x + 56 ≤ a ∧ a < x + 157) h h1 → Q (some (.int (zI v))) h1) : mCal TB0 ad (dd + 6) M_X11_row [.ref x, .int (zI f), .int (zI 5), .int (zI k)] h 0 0 Q := by
  refine ⟨Nat.le_of_ble_eq_true rfl, ?_⟩
  show mEv TB0 ad M_X11_row (dd + 6) (0, 0) (mCal TB0 ad (dd + 5)) (fun v h' z => z.1 = 0 ∧ Q v h') 0 [some (.ref x), some (.int (zI f)), some (.int (zI 5)), some (.int (zI k)), none] [] h (0, 0)
  have FR0 : frm (fun a i => x + 56 ≤ a ∧ a < x + 157) h h := frm_0 h
  have w1 := wS_n (clsT_w HX)
  have W := (clsT_w HX).2.2.1 f p1 p2
  have nW : (0 ≤ nd (sG σ f) ∧ nd (sG σ f) ≤ 6) ∧ (0 ≤ nu (sG σ f) ∧ nu (sG σ f) ≤ 6) := ⟨W.1.1, W.1.2.1⟩
  refine e_aload_n dX11_row_0 rfl ?_
  refine e_get (.ref (x + 1)) dX11_row_1 tf_11_10 (congrArg Prod.fst (bk_s0 hk)) (congrArg va_rf (bk_r0_0 hk)) ?_
  refine e_iload_n dX11_row_4 rfl ?_
  refine e_callV [.int _] dX11_row_5 tm_11_94 rfl (Nat.le_of_ble_eq_true rfl) (congrArg Prod.fst (bk_s1 hk)) (Nat.le_of_ble_eq_true rfl) (Nat.le_refl _) (Nat.le_refl _) rfl (zp_X8_forgeAt_in (bk_td1 hk) HX f ⟨by omega, by omega⟩ (by omega) (by omega) ?_)
  have k1 := fAt_k (bk_td1 hk) f
  have H2 := clsT_F HX (show 0 ≤ f by omega) (by omega)
  have y3 := fAt_b (x + 1) f
  refine e_astore (L' := [_, _, _, _, _]) dX11_row_8 (Nat.le_of_ble_eq_true rfl) rfl ?_
  refine e_aload dX11_row_10 rfl ?_
  refine e_ifnull 42 dX11_row_12 rfl ?_
  have v1 := isF_n H2
  have v2 := isF_nd H2
  have v3 := isF_nu H2
  refine e_iload_n dX11_row_15 rfl ?_
  refine z_iconst (1) dX11_row_16 rfl ?_
  refine z_icmp_lt 42 dX11_row_17 rfl ⟨by omega, by omega⟩ ⟨by omega, by omega⟩ (fun c4 => ?_) (fun c4 => ?_)
  · exfalso; omega
  · skip
    refine e_iload_n dX11_row_20 rfl ?_
    refine z_iconst (5) dX11_row_21 rfl ?_
    refine z_icmp_gt 42 dX11_row_22 rfl ⟨by omega, by omega⟩ ⟨by omega, by omega⟩ (fun c5 => ?_) (fun c5 => ?_)
    · exfalso; omega
    · skip
      refine e_iload_n dX11_row_25 rfl ?_
      refine z_iconst (-1) dX11_row_26 rfl ?_
      refine z_icmp_eq 44 dX11_row_27 rfl ⟨by omega, by omega⟩ ⟨by omega, by omega⟩ (fun c6 => ?_) (fun c6 => ?_)
      · skip
        refine e_aload_n dX11_row_44 rfl ?_
        refine e_get (.ref (x + 100)) dX11_row_45 tf_11_37 (congrArg Prod.fst (bk_s0 hk)) (congrArg va_rf (bk_r0_4 hk)) ?_
        refine e_aload dX11_row_48 rfl ?_
        refine e_iload_n dX11_row_50 rfl ?_
        refine e_callV [.ref _, .int _] dX11_row_51 tm_11_127 rfl (Nat.le_of_ble_eq_true rfl) (congrArg Prod.fst (bk_s100 hk)) (Nat.le_of_ble_eq_true rfl) (Nat.le_refl _) (Nat.le_refl _) rfl (zp_X5_pick_5 (bk_ma100 hk) k1 H2 (by omega) (by omega) (fun  h7 f8 p9 p10 p11 => ?_))
        have k12 := bk_q (frm_s f8) hk
        have k13 := lk_q (frm_s f8) k1
        have H14 := clsT_c f8 (fun a k q1 q2 => by omega) HX
        have H15 := isF_c f8 (fun a k q1 q2 => by omega) H2
        have FR16 := frm_t FR0 (frm_m (S' := (fun a i => x + 56 ≤ a ∧ a < x + 157)) f8 (fun a k q => by omega))
        obtain ⟨r, MR, RR⟩ := p11
        refine e_iload_n dX11_row_54 rfl ?_
        refine z_iconst (-1) dX11_row_55 rfl ?_
        refine z_icmp_ne 69 dX11_row_56 rfl ⟨by omega, by omega⟩ ⟨by omega, by omega⟩ (fun c17 => ?_) (fun c17 => ?_)
        · skip
          refine e_aload_n dX11_row_69 rfl ?_
          refine e_get (.ref (x + 100)) dX11_row_70 tf_11_37 (congrArg Prod.fst (bk_s0 k12)) (congrArg va_rf (bk_r0_4 k12)) ?_
          refine e_iload_n dX11_row_73 rfl ?_
          refine e_callV [.int _] dX11_row_74 tm_11_148 rfl (Nat.le_of_ble_eq_true rfl) (congrArg Prod.fst (bk_s100 k12)) (Nat.le_of_ble_eq_true rfl) (Nat.le_refl _) (Nat.le_refl _) rfl (zp_X5_upOf (bk_ma100 k12) MR k ⟨by omega, by omega⟩ (by omega) ?_)
          refine z_iret dX11_row_77 rfl ⟨rfl, ?_⟩
          refine kq _ ?_ _ FR16
          first | (exfalso; omega) | exact Or.inr ⟨by omega, rfl⟩ | exact Or.inl ⟨by omega, r, RR, by rw [if_pos (by omega)]⟩ | exact Or.inl ⟨by omega, r, RR, by rw [if_neg (by omega)]⟩
        · skip
          refine e_aload_n dX11_row_59 rfl ?_
          refine e_get (.ref (x + 100)) dX11_row_60 tf_11_37 (congrArg Prod.fst (bk_s0 k12)) (congrArg va_rf (bk_r0_4 k12)) ?_
          refine e_callV [] dX11_row_63 tm_11_145 rfl (Nat.le_of_ble_eq_true rfl) (congrArg Prod.fst (bk_s100 k12)) (Nat.le_of_ble_eq_true rfl) (Nat.le_refl _) (Nat.le_refl _) rfl (zp_X5_couples (bk_ma100 k12) p9 MR ?_)
          have y18 := inR_b r
          refine e_goto 77 dX11_row_66 rfl ?_
          refine z_iret dX11_row_77 rfl ⟨rfl, ?_⟩
          refine kq _ ?_ _ FR16
          first | (exfalso; omega) | exact Or.inr ⟨by omega, rfl⟩ | exact Or.inl ⟨by omega, r, RR, by rw [if_pos (by omega)]⟩ | exact Or.inl ⟨by omega, r, RR, by rw [if_neg (by omega)]⟩
      · skip
        refine e_aload dX11_row_30 rfl ?_
        refine e_get (.ref ((fAt (x + 1) f) + 1)) dX11_row_32 tf_11_135 (congrArg Prod.fst (fg_s0 k1)) (congrArg va_rf (fg_r0_0 k1)) ?_
        refine e_iload_n dX11_row_35 rfl ?_
        refine e_callV [.int _] dX11_row_36 tm_11_139 rfl (Nat.le_of_ble_eq_true rfl) (congrArg Prod.fst (fg_s1 k1)) (Nat.le_of_ble_eq_true rfl) (Nat.le_refl _) (Nat.le_refl _) rfl (zp_X0_has (fg_bl1 k1) k ⟨by omega, by omega⟩ ?_)
        refine z_ifb_ne 44 dX11_row_39 rfl (fun c19 => ?_) (fun c19 => ?_)
        · skip
          refine e_aload_n dX11_row_44 rfl ?_
          refine e_get (.ref (x + 100)) dX11_row_45 tf_11_37 (congrArg Prod.fst (bk_s0 hk)) (congrArg va_rf (bk_r0_4 hk)) ?_
          refine e_aload dX11_row_48 rfl ?_
          refine e_iload_n dX11_row_50 rfl ?_
          refine e_callV [.ref _, .int _] dX11_row_51 tm_11_127 rfl (Nat.le_of_ble_eq_true rfl) (congrArg Prod.fst (bk_s100 hk)) (Nat.le_of_ble_eq_true rfl) (Nat.le_refl _) (Nat.le_refl _) rfl (zp_X5_pick_5 (bk_ma100 hk) k1 H2 (by omega) (by omega) (fun  h20 f21 p22 p23 p24 => ?_))
          have k25 := bk_q (frm_s f21) hk
          have k26 := lk_q (frm_s f21) k1
          have H27 := clsT_c f21 (fun a k q1 q2 => by omega) HX
          have H28 := isF_c f21 (fun a k q1 q2 => by omega) H2
          have FR29 := frm_t FR0 (frm_m (S' := (fun a i => x + 56 ≤ a ∧ a < x + 157)) f21 (fun a k q => by omega))
          obtain ⟨r, MR, RR⟩ := p24
          refine e_iload_n dX11_row_54 rfl ?_
          refine z_iconst (-1) dX11_row_55 rfl ?_
          refine z_icmp_ne 69 dX11_row_56 rfl ⟨by omega, by omega⟩ ⟨by omega, by omega⟩ (fun c30 => ?_) (fun c30 => ?_)
          · skip
            refine e_aload_n dX11_row_69 rfl ?_
            refine e_get (.ref (x + 100)) dX11_row_70 tf_11_37 (congrArg Prod.fst (bk_s0 k25)) (congrArg va_rf (bk_r0_4 k25)) ?_
            refine e_iload_n dX11_row_73 rfl ?_
            refine e_callV [.int _] dX11_row_74 tm_11_148 rfl (Nat.le_of_ble_eq_true rfl) (congrArg Prod.fst (bk_s100 k25)) (Nat.le_of_ble_eq_true rfl) (Nat.le_refl _) (Nat.le_refl _) rfl (zp_X5_upOf (bk_ma100 k25) MR k ⟨by omega, by omega⟩ (by omega) ?_)
            refine z_iret dX11_row_77 rfl ⟨rfl, ?_⟩
            refine kq _ ?_ _ FR29
            first | (exfalso; omega) | exact Or.inr ⟨by omega, rfl⟩ | exact Or.inl ⟨by omega, r, RR, by rw [if_pos (by omega)]⟩ | exact Or.inl ⟨by omega, r, RR, by rw [if_neg (by omega)]⟩
          · skip
            refine e_aload_n dX11_row_59 rfl ?_
            refine e_get (.ref (x + 100)) dX11_row_60 tf_11_37 (congrArg Prod.fst (bk_s0 k25)) (congrArg va_rf (bk_r0_4 k25)) ?_
            refine e_callV [] dX11_row_63 tm_11_145 rfl (Nat.le_of_ble_eq_true rfl) (congrArg Prod.fst (bk_s100 k25)) (Nat.le_of_ble_eq_true rfl) (Nat.le_refl _) (Nat.le_refl _) rfl (zp_X5_couples (bk_ma100 k25) p22 MR ?_)
            have y31 := inR_b r
            refine e_goto 77 dX11_row_66 rfl ?_
            refine z_iret dX11_row_77 rfl ⟨rfl, ?_⟩
            refine kq _ ?_ _ FR29
            first | (exfalso; omega) | exact Or.inr ⟨by omega, rfl⟩ | exact Or.inl ⟨by omega, r, RR, by rw [if_pos (by omega)]⟩ | exact Or.inl ⟨by omega, r, RR, by rw [if_neg (by omega)]⟩
        · skip
          refine z_iconst (-1) dX11_row_42 rfl ?_
          refine z_iret dX11_row_43 rfl ⟨rfl, ?_⟩
          refine kq _ ?_ _ FR0
          first | (exfalso; omega) | exact Or.inr ⟨by omega, rfl⟩ | exact Or.inl ⟨by omega, r, RR, by rw [if_pos (by omega)]⟩ | exact Or.inl ⟨by omega, r, RR, by rw [if_neg (by omega)]⟩
set_option maxHeartbeats 1000000 in
theorem zp_X11_moves_5 {ad : mA} {dd : Nat} {h : mH} {Q : mQ} {x : Nat} {σ : Sg} (hk : bk h x) (HX : clsT h (x + 1) σ)  (f : Int) (f_r : -2147483648 ≤ f ∧ f < 2147483648) (p : Prop) [Decidable p] (p1 : 0 ≤ f) (p2 : f < cn σ 0) (kq : ∀ v : Int, (∃ r, rwR (sG σ f) 5 r ∧ v = if p then mvR (sG σ f) r else mvP (sG σ f) r) → ∀ h1, frm (fun a i => x + 56 ≤ a ∧ a < x + 157) h h1 → Q (some (.int (zI v))) h1) : mCal TB0 ad (dd + 6) M_X11_moves [.ref x, .int (zI f), .int (zI 5), .int (zI (bZ p))] h 0 0 Q := by
  refine ⟨Nat.le_of_ble_eq_true rfl, ?_⟩
  show mEv TB0 ad M_X11_moves (dd + 6) (0, 0) (mCal TB0 ad (dd + 5)) (fun v h' z => z.1 = 0 ∧ Q v h') 0 [some (.ref x), some (.int (zI f)), some (.int (zI 5)), some (.int (zI (bZ p))), none] [] h (0, 0)
  have FR0 : frm (fun a i => x + 56 ≤ a ∧ a < x + 157) h h := frm_0 h
  have w1 := wS_n (clsT_w HX)
  have W := (clsT_w HX).2.2.1 f p1 p2
  have nW : (0 ≤ nd (sG σ f) ∧ nd (sG σ f) ≤ 6) ∧ (0 ≤ nu (sG σ f) ∧ nu (sG σ f) ≤ 6) := ⟨W.1.1, W.1.2.1⟩
  refine e_aload_n dX11_moves_0 rfl ?_
  refine e_get (.ref (x + 1)) dX11_moves_1 tf_11_10 (congrArg Prod.fst (bk_s0 hk)) (congrArg va_rf (bk_r0_0 hk)) ?_
  refine e_iload_n dX11_moves_4 rfl ?_
  refine e_callV [.int _] dX11_moves_5 tm_11_94 rfl (Nat.le_of_ble_eq_true rfl) (congrArg Prod.fst (bk_s1 hk)) (Nat.le_of_ble_eq_true rfl) (Nat.le_refl _) (Nat.le_refl _) rfl (zp_X8_forgeAt_in (bk_td1 hk) HX f ⟨by omega, by omega⟩ (by omega) (by omega) ?_)
  have k1 := fAt_k (bk_td1 hk) f
  have H2 := clsT_F HX (show 0 ≤ f by omega) (by omega)
  have y3 := fAt_b (x + 1) f
  refine e_astore (L' := [_, _, _, _, _]) dX11_moves_8 (Nat.le_of_ble_eq_true rfl) rfl ?_
  refine e_aload dX11_moves_10 rfl ?_
  refine e_ifnull 25 dX11_moves_12 rfl ?_
  refine e_iload_n dX11_moves_15 rfl ?_
  refine z_iconst (1) dX11_moves_16 rfl ?_
  refine z_icmp_lt 25 dX11_moves_17 rfl ⟨by omega, by omega⟩ ⟨by omega, by omega⟩ (fun c4 => ?_) (fun c4 => ?_)
  · exfalso; omega
  · skip
    refine e_iload_n dX11_moves_20 rfl ?_
    refine z_iconst (5) dX11_moves_21 rfl ?_
    refine z_icmp_le 27 dX11_moves_22 rfl ⟨by omega, by omega⟩ ⟨by omega, by omega⟩ (fun c5 => ?_) (fun c5 => ?_)
    · skip
      refine e_aload_n dX11_moves_27 rfl ?_
      refine e_get (.ref (x + 100)) dX11_moves_28 tf_11_37 (congrArg Prod.fst (bk_s0 hk)) (congrArg va_rf (bk_r0_4 hk)) ?_
      refine e_aload dX11_moves_31 rfl ?_
      refine e_iload_n dX11_moves_33 rfl ?_
      refine e_callV [.ref _, .int _] dX11_moves_34 tm_11_127 rfl (Nat.le_of_ble_eq_true rfl) (congrArg Prod.fst (bk_s100 hk)) (Nat.le_of_ble_eq_true rfl) (Nat.le_refl _) (Nat.le_refl _) rfl (zp_X5_pick_5 (bk_ma100 hk) k1 H2 (by omega) (by omega) (fun  h6 f7 p8 p9 p10 => ?_))
      have k11 := bk_q (frm_s f7) hk
      have k12 := lk_q (frm_s f7) k1
      have H13 := clsT_c f7 (fun a k q1 q2 => by omega) HX
      have H14 := isF_c f7 (fun a k q1 q2 => by omega) H2
      have FR15 := frm_t FR0 (frm_m (S' := (fun a i => x + 56 ≤ a ∧ a < x + 157)) f7 (fun a k q => by omega))
      obtain ⟨r, MR, RR⟩ := p10
      refine e_iload_n dX11_moves_37 rfl ?_
      refine z_ifb_eq 51 dX11_moves_38 rfl (fun c16 => ?_) (fun c16 => ?_)
      · skip
        refine e_aload_n dX11_moves_51 rfl ?_
        refine e_get (.ref (x + 100)) dX11_moves_52 tf_11_37 (congrArg Prod.fst (bk_s0 k11)) (congrArg va_rf (bk_r0_4 k11)) ?_
        refine e_callV [] dX11_moves_55 tm_11_266 rfl (Nat.le_of_ble_eq_true rfl) (congrArg Prod.fst (bk_s100 k11)) (Nat.le_of_ble_eq_true rfl) (Nat.le_refl _) (Nat.le_refl _) rfl (zp_X5_toPart (bk_ma100 k11) p8 p9 MR ?_)
        refine z_iret dX11_moves_58 rfl ⟨rfl, ?_⟩
        refine kq _ ?_ _ FR15
        first | exact ⟨r, RR, by rw [if_pos (by assumption)]⟩ | exact ⟨r, RR, by rw [if_neg (by assumption)]⟩
      · skip
        refine e_aload_n dX11_moves_41 rfl ?_
        refine e_get (.ref (x + 100)) dX11_moves_42 tf_11_37 (congrArg Prod.fst (bk_s0 k11)) (congrArg va_rf (bk_r0_4 k11)) ?_
        refine e_callV [] dX11_moves_45 tm_11_263 rfl (Nat.le_of_ble_eq_true rfl) (congrArg Prod.fst (bk_s100 k11)) (Nat.le_of_ble_eq_true rfl) (Nat.le_refl _) (Nat.le_refl _) rfl (zp_X5_toRivet (bk_ma100 k11) p8 p9 MR ?_)
        refine e_goto 58 dX11_moves_48 rfl ?_
        refine z_iret dX11_moves_58 rfl ⟨rfl, ?_⟩
        refine kq _ ?_ _ FR15
        first | exact ⟨r, RR, by rw [if_pos (by assumption)]⟩ | exact ⟨r, RR, by rw [if_neg (by assumption)]⟩
    · exfalso; omega
set_option maxHeartbeats 1000000 in
theorem zp_X11_rows_0 {ad : mA} {dd : Nat} {h : mH} {Q : mQ} {x : Nat} {σ : Sg} (hk : bk h x) (HX : clsT h (x + 1) σ)  (f : Int) (f_r : -2147483648 ≤ f ∧ f < 2147483648) (p1 : 0 ≤ f) (p2 : f < cn σ 0) (kq : ∀ v : Int, (rwsP (sG σ f) 0 v) → ∀ h1, frm (fun a i => x + 56 ≤ a ∧ a < x + 157) h h1 → Q (some (.int (zI v))) h1) : mCal TB0 ad (dd + 6) M_X11_rows [.ref x, .int (zI f), .int (zI 0)] h 0 0 Q := by
  refine ⟨Nat.le_of_ble_eq_true rfl, ?_⟩
  show mEv TB0 ad M_X11_rows (dd + 6) (0, 0) (mCal TB0 ad (dd + 5)) (fun v h' z => z.1 = 0 ∧ Q v h') 0 [some (.ref x), some (.int (zI f)), some (.int (zI 0)), none] [] h (0, 0)
  have FR0 : frm (fun a i => x + 56 ≤ a ∧ a < x + 157) h h := frm_0 h
  have w1 := wS_n (clsT_w HX)
  have W := (clsT_w HX).2.2.1 f p1 p2
  have nW : (0 ≤ nd (sG σ f) ∧ nd (sG σ f) ≤ 6) ∧ (0 ≤ nu (sG σ f) ∧ nu (sG σ f) ≤ 6) := ⟨W.1.1, W.1.2.1⟩
  refine e_aload_n dX11_rows_0 rfl ?_
  refine e_get (.ref (x + 1)) dX11_rows_1 tf_11_10 (congrArg Prod.fst (bk_s0 hk)) (congrArg va_rf (bk_r0_0 hk)) ?_
  refine e_iload_n dX11_rows_4 rfl ?_
  refine e_callV [.int _] dX11_rows_5 tm_11_94 rfl (Nat.le_of_ble_eq_true rfl) (congrArg Prod.fst (bk_s1 hk)) (Nat.le_of_ble_eq_true rfl) (Nat.le_refl _) (Nat.le_refl _) rfl (zp_X8_forgeAt_in (bk_td1 hk) HX f ⟨by omega, by omega⟩ (by omega) (by omega) ?_)
  have k1 := fAt_k (bk_td1 hk) f
  have H2 := clsT_F HX (show 0 ≤ f by omega) (by omega)
  have y3 := fAt_b (x + 1) f
  refine e_astore_n (L' := [_, _, _, _]) dX11_rows_8 (Nat.le_of_ble_eq_true rfl) rfl ?_
  refine e_aload_n dX11_rows_9 rfl ?_
  refine e_ifnull 22 dX11_rows_10 rfl ?_
  refine e_iload_n dX11_rows_13 rfl ?_
  refine z_if_lt 22 dX11_rows_14 rfl ⟨by omega, by omega⟩ (fun c4 => ?_) (fun c4 => ?_)
  · exfalso; omega
  · skip
    refine e_iload_n dX11_rows_17 rfl ?_
    refine z_iconst (3) dX11_rows_18 rfl ?_
    refine z_icmp_le 24 dX11_rows_19 rfl ⟨by omega, by omega⟩ ⟨by omega, by omega⟩ (fun c5 => ?_) (fun c5 => ?_)
    · skip
      refine e_iload_n dX11_rows_24 rfl ?_
      refine z_iconst (3) dX11_rows_25 rfl ?_
      refine z_icmp_ne 40 dX11_rows_26 rfl ⟨by omega, by omega⟩ ⟨by omega, by omega⟩ (fun c6 => ?_) (fun c6 => ?_)
      · skip
        refine e_aload_n dX11_rows_40 rfl ?_
        refine e_get (.ref (x + 100)) dX11_rows_41 tf_11_37 (congrArg Prod.fst (bk_s0 hk)) (congrArg va_rf (bk_r0_4 hk)) ?_
        refine e_aload_n dX11_rows_44 rfl ?_
        refine z_iconst (3) dX11_rows_45 rfl ?_
        refine e_iload_n dX11_rows_46 rfl ?_
        refine z_iadd dX11_rows_47 ?_
        refine e_callV [.ref _, .int _] dX11_rows_48 tm_11_155 rfl (Nat.le_of_ble_eq_true rfl) (congrArg Prod.fst (bk_s100 hk)) (Nat.le_of_ble_eq_true rfl) (Nat.le_refl _) (Nat.le_refl _) rfl (zp_X5_numberOf_3 (bk_ma100 hk) k1 H2 (by omega) (by omega) (fun v7 p8 h9 f10  => ?_))
        have k11 := bk_q (frm_s f10) hk
        have k12 := lk_q (frm_s f10) k1
        have H13 := clsT_c f10 (fun a k q1 q2 => by omega) HX
        have H14 := isF_c f10 (fun a k q1 q2 => by omega) H2
        have FR15 := frm_t FR0 (frm_m (S' := (fun a i => x + 56 ≤ a ∧ a < x + 157)) f10 (fun a k q => by omega))
        refine z_iret dX11_rows_51 rfl ⟨rfl, ?_⟩
        exact kq _ (by assumption) _ FR15
      · exfalso; omega
    · exfalso; omega
set_option maxHeartbeats 1000000 in
theorem zp_X11_rows_1 {ad : mA} {dd : Nat} {h : mH} {Q : mQ} {x : Nat} {σ : Sg} (hk : bk h x) (HX : clsT h (x + 1) σ)  (f : Int) (f_r : -2147483648 ≤ f ∧ f < 2147483648) (p1 : 0 ≤ f) (p2 : f < cn σ 0) (kq : ∀ v : Int, (rwsP (sG σ f) 1 v) → ∀ h1, frm (fun a i => x + 56 ≤ a ∧ a < x + 157) h h1 → Q (some (.int (zI v))) h1) : mCal TB0 ad (dd + 6) M_X11_rows [.ref x, .int (zI f), .int (zI 1)] h 0 0 Q := by
  refine ⟨Nat.le_of_ble_eq_true rfl, ?_⟩
  show mEv TB0 ad M_X11_rows (dd + 6) (0, 0) (mCal TB0 ad (dd + 5)) (fun v h' z => z.1 = 0 ∧ Q v h') 0 [some (.ref x), some (.int (zI f)), some (.int (zI 1)), none] [] h (0, 0)
  have FR0 : frm (fun a i => x + 56 ≤ a ∧ a < x + 157) h h := frm_0 h
  have w1 := wS_n (clsT_w HX)
  have W := (clsT_w HX).2.2.1 f p1 p2
  have nW : (0 ≤ nd (sG σ f) ∧ nd (sG σ f) ≤ 6) ∧ (0 ≤ nu (sG σ f) ∧ nu (sG σ f) ≤ 6) := ⟨W.1.1, W.1.2.1⟩
  refine e_aload_n dX11_rows_0 rfl ?_
  refine e_get (.ref (x + 1)) dX11_rows_1 tf_11_10 (congrArg Prod.fst (bk_s0 hk)) (congrArg va_rf (bk_r0_0 hk)) ?_
  refine e_iload_n dX11_rows_4 rfl ?_
  refine e_callV [.int _] dX11_rows_5 tm_11_94 rfl (Nat.le_of_ble_eq_true rfl) (congrArg Prod.fst (bk_s1 hk)) (Nat.le_of_ble_eq_true rfl) (Nat.le_refl _) (Nat.le_refl _) rfl (zp_X8_forgeAt_in (bk_td1 hk) HX f ⟨by omega, by omega⟩ (by omega) (by omega) ?_)
  have k1 := fAt_k (bk_td1 hk) f
  have H2 := clsT_F HX (show 0 ≤ f by omega) (by omega)
  have y3 := fAt_b (x + 1) f
  refine e_astore_n (L' := [_, _, _, _]) dX11_rows_8 (Nat.le_of_ble_eq_true rfl) rfl ?_
  refine e_aload_n dX11_rows_9 rfl ?_
  refine e_ifnull 22 dX11_rows_10 rfl ?_
  refine e_iload_n dX11_rows_13 rfl ?_
  refine z_if_lt 22 dX11_rows_14 rfl ⟨by omega, by omega⟩ (fun c4 => ?_) (fun c4 => ?_)
  · exfalso; omega
  · skip
    refine e_iload_n dX11_rows_17 rfl ?_
    refine z_iconst (3) dX11_rows_18 rfl ?_
    refine z_icmp_le 24 dX11_rows_19 rfl ⟨by omega, by omega⟩ ⟨by omega, by omega⟩ (fun c5 => ?_) (fun c5 => ?_)
    · skip
      refine e_iload_n dX11_rows_24 rfl ?_
      refine z_iconst (3) dX11_rows_25 rfl ?_
      refine z_icmp_ne 40 dX11_rows_26 rfl ⟨by omega, by omega⟩ ⟨by omega, by omega⟩ (fun c6 => ?_) (fun c6 => ?_)
      · skip
        refine e_aload_n dX11_rows_40 rfl ?_
        refine e_get (.ref (x + 100)) dX11_rows_41 tf_11_37 (congrArg Prod.fst (bk_s0 hk)) (congrArg va_rf (bk_r0_4 hk)) ?_
        refine e_aload_n dX11_rows_44 rfl ?_
        refine z_iconst (3) dX11_rows_45 rfl ?_
        refine e_iload_n dX11_rows_46 rfl ?_
        refine z_iadd dX11_rows_47 ?_
        refine e_callV [.ref _, .int _] dX11_rows_48 tm_11_155 rfl (Nat.le_of_ble_eq_true rfl) (congrArg Prod.fst (bk_s100 hk)) (Nat.le_of_ble_eq_true rfl) (Nat.le_refl _) (Nat.le_refl _) rfl (zp_X5_numberOf_4 (bk_ma100 hk) k1 H2 (by omega) (by omega) (fun v7 p8 h9 f10  => ?_))
        have k11 := bk_q (frm_s f10) hk
        have k12 := lk_q (frm_s f10) k1
        have H13 := clsT_c f10 (fun a k q1 q2 => by omega) HX
        have H14 := isF_c f10 (fun a k q1 q2 => by omega) H2
        have FR15 := frm_t FR0 (frm_m (S' := (fun a i => x + 56 ≤ a ∧ a < x + 157)) f10 (fun a k q => by omega))
        refine z_iret dX11_rows_51 rfl ⟨rfl, ?_⟩
        exact kq _ (by assumption) _ FR15
      · exfalso; omega
    · exfalso; omega
set_option maxHeartbeats 1000000 in
theorem zp_X11_rows_2 {ad : mA} {dd : Nat} {h : mH} {Q : mQ} {x : Nat} {σ : Sg} (hk : bk h x) (HX : clsT h (x + 1) σ)  (f : Int) (f_r : -2147483648 ≤ f ∧ f < 2147483648) (p1 : 0 ≤ f) (p2 : f < cn σ 0) (kq : ∀ v : Int, (rwsP (sG σ f) 2 v) → ∀ h1, frm (fun a i => x + 56 ≤ a ∧ a < x + 157) h h1 → Q (some (.int (zI v))) h1) : mCal TB0 ad (dd + 6) M_X11_rows [.ref x, .int (zI f), .int (zI 2)] h 0 0 Q := by
  refine ⟨Nat.le_of_ble_eq_true rfl, ?_⟩
  show mEv TB0 ad M_X11_rows (dd + 6) (0, 0) (mCal TB0 ad (dd + 5)) (fun v h' z => z.1 = 0 ∧ Q v h') 0 [some (.ref x), some (.int (zI f)), some (.int (zI 2)), none] [] h (0, 0)
  have FR0 : frm (fun a i => x + 56 ≤ a ∧ a < x + 157) h h := frm_0 h
  have w1 := wS_n (clsT_w HX)
  have W := (clsT_w HX).2.2.1 f p1 p2
  have nW : (0 ≤ nd (sG σ f) ∧ nd (sG σ f) ≤ 6) ∧ (0 ≤ nu (sG σ f) ∧ nu (sG σ f) ≤ 6) := ⟨W.1.1, W.1.2.1⟩
  refine e_aload_n dX11_rows_0 rfl ?_
  refine e_get (.ref (x + 1)) dX11_rows_1 tf_11_10 (congrArg Prod.fst (bk_s0 hk)) (congrArg va_rf (bk_r0_0 hk)) ?_
  refine e_iload_n dX11_rows_4 rfl ?_
  refine e_callV [.int _] dX11_rows_5 tm_11_94 rfl (Nat.le_of_ble_eq_true rfl) (congrArg Prod.fst (bk_s1 hk)) (Nat.le_of_ble_eq_true rfl) (Nat.le_refl _) (Nat.le_refl _) rfl (zp_X8_forgeAt_in (bk_td1 hk) HX f ⟨by omega, by omega⟩ (by omega) (by omega) ?_)
  have k1 := fAt_k (bk_td1 hk) f
  have H2 := clsT_F HX (show 0 ≤ f by omega) (by omega)
  have y3 := fAt_b (x + 1) f
  refine e_astore_n (L' := [_, _, _, _]) dX11_rows_8 (Nat.le_of_ble_eq_true rfl) rfl ?_
  refine e_aload_n dX11_rows_9 rfl ?_
  refine e_ifnull 22 dX11_rows_10 rfl ?_
  refine e_iload_n dX11_rows_13 rfl ?_
  refine z_if_lt 22 dX11_rows_14 rfl ⟨by omega, by omega⟩ (fun c4 => ?_) (fun c4 => ?_)
  · exfalso; omega
  · skip
    refine e_iload_n dX11_rows_17 rfl ?_
    refine z_iconst (3) dX11_rows_18 rfl ?_
    refine z_icmp_le 24 dX11_rows_19 rfl ⟨by omega, by omega⟩ ⟨by omega, by omega⟩ (fun c5 => ?_) (fun c5 => ?_)
    · skip
      refine e_iload_n dX11_rows_24 rfl ?_
      refine z_iconst (3) dX11_rows_25 rfl ?_
      refine z_icmp_ne 40 dX11_rows_26 rfl ⟨by omega, by omega⟩ ⟨by omega, by omega⟩ (fun c6 => ?_) (fun c6 => ?_)
      · skip
        refine e_aload_n dX11_rows_40 rfl ?_
        refine e_get (.ref (x + 100)) dX11_rows_41 tf_11_37 (congrArg Prod.fst (bk_s0 hk)) (congrArg va_rf (bk_r0_4 hk)) ?_
        refine e_aload_n dX11_rows_44 rfl ?_
        refine z_iconst (3) dX11_rows_45 rfl ?_
        refine e_iload_n dX11_rows_46 rfl ?_
        refine z_iadd dX11_rows_47 ?_
        refine e_callV [.ref _, .int _] dX11_rows_48 tm_11_155 rfl (Nat.le_of_ble_eq_true rfl) (congrArg Prod.fst (bk_s100 hk)) (Nat.le_of_ble_eq_true rfl) (Nat.le_refl _) (Nat.le_refl _) rfl (zp_X5_numberOf_5 (bk_ma100 hk) k1 H2 (by omega) (by omega) (fun v7 p8 h9 f10  => ?_))
        have k11 := bk_q (frm_s f10) hk
        have k12 := lk_q (frm_s f10) k1
        have H13 := clsT_c f10 (fun a k q1 q2 => by omega) HX
        have H14 := isF_c f10 (fun a k q1 q2 => by omega) H2
        have FR15 := frm_t FR0 (frm_m (S' := (fun a i => x + 56 ≤ a ∧ a < x + 157)) f10 (fun a k q => by omega))
        refine z_iret dX11_rows_51 rfl ⟨rfl, ?_⟩
        exact kq _ (by assumption) _ FR15
      · exfalso; omega
    · exfalso; omega
set_option maxHeartbeats 1000000 in
theorem zp_X11_rows_3 {ad : mA} {dd : Nat} {h : mH} {Q : mQ} {x : Nat} {σ : Sg} (hk : bk h x) (HX : clsT h (x + 1) σ)  (f : Int) (f_r : -2147483648 ≤ f ∧ f < 2147483648) (p1 : 0 ≤ f) (p2 : f < cn σ 0) (kq : ∀ v : Int, (rwsP (sG σ f) 3 v) → ∀ h1, frm (fun a i => x + 56 ≤ a ∧ a < x + 157) h h1 → Q (some (.int (zI v))) h1) : mCal TB0 ad (dd + 6) M_X11_rows [.ref x, .int (zI f), .int (zI 3)] h 0 0 Q := by
  refine ⟨Nat.le_of_ble_eq_true rfl, ?_⟩
  show mEv TB0 ad M_X11_rows (dd + 6) (0, 0) (mCal TB0 ad (dd + 5)) (fun v h' z => z.1 = 0 ∧ Q v h') 0 [some (.ref x), some (.int (zI f)), some (.int (zI 3)), none] [] h (0, 0)
  have FR0 : frm (fun a i => x + 56 ≤ a ∧ a < x + 157) h h := frm_0 h
  have w1 := wS_n (clsT_w HX)
  have W := (clsT_w HX).2.2.1 f p1 p2
  have nW : (0 ≤ nd (sG σ f) ∧ nd (sG σ f) ≤ 6) ∧ (0 ≤ nu (sG σ f) ∧ nu (sG σ f) ≤ 6) := ⟨W.1.1, W.1.2.1⟩
  refine e_aload_n dX11_rows_0 rfl ?_
  refine e_get (.ref (x + 1)) dX11_rows_1 tf_11_10 (congrArg Prod.fst (bk_s0 hk)) (congrArg va_rf (bk_r0_0 hk)) ?_
  refine e_iload_n dX11_rows_4 rfl ?_
  refine e_callV [.int _] dX11_rows_5 tm_11_94 rfl (Nat.le_of_ble_eq_true rfl) (congrArg Prod.fst (bk_s1 hk)) (Nat.le_of_ble_eq_true rfl) (Nat.le_refl _) (Nat.le_refl _) rfl (zp_X8_forgeAt_in (bk_td1 hk) HX f ⟨by omega, by omega⟩ (by omega) (by omega) ?_)
  have k1 := fAt_k (bk_td1 hk) f
  have H2 := clsT_F HX (show 0 ≤ f by omega) (by omega)
  have y3 := fAt_b (x + 1) f
  refine e_astore_n (L' := [_, _, _, _]) dX11_rows_8 (Nat.le_of_ble_eq_true rfl) rfl ?_
  refine e_aload_n dX11_rows_9 rfl ?_
  refine e_ifnull 22 dX11_rows_10 rfl ?_
  refine e_iload_n dX11_rows_13 rfl ?_
  refine z_if_lt 22 dX11_rows_14 rfl ⟨by omega, by omega⟩ (fun c4 => ?_) (fun c4 => ?_)
  · exfalso; omega
  · skip
    refine e_iload_n dX11_rows_17 rfl ?_
    refine z_iconst (3) dX11_rows_18 rfl ?_
    refine z_icmp_le 24 dX11_rows_19 rfl ⟨by omega, by omega⟩ ⟨by omega, by omega⟩ (fun c5 => ?_) (fun c5 => ?_)
    · skip
      refine e_iload_n dX11_rows_24 rfl ?_
      refine z_iconst (3) dX11_rows_25 rfl ?_
      refine z_icmp_ne 40 dX11_rows_26 rfl ⟨by omega, by omega⟩ ⟨by omega, by omega⟩ (fun c6 => ?_) (fun c6 => ?_)
      · exfalso; omega
      · skip
        refine e_aload_n dX11_rows_29 rfl ?_
        refine e_get (.ref (x + 100)) dX11_rows_30 tf_11_37 (congrArg Prod.fst (bk_s0 hk)) (congrArg va_rf (bk_r0_4 hk)) ?_
        refine e_aload_n dX11_rows_33 rfl ?_
        refine e_callV [.ref _] dX11_rows_34 tm_11_151 rfl (Nat.le_of_ble_eq_true rfl) (congrArg Prod.fst (bk_s100 hk)) (Nat.le_of_ble_eq_true rfl) (Nat.le_refl _) (Nat.le_refl _) rfl (zp_X5_standingRows (bk_ma100 hk) k1 H2 (by omega) (by omega) (fun  h7 f8  => ?_))
        have k9 := bk_q (frm_s f8) hk
        have k10 := lk_q (frm_s f8) k1
        have H11 := clsT_c f8 (fun a k q1 q2 => by omega) HX
        have H12 := isF_c f8 (fun a k q1 q2 => by omega) H2
        have FR13 := frm_t FR0 (frm_m (S' := (fun a i => x + 56 ≤ a ∧ a < x + 157)) f8 (fun a k q => by omega))
        refine e_goto 51 dX11_rows_37 rfl ?_
        refine z_iret dX11_rows_51 rfl ⟨rfl, ?_⟩
        exact kq _ (Or.inr (Or.inr (Or.inr (Or.inl ⟨rfl, rfl⟩)))) _ FR13
    · exfalso; omega
def lvQ (g : Int → Int) (b v : Int) : Prop := ((0 ≤ b ∧ b ≤ 5) ∧ ∃ r, rwR g b r ∧ v = lvN g r) ∨ (¬ (0 ≤ b ∧ b ≤ 5) ∧ v = -1)
def rwQ (g : Int → Int) (b k v : Int) : Prop := ((1 ≤ b ∧ b ≤ 5) ∧ (((-1 ≤ k ∧ k < nd g) ∧ ∃ r, rwR g b r ∧ v = if k = -1 then inR r else r k) ∨ (¬ (-1 ≤ k ∧ k < nd g) ∧ v = -1))) ∨ (¬ (1 ≤ b ∧ b ≤ 5) ∧ v = -1)
def mvQ (g : Int → Int) (b : Int) (p : Prop) [Decidable p] (v : Int) : Prop := ((1 ≤ b ∧ b ≤ 5) ∧ ∃ r, rwR g b r ∧ v = if p then mvR g r else mvP g r) ∨ (¬ (1 ≤ b ∧ b ≤ 5) ∧ v = -1)
theorem lvQ_u {g : Int → Int} {b v v' : Int} (w : wfF g) (x : lvQ g b v) (y : lvQ g b v') : v = v' := by
  rcases x with ⟨x0, r, x1, x2⟩ | ⟨x0, x1⟩ <;> rcases y with ⟨y0, r', y1, y2⟩ | ⟨y0, y1⟩
  · rw [x2, y2]; exact lvN_e w.1.1.2 (rwR_u ⟨w.1.1, w.1.2.1⟩ x1 y1)
  · exact absurd x0 y0
  · exact absurd y0 x0
  · rw [x1, y1]
theorem rwQ_u {g : Int → Int} {b k v v' : Int} (w : wfF g) (x : rwQ g b k v) (y : rwQ g b k v') : v = v' := by
  have n6 := w.1.1
  rcases x with ⟨x0, ⟨xk, r, x1, x2⟩ | ⟨xk, x1⟩⟩ | ⟨x0, x1⟩ <;> rcases y with ⟨y0, ⟨yk, r', y1, y2⟩ | ⟨yk, y1⟩⟩ | ⟨y0, y1⟩
  · have e := rwR_u ⟨w.1.1, w.1.2.1⟩ x1 y1
    rw [x2, y2]
    by_cases q : k = -1
    · rw [if_pos q, if_pos q]; exact inR_e e
    · rw [if_neg q, if_neg q]; exact e k (by omega) (by omega)
  · exact absurd xk yk
  · exact absurd x0 y0
  · exact absurd yk xk
  · rw [x1, y1]
  · rw [x1, y1]
  · exact absurd y0 x0
  · rw [x1, y1]
  · rw [x1, y1]
theorem mvQ_u {g : Int → Int} {b v v' : Int} {p : Prop} [Decidable p] (w : wfF g) (x : mvQ g b p v) (y : mvQ g b p v') : v = v' := by
  rcases x with ⟨x0, r, x1, x2⟩ | ⟨x0, x1⟩ <;> rcases y with ⟨y0, r', y1, y2⟩ | ⟨y0, y1⟩
  · have e := rwR_u ⟨w.1.1, w.1.2.1⟩ x1 y1
    rw [x2, y2]
    by_cases q : p
    · rw [if_pos q, if_pos q]; exact mvR_e w.1.1.2 e
    · rw [if_neg q, if_neg q]; exact mvP_e w.1.1.2 e
  · exact absurd x0 y0
  · exact absurd y0 x0
  · rw [x1, y1]
theorem op9 {ad : mA} {B : Nat} : op_9 ad B (Inv B) := by
  intro a b 
  rw [← zI_toInt a]
  rw [← zI_toInt b]
  have ra := in_of a
  generalize a.toInt = a at *
  have rb := in_of b
  generalize b.toInt = b at *
  refine opq_I (ansW a (-1) (fun g r => lvQ g b r)) (ansW_u (fun g r r' w x y => lvQ_u w x y)) (fun h σ hk HX Q kq => ?_) (fun h σ hr HR Q kq => ?_)
  · by_cases q : 0 ≤ a ∧ a < cn σ 0
    · rcases (show b = 0 ∨ b = 1 ∨ b = 2 ∨ b = 3 ∨ b = 4 ∨ b = 5 ∨ ¬ (0 ≤ b ∧ b ≤ 5) by omega) with z | z | z | z | z | z | z
      · subst z
        exact zp_X11_leaving_0 hk HX a ra  q.1 q.2 (fun v p h1 f => kq v h1 f (Or.inl ⟨q.1, q.2, (clsT_w HX).2.2.1 a q.1 q.2, Or.inl ⟨by omega, p⟩⟩))
      · subst z
        exact zp_X11_leaving_1 hk HX a ra  q.1 q.2 (fun v p h1 f => kq v h1 f (Or.inl ⟨q.1, q.2, (clsT_w HX).2.2.1 a q.1 q.2, Or.inl ⟨by omega, p⟩⟩))
      · subst z
        exact zp_X11_leaving_2 hk HX a ra  q.1 q.2 (fun v p h1 f => kq v h1 f (Or.inl ⟨q.1, q.2, (clsT_w HX).2.2.1 a q.1 q.2, Or.inl ⟨by omega, p⟩⟩))
      · subst z
        exact zp_X11_leaving_3 hk HX a ra  q.1 q.2 (fun v p h1 f => kq v h1 f (Or.inl ⟨q.1, q.2, (clsT_w HX).2.2.1 a q.1 q.2, Or.inl ⟨by omega, p⟩⟩))
      · subst z
        exact zp_X11_leaving_4 hk HX a ra  q.1 q.2 (fun v p h1 f => kq v h1 f (Or.inl ⟨q.1, q.2, (clsT_w HX).2.2.1 a q.1 q.2, Or.inl ⟨by omega, p⟩⟩))
      · subst z
        exact zp_X11_leaving_5 hk HX a ra  q.1 q.2 (fun v p h1 f => kq v h1 f (Or.inl ⟨q.1, q.2, (clsT_w HX).2.2.1 a q.1 q.2, Or.inl ⟨by omega, p⟩⟩))
      · exact zp_X11_leaving_bad hk HX a ra b rb  q.1 q.2 z (kq _ h (frm_0 h) (Or.inl ⟨q.1, q.2, (clsT_w HX).2.2.1 a q.1 q.2, Or.inr ⟨z, rfl⟩⟩))
    · exact zp_X11_leaving_out hk HX a ra b rb q (kq _ _ (frm_0 h) (Or.inr ⟨q, rfl⟩))
  · by_cases q : 0 ≤ a ∧ a < cn σ 0
    · rcases (show b = 0 ∨ b = 1 ∨ b = 2 ∨ b = 3 ∨ b = 4 ∨ b = 5 ∨ ¬ (0 ≤ b ∧ b ≤ 5) by omega) with z | z | z | z | z | z | z
      · subst z
        exact zp_X12_leaving_0 hr HR a ra  q.1 q.2 (fun v p h1 f => kq v h1 f (Or.inl ⟨q.1, q.2, (refT_w HR).2.2.1 a q.1 q.2, Or.inl ⟨by omega, p⟩⟩))
      · subst z
        exact zp_X12_leaving_1 hr HR a ra  q.1 q.2 (fun v p h1 f => kq v h1 f (Or.inl ⟨q.1, q.2, (refT_w HR).2.2.1 a q.1 q.2, Or.inl ⟨by omega, p⟩⟩))
      · subst z
        exact zp_X12_leaving_2 hr HR a ra  q.1 q.2 (fun v p h1 f => kq v h1 f (Or.inl ⟨q.1, q.2, (refT_w HR).2.2.1 a q.1 q.2, Or.inl ⟨by omega, p⟩⟩))
      · subst z
        exact zp_X12_leaving_3 hr HR a ra  q.1 q.2 (fun v p h1 f => kq v h1 f (Or.inl ⟨q.1, q.2, (refT_w HR).2.2.1 a q.1 q.2, Or.inl ⟨by omega, p⟩⟩))
      · subst z
        exact zp_X12_leaving_4 hr HR a ra  q.1 q.2 (fun v p h1 f => kq v h1 f (Or.inl ⟨q.1, q.2, (refT_w HR).2.2.1 a q.1 q.2, Or.inl ⟨by omega, p⟩⟩))
      · subst z
        exact zp_X12_leaving_5 hr HR a ra  q.1 q.2 (fun v p h1 f => kq v h1 f (Or.inl ⟨q.1, q.2, (refT_w HR).2.2.1 a q.1 q.2, Or.inl ⟨by omega, p⟩⟩))
      · exact zp_X12_leaving_bad hr HR a ra b rb  q.1 q.2 z (fun h1 f => kq _ h1 f (Or.inl ⟨q.1, q.2, (refT_w HR).2.2.1 a q.1 q.2, Or.inr ⟨z, rfl⟩⟩))
    · exact zp_X12_leaving_out hr HR a ra b rb q (fun h1 f => kq _ _ f (Or.inr ⟨q, rfl⟩))
theorem op10 {ad : mA} {B : Nat} : op_10 ad B (Inv B) := by
  intro a b c 
  rw [← zI_toInt a]
  rw [← zI_toInt b]
  rw [← zI_toInt c]
  have ra := in_of a
  generalize a.toInt = a at *
  have rb := in_of b
  generalize b.toInt = b at *
  have rc := in_of c
  generalize c.toInt = c at *
  refine opq_I (ansW a (-1) (fun g r => rwQ g b c r)) (ansW_u (fun g r r' w x y => rwQ_u w x y)) (fun h σ hk HX Q kq => ?_) (fun h σ hr HR Q kq => ?_)
  · by_cases q : 0 ≤ a ∧ a < cn σ 0
    · rcases (show b = 1 ∨ b = 2 ∨ b = 3 ∨ b = 4 ∨ b = 5 ∨ ¬ (1 ≤ b ∧ b ≤ 5) by omega) with z | z | z | z | z | z
      · subst z
        exact zp_X11_row_1 hk HX a ra c rc q.1 q.2 (fun v p h1 f => kq v h1 f (Or.inl ⟨q.1, q.2, (clsT_w HX).2.2.1 a q.1 q.2, Or.inl ⟨by omega, p⟩⟩))
      · subst z
        exact zp_X11_row_2 hk HX a ra c rc q.1 q.2 (fun v p h1 f => kq v h1 f (Or.inl ⟨q.1, q.2, (clsT_w HX).2.2.1 a q.1 q.2, Or.inl ⟨by omega, p⟩⟩))
      · subst z
        exact zp_X11_row_3 hk HX a ra c rc q.1 q.2 (fun v p h1 f => kq v h1 f (Or.inl ⟨q.1, q.2, (clsT_w HX).2.2.1 a q.1 q.2, Or.inl ⟨by omega, p⟩⟩))
      · subst z
        exact zp_X11_row_4 hk HX a ra c rc q.1 q.2 (fun v p h1 f => kq v h1 f (Or.inl ⟨q.1, q.2, (clsT_w HX).2.2.1 a q.1 q.2, Or.inl ⟨by omega, p⟩⟩))
      · subst z
        exact zp_X11_row_5 hk HX a ra c rc q.1 q.2 (fun v p h1 f => kq v h1 f (Or.inl ⟨q.1, q.2, (clsT_w HX).2.2.1 a q.1 q.2, Or.inl ⟨by omega, p⟩⟩))
      · exact zp_X11_row_bad hk HX a ra b rb c rc q.1 q.2 z (kq _ h (frm_0 h) (Or.inl ⟨q.1, q.2, (clsT_w HX).2.2.1 a q.1 q.2, Or.inr ⟨z, rfl⟩⟩))
    · exact zp_X11_row_out hk HX a ra b rb c rc q (kq _ _ (frm_0 h) (Or.inr ⟨q, rfl⟩))
  · by_cases q : 0 ≤ a ∧ a < cn σ 0
    · rcases (show b = 1 ∨ b = 2 ∨ b = 3 ∨ b = 4 ∨ b = 5 ∨ ¬ (1 ≤ b ∧ b ≤ 5) by omega) with z | z | z | z | z | z
      · subst z
        exact zp_X12_row_1 hr HR a ra c rc q.1 q.2 (fun v p h1 f => kq v h1 f (Or.inl ⟨q.1, q.2, (refT_w HR).2.2.1 a q.1 q.2, Or.inl ⟨by omega, p⟩⟩))
      · subst z
        exact zp_X12_row_2 hr HR a ra c rc q.1 q.2 (fun v p h1 f => kq v h1 f (Or.inl ⟨q.1, q.2, (refT_w HR).2.2.1 a q.1 q.2, Or.inl ⟨by omega, p⟩⟩))
      · subst z
        exact zp_X12_row_3 hr HR a ra c rc q.1 q.2 (fun v p h1 f => kq v h1 f (Or.inl ⟨q.1, q.2, (refT_w HR).2.2.1 a q.1 q.2, Or.inl ⟨by omega, p⟩⟩))
      · subst z
        exact zp_X12_row_4 hr HR a ra c rc q.1 q.2 (fun v p h1 f => kq v h1 f (Or.inl ⟨q.1, q.2, (refT_w HR).2.2.1 a q.1 q.2, Or.inl ⟨by omega, p⟩⟩))
      · subst z
        exact zp_X12_row_5 hr HR a ra c rc q.1 q.2 (fun v p h1 f => kq v h1 f (Or.inl ⟨q.1, q.2, (refT_w HR).2.2.1 a q.1 q.2, Or.inl ⟨by omega, p⟩⟩))
      · exact zp_X12_row_bad hr HR a ra b rb c rc q.1 q.2 z (fun h1 f => kq _ h1 f (Or.inl ⟨q.1, q.2, (refT_w HR).2.2.1 a q.1 q.2, Or.inr ⟨z, rfl⟩⟩))
    · exact zp_X12_row_out hr HR a ra b rb c rc q (fun h1 f => kq _ _ f (Or.inr ⟨q, rfl⟩))
theorem op11 {ad : mA} {B : Nat} : op_11 ad B (Inv B) := by
  intro a b 
  rw [← zI_toInt a]
  rw [← zI_toInt b]
  have ra := in_of a
  generalize a.toInt = a at *
  have rb := in_of b
  generalize b.toInt = b at *
  refine opq_I (ansW a (-1) (fun g r => rwsP g b r)) (ansW_u (fun g r r' w x y => rwsP_u ⟨w.1.1, w.1.2.1⟩ x y)) (fun h σ hk HX Q kq => ?_) (fun h σ hr HR Q kq => ?_)
  · by_cases q : 0 ≤ a ∧ a < cn σ 0
    · rcases (show b = 0 ∨ b = 1 ∨ b = 2 ∨ b = 3 ∨ ¬ (0 ≤ b ∧ b ≤ 3) by omega) with z | z | z | z | z
      · subst z
        exact zp_X11_rows_0 hk HX a ra  q.1 q.2 (fun v p h1 f => kq v h1 f (Or.inl ⟨q.1, q.2, (clsT_w HX).2.2.1 a q.1 q.2, p⟩))
      · subst z
        exact zp_X11_rows_1 hk HX a ra  q.1 q.2 (fun v p h1 f => kq v h1 f (Or.inl ⟨q.1, q.2, (clsT_w HX).2.2.1 a q.1 q.2, p⟩))
      · subst z
        exact zp_X11_rows_2 hk HX a ra  q.1 q.2 (fun v p h1 f => kq v h1 f (Or.inl ⟨q.1, q.2, (clsT_w HX).2.2.1 a q.1 q.2, p⟩))
      · subst z
        exact zp_X11_rows_3 hk HX a ra  q.1 q.2 (fun v p h1 f => kq v h1 f (Or.inl ⟨q.1, q.2, (clsT_w HX).2.2.1 a q.1 q.2, p⟩))
      · exact zp_X11_rows_bad hk HX a ra b rb  q.1 q.2 z (kq _ h (frm_0 h) (Or.inl ⟨q.1, q.2, (clsT_w HX).2.2.1 a q.1 q.2, Or.inr (Or.inr (Or.inr (Or.inr ⟨z, rfl⟩)))⟩))
    · exact zp_X11_rows_out hk HX a ra b rb q (kq _ _ (frm_0 h) (Or.inr ⟨q, rfl⟩))
  · by_cases q : 0 ≤ a ∧ a < cn σ 0
    · rcases (show b = 0 ∨ b = 1 ∨ b = 2 ∨ b = 3 ∨ ¬ (0 ≤ b ∧ b ≤ 3) by omega) with z | z | z | z | z
      · subst z
        exact zp_X12_rows_0 hr HR a ra  q.1 q.2 (fun v p h1 f => kq v h1 f (Or.inl ⟨q.1, q.2, (refT_w HR).2.2.1 a q.1 q.2, p⟩))
      · subst z
        exact zp_X12_rows_1 hr HR a ra  q.1 q.2 (fun v p h1 f => kq v h1 f (Or.inl ⟨q.1, q.2, (refT_w HR).2.2.1 a q.1 q.2, p⟩))
      · subst z
        exact zp_X12_rows_2 hr HR a ra  q.1 q.2 (fun v p h1 f => kq v h1 f (Or.inl ⟨q.1, q.2, (refT_w HR).2.2.1 a q.1 q.2, p⟩))
      · subst z
        exact zp_X12_rows_3 hr HR a ra  q.1 q.2 (fun v p h1 f => kq v h1 f (Or.inl ⟨q.1, q.2, (refT_w HR).2.2.1 a q.1 q.2, p⟩))
      · exact zp_X12_rows_bad hr HR a ra b rb  q.1 q.2 z (fun h1 f => kq _ h1 f (Or.inl ⟨q.1, q.2, (refT_w HR).2.2.1 a q.1 q.2, Or.inr (Or.inr (Or.inr (Or.inr ⟨z, rfl⟩)))⟩))
    · exact zp_X12_rows_out hr HR a ra b rb q (fun h1 f => kq _ _ f (Or.inr ⟨q, rfl⟩))
theorem op22 {ad : mA} {B : Nat} : op_22 ad B (Inv B) := by
  intro a b bb hb
  rw [← zI_toInt a]
  rw [← zI_toInt b]
  rw [bb_z hb]
  have ra := in_of a
  generalize a.toInt = a at *
  have rb := in_of b
  generalize b.toInt = b at *
  refine opq_I (ansW a (-1) (fun g r => mvQ g b (bb = 1) r)) (ansW_u (fun g r r' w x y => mvQ_u w x y)) (fun h σ hk HX Q kq => ?_) (fun h σ hr HR Q kq => ?_)
  · by_cases q : 0 ≤ a ∧ a < cn σ 0
    · rcases (show b = 1 ∨ b = 2 ∨ b = 3 ∨ b = 4 ∨ b = 5 ∨ ¬ (1 ≤ b ∧ b ≤ 5) by omega) with z | z | z | z | z | z
      · subst z
        exact zp_X11_moves_1 hk HX a ra (bb = 1) q.1 q.2 (fun v p h1 f => kq v h1 f (Or.inl ⟨q.1, q.2, (clsT_w HX).2.2.1 a q.1 q.2, Or.inl ⟨by omega, p⟩⟩))
      · subst z
        exact zp_X11_moves_2 hk HX a ra (bb = 1) q.1 q.2 (fun v p h1 f => kq v h1 f (Or.inl ⟨q.1, q.2, (clsT_w HX).2.2.1 a q.1 q.2, Or.inl ⟨by omega, p⟩⟩))
      · subst z
        exact zp_X11_moves_3 hk HX a ra (bb = 1) q.1 q.2 (fun v p h1 f => kq v h1 f (Or.inl ⟨q.1, q.2, (clsT_w HX).2.2.1 a q.1 q.2, Or.inl ⟨by omega, p⟩⟩))
      · subst z
        exact zp_X11_moves_4 hk HX a ra (bb = 1) q.1 q.2 (fun v p h1 f => kq v h1 f (Or.inl ⟨q.1, q.2, (clsT_w HX).2.2.1 a q.1 q.2, Or.inl ⟨by omega, p⟩⟩))
      · subst z
        exact zp_X11_moves_5 hk HX a ra (bb = 1) q.1 q.2 (fun v p h1 f => kq v h1 f (Or.inl ⟨q.1, q.2, (clsT_w HX).2.2.1 a q.1 q.2, Or.inl ⟨by omega, p⟩⟩))
      · exact zp_X11_moves_bad hk HX a ra b rb (bb = 1) q.1 q.2 z (kq _ h (frm_0 h) (Or.inl ⟨q.1, q.2, (clsT_w HX).2.2.1 a q.1 q.2, Or.inr ⟨z, rfl⟩⟩))
    · exact zp_X11_moves_out hk HX a ra b rb (bb = 1) q (kq _ _ (frm_0 h) (Or.inr ⟨q, rfl⟩))
  · by_cases q : 0 ≤ a ∧ a < cn σ 0
    · rcases (show b = 1 ∨ b = 2 ∨ b = 3 ∨ b = 4 ∨ b = 5 ∨ ¬ (1 ≤ b ∧ b ≤ 5) by omega) with z | z | z | z | z | z
      · subst z
        exact zp_X12_moves_1 hr HR a ra (bb = 1) q.1 q.2 (fun v p h1 f => kq v h1 f (Or.inl ⟨q.1, q.2, (refT_w HR).2.2.1 a q.1 q.2, Or.inl ⟨by omega, p⟩⟩))
      · subst z
        exact zp_X12_moves_2 hr HR a ra (bb = 1) q.1 q.2 (fun v p h1 f => kq v h1 f (Or.inl ⟨q.1, q.2, (refT_w HR).2.2.1 a q.1 q.2, Or.inl ⟨by omega, p⟩⟩))
      · subst z
        exact zp_X12_moves_3 hr HR a ra (bb = 1) q.1 q.2 (fun v p h1 f => kq v h1 f (Or.inl ⟨q.1, q.2, (refT_w HR).2.2.1 a q.1 q.2, Or.inl ⟨by omega, p⟩⟩))
      · subst z
        exact zp_X12_moves_4 hr HR a ra (bb = 1) q.1 q.2 (fun v p h1 f => kq v h1 f (Or.inl ⟨q.1, q.2, (refT_w HR).2.2.1 a q.1 q.2, Or.inl ⟨by omega, p⟩⟩))
      · subst z
        exact zp_X12_moves_5 hr HR a ra (bb = 1) q.1 q.2 (fun v p h1 f => kq v h1 f (Or.inl ⟨q.1, q.2, (refT_w HR).2.2.1 a q.1 q.2, Or.inl ⟨by omega, p⟩⟩))
      · exact zp_X12_moves_bad hr HR a ra b rb (bb = 1) q.1 q.2 z (fun h1 f => kq _ h1 f (Or.inl ⟨q.1, q.2, (refT_w HR).2.2.1 a q.1 q.2, Or.inr ⟨z, rfl⟩⟩))
    · exact zp_X12_moves_out hr HR a ra b rb (bb = 1) q (fun h1 f => kq _ _ f (Or.inr ⟨q, rfl⟩))
