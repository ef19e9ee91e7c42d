/-! ASKED of the class: the row -/
set_option maxRecDepth 20000 in
theorem tm_5_92 : tMet TB0 5 92 = some (0, M_X5_ask) := rfl
set_option maxHeartbeats 1000000 in
theorem zp_X5_pick_1 {ad : mA} {dd : Nat} {h : mH} {Q : mQ} {y f : Nat} {g : Int → Int} (hk : mak h y) (hk1 : fgk h f) (HF : isF h f g)   (pd : y + 17 ≤ f ∨ f + 16 ≤ y + 1) (pd2 : f + 16 ≤ y + 33 ∨ y + 42 ≤ f) (kq : ∀ h1, frm (fun a k => (y + 1 ≤ a ∧ a < y + 17) ∨ (y + 33 ≤ a ∧ a ≤ y + 41)) h h1 → (isF h1 (y + 1) g) → (bdC h1 y g) → (∃ r, mrC h1 y g r ∧ stn g r) → Q none h1) : mCal TB0 ad (dd + 4) M_X5_pick [.ref y, .ref f, .int (zI 1)] h 0 0 Q := by
  refine ⟨Nat.le_of_ble_eq_true rfl, ?_⟩
  show mEv TB0 ad M_X5_pick (dd + 4) (0, 0) (mCal TB0 ad (dd + 3)) (fun v h' z => z.1 = 0 ∧ Q v h') 0 [some (.ref y), some (.ref f), some (.int (zI 1))] [] h (0, 0)
  have FR0 : frm (fun a k => (y + 1 ≤ a ∧ a < y + 17) ∨ (y + 33 ≤ a ∧ a ≤ y + 41)) h h := frm_0 h
  have w1 := isF_n HF
  have W := isF_w HF
  refine e_aload_n dX5_pick_0 rfl ?_
  refine e_aload_n dX5_pick_1 rfl ?_
  refine e_callV [.ref _] dX5_pick_2 tm_5_86 rfl (Nat.le_of_ble_eq_true rfl) (congrArg Prod.fst (ma_s0 hk)) (Nat.le_of_ble_eq_true rfl) (Nat.le_refl _) (Nat.le_refl _) rfl (zp_X5_bind hk hk1 HF (by omega) (fun  h1 f2 p3 p4 => ?_))
  have k5 := lk_q (frm_s f2) hk
  have k6 := lk_q (frm_s f2) hk1
  have H7 := isF_c f2 (fun a k q1 q2 => by omega) HF
  have FR8 := frm_t FR0 (frm_m (S' := (fun a k => (y + 1 ≤ a ∧ a < y + 17) ∨ (y + 33 ≤ a ∧ a ≤ y + 41))) f2 (fun a k q => by omega))
  skip
  refine e_aload_n dX5_pick_5 rfl ?_
  refine e_get (.ref (y + 33)) dX5_pick_6 tf_5_21 (congrArg Prod.fst (ma_s0 k5)) (congrArg va_rf (ma_r0_2 k5)) ?_
  refine z_bipush (6) dX5_pick_9 rfl ?_
  refine e_callS [.ref _, .int _] dX5_pick_11 tm_5_74 rfl (Nat.le_of_ble_eq_true rfl) (Nat.le_refl _) (Nat.le_refl _) rfl (zp_fill (ma_s33 k5) (by decide) ⟨by omega, by omega⟩ (fun h9 f10 e11 => ?_))
  have k12 := lk_q (frm_s f10) k5
  have k13 := lk_q (frm_s f10) k6
  have H14 := isF_c f10 (fun a k q1 q2 => by omega) p3
  have H15 := bdC_c f10 (fun a k q => by omega) p4
  have FR16 := frm_t FR8 (frm_m (S' := (fun a k => (y + 1 ≤ a ∧ a < y + 17) ∨ (y + 33 ≤ a ∧ a ≤ y + 41))) f10 (fun a k q => by omega))
  refine e_aload_n dX5_pick_14 rfl ?_
  refine e_get (.ref (y + 34)) dX5_pick_15 tf_5_25 (congrArg Prod.fst (ma_s0 k12)) (congrArg va_rf (ma_r0_3 k12)) ?_
  refine z_bipush (6) dX5_pick_18 rfl ?_
  refine e_callS [.ref _, .int _] dX5_pick_20 tm_5_74 rfl (Nat.le_of_ble_eq_true rfl) (Nat.le_refl _) (Nat.le_refl _) rfl (zp_fill (ma_s34 k12) (by decide) ⟨by omega, by omega⟩ (fun h17 f18 e19 => ?_))
  have k20 := lk_q (frm_s f18) k12
  have k21 := lk_q (frm_s f18) k13
  have H22 := isF_c f18 (fun a k q1 q2 => by omega) H14
  have H23 := bdC_c f18 (fun a k q => by omega) H15
  have FR24 := frm_t FR16 (frm_m (S' := (fun a k => (y + 1 ≤ a ∧ a < y + 17) ∨ (y + 33 ≤ a ∧ a ≤ y + 41))) f18 (fun a k q => by omega))
  refine e_iload_n dX5_pick_23 rfl ?_
  refine z_if_ne 34 dX5_pick_24 rfl ⟨by omega, by omega⟩ (fun c25 => ?_) (fun c25 => ?_)
  · skip
    refine e_iload_n dX5_pick_34 rfl ?_
    refine z_iconst (1) dX5_pick_35 rfl ?_
    refine z_icmp_ne 82 dX5_pick_36 rfl ⟨by omega, by omega⟩ ⟨by omega, by omega⟩ (fun c26 => ?_) (fun c26 => ?_)
    · exfalso; omega
    · skip
      refine e_aload_n dX5_pick_39 rfl ?_
      refine e_aload_n dX5_pick_40 rfl ?_
      refine e_get (.ref (y + 1)) dX5_pick_41 tf_5_12 (congrArg Prod.fst (ma_s0 k20)) (congrArg va_rf (ma_r0_0 k20)) ?_
      refine e_get (.ref (y + 2)) dX5_pick_44 tf_5_53 (congrArg Prod.fst (ma_s1 k20)) (congrArg va_rf (ma_r1_0 k20)) ?_
      refine z_get (nd g) dX5_pick_47 tf_5_57 (congrArg Prod.fst (ma_s2 k20)) (Or.inl rfl) (isF_nd H22) ?_
      have y27 := isF_n H22
      refine e_aload_n dX5_pick_50 rfl ?_
      refine e_get (.ref (y + 1)) dX5_pick_51 tf_5_12 (congrArg Prod.fst (ma_s0 k20)) (congrArg va_rf (ma_r0_0 k20)) ?_
      refine e_get (.ref (y + 8)) dX5_pick_54 tf_5_67 (congrArg Prod.fst (ma_s1 k20)) (congrArg va_rf (ma_r1_1 k20)) ?_
      refine z_get (nu g) dX5_pick_57 tf_5_57 (congrArg Prod.fst (ma_s8 k20)) (Or.inl rfl) (isF_nu H22) ?_
      have y28 := isF_n H22
      refine e_aload_n dX5_pick_60 rfl ?_
      refine e_get (.ref (y + 40)) dX5_pick_61 tf_5_43 (congrArg Prod.fst (ma_s0 k20)) (congrArg va_rf (ma_r0_9 k20)) ?_
      refine e_aload_n dX5_pick_64 rfl ?_
      refine e_get (.ref (y + 41)) dX5_pick_65 tf_5_46 (congrArg Prod.fst (ma_s0 k20)) (congrArg va_rf (ma_r0_10 k20)) ?_
      refine e_aload_n dX5_pick_68 rfl ?_
      refine e_get (.ref (y + 33)) dX5_pick_69 tf_5_21 (congrArg Prod.fst (ma_s0 k20)) (congrArg va_rf (ma_r0_2 k20)) ?_
      refine e_aload_n dX5_pick_72 rfl ?_
      refine e_get (.ref (y + 34)) dX5_pick_73 tf_5_25 (congrArg Prod.fst (ma_s0 k20)) (congrArg va_rf (ma_r0_3 k20)) ?_
      have P6 : ∀ k : Int, 0 ≤ k → k < 6 → rI h17 (y + 33) k = 6 ∧ rI h17 (y + 34) k = 6 := fun k a c => ⟨((frm_r f18 (by omega))).trans (e11 k a (by omega)), (rfl).trans (e19 k a (by omega))⟩
      refine e_callV [.int _, .int _, .ref _, .ref _, .ref _, .ref _] dX5_pick_76 tm_5_92 rfl (Nat.le_of_ble_eq_true rfl) (congrArg Prod.fst (ma_s0 k20)) (Nat.le_of_ble_eq_true rfl) (Nat.le_refl _) (Nat.le_refl _) rfl (zp_X5_ask_0 k20 H23 (nd g) ⟨by omega, by omega⟩ (nu g) ⟨by omega, by omega⟩ (by omega) (by omega) (by omega) P6 (fun  h29 f30 p31 => ?_))
      have k32 := lk_q (frm_s f30) k20
      have k33 := lk_q (frm_s f30) k21
      have H34 := isF_c f30 (fun a k q1 q2 => by omega) H22
      have H35 := bdC_c f30 (fun a k q => by omega) H23
      have FR36 := frm_t FR24 (frm_m (S' := (fun a k => (y + 1 ≤ a ∧ a < y + 17) ∨ (y + 33 ≤ a ∧ a ≤ y + 41))) f30 (fun a k q => by omega))
      skip
      refine e_goto 136 dX5_pick_79 rfl ?_
      refine e_vret dX5_pick_136 rfl ⟨rfl, ?_⟩
      exact kq _ FR36 H34 H35 p31
  · exfalso; omega
set_option maxHeartbeats 1000000 in
theorem zp_X5_pick_2 {ad : mA} {dd : Nat} {h : mH} {Q : mQ} {y f : Nat} {g : Int → Int} (hk : mak h y) (hk1 : fgk h f) (HF : isF h f g)   (pd : y + 17 ≤ f ∨ f + 16 ≤ y + 1) (pd2 : f + 16 ≤ y + 33 ∨ y + 42 ≤ f) (kq : ∀ h1, frm (fun a k => (y + 1 ≤ a ∧ a < y + 17) ∨ (y + 33 ≤ a ∧ a ≤ y + 41)) h h1 → (isF h1 (y + 1) g) → (bdC h1 y g) → (∃ r, mrC h1 y g r ∧ stn g r) → Q none h1) : mCal TB0 ad (dd + 4) M_X5_pick [.ref y, .ref f, .int (zI 2)] h 0 0 Q := by
  refine ⟨Nat.le_of_ble_eq_true rfl, ?_⟩
  show mEv TB0 ad M_X5_pick (dd + 4) (0, 0) (mCal TB0 ad (dd + 3)) (fun v h' z => z.1 = 0 ∧ Q v h') 0 [some (.ref y), some (.ref f), some (.int (zI 2))] [] h (0, 0)
  have FR0 : frm (fun a k => (y + 1 ≤ a ∧ a < y + 17) ∨ (y + 33 ≤ a ∧ a ≤ y + 41)) h h := frm_0 h
  have w1 := isF_n HF
  have W := isF_w HF
  refine e_aload_n dX5_pick_0 rfl ?_
  refine e_aload_n dX5_pick_1 rfl ?_
  refine e_callV [.ref _] dX5_pick_2 tm_5_86 rfl (Nat.le_of_ble_eq_true rfl) (congrArg Prod.fst (ma_s0 hk)) (Nat.le_of_ble_eq_true rfl) (Nat.le_refl _) (Nat.le_refl _) rfl (zp_X5_bind hk hk1 HF (by omega) (fun  h1 f2 p3 p4 => ?_))
  have k5 := lk_q (frm_s f2) hk
  have k6 := lk_q (frm_s f2) hk1
  have H7 := isF_c f2 (fun a k q1 q2 => by omega) HF
  have FR8 := frm_t FR0 (frm_m (S' := (fun a k => (y + 1 ≤ a ∧ a < y + 17) ∨ (y + 33 ≤ a ∧ a ≤ y + 41))) f2 (fun a k q => by omega))
  skip
  refine e_aload_n dX5_pick_5 rfl ?_
  refine e_get (.ref (y + 33)) dX5_pick_6 tf_5_21 (congrArg Prod.fst (ma_s0 k5)) (congrArg va_rf (ma_r0_2 k5)) ?_
  refine z_bipush (6) dX5_pick_9 rfl ?_
  refine e_callS [.ref _, .int _] dX5_pick_11 tm_5_74 rfl (Nat.le_of_ble_eq_true rfl) (Nat.le_refl _) (Nat.le_refl _) rfl (zp_fill (ma_s33 k5) (by decide) ⟨by omega, by omega⟩ (fun h9 f10 e11 => ?_))
  have k12 := lk_q (frm_s f10) k5
  have k13 := lk_q (frm_s f10) k6
  have H14 := isF_c f10 (fun a k q1 q2 => by omega) p3
  have H15 := bdC_c f10 (fun a k q => by omega) p4
  have FR16 := frm_t FR8 (frm_m (S' := (fun a k => (y + 1 ≤ a ∧ a < y + 17) ∨ (y + 33 ≤ a ∧ a ≤ y + 41))) f10 (fun a k q => by omega))
  refine e_aload_n dX5_pick_14 rfl ?_
  refine e_get (.ref (y + 34)) dX5_pick_15 tf_5_25 (congrArg Prod.fst (ma_s0 k12)) (congrArg va_rf (ma_r0_3 k12)) ?_
  refine z_bipush (6) dX5_pick_18 rfl ?_
  refine e_callS [.ref _, .int _] dX5_pick_20 tm_5_74 rfl (Nat.le_of_ble_eq_true rfl) (Nat.le_refl _) (Nat.le_refl _) rfl (zp_fill (ma_s34 k12) (by decide) ⟨by omega, by omega⟩ (fun h17 f18 e19 => ?_))
  have k20 := lk_q (frm_s f18) k12
  have k21 := lk_q (frm_s f18) k13
  have H22 := isF_c f18 (fun a k q1 q2 => by omega) H14
  have H23 := bdC_c f18 (fun a k q => by omega) H15
  have FR24 := frm_t FR16 (frm_m (S' := (fun a k => (y + 1 ≤ a ∧ a < y + 17) ∨ (y + 33 ≤ a ∧ a ≤ y + 41))) f18 (fun a k q => by omega))
  refine e_iload_n dX5_pick_23 rfl ?_
  refine z_if_ne 34 dX5_pick_24 rfl ⟨by omega, by omega⟩ (fun c25 => ?_) (fun c25 => ?_)
  · skip
    refine e_iload_n dX5_pick_34 rfl ?_
    refine z_iconst (1) dX5_pick_35 rfl ?_
    refine z_icmp_ne 82 dX5_pick_36 rfl ⟨by omega, by omega⟩ ⟨by omega, by omega⟩ (fun c26 => ?_) (fun c26 => ?_)
    · skip
      refine e_iload_n dX5_pick_82 rfl ?_
      refine z_iconst (2) dX5_pick_83 rfl ?_
      refine z_icmp_ne 130 dX5_pick_84 rfl ⟨by omega, by omega⟩ ⟨by omega, by omega⟩ (fun c27 => ?_) (fun c27 => ?_)
      · exfalso; omega
      · skip
        refine e_aload_n dX5_pick_87 rfl ?_
        refine e_aload_n dX5_pick_88 rfl ?_
        refine e_get (.ref (y + 1)) dX5_pick_89 tf_5_12 (congrArg Prod.fst (ma_s0 k20)) (congrArg va_rf (ma_r0_0 k20)) ?_
        refine e_get (.ref (y + 8)) dX5_pick_92 tf_5_67 (congrArg Prod.fst (ma_s1 k20)) (congrArg va_rf (ma_r1_1 k20)) ?_
        refine z_get (nu g) dX5_pick_95 tf_5_57 (congrArg Prod.fst (ma_s8 k20)) (Or.inl rfl) (isF_nu H22) ?_
        have y28 := isF_n H22
        refine e_aload_n dX5_pick_98 rfl ?_
        refine e_get (.ref (y + 1)) dX5_pick_99 tf_5_12 (congrArg Prod.fst (ma_s0 k20)) (congrArg va_rf (ma_r0_0 k20)) ?_
        refine e_get (.ref (y + 2)) dX5_pick_102 tf_5_53 (congrArg Prod.fst (ma_s1 k20)) (congrArg va_rf (ma_r1_0 k20)) ?_
        refine z_get (nd g) dX5_pick_105 tf_5_57 (congrArg Prod.fst (ma_s2 k20)) (Or.inl rfl) (isF_nd H22) ?_
        have y29 := isF_n H22
        refine e_aload_n dX5_pick_108 rfl ?_
        refine e_get (.ref (y + 41)) dX5_pick_109 tf_5_46 (congrArg Prod.fst (ma_s0 k20)) (congrArg va_rf (ma_r0_10 k20)) ?_
        refine e_aload_n dX5_pick_112 rfl ?_
        refine e_get (.ref (y + 40)) dX5_pick_113 tf_5_43 (congrArg Prod.fst (ma_s0 k20)) (congrArg va_rf (ma_r0_9 k20)) ?_
        refine e_aload_n dX5_pick_116 rfl ?_
        refine e_get (.ref (y + 34)) dX5_pick_117 tf_5_25 (congrArg Prod.fst (ma_s0 k20)) (congrArg va_rf (ma_r0_3 k20)) ?_
        refine e_aload_n dX5_pick_120 rfl ?_
        refine e_get (.ref (y + 33)) dX5_pick_121 tf_5_21 (congrArg Prod.fst (ma_s0 k20)) (congrArg va_rf (ma_r0_2 k20)) ?_
        have P6 : ∀ k : Int, 0 ≤ k → k < 6 → rI h17 (y + 33) k = 6 ∧ rI h17 (y + 34) k = 6 := fun k a c => ⟨((frm_r f18 (by omega))).trans (e11 k a (by omega)), (rfl).trans (e19 k a (by omega))⟩
        refine e_callV [.int _, .int _, .ref _, .ref _, .ref _, .ref _] dX5_pick_124 tm_5_92 rfl (Nat.le_of_ble_eq_true rfl) (congrArg Prod.fst (ma_s0 k20)) (Nat.le_of_ble_eq_true rfl) (Nat.le_refl _) (Nat.le_refl _) rfl (zp_X5_ask_1 k20 H23 (nu g) ⟨by omega, by omega⟩ (nd g) ⟨by omega, by omega⟩ (by omega) (by omega) (by omega) P6 (fun  h30 f31 p32 => ?_))
        have k33 := lk_q (frm_s f31) k20
        have k34 := lk_q (frm_s f31) k21
        have H35 := isF_c f31 (fun a k q1 q2 => by omega) H22
        have H36 := bdC_c f31 (fun a k q => by omega) H23
        have FR37 := frm_t FR24 (frm_m (S' := (fun a k => (y + 1 ≤ a ∧ a < y + 17) ∨ (y + 33 ≤ a ∧ a ≤ y + 41))) f31 (fun a k q => by omega))
        skip
        refine e_goto 136 dX5_pick_127 rfl ?_
        refine e_vret dX5_pick_136 rfl ⟨rfl, ?_⟩
        exact kq _ FR37 H35 H36 p32
    · exfalso; omega
  · exfalso; omega
