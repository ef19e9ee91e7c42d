/-! TEXT: the class's call; the op -/
theorem dX11_text_0 : decode cX11_text 0 = .ok (.aload_n 0, 1) := by decide +kernel
theorem dX11_text_1 : decode cX11_text 1 = .ok (.getfield 10, 3) := by decide +kernel
theorem dX11_text_4 : decode cX11_text 4 = .ok (.getfield 62, 3) := by decide +kernel
theorem dX11_text_7 : decode cX11_text 7 = .ok (.istore_n 3, 1) := by decide +kernel
theorem dX11_text_8 : decode cX11_text 8 = .ok (.aload_n 0, 1) := by decide +kernel
theorem dX11_text_9 : decode cX11_text 9 = .ok (.getfield 10, 3) := by decide +kernel
theorem dX11_text_12 : decode cX11_text 12 = .ok (.iconst 0, 1) := by decide +kernel
theorem dX11_text_13 : decode cX11_text 13 = .ok (.putfield 62, 3) := by decide +kernel
theorem dX11_text_16 : decode cX11_text 16 = .ok (.aload_n 0, 1) := by decide +kernel
theorem dX11_text_17 : decode cX11_text 17 = .ok (.getfield 10, 3) := by decide +kernel
theorem dX11_text_20 : decode cX11_text 20 = .ok (.iconst 0, 1) := by decide +kernel
theorem dX11_text_21 : decode cX11_text 21 = .ok (.putfield 70, 3) := by decide +kernel
theorem dX11_text_24 : decode cX11_text 24 = .ok (.aload_n 0, 1) := by decide +kernel
theorem dX11_text_25 : decode cX11_text 25 = .ok (.getfield 10, 3) := by decide +kernel
theorem dX11_text_28 : decode cX11_text 28 = .ok (.iconst (-1), 1) := by decide +kernel
theorem dX11_text_29 : decode cX11_text 29 = .ok (.putfield 73, 3) := by decide +kernel
theorem dX11_text_32 : decode cX11_text 32 = .ok (.aload_n 0, 1) := by decide +kernel
theorem dX11_text_33 : decode cX11_text 33 = .ok (.getfield 10, 3) := by decide +kernel
theorem dX11_text_36 : decode cX11_text 36 = .ok (.iload_n 1, 1) := by decide +kernel
theorem dX11_text_37 : decode cX11_text 37 = .ok (.iload_n 2, 1) := by decide +kernel
theorem dX11_text_38 : decode cX11_text 38 = .ok (.invokevirtual 76, 3) := by decide +kernel
theorem dX11_text_41 : decode cX11_text 41 = .ok (.istore 4, 2) := by decide +kernel
theorem dX11_text_43 : decode cX11_text 43 = .ok (.iload 4, 2) := by decide +kernel
theorem dX11_text_45 : decode cX11_text 45 = .ok (.bipush (-2), 2) := by decide +kernel
theorem dX11_text_47 : decode cX11_text 47 = .ok (.if_icmp .ne 6, 3) := by decide +kernel
theorem dX11_text_50 : decode cX11_text 50 = .ok (.bipush (-2), 2) := by decide +kernel
theorem dX11_text_52 : decode cX11_text 52 = .ok (.ireturn, 1) := by decide +kernel
theorem dX11_text_53 : decode cX11_text 53 = .ok (.aload_n 0, 1) := by decide +kernel
theorem dX11_text_54 : decode cX11_text 54 = .ok (.getfield 23, 3) := by decide +kernel
theorem dX11_text_57 : decode cX11_text 57 = .ok (.aload_n 0, 1) := by decide +kernel
theorem dX11_text_58 : decode cX11_text 58 = .ok (.getfield 10, 3) := by decide +kernel
theorem dX11_text_61 : decode cX11_text 61 = .ok (.getfield 80, 3) := by decide +kernel
theorem dX11_text_64 : decode cX11_text 64 = .ok (.iload_n 3, 1) := by decide +kernel
theorem dX11_text_65 : decode cX11_text 65 = .ok (.iload_n 1, 1) := by decide +kernel
theorem dX11_text_66 : decode cX11_text 66 = .ok (.invokevirtual 84, 3) := by decide +kernel
theorem dX11_text_69 : decode cX11_text 69 = .ok (.aload_n 0, 1) := by decide +kernel
theorem dX11_text_70 : decode cX11_text 70 = .ok (.getfield 10, 3) := by decide +kernel
theorem dX11_text_73 : decode cX11_text 73 = .ok (.aload_n 0, 1) := by decide +kernel
theorem dX11_text_74 : decode cX11_text 74 = .ok (.getfield 23, 3) := by decide +kernel
theorem dX11_text_77 : decode cX11_text 77 = .ok (.getfield 88, 3) := by decide +kernel
theorem dX11_text_80 : decode cX11_text 80 = .ok (.putfield 70, 3) := by decide +kernel
theorem dX11_text_83 : decode cX11_text 83 = .ok (.aload_n 0, 1) := by decide +kernel
theorem dX11_text_84 : decode cX11_text 84 = .ok (.getfield 10, 3) := by decide +kernel
theorem dX11_text_87 : decode cX11_text 87 = .ok (.aload_n 0, 1) := by decide +kernel
theorem dX11_text_88 : decode cX11_text 88 = .ok (.getfield 23, 3) := by decide +kernel
theorem dX11_text_91 : decode cX11_text 91 = .ok (.getfield 89, 3) := by decide +kernel
theorem dX11_text_94 : decode cX11_text 94 = .ok (.putfield 73, 3) := by decide +kernel
theorem dX11_text_97 : decode cX11_text 97 = .ok (.aload_n 0, 1) := by decide +kernel
theorem dX11_text_98 : decode cX11_text 98 = .ok (.getfield 23, 3) := by decide +kernel
theorem dX11_text_101 : decode cX11_text 101 = .ok (.getfield 88, 3) := by decide +kernel
theorem dX11_text_104 : decode cX11_text 104 = .ok (.ifCond .eq 5, 3) := by decide +kernel
theorem dX11_text_107 : decode cX11_text 107 = .ok (.iconst (-1), 1) := by decide +kernel
theorem dX11_text_108 : decode cX11_text 108 = .ok (.ireturn, 1) := by decide +kernel
theorem dX11_text_109 : decode cX11_text 109 = .ok (.aload_n 0, 1) := by decide +kernel
theorem dX11_text_110 : decode cX11_text 110 = .ok (.getfield 10, 3) := by decide +kernel
theorem dX11_text_113 : decode cX11_text 113 = .ok (.iload_n 1, 1) := by decide +kernel
theorem dX11_text_114 : decode cX11_text 114 = .ok (.iload 4, 2) := by decide +kernel
theorem dX11_text_116 : decode cX11_text 116 = .ok (.aload_n 0, 1) := by decide +kernel
theorem dX11_text_117 : decode cX11_text 117 = .ok (.getfield 23, 3) := by decide +kernel
theorem dX11_text_120 : decode cX11_text 120 = .ok (.invokevirtual 90, 3) := by decide +kernel
theorem dX11_text_123 : decode cX11_text 123 = .ok (.iload 4, 2) := by decide +kernel
theorem dX11_text_125 : decode cX11_text 125 = .ok (.ireturn, 1) := by decide +kernel
theorem tf_11_80 : tFld TB0 11 80 = some (8, 0) := rfl
theorem tf_11_88 : tFld TB0 11 88 = some (6, 3) := rfl
theorem tf_11_89 : tFld TB0 11 89 = some (6, 4) := rfl
set_option maxRecDepth 20000 in
theorem tm_11_76 : tMet TB0 11 76 = some (0, M_X8_target) := rfl
set_option maxRecDepth 20000 in
theorem tm_11_84 : tMet TB0 11 84 = some (0, M_X6_read) := rfl
set_option maxRecDepth 20000 in
theorem tm_11_90 : tMet TB0 11 90 = some (0, M_X8_keep) := rfl
/-! TEXT: the class's call -/
set_option maxHeartbeats 4000000 in
theorem zp_X11_text_0 {ad : mA} {dd : Nat} {h : mH} {Q : mQ} {x : Nat} {σ : Sg} (hk : bk h x) (HX : clsT h (x + 1) σ) (HA : adK ad) (b : Int) (b_r : -2147483648 ≤ b ∧ b < 2147483648)  (kq : ∀ v : Int, True → ∀ h1, frm (fun a k => (x + 1 ≤ a ∧ a < x + 55) ∨ (x + 56 ≤ a ∧ a < x + 157)) h h1 → (∃ σ1, clsT h1 (x + 1) σ1 ∧ txR σ 0 b σ1 v) → Q (some (.int (zI v))) h1) : mCal TB0 ad (dd + 11) M_X11_text [.ref x, .int (zI 0), .int (zI b)] h 0 0 Q := by
  refine ⟨Nat.le_of_ble_eq_true rfl, ?_⟩
  show mEv TB0 ad M_X11_text (dd + 11) (0, 0) (mCal TB0 ad (dd + 10)) (fun v h' z => z.1 = 0 ∧ Q v h') 0 [some (.ref x), some (.int (zI 0)), some (.int (zI b)), none, none] [] h (0, 0)
  have FR0 : frm (fun a k => (x + 1 ≤ a ∧ a < x + 55) ∨ (x + 56 ≤ a ∧ a < x + 157)) h h := frm_0 h
  have w1 := wS_n (clsT_w HX)
  refine e_aload_n dX11_text_0 rfl ?_
  refine e_get (.ref (x + 1)) dX11_text_1 tf_11_10 (congrArg Prod.fst (bk_s0 hk)) (congrArg va_rf (bk_r0_0 hk)) ?_
  refine z_get (cn σ 3) dX11_text_4 tf_11_62 (congrArg Prod.fst (bk_s1 hk)) (Or.inl rfl) (clsT_3 HX) ?_
  refine e_istore_n (L' := [_, _, _, _, _]) dX11_text_7 (Nat.le_of_ble_eq_true rfl) rfl ?_
  refine e_aload_n dX11_text_8 rfl ?_
  refine e_get (.ref (x + 1)) dX11_text_9 tf_11_10 (congrArg Prod.fst (bk_s0 hk)) (congrArg va_rf (bk_r0_0 hk)) ?_
  refine z_iconst (0) dX11_text_12 rfl ?_
  refine z_put dX11_text_13 tf_11_62 (congrArg Prod.fst (bk_s1 hk)) rfl (Or.inl rfl) (fun h1 e2 => ?_)
  have f3 := frm_1 e2
  have k4 := bk_q (frm_s f3) hk
  have FR5 := frm_t FR0 (frm_m (S' := (fun a k => (x + 1 ≤ a ∧ a < x + 55) ∨ (x + 56 ≤ a ∧ a < x + 157))) f3 (fun a k q => by omega))
  refine e_aload_n dX11_text_16 rfl ?_
  refine e_get (.ref (x + 1)) dX11_text_17 tf_11_10 (congrArg Prod.fst (bk_s0 k4)) (congrArg va_rf (bk_r0_0 k4)) ?_
  refine z_iconst (0) dX11_text_20 rfl ?_
  refine z_put dX11_text_21 tf_11_70 (congrArg Prod.fst (bk_s1 k4)) rfl (Or.inl rfl) (fun h6 e7 => ?_)
  have f8 := frm_1 e7
  have k9 := bk_q (frm_s f8) k4
  have FR10 := frm_t FR5 (frm_m (S' := (fun a k => (x + 1 ≤ a ∧ a < x + 55) ∨ (x + 56 ≤ a ∧ a < x + 157))) f8 (fun a k q => by omega))
  refine e_aload_n dX11_text_24 rfl ?_
  refine e_get (.ref (x + 1)) dX11_text_25 tf_11_10 (congrArg Prod.fst (bk_s0 k9)) (congrArg va_rf (bk_r0_0 k9)) ?_
  refine z_iconst (-1) dX11_text_28 rfl ?_
  refine z_put dX11_text_29 tf_11_73 (congrArg Prod.fst (bk_s1 k9)) rfl (Or.inl rfl) (fun h11 e12 => ?_)
  have f13 := frm_1 e12
  have k14 := bk_q (frm_s f13) k9
  have FR15 := frm_t FR10 (frm_m (S' := (fun a k => (x + 1 ≤ a ∧ a < x + 55) ∨ (x + 56 ≤ a ∧ a < x + 157))) f13 (fun a k q => by omega))
  refine e_aload_n dX11_text_32 rfl ?_
  refine e_get (.ref (x + 1)) dX11_text_33 tf_11_10 (congrArg Prod.fst (bk_s0 k14)) (congrArg va_rf (bk_r0_0 k14)) ?_
  refine e_iload_n dX11_text_36 rfl ?_
  refine e_iload_n dX11_text_37 rfl ?_
  refine e_callV [.int _, .int _] dX11_text_38 tm_11_76 rfl (Nat.le_of_ble_eq_true rfl) (congrArg Prod.fst (bk_s1 k14)) (Nat.le_of_ble_eq_true rfl) (Nat.le_refl _) (Nat.le_refl _) rfl (zp_X8_target_0 (bk_td1 k14) (cn σ 0) b ⟨by omega, by omega⟩ ((((frm_r f13 (by omega)).trans ((frm_r f8 (by omega)).trans (frm_r f3 (by omega))))).trans (clsT_cn HX (by omega) (by omega))) (by omega) (fun v16 p17 => ?_))
  refine e_istore (L' := [_, _, _, _, _]) dX11_text_41 (Nat.le_of_ble_eq_true rfl) rfl ?_
  refine e_iload dX11_text_43 rfl ?_
  refine z_bipush (-2) dX11_text_45 rfl ?_
  refine z_icmp_ne 53 dX11_text_47 rfl ⟨by omega, by omega⟩ ⟨by omega, by omega⟩ (fun c18 => ?_) (fun c18 => ?_)
  · skip
    have GD : (0 ≤ (0 : Int) ∧ (0 : Int) ≤ 2) ∧ gdC (cn σ 0) b := ⟨by omega, by unfold gdC; omega⟩
    have ixb := ix_b GD.2 (by omega)
    have EX : v16 = ixC (cn σ 0) b := by omega
    have PT : ∀ j : Int, 0 ≤ j → j < 600 → rI h11 (x + 2) j = sT σ j := fun j u v => (((frm_r f13 (by omega)).trans ((frm_r f8 (by omega)).trans (frm_r f3 (by omega))))).trans (clsT_t HX u v)
    refine e_aload_n dX11_text_53 rfl ?_
    refine e_get (.ref (x + 56)) dX11_text_54 tf_11_23 (congrArg Prod.fst (bk_s0 k14)) (congrArg va_rf (bk_r0_2 k14)) ?_
    refine e_aload_n dX11_text_57 rfl ?_
    refine e_get (.ref (x + 1)) dX11_text_58 tf_11_10 (congrArg Prod.fst (bk_s0 k14)) (congrArg va_rf (bk_r0_0 k14)) ?_
    refine e_get (.ref (x + 2)) dX11_text_61 tf_11_80 (congrArg Prod.fst (bk_s1 k14)) (congrArg va_rf (bk_r1_0 k14)) ?_
    refine e_iload_n dX11_text_64 rfl ?_
    refine e_iload_n dX11_text_65 rfl ?_
    refine e_callV [.ref _, .int _, .int _] dX11_text_66 tm_11_84 rfl (Nat.le_of_ble_eq_true rfl) (congrArg Prod.fst (bk_s56 k14)) (Nat.le_of_ble_eq_true rfl) (Nat.le_refl _) (Nat.le_refl _) rfl (zp_X6_read_0 (bk_rd56 k14) (bk_s2 k14) HA (cn σ 3) ⟨by omega, by omega⟩ (by omega) (by omega) PT (fun j u v => wS_t (clsT_w HX) u v) (fun  h19 f20 p21 => ?_))
    have k22 := bk_q (frm_s f20) k14
    have FR23 := frm_t FR15 (frm_m (S' := (fun a k => (x + 1 ≤ a ∧ a < x + 55) ∨ (x + 56 ≤ a ∧ a < x + 157))) f20 (fun a k q => by omega))
    obtain ⟨f9, q9, RF, RO⟩ := rs_x p21
    have rfb := RF.2.2
    refine e_aload_n dX11_text_69 rfl ?_
    refine e_get (.ref (x + 1)) dX11_text_70 tf_11_10 (congrArg Prod.fst (bk_s0 k22)) (congrArg va_rf (bk_r0_0 k22)) ?_
    refine e_aload_n dX11_text_73 rfl ?_
    refine e_get (.ref (x + 56)) dX11_text_74 tf_11_23 (congrArg Prod.fst (bk_s0 k22)) (congrArg va_rf (bk_r0_2 k22)) ?_
    refine z_get f9 dX11_text_77 tf_11_88 (congrArg Prod.fst (bk_s56 k22)) (Or.inl rfl) RF.1 ?_
    refine z_put dX11_text_80 tf_11_70 (congrArg Prod.fst (bk_s1 k22)) rfl (Or.inl rfl) (fun h24 e25 => ?_)
    have f26 := frm_1 e25
    have k27 := bk_q (frm_s f26) k22
    have FR28 := frm_t FR23 (frm_m (S' := (fun a k => (x + 1 ≤ a ∧ a < x + 55) ∨ (x + 56 ≤ a ∧ a < x + 157))) f26 (fun a k q => by omega))
    refine e_aload_n dX11_text_83 rfl ?_
    refine e_get (.ref (x + 1)) dX11_text_84 tf_11_10 (congrArg Prod.fst (bk_s0 k27)) (congrArg va_rf (bk_r0_0 k27)) ?_
    refine e_aload_n dX11_text_87 rfl ?_
    refine e_get (.ref (x + 56)) dX11_text_88 tf_11_23 (congrArg Prod.fst (bk_s0 k27)) (congrArg va_rf (bk_r0_2 k27)) ?_
    refine z_get q9 dX11_text_91 tf_11_89 (congrArg Prod.fst (bk_s56 k27)) (Or.inl rfl) (((frm_r f26 (by omega))).trans RF.2.1) ?_
    refine z_put dX11_text_94 tf_11_73 (congrArg Prod.fst (bk_s1 k27)) rfl (Or.inl rfl) (fun h29 e30 => ?_)
    have f31 := frm_1 e30
    have k32 := bk_q (frm_s f31) k27
    have FR33 := frm_t FR28 (frm_m (S' := (fun a k => (x + 1 ≤ a ∧ a < x + 55) ∨ (x + 56 ≤ a ∧ a < x + 157))) f31 (fun a k q => by omega))
    have CT : clsT h29 (x + 1) (sgA σ f9 q9) := clsT_a HX (fun a u v z n => ((frm_r f31 (by omega)).trans ((frm_r f26 (by omega)).trans ((frm_r f20 (by omega)).trans ((frm_r f13 (by omega)).trans ((frm_r f8 (by omega)).trans (frm_r f3 (by omega)))))))) (((frm_r f31 (by omega)).trans ((frm_r f26 (by omega)).trans ((frm_r f20 (by omega)).trans ((frm_r f13 (by omega)).trans (frm_r f8 (by omega)))))).trans (rI_eq e2 ⟨by omega, by omega⟩)) ((frm_r f31 (by omega)).trans (rI_eq e25 ⟨by omega, by omega⟩)) (rI_eq e30 ⟨by omega, by omega⟩) rfb.1 rfb.2
    refine e_aload_n dX11_text_97 rfl ?_
    refine e_get (.ref (x + 56)) dX11_text_98 tf_11_23 (congrArg Prod.fst (bk_s0 k32)) (congrArg va_rf (bk_r0_2 k32)) ?_
    refine z_get f9 dX11_text_101 tf_11_88 (congrArg Prod.fst (bk_s56 k32)) (Or.inl rfl) ((((frm_r f31 (by omega)).trans (frm_r f26 (by omega)))).trans RF.1) ?_
    refine z_if_eq 109 dX11_text_104 rfl ⟨by omega, by omega⟩ (fun c34 => ?_) (fun c34 => ?_)
    · skip
      obtain ⟨n, O1, O2, ⟨O3, O4⟩, O5⟩ := rs_0 RO (by omega)
      have W9 := fe_w0 O1 O3
      have G8 := O5.1 rfl
      have G9 : rwF h29 ((x + 56) + 1) (runC 0 (sT σ) (cn σ 3) n) := rwF_q (fun a u v z => ((frm_r f31 (by omega)).trans (frm_r f26 (by omega)))) G8
      have CE : rI h29 (x + 1 + 5) 0 = cn σ 0 := (((frm_r f31 (by omega)).trans ((frm_r f26 (by omega)).trans ((frm_r f20 (by omega)).trans ((frm_r f13 (by omega)).trans ((frm_r f8 (by omega)).trans (frm_r f3 (by omega)))))))).trans (clsT_cn HX (by omega) (by omega))
      refine e_aload_n dX11_text_109 rfl ?_
      refine e_get (.ref (x + 1)) dX11_text_110 tf_11_10 (congrArg Prod.fst (bk_s0 k32)) (congrArg va_rf (bk_r0_0 k32)) ?_
      refine e_iload_n dX11_text_113 rfl ?_
      refine e_iload dX11_text_114 rfl ?_
      refine e_aload_n dX11_text_116 rfl ?_
      refine e_get (.ref (x + 56)) dX11_text_117 tf_11_23 (congrArg Prod.fst (bk_s0 k32)) (congrArg va_rf (bk_r0_2 k32)) ?_
      have ab := fAt_b (x + 1) v16
      refine e_callV [.int _, .int _, .ref _] dX11_text_120 tm_11_90 rfl (Nat.le_of_ble_eq_true rfl) (congrArg Prod.fst (bk_s1 k32)) (Nat.le_of_ble_eq_true rfl) (Nat.le_refl _) (Nat.le_refl _) rfl (zp_X8_keep_0 (bk_td1 k32) (bk_rd56 k32) G9 (cn σ 0) v16 ⟨by omega, by omega⟩ W9 CE (by omega) (by omega) (by omega) (fun  h35 f36 p37 p38 => ?_))
      have k39 := bk_q (frm_s f36) k32
      have FR40 := frm_t FR33 (frm_m (S' := (fun a k => (x + 1 ≤ a ∧ a < x + 55) ∨ (x + 56 ≤ a ∧ a < x + 157))) f36 (fun a k q => by omega))
      skip
      refine e_iload dX11_text_123 rfl ?_
      refine z_iret dX11_text_125 rfl ⟨rfl, ?_⟩
      have C0 : clsT h29 (x + 1) (sgA σ 0 (-1)) := by have c9 := CT; rw [show f9 = 0 by omega, O4] at c9; exact c9
      have e5 : rI h35 (x + 1 + 5) 0 = max (cn (sgA σ 0 (-1)) 0) (v16 + 1) := by rw [sgA_cn (by omega)]; exact p38
      exact kq _ trivial _ FR40 ⟨_, clsT_k0 C0 f36 p37 e5 W9 (by omega) (by rw [sgA_cn (by omega)]; omega), Or.inr ⟨GD, Or.inr (Or.inr ⟨EX, n, O1, O2, O3, keS_0.symm⟩)⟩⟩
    · skip
      refine z_iconst (-1) dX11_text_107 rfl ?_
      refine z_iret dX11_text_108 rfl ⟨rfl, ?_⟩
      exact kq _ trivial _ FR33 ⟨_, CT, rs_1 RO (by omega) GD⟩
  · skip
    refine z_bipush (-2) dX11_text_50 rfl ?_
    refine z_iret dX11_text_52 rfl ⟨rfl, ?_⟩
    exact kq _ trivial _ FR15 ⟨_, clsT_a HX (fun a u v z n => ((frm_r f13 (by omega)).trans ((frm_r f8 (by omega)).trans (frm_r f3 (by omega))))) (((frm_r f13 (by omega)).trans (frm_r f8 (by omega))).trans (rI_eq e2 ⟨by omega, by omega⟩)) ((frm_r f13 (by omega)).trans (rI_eq e7 ⟨by omega, by omega⟩)) (rI_eq e12 ⟨by omega, by omega⟩) (by omega) (by omega), Or.inl ⟨fun z => by have z2 := z.2; unfold gdC at z2; omega, rfl, rfl⟩⟩
set_option maxHeartbeats 4000000 in
theorem zp_X11_text_1 {ad : mA} {dd : Nat} {h : mH} {Q : mQ} {x : Nat} {σ : Sg} (hk : bk h x) (HX : clsT h (x + 1) σ) (HA : adK ad) (b : Int) (b_r : -2147483648 ≤ b ∧ b < 2147483648)  (kq : ∀ v : Int, True → ∀ h1, frm (fun a k => (x + 1 ≤ a ∧ a < x + 55) ∨ (x + 56 ≤ a ∧ a < x + 157)) h h1 → (∃ σ1, clsT h1 (x + 1) σ1 ∧ txR σ 1 b σ1 v) → Q (some (.int (zI v))) h1) : mCal TB0 ad (dd + 11) M_X11_text [.ref x, .int (zI 1), .int (zI b)] h 0 0 Q := by
  refine ⟨Nat.le_of_ble_eq_true rfl, ?_⟩
  show mEv TB0 ad M_X11_text (dd + 11) (0, 0) (mCal TB0 ad (dd + 10)) (fun v h' z => z.1 = 0 ∧ Q v h') 0 [some (.ref x), some (.int (zI 1)), some (.int (zI b)), none, none] [] h (0, 0)
  have FR0 : frm (fun a k => (x + 1 ≤ a ∧ a < x + 55) ∨ (x + 56 ≤ a ∧ a < x + 157)) h h := frm_0 h
  have w1 := wS_n (clsT_w HX)
  refine e_aload_n dX11_text_0 rfl ?_
  refine e_get (.ref (x + 1)) dX11_text_1 tf_11_10 (congrArg Prod.fst (bk_s0 hk)) (congrArg va_rf (bk_r0_0 hk)) ?_
  refine z_get (cn σ 3) dX11_text_4 tf_11_62 (congrArg Prod.fst (bk_s1 hk)) (Or.inl rfl) (clsT_3 HX) ?_
  refine e_istore_n (L' := [_, _, _, _, _]) dX11_text_7 (Nat.le_of_ble_eq_true rfl) rfl ?_
  refine e_aload_n dX11_text_8 rfl ?_
  refine e_get (.ref (x + 1)) dX11_text_9 tf_11_10 (congrArg Prod.fst (bk_s0 hk)) (congrArg va_rf (bk_r0_0 hk)) ?_
  refine z_iconst (0) dX11_text_12 rfl ?_
  refine z_put dX11_text_13 tf_11_62 (congrArg Prod.fst (bk_s1 hk)) rfl (Or.inl rfl) (fun h1 e2 => ?_)
  have f3 := frm_1 e2
  have k4 := bk_q (frm_s f3) hk
  have FR5 := frm_t FR0 (frm_m (S' := (fun a k => (x + 1 ≤ a ∧ a < x + 55) ∨ (x + 56 ≤ a ∧ a < x + 157))) f3 (fun a k q => by omega))
  refine e_aload_n dX11_text_16 rfl ?_
  refine e_get (.ref (x + 1)) dX11_text_17 tf_11_10 (congrArg Prod.fst (bk_s0 k4)) (congrArg va_rf (bk_r0_0 k4)) ?_
  refine z_iconst (0) dX11_text_20 rfl ?_
  refine z_put dX11_text_21 tf_11_70 (congrArg Prod.fst (bk_s1 k4)) rfl (Or.inl rfl) (fun h6 e7 => ?_)
  have f8 := frm_1 e7
  have k9 := bk_q (frm_s f8) k4
  have FR10 := frm_t FR5 (frm_m (S' := (fun a k => (x + 1 ≤ a ∧ a < x + 55) ∨ (x + 56 ≤ a ∧ a < x + 157))) f8 (fun a k q => by omega))
  refine e_aload_n dX11_text_24 rfl ?_
  refine e_get (.ref (x + 1)) dX11_text_25 tf_11_10 (congrArg Prod.fst (bk_s0 k9)) (congrArg va_rf (bk_r0_0 k9)) ?_
  refine z_iconst (-1) dX11_text_28 rfl ?_
  refine z_put dX11_text_29 tf_11_73 (congrArg Prod.fst (bk_s1 k9)) rfl (Or.inl rfl) (fun h11 e12 => ?_)
  have f13 := frm_1 e12
  have k14 := bk_q (frm_s f13) k9
  have FR15 := frm_t FR10 (frm_m (S' := (fun a k => (x + 1 ≤ a ∧ a < x + 55) ∨ (x + 56 ≤ a ∧ a < x + 157))) f13 (fun a k q => by omega))
  refine e_aload_n dX11_text_32 rfl ?_
  refine e_get (.ref (x + 1)) dX11_text_33 tf_11_10 (congrArg Prod.fst (bk_s0 k14)) (congrArg va_rf (bk_r0_0 k14)) ?_
  refine e_iload_n dX11_text_36 rfl ?_
  refine e_iload_n dX11_text_37 rfl ?_
  refine e_callV [.int _, .int _] dX11_text_38 tm_11_76 rfl (Nat.le_of_ble_eq_true rfl) (congrArg Prod.fst (bk_s1 k14)) (Nat.le_of_ble_eq_true rfl) (Nat.le_refl _) (Nat.le_refl _) rfl (zp_X8_target_1 (bk_td1 k14) (cn σ 1) b ⟨by omega, by omega⟩ ((((frm_r f13 (by omega)).trans ((frm_r f8 (by omega)).trans (frm_r f3 (by omega))))).trans (clsT_cn HX (by omega) (by omega))) (by omega) (fun v16 p17 => ?_))
  refine e_istore (L' := [_, _, _, _, _]) dX11_text_41 (Nat.le_of_ble_eq_true rfl) rfl ?_
  refine e_iload dX11_text_43 rfl ?_
  refine z_bipush (-2) dX11_text_45 rfl ?_
  refine z_icmp_ne 53 dX11_text_47 rfl ⟨by omega, by omega⟩ ⟨by omega, by omega⟩ (fun c18 => ?_) (fun c18 => ?_)
  · skip
    have GD : (0 ≤ (1 : Int) ∧ (1 : Int) ≤ 2) ∧ gdC (cn σ 1) b := ⟨by omega, by unfold gdC; omega⟩
    have ixb := ix_b GD.2 (by omega)
    have EX : v16 = ixC (cn σ 1) b := by omega
    have PT : ∀ j : Int, 0 ≤ j → j < 600 → rI h11 (x + 2) j = sT σ j := fun j u v => (((frm_r f13 (by omega)).trans ((frm_r f8 (by omega)).trans (frm_r f3 (by omega))))).trans (clsT_t HX u v)
    refine e_aload_n dX11_text_53 rfl ?_
    refine e_get (.ref (x + 56)) dX11_text_54 tf_11_23 (congrArg Prod.fst (bk_s0 k14)) (congrArg va_rf (bk_r0_2 k14)) ?_
    refine e_aload_n dX11_text_57 rfl ?_
    refine e_get (.ref (x + 1)) dX11_text_58 tf_11_10 (congrArg Prod.fst (bk_s0 k14)) (congrArg va_rf (bk_r0_0 k14)) ?_
    refine e_get (.ref (x + 2)) dX11_text_61 tf_11_80 (congrArg Prod.fst (bk_s1 k14)) (congrArg va_rf (bk_r1_0 k14)) ?_
    refine e_iload_n dX11_text_64 rfl ?_
    refine e_iload_n dX11_text_65 rfl ?_
    refine e_callV [.ref _, .int _, .int _] dX11_text_66 tm_11_84 rfl (Nat.le_of_ble_eq_true rfl) (congrArg Prod.fst (bk_s56 k14)) (Nat.le_of_ble_eq_true rfl) (Nat.le_refl _) (Nat.le_refl _) rfl (zp_X6_read_1 (bk_rd56 k14) (bk_s2 k14) HA (cn σ 3) ⟨by omega, by omega⟩ (by omega) (by omega) PT (fun j u v => wS_t (clsT_w HX) u v) (fun  h19 f20 p21 => ?_))
    have k22 := bk_q (frm_s f20) k14
    have FR23 := frm_t FR15 (frm_m (S' := (fun a k => (x + 1 ≤ a ∧ a < x + 55) ∨ (x + 56 ≤ a ∧ a < x + 157))) f20 (fun a k q => by omega))
    obtain ⟨f9, q9, RF, RO⟩ := rs_x p21
    have rfb := RF.2.2
    refine e_aload_n dX11_text_69 rfl ?_
    refine e_get (.ref (x + 1)) dX11_text_70 tf_11_10 (congrArg Prod.fst (bk_s0 k22)) (congrArg va_rf (bk_r0_0 k22)) ?_
    refine e_aload_n dX11_text_73 rfl ?_
    refine e_get (.ref (x + 56)) dX11_text_74 tf_11_23 (congrArg Prod.fst (bk_s0 k22)) (congrArg va_rf (bk_r0_2 k22)) ?_
    refine z_get f9 dX11_text_77 tf_11_88 (congrArg Prod.fst (bk_s56 k22)) (Or.inl rfl) RF.1 ?_
    refine z_put dX11_text_80 tf_11_70 (congrArg Prod.fst (bk_s1 k22)) rfl (Or.inl rfl) (fun h24 e25 => ?_)
    have f26 := frm_1 e25
    have k27 := bk_q (frm_s f26) k22
    have FR28 := frm_t FR23 (frm_m (S' := (fun a k => (x + 1 ≤ a ∧ a < x + 55) ∨ (x + 56 ≤ a ∧ a < x + 157))) f26 (fun a k q => by omega))
    refine e_aload_n dX11_text_83 rfl ?_
    refine e_get (.ref (x + 1)) dX11_text_84 tf_11_10 (congrArg Prod.fst (bk_s0 k27)) (congrArg va_rf (bk_r0_0 k27)) ?_
    refine e_aload_n dX11_text_87 rfl ?_
    refine e_get (.ref (x + 56)) dX11_text_88 tf_11_23 (congrArg Prod.fst (bk_s0 k27)) (congrArg va_rf (bk_r0_2 k27)) ?_
    refine z_get q9 dX11_text_91 tf_11_89 (congrArg Prod.fst (bk_s56 k27)) (Or.inl rfl) (((frm_r f26 (by omega))).trans RF.2.1) ?_
    refine z_put dX11_text_94 tf_11_73 (congrArg Prod.fst (bk_s1 k27)) rfl (Or.inl rfl) (fun h29 e30 => ?_)
    have f31 := frm_1 e30
    have k32 := bk_q (frm_s f31) k27
    have FR33 := frm_t FR28 (frm_m (S' := (fun a k => (x + 1 ≤ a ∧ a < x + 55) ∨ (x + 56 ≤ a ∧ a < x + 157))) f31 (fun a k q => by omega))
    have CT : clsT h29 (x + 1) (sgA σ f9 q9) := clsT_a HX (fun a u v z n => ((frm_r f31 (by omega)).trans ((frm_r f26 (by omega)).trans ((frm_r f20 (by omega)).trans ((frm_r f13 (by omega)).trans ((frm_r f8 (by omega)).trans (frm_r f3 (by omega)))))))) (((frm_r f31 (by omega)).trans ((frm_r f26 (by omega)).trans ((frm_r f20 (by omega)).trans ((frm_r f13 (by omega)).trans (frm_r f8 (by omega)))))).trans (rI_eq e2 ⟨by omega, by omega⟩)) ((frm_r f31 (by omega)).trans (rI_eq e25 ⟨by omega, by omega⟩)) (rI_eq e30 ⟨by omega, by omega⟩) rfb.1 rfb.2
    refine e_aload_n dX11_text_97 rfl ?_
    refine e_get (.ref (x + 56)) dX11_text_98 tf_11_23 (congrArg Prod.fst (bk_s0 k32)) (congrArg va_rf (bk_r0_2 k32)) ?_
    refine z_get f9 dX11_text_101 tf_11_88 (congrArg Prod.fst (bk_s56 k32)) (Or.inl rfl) ((((frm_r f31 (by omega)).trans (frm_r f26 (by omega)))).trans RF.1) ?_
    refine z_if_eq 109 dX11_text_104 rfl ⟨by omega, by omega⟩ (fun c34 => ?_) (fun c34 => ?_)
    · skip
      obtain ⟨n, O1, O2, ⟨O3, O4⟩, O5⟩ := rs_0 RO (by omega)
      have W9 := fe_w1 O1 O3
      have G8 := O5.2.1 rfl
      have G9 : rwY h29 ((x + 56) + 17) (runC 1 (sT σ) (cn σ 3) n) := ⟨(((frm_r f31 (by omega)).trans (frm_r f26 (by omega)))).trans G8.1, fun k u v => ⟨(((frm_r f31 (by omega)).trans (frm_r f26 (by omega)))).trans (G8.2 k u v).1, (((frm_r f31 (by omega)).trans (frm_r f26 (by omega)))).trans (G8.2 k u v).2.1, (((frm_r f31 (by omega)).trans (frm_r f26 (by omega)))).trans (G8.2 k u v).2.2⟩⟩
      have CE : rI h29 (x + 1 + 5) 1 = cn σ 1 := (((frm_r f31 (by omega)).trans ((frm_r f26 (by omega)).trans ((frm_r f20 (by omega)).trans ((frm_r f13 (by omega)).trans ((frm_r f8 (by omega)).trans (frm_r f3 (by omega)))))))).trans (clsT_cn HX (by omega) (by omega))
      refine e_aload_n dX11_text_109 rfl ?_
      refine e_get (.ref (x + 1)) dX11_text_110 tf_11_10 (congrArg Prod.fst (bk_s0 k32)) (congrArg va_rf (bk_r0_0 k32)) ?_
      refine e_iload_n dX11_text_113 rfl ?_
      refine e_iload dX11_text_114 rfl ?_
      refine e_aload_n dX11_text_116 rfl ?_
      refine e_get (.ref (x + 56)) dX11_text_117 tf_11_23 (congrArg Prod.fst (bk_s0 k32)) (congrArg va_rf (bk_r0_2 k32)) ?_
      have ab := yAt_b (x + 1) v16
      refine e_callV [.int _, .int _, .ref _] dX11_text_120 tm_11_90 rfl (Nat.le_of_ble_eq_true rfl) (congrArg Prod.fst (bk_s1 k32)) (Nat.le_of_ble_eq_true rfl) (Nat.le_refl _) (Nat.le_refl _) rfl (zp_X8_keep_1 (bk_td1 k32) (bk_rd56 k32) G9 (cn σ 1) v16 ⟨by omega, by omega⟩ W9 CE (by omega) (by omega) (by omega) (fun  h35 f36 p37 p38 => ?_))
      have k39 := bk_q (frm_s f36) k32
      have FR40 := frm_t FR33 (frm_m (S' := (fun a k => (x + 1 ≤ a ∧ a < x + 55) ∨ (x + 56 ≤ a ∧ a < x + 157))) f36 (fun a k q => by omega))
      skip
      refine e_iload dX11_text_123 rfl ?_
      refine z_iret dX11_text_125 rfl ⟨rfl, ?_⟩
      have C0 : clsT h29 (x + 1) (sgA σ 0 (-1)) := by have c9 := CT; rw [show f9 = 0 by omega, O4] at c9; exact c9
      have e5 : rI h35 (x + 1 + 5) 1 = max (cn (sgA σ 0 (-1)) 1) (v16 + 1) := by rw [sgA_cn (by omega)]; exact p38
      exact kq _ trivial _ FR40 ⟨_, clsT_k1 C0 f36 p37 e5 W9 (by omega) (by rw [sgA_cn (by omega)]; omega), Or.inr ⟨GD, Or.inr (Or.inr ⟨EX, n, O1, O2, O3, keS_1.symm⟩)⟩⟩
    · skip
      refine z_iconst (-1) dX11_text_107 rfl ?_
      refine z_iret dX11_text_108 rfl ⟨rfl, ?_⟩
      exact kq _ trivial _ FR33 ⟨_, CT, rs_1 RO (by omega) GD⟩
  · skip
    refine z_bipush (-2) dX11_text_50 rfl ?_
    refine z_iret dX11_text_52 rfl ⟨rfl, ?_⟩
    exact kq _ trivial _ FR15 ⟨_, clsT_a HX (fun a u v z n => ((frm_r f13 (by omega)).trans ((frm_r f8 (by omega)).trans (frm_r f3 (by omega))))) (((frm_r f13 (by omega)).trans (frm_r f8 (by omega))).trans (rI_eq e2 ⟨by omega, by omega⟩)) ((frm_r f13 (by omega)).trans (rI_eq e7 ⟨by omega, by omega⟩)) (rI_eq e12 ⟨by omega, by omega⟩) (by omega) (by omega), Or.inl ⟨fun z => by have z2 := z.2; unfold gdC at z2; omega, rfl, rfl⟩⟩
set_option maxHeartbeats 4000000 in
theorem zp_X11_text_2 {ad : mA} {dd : Nat} {h : mH} {Q : mQ} {x : Nat} {σ : Sg} (hk : bk h x) (HX : clsT h (x + 1) σ) (HA : adK ad) (b : Int) (b_r : -2147483648 ≤ b ∧ b < 2147483648)  (kq : ∀ v : Int, True → ∀ h1, frm (fun a k => (x + 1 ≤ a ∧ a < x + 55) ∨ (x + 56 ≤ a ∧ a < x + 157)) h h1 → (∃ σ1, clsT h1 (x + 1) σ1 ∧ txR σ 2 b σ1 v) → Q (some (.int (zI v))) h1) : mCal TB0 ad (dd + 11) M_X11_text [.ref x, .int (zI 2), .int (zI b)] h 0 0 Q := by
  refine ⟨Nat.le_of_ble_eq_true rfl, ?_⟩
  show mEv TB0 ad M_X11_text (dd + 11) (0, 0) (mCal TB0 ad (dd + 10)) (fun v h' z => z.1 = 0 ∧ Q v h') 0 [some (.ref x), some (.int (zI 2)), some (.int (zI b)), none, none] [] h (0, 0)
  have FR0 : frm (fun a k => (x + 1 ≤ a ∧ a < x + 55) ∨ (x + 56 ≤ a ∧ a < x + 157)) h h := frm_0 h
  have w1 := wS_n (clsT_w HX)
  refine e_aload_n dX11_text_0 rfl ?_
  refine e_get (.ref (x + 1)) dX11_text_1 tf_11_10 (congrArg Prod.fst (bk_s0 hk)) (congrArg va_rf (bk_r0_0 hk)) ?_
  refine z_get (cn σ 3) dX11_text_4 tf_11_62 (congrArg Prod.fst (bk_s1 hk)) (Or.inl rfl) (clsT_3 HX) ?_
  refine e_istore_n (L' := [_, _, _, _, _]) dX11_text_7 (Nat.le_of_ble_eq_true rfl) rfl ?_
  refine e_aload_n dX11_text_8 rfl ?_
  refine e_get (.ref (x + 1)) dX11_text_9 tf_11_10 (congrArg Prod.fst (bk_s0 hk)) (congrArg va_rf (bk_r0_0 hk)) ?_
  refine z_iconst (0) dX11_text_12 rfl ?_
  refine z_put dX11_text_13 tf_11_62 (congrArg Prod.fst (bk_s1 hk)) rfl (Or.inl rfl) (fun h1 e2 => ?_)
  have f3 := frm_1 e2
  have k4 := bk_q (frm_s f3) hk
  have FR5 := frm_t FR0 (frm_m (S' := (fun a k => (x + 1 ≤ a ∧ a < x + 55) ∨ (x + 56 ≤ a ∧ a < x + 157))) f3 (fun a k q => by omega))
  refine e_aload_n dX11_text_16 rfl ?_
  refine e_get (.ref (x + 1)) dX11_text_17 tf_11_10 (congrArg Prod.fst (bk_s0 k4)) (congrArg va_rf (bk_r0_0 k4)) ?_
  refine z_iconst (0) dX11_text_20 rfl ?_
  refine z_put dX11_text_21 tf_11_70 (congrArg Prod.fst (bk_s1 k4)) rfl (Or.inl rfl) (fun h6 e7 => ?_)
  have f8 := frm_1 e7
  have k9 := bk_q (frm_s f8) k4
  have FR10 := frm_t FR5 (frm_m (S' := (fun a k => (x + 1 ≤ a ∧ a < x + 55) ∨ (x + 56 ≤ a ∧ a < x + 157))) f8 (fun a k q => by omega))
  refine e_aload_n dX11_text_24 rfl ?_
  refine e_get (.ref (x + 1)) dX11_text_25 tf_11_10 (congrArg Prod.fst (bk_s0 k9)) (congrArg va_rf (bk_r0_0 k9)) ?_
  refine z_iconst (-1) dX11_text_28 rfl ?_
  refine z_put dX11_text_29 tf_11_73 (congrArg Prod.fst (bk_s1 k9)) rfl (Or.inl rfl) (fun h11 e12 => ?_)
  have f13 := frm_1 e12
  have k14 := bk_q (frm_s f13) k9
  have FR15 := frm_t FR10 (frm_m (S' := (fun a k => (x + 1 ≤ a ∧ a < x + 55) ∨ (x + 56 ≤ a ∧ a < x + 157))) f13 (fun a k q => by omega))
  refine e_aload_n dX11_text_32 rfl ?_
  refine e_get (.ref (x + 1)) dX11_text_33 tf_11_10 (congrArg Prod.fst (bk_s0 k14)) (congrArg va_rf (bk_r0_0 k14)) ?_
  refine e_iload_n dX11_text_36 rfl ?_
  refine e_iload_n dX11_text_37 rfl ?_
  refine e_callV [.int _, .int _] dX11_text_38 tm_11_76 rfl (Nat.le_of_ble_eq_true rfl) (congrArg Prod.fst (bk_s1 k14)) (Nat.le_of_ble_eq_true rfl) (Nat.le_refl _) (Nat.le_refl _) rfl (zp_X8_target_2 (bk_td1 k14) (cn σ 2) b ⟨by omega, by omega⟩ ((((frm_r f13 (by omega)).trans ((frm_r f8 (by omega)).trans (frm_r f3 (by omega))))).trans (clsT_cn HX (by omega) (by omega))) (by omega) (fun v16 p17 => ?_))
  refine e_istore (L' := [_, _, _, _, _]) dX11_text_41 (Nat.le_of_ble_eq_true rfl) rfl ?_
  refine e_iload dX11_text_43 rfl ?_
  refine z_bipush (-2) dX11_text_45 rfl ?_
  refine z_icmp_ne 53 dX11_text_47 rfl ⟨by omega, by omega⟩ ⟨by omega, by omega⟩ (fun c18 => ?_) (fun c18 => ?_)
  · skip
    have GD : (0 ≤ (2 : Int) ∧ (2 : Int) ≤ 2) ∧ gdC (cn σ 2) b := ⟨by omega, by unfold gdC; omega⟩
    have ixb := ix_b GD.2 (by omega)
    have EX : v16 = ixC (cn σ 2) b := by omega
    have PT : ∀ j : Int, 0 ≤ j → j < 600 → rI h11 (x + 2) j = sT σ j := fun j u v => (((frm_r f13 (by omega)).trans ((frm_r f8 (by omega)).trans (frm_r f3 (by omega))))).trans (clsT_t HX u v)
    refine e_aload_n dX11_text_53 rfl ?_
    refine e_get (.ref (x + 56)) dX11_text_54 tf_11_23 (congrArg Prod.fst (bk_s0 k14)) (congrArg va_rf (bk_r0_2 k14)) ?_
    refine e_aload_n dX11_text_57 rfl ?_
    refine e_get (.ref (x + 1)) dX11_text_58 tf_11_10 (congrArg Prod.fst (bk_s0 k14)) (congrArg va_rf (bk_r0_0 k14)) ?_
    refine e_get (.ref (x + 2)) dX11_text_61 tf_11_80 (congrArg Prod.fst (bk_s1 k14)) (congrArg va_rf (bk_r1_0 k14)) ?_
    refine e_iload_n dX11_text_64 rfl ?_
    refine e_iload_n dX11_text_65 rfl ?_
    refine e_callV [.ref _, .int _, .int _] dX11_text_66 tm_11_84 rfl (Nat.le_of_ble_eq_true rfl) (congrArg Prod.fst (bk_s56 k14)) (Nat.le_of_ble_eq_true rfl) (Nat.le_refl _) (Nat.le_refl _) rfl (zp_X6_read_2 (bk_rd56 k14) (bk_s2 k14) HA (cn σ 3) ⟨by omega, by omega⟩ (by omega) (by omega) PT (fun j u v => wS_t (clsT_w HX) u v) (fun  h19 f20 p21 => ?_))
    have k22 := bk_q (frm_s f20) k14
    have FR23 := frm_t FR15 (frm_m (S' := (fun a k => (x + 1 ≤ a ∧ a < x + 55) ∨ (x + 56 ≤ a ∧ a < x + 157))) f20 (fun a k q => by omega))
    obtain ⟨f9, q9, RF, RO⟩ := rs_x p21
    have rfb := RF.2.2
    refine e_aload_n dX11_text_69 rfl ?_
    refine e_get (.ref (x + 1)) dX11_text_70 tf_11_10 (congrArg Prod.fst (bk_s0 k22)) (congrArg va_rf (bk_r0_0 k22)) ?_
    refine e_aload_n dX11_text_73 rfl ?_
    refine e_get (.ref (x + 56)) dX11_text_74 tf_11_23 (congrArg Prod.fst (bk_s0 k22)) (congrArg va_rf (bk_r0_2 k22)) ?_
    refine z_get f9 dX11_text_77 tf_11_88 (congrArg Prod.fst (bk_s56 k22)) (Or.inl rfl) RF.1 ?_
    refine z_put dX11_text_80 tf_11_70 (congrArg Prod.fst (bk_s1 k22)) rfl (Or.inl rfl) (fun h24 e25 => ?_)
    have f26 := frm_1 e25
    have k27 := bk_q (frm_s f26) k22
    have FR28 := frm_t FR23 (frm_m (S' := (fun a k => (x + 1 ≤ a ∧ a < x + 55) ∨ (x + 56 ≤ a ∧ a < x + 157))) f26 (fun a k q => by omega))
    refine e_aload_n dX11_text_83 rfl ?_
    refine e_get (.ref (x + 1)) dX11_text_84 tf_11_10 (congrArg Prod.fst (bk_s0 k27)) (congrArg va_rf (bk_r0_0 k27)) ?_
    refine e_aload_n dX11_text_87 rfl ?_
    refine e_get (.ref (x + 56)) dX11_text_88 tf_11_23 (congrArg Prod.fst (bk_s0 k27)) (congrArg va_rf (bk_r0_2 k27)) ?_
    refine z_get q9 dX11_text_91 tf_11_89 (congrArg Prod.fst (bk_s56 k27)) (Or.inl rfl) (((frm_r f26 (by omega))).trans RF.2.1) ?_
    refine z_put dX11_text_94 tf_11_73 (congrArg Prod.fst (bk_s1 k27)) rfl (Or.inl rfl) (fun h29 e30 => ?_)
    have f31 := frm_1 e30
    have k32 := bk_q (frm_s f31) k27
    have FR33 := frm_t FR28 (frm_m (S' := (fun a k => (x + 1 ≤ a ∧ a < x + 55) ∨ (x + 56 ≤ a ∧ a < x + 157))) f31 (fun a k q => by omega))
    have CT : clsT h29 (x + 1) (sgA σ f9 q9) := clsT_a HX (fun a u v z n => ((frm_r f31 (by omega)).trans ((frm_r f26 (by omega)).trans ((frm_r f20 (by omega)).trans ((frm_r f13 (by omega)).trans ((frm_r f8 (by omega)).trans (frm_r f3 (by omega)))))))) (((frm_r f31 (by omega)).trans ((frm_r f26 (by omega)).trans ((frm_r f20 (by omega)).trans ((frm_r f13 (by omega)).trans (frm_r f8 (by omega)))))).trans (rI_eq e2 ⟨by omega, by omega⟩)) ((frm_r f31 (by omega)).trans (rI_eq e25 ⟨by omega, by omega⟩)) (rI_eq e30 ⟨by omega, by omega⟩) rfb.1 rfb.2
    refine e_aload_n dX11_text_97 rfl ?_
    refine e_get (.ref (x + 56)) dX11_text_98 tf_11_23 (congrArg Prod.fst (bk_s0 k32)) (congrArg va_rf (bk_r0_2 k32)) ?_
    refine z_get f9 dX11_text_101 tf_11_88 (congrArg Prod.fst (bk_s56 k32)) (Or.inl rfl) ((((frm_r f31 (by omega)).trans (frm_r f26 (by omega)))).trans RF.1) ?_
    refine z_if_eq 109 dX11_text_104 rfl ⟨by omega, by omega⟩ (fun c34 => ?_) (fun c34 => ?_)
    · skip
      obtain ⟨n, O1, O2, ⟨O3, O4⟩, O5⟩ := rs_0 RO (by omega)
      have W9 := fe_w2 O1 O3
      have G8 := O5.2.2 rfl
      have G9 : rwY h29 ((x + 56) + 21) (runC 2 (sT σ) (cn σ 3) n) := ⟨(((frm_r f31 (by omega)).trans (frm_r f26 (by omega)))).trans G8.1, fun k u v => ⟨(((frm_r f31 (by omega)).trans (frm_r f26 (by omega)))).trans (G8.2 k u v).1, (((frm_r f31 (by omega)).trans (frm_r f26 (by omega)))).trans (G8.2 k u v).2.1, (((frm_r f31 (by omega)).trans (frm_r f26 (by omega)))).trans (G8.2 k u v).2.2⟩⟩
      have CE : rI h29 (x + 1 + 5) 2 = cn σ 2 := (((frm_r f31 (by omega)).trans ((frm_r f26 (by omega)).trans ((frm_r f20 (by omega)).trans ((frm_r f13 (by omega)).trans ((frm_r f8 (by omega)).trans (frm_r f3 (by omega)))))))).trans (clsT_cn HX (by omega) (by omega))
      refine e_aload_n dX11_text_109 rfl ?_
      refine e_get (.ref (x + 1)) dX11_text_110 tf_11_10 (congrArg Prod.fst (bk_s0 k32)) (congrArg va_rf (bk_r0_0 k32)) ?_
      refine e_iload_n dX11_text_113 rfl ?_
      refine e_iload dX11_text_114 rfl ?_
      refine e_aload_n dX11_text_116 rfl ?_
      refine e_get (.ref (x + 56)) dX11_text_117 tf_11_23 (congrArg Prod.fst (bk_s0 k32)) (congrArg va_rf (bk_r0_2 k32)) ?_
      have ab := kAt_b (x + 1) v16
      refine e_callV [.int _, .int _, .ref _] dX11_text_120 tm_11_90 rfl (Nat.le_of_ble_eq_true rfl) (congrArg Prod.fst (bk_s1 k32)) (Nat.le_of_ble_eq_true rfl) (Nat.le_refl _) (Nat.le_refl _) rfl (zp_X8_keep_2 (bk_td1 k32) (bk_rd56 k32) G9 (cn σ 2) v16 ⟨by omega, by omega⟩ W9 CE (by omega) (by omega) (by omega) (fun  h35 f36 p37 p38 => ?_))
      have k39 := bk_q (frm_s f36) k32
      have FR40 := frm_t FR33 (frm_m (S' := (fun a k => (x + 1 ≤ a ∧ a < x + 55) ∨ (x + 56 ≤ a ∧ a < x + 157))) f36 (fun a k q => by omega))
      skip
      refine e_iload dX11_text_123 rfl ?_
      refine z_iret dX11_text_125 rfl ⟨rfl, ?_⟩
      have C0 : clsT h29 (x + 1) (sgA σ 0 (-1)) := by have c9 := CT; rw [show f9 = 0 by omega, O4] at c9; exact c9
      have e5 : rI h35 (x + 1 + 5) 2 = max (cn (sgA σ 0 (-1)) 2) (v16 + 1) := by rw [sgA_cn (by omega)]; exact p38
      exact kq _ trivial _ FR40 ⟨_, clsT_k2 C0 f36 p37 e5 W9 (by omega) (by rw [sgA_cn (by omega)]; omega), Or.inr ⟨GD, Or.inr (Or.inr ⟨EX, n, O1, O2, O3, keS_2.symm⟩)⟩⟩
    · skip
      refine z_iconst (-1) dX11_text_107 rfl ?_
      refine z_iret dX11_text_108 rfl ⟨rfl, ?_⟩
      exact kq _ trivial _ FR33 ⟨_, CT, rs_1 RO (by omega) GD⟩
  · skip
    refine z_bipush (-2) dX11_text_50 rfl ?_
    refine z_iret dX11_text_52 rfl ⟨rfl, ?_⟩
    exact kq _ trivial _ FR15 ⟨_, clsT_a HX (fun a u v z n => ((frm_r f13 (by omega)).trans ((frm_r f8 (by omega)).trans (frm_r f3 (by omega))))) (((frm_r f13 (by omega)).trans (frm_r f8 (by omega))).trans (rI_eq e2 ⟨by omega, by omega⟩)) ((frm_r f13 (by omega)).trans (rI_eq e7 ⟨by omega, by omega⟩)) (rI_eq e12 ⟨by omega, by omega⟩) (by omega) (by omega), Or.inl ⟨fun z => by have z2 := z.2; unfold gdC at z2; omega, rfl, rfl⟩⟩
set_option maxHeartbeats 1000000 in
theorem zp_X11_text_x {ad : mA} {dd : Nat} {h : mH} {Q : mQ} {x : Nat} {σ : Sg} (hk : bk h x) (HX : clsT h (x + 1) σ)  (a : Int) (a_r : -2147483648 ≤ a ∧ a < 2147483648) (b : Int) (b_r : -2147483648 ≤ b ∧ b < 2147483648) (pa : ¬ (0 ≤ a ∧ a ≤ 2)) (kq : ∀ v : Int, True → ∀ h1, frm (fun a k => (x + 1 ≤ a ∧ a < x + 55) ∨ (x + 56 ≤ a ∧ a < x + 157)) h h1 → (∃ σ1, clsT h1 (x + 1) σ1 ∧ txR σ a b σ1 v) → Q (some (.int (zI v))) h1) : mCal TB0 ad (dd + 11) M_X11_text [.ref x, .int (zI a), .int (zI b)] h 0 0 Q := by
  refine ⟨Nat.le_of_ble_eq_true rfl, ?_⟩
  show mEv TB0 ad M_X11_text (dd + 11) (0, 0) (mCal TB0 ad (dd + 10)) (fun v h' z => z.1 = 0 ∧ Q v h') 0 [some (.ref x), some (.int (zI a)), some (.int (zI b)), none, none] [] h (0, 0)
  have FR0 : frm (fun a k => (x + 1 ≤ a ∧ a < x + 55) ∨ (x + 56 ≤ a ∧ a < x + 157)) h h := frm_0 h
  have w1 := wS_n (clsT_w HX)
  refine e_aload_n dX11_text_0 rfl ?_
  refine e_get (.ref (x + 1)) dX11_text_1 tf_11_10 (congrArg Prod.fst (bk_s0 hk)) (congrArg va_rf (bk_r0_0 hk)) ?_
  refine z_get (cn σ 3) dX11_text_4 tf_11_62 (congrArg Prod.fst (bk_s1 hk)) (Or.inl rfl) (clsT_3 HX) ?_
  refine e_istore_n (L' := [_, _, _, _, _]) dX11_text_7 (Nat.le_of_ble_eq_true rfl) rfl ?_
  refine e_aload_n dX11_text_8 rfl ?_
  refine e_get (.ref (x + 1)) dX11_text_9 tf_11_10 (congrArg Prod.fst (bk_s0 hk)) (congrArg va_rf (bk_r0_0 hk)) ?_
  refine z_iconst (0) dX11_text_12 rfl ?_
  refine z_put dX11_text_13 tf_11_62 (congrArg Prod.fst (bk_s1 hk)) rfl (Or.inl rfl) (fun h1 e2 => ?_)
  have f3 := frm_1 e2
  have k4 := bk_q (frm_s f3) hk
  have FR5 := frm_t FR0 (frm_m (S' := (fun a k => (x + 1 ≤ a ∧ a < x + 55) ∨ (x + 56 ≤ a ∧ a < x + 157))) f3 (fun a k q => by omega))
  refine e_aload_n dX11_text_16 rfl ?_
  refine e_get (.ref (x + 1)) dX11_text_17 tf_11_10 (congrArg Prod.fst (bk_s0 k4)) (congrArg va_rf (bk_r0_0 k4)) ?_
  refine z_iconst (0) dX11_text_20 rfl ?_
  refine z_put dX11_text_21 tf_11_70 (congrArg Prod.fst (bk_s1 k4)) rfl (Or.inl rfl) (fun h6 e7 => ?_)
  have f8 := frm_1 e7
  have k9 := bk_q (frm_s f8) k4
  have FR10 := frm_t FR5 (frm_m (S' := (fun a k => (x + 1 ≤ a ∧ a < x + 55) ∨ (x + 56 ≤ a ∧ a < x + 157))) f8 (fun a k q => by omega))
  refine e_aload_n dX11_text_24 rfl ?_
  refine e_get (.ref (x + 1)) dX11_text_25 tf_11_10 (congrArg Prod.fst (bk_s0 k9)) (congrArg va_rf (bk_r0_0 k9)) ?_
  refine z_iconst (-1) dX11_text_28 rfl ?_
  refine z_put dX11_text_29 tf_11_73 (congrArg Prod.fst (bk_s1 k9)) rfl (Or.inl rfl) (fun h11 e12 => ?_)
  have f13 := frm_1 e12
  have k14 := bk_q (frm_s f13) k9
  have FR15 := frm_t FR10 (frm_m (S' := (fun a k => (x + 1 ≤ a ∧ a < x + 55) ∨ (x + 56 ≤ a ∧ a < x + 157))) f13 (fun a k q => by omega))
  refine e_aload_n dX11_text_32 rfl ?_
  refine e_get (.ref (x + 1)) dX11_text_33 tf_11_10 (congrArg Prod.fst (bk_s0 k14)) (congrArg va_rf (bk_r0_0 k14)) ?_
  refine e_iload_n dX11_text_36 rfl ?_
  refine e_iload_n dX11_text_37 rfl ?_
  refine e_callV [.int _, .int _] dX11_text_38 tm_11_76 rfl (Nat.le_of_ble_eq_true rfl) (congrArg Prod.fst (bk_s1 k14)) (Nat.le_of_ble_eq_true rfl) (Nat.le_refl _) (Nat.le_refl _) rfl (zp_X8_target_x (bk_td1 k14) a ⟨by omega, by omega⟩ b ⟨by omega, by omega⟩ (by omega) ?_)
  refine e_istore (L' := [_, _, _, _, _]) dX11_text_41 (Nat.le_of_ble_eq_true rfl) rfl ?_
  refine e_iload dX11_text_43 rfl ?_
  refine z_bipush (-2) dX11_text_45 rfl ?_
  refine z_icmp_ne 53 dX11_text_47 rfl ⟨by omega, by omega⟩ ⟨by omega, by omega⟩ (fun c16 => ?_) (fun c16 => ?_)
  · exfalso; omega
  · skip
    refine z_bipush (-2) dX11_text_50 rfl ?_
    refine z_iret dX11_text_52 rfl ⟨rfl, ?_⟩
    exact kq _ trivial _ FR15 ⟨_, clsT_a HX (fun a u v z n => ((frm_r f13 (by omega)).trans ((frm_r f8 (by omega)).trans (frm_r f3 (by omega))))) (((frm_r f13 (by omega)).trans (frm_r f8 (by omega))).trans (rI_eq e2 ⟨by omega, by omega⟩)) ((frm_r f13 (by omega)).trans (rI_eq e7 ⟨by omega, by omega⟩)) (rI_eq e12 ⟨by omega, by omega⟩) (by omega) (by omega), Or.inl ⟨fun z => pa z.1, rfl, rfl⟩⟩
theorem op2 {ad : mA} {B : Nat} (HA : adK ad) : op_2 ad B (Inv B) := by
  intro a b
  rw [← zI_toInt a, ← zI_toInt b]
  have ra := in_of a
  have rb := in_of b
  generalize a.toInt = a at *
  generalize b.toInt = b at *
  refine opu_I (fun σ σ' r => txR σ a b σ' r) (fun σ σ1 σ2 r1 r2 _ x y => txR_u x y) (fun h σ hk HX Q kq => ?_) (fun h σ hr HR Q kq => ?_)
  · have kk : ∀ v : Int, True → ∀ h1, frm (fun a k => (B + 1 ≤ a ∧ a < B + 55) ∨ (B + 56 ≤ a ∧ a < B + 157)) h h1 → (∃ σ1, clsT h1 (B + 1) σ1 ∧ txR σ a b σ1 v) → Q (some (.int (zI v))) h1 := fun v _ h1 f e => by
      obtain ⟨σ1, c, t⟩ := e
      exact kq v σ1 h1 (frm_m f (fun a k z => by unfold cset; omega)) c t
    by_cases z0 : a = 0
    · subst z0; exact zp_X11_text_0 hk HX HA b rb kk
    by_cases z1 : a = 1
    · subst z1; exact zp_X11_text_1 hk HX HA b rb kk
    by_cases z2 : a = 2
    · subst z2; exact zp_X11_text_2 hk HX HA b rb kk
    exact zp_X11_text_x hk HX a ra b rb (by omega) kk
  · have kk : ∀ v : Int, True → ∀ h1, frm (fun a j => a = B + 157 ∨ a = B + 157 + 9 ∨ a = B + 157 + 10 ∨ ((a = B + 157 + 2 ∨ a = B + 157 + 3 ∨ a = B + 157 + 4) ∧ j = 0) ∨ (a = B + 157 + 5 ∧ j < 3) ∨ (a = B + 157 + 6 ∧ j < 162) ∨ (a = B + 157 + 7 ∧ j < 242) ∨ (a = B + 157 + 8 ∧ j < 50)) h h1 → (∃ σ1, refT h1 (B + 157) 0 σ1 ∧ txR σ a b σ1 v) → Q (some (.int (zI v))) h1 := fun v _ h1 f e => by
      obtain ⟨σ1, c, t⟩ := e
      exact kq v σ1 h1 (frm_m f (fun a k z => by unfold rset; omega)) c t
    by_cases z0 : a = 0
    · subst z0; exact zp_X12_text_0 hr HR b rb kk
    by_cases z1 : a = 1
    · subst z1; exact zp_X12_text_1 hr HR b rb kk
    by_cases z2 : a = 2
    · subst z2; exact zp_X12_text_2 hr HR b rb kk
    exact zp_X12_text_x hr HR a ra b rb (by omega) kk
