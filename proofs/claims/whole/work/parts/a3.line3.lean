/-! LINE of the reference, op 32 -/
theorem dX12_line_0 : decode cX12_line 0 = .ok (.aload_n 0, 1) := by decide +kernel
theorem dX12_line_1 : decode cX12_line 1 = .ok (.iconst 0, 1) := by decide +kernel
theorem dX12_line_2 : decode cX12_line 2 = .ok (.putfield 103, 3) := by decide +kernel
theorem dX12_line_5 : decode cX12_line 5 = .ok (.aload_n 0, 1) := by decide +kernel
theorem dX12_line_6 : decode cX12_line 6 = .ok (.iload_n 1, 1) := by decide +kernel
theorem dX12_line_7 : decode cX12_line 7 = .ok (.invokevirtual 292, 3) := by decide +kernel
theorem dX12_line_10 : decode cX12_line 10 = .ok (.ifCond .eq 22, 3) := by decide +kernel
theorem dX12_line_13 : decode cX12_line 13 = .ok (.iload_n 2, 1) := by decide +kernel
theorem dX12_line_14 : decode cX12_line 14 = .ok (.iconst 0, 1) := by decide +kernel
theorem dX12_line_15 : decode cX12_line 15 = .ok (.bipush 9, 2) := by decide +kernel
theorem dX12_line_17 : decode cX12_line 17 = .ok (.invokestatic 115, 3) := by decide +kernel
theorem dX12_line_20 : decode cX12_line 20 = .ok (.ifCond .eq 12, 3) := by decide +kernel
theorem dX12_line_23 : decode cX12_line 23 = .ok (.iload_n 3, 1) := by decide +kernel
theorem dX12_line_24 : decode cX12_line 24 = .ok (.iconst 0, 1) := by decide +kernel
theorem dX12_line_25 : decode cX12_line 25 = .ok (.iconst 2, 1) := by decide +kernel
theorem dX12_line_26 : decode cX12_line 26 = .ok (.invokestatic 115, 3) := by decide +kernel
theorem dX12_line_29 : decode cX12_line 29 = .ok (.ifCond .ne 5, 3) := by decide +kernel
theorem dX12_line_32 : decode cX12_line 32 = .ok (.iconst (-1), 1) := by decide +kernel
theorem dX12_line_33 : decode cX12_line 33 = .ok (.ireturn, 1) := by decide +kernel
theorem dX12_line_34 : decode cX12_line 34 = .ok (.iconst 0, 1) := by decide +kernel
theorem dX12_line_35 : decode cX12_line 35 = .ok (.istore 4, 2) := by decide +kernel
theorem dX12_line_37 : decode cX12_line 37 = .ok (.iload 4, 2) := by decide +kernel
theorem dX12_line_39 : decode cX12_line 39 = .ok (.iload_n 2, 1) := by decide +kernel
theorem dX12_line_40 : decode cX12_line 40 = .ok (.if_icmp .ge 13, 3) := by decide +kernel
theorem dX12_line_43 : decode cX12_line 43 = .ok (.aload_n 0, 1) := by decide +kernel
theorem dX12_line_44 : decode cX12_line 44 = .ok (.invokevirtual 564, 3) := by decide +kernel
theorem dX12_line_47 : decode cX12_line 47 = .ok (.iinc 4 1, 3) := by decide +kernel
theorem dX12_line_50 : decode cX12_line 50 = .ok (.goto (-13), 3) := by decide +kernel
theorem dX12_line_53 : decode cX12_line 53 = .ok (.iload_n 3, 1) := by decide +kernel
theorem dX12_line_54 : decode cX12_line 54 = .ok (.ifCond .ne 8, 3) := by decide +kernel
theorem dX12_line_57 : decode cX12_line 57 = .ok (.aload_n 0, 1) := by decide +kernel
theorem dX12_line_58 : decode cX12_line 58 = .ok (.getfield 271, 3) := by decide +kernel
theorem dX12_line_61 : decode cX12_line 61 = .ok (.ireturn, 1) := by decide +kernel
theorem dX12_line_62 : decode cX12_line 62 = .ok (.aload_n 0, 1) := by decide +kernel
theorem dX12_line_63 : decode cX12_line 63 = .ok (.iconst 0, 1) := by decide +kernel
theorem dX12_line_64 : decode cX12_line 64 = .ok (.invokevirtual 435, 3) := by decide +kernel
theorem dX12_line_67 : decode cX12_line 67 = .ok (.iconst 0, 1) := by decide +kernel
theorem dX12_line_68 : decode cX12_line 68 = .ok (.istore 4, 2) := by decide +kernel
theorem dX12_line_70 : decode cX12_line 70 = .ok (.iconst 0, 1) := by decide +kernel
theorem dX12_line_71 : decode cX12_line 71 = .ok (.istore 5, 2) := by decide +kernel
theorem dX12_line_73 : decode cX12_line 73 = .ok (.iload 5, 2) := by decide +kernel
theorem dX12_line_75 : decode cX12_line 75 = .ok (.aload_n 0, 1) := by decide +kernel
theorem dX12_line_76 : decode cX12_line 76 = .ok (.getfield 271, 3) := by decide +kernel
theorem dX12_line_79 : decode cX12_line 79 = .ok (.if_icmp .ge 26, 3) := by decide +kernel
theorem dX12_line_82 : decode cX12_line 82 = .ok (.iload_n 3, 1) := by decide +kernel
theorem dX12_line_83 : decode cX12_line 83 = .ok (.iconst 2, 1) := by decide +kernel
theorem dX12_line_84 : decode cX12_line 84 = .ok (.if_icmp .ne 21, 3) := by decide +kernel
theorem dX12_line_87 : decode cX12_line 87 = .ok (.iload 4, 2) := by decide +kernel
theorem dX12_line_89 : decode cX12_line 89 = .ok (.aload_n 0, 1) := by decide +kernel
theorem dX12_line_90 : decode cX12_line 90 = .ok (.getfield 41, 3) := by decide +kernel
theorem dX12_line_93 : decode cX12_line 93 = .ok (.iload 5, 2) := by decide +kernel
theorem dX12_line_95 : decode cX12_line 95 = .ok (.iaload, 1) := by decide +kernel
theorem dX12_line_96 : decode cX12_line 96 = .ok (.iadd, 1) := by decide +kernel
theorem dX12_line_97 : decode cX12_line 97 = .ok (.istore 4, 2) := by decide +kernel
theorem dX12_line_99 : decode cX12_line 99 = .ok (.iinc 5 1, 3) := by decide +kernel
theorem dX12_line_102 : decode cX12_line 102 = .ok (.goto (-29), 3) := by decide +kernel
theorem dX12_line_105 : decode cX12_line 105 = .ok (.iload_n 3, 1) := by decide +kernel
theorem dX12_line_106 : decode cX12_line 106 = .ok (.iconst 1, 1) := by decide +kernel
theorem dX12_line_107 : decode cX12_line 107 = .ok (.if_icmp .ne 10, 3) := by decide +kernel
theorem dX12_line_110 : decode cX12_line 110 = .ok (.aload_n 0, 1) := by decide +kernel
theorem dX12_line_111 : decode cX12_line 111 = .ok (.invokevirtual 410, 3) := by decide +kernel
theorem dX12_line_114 : decode cX12_line 114 = .ok (.goto 5, 3) := by decide +kernel
theorem dX12_line_117 : decode cX12_line 117 = .ok (.iload 4, 2) := by decide +kernel
theorem dX12_line_119 : decode cX12_line 119 = .ok (.ireturn, 1) := by decide +kernel
set_option maxRecDepth 20000 in
theorem tm_12_564 : tMet TB0 12 564 = some (0, M_X12_goesOn) := rfl
set_option maxHeartbeats 4000000 in
theorem zp_X12_line_in {ad : mA} {dd : Nat} {h : mH} {Q : mQ} {m : Nat} {σ : Sg} (hk : rk h m) (HR : refT h m 0 σ)  (f : Int) (f_r : -2147483648 ≤ f ∧ f < 2147483648) (n : Int) (n_r : -2147483648 ≤ n ∧ n < 2147483648) (w : Int) (w_r : -2147483648 ≤ w ∧ w < 2147483648) (p1 : 0 ≤ f) (p2 : f < cn σ 0) (kq : ∀ v : Int, (lnQ (sG σ f) n w v) → ∀ h1, frm (fun a i => a = m ∨ (m + 9 ≤ a ∧ a < m + 30)) h h1 → Q (some (.int (zI v))) h1) : mCal TB0 ad (dd + 7) M_X12_line [.ref m, .int (zI f), .int (zI n), .int (zI w)] h 0 0 Q := by
  refine ⟨Nat.le_of_ble_eq_true rfl, ?_⟩
  show mEv TB0 ad M_X12_line (dd + 7) (0, 0) (mCal TB0 ad (dd + 6)) (fun v h' z => z.1 = 0 ∧ Q v h') 0 [some (.ref m), some (.int (zI f)), some (.int (zI n)), some (.int (zI w)), none, none] [] h (0, 0)
  have FR0 : frm (fun a i => a = m ∨ (m + 9 ≤ a ∧ a < m + 30)) h h := frm_0 h
  have w1 := wS_n (refT_w HR)
  have W := (refT_w HR).2.2.1 f p1 p2
  refine e_aload_n dX12_line_0 rfl ?_
  refine z_iconst (0) dX12_line_1 rfl ?_
  refine z_put dX12_line_2 tf_12_103 (rk_s hk) rfl (Or.inl rfl) (fun h1 e2 => ?_)
  have f3 := frm_1 e2
  have k4 := rk_q (frm_s f3) hk
  have H5 := refT_c f3 (fun a k q1 q2 => by omega) HR
  have FR6 := frm_t FR0 (frm_m (S' := (fun a i => a = m ∨ (m + 9 ≤ a ∧ a < m + 30))) f3 (fun a k q => by omega))
  refine e_aload_n dX12_line_5 rfl ?_
  refine e_iload_n dX12_line_6 rfl ?_
  refine e_callV [.int _] dX12_line_7 tm_12_292 rfl (Nat.le_of_ble_eq_true rfl) (rk_s k4) (Nat.le_of_ble_eq_true rfl) (Nat.le_refl _) (Nat.le_refl _) rfl (zp_X12_hand_in k4 H5 f ⟨by omega, by omega⟩ (by omega) (by omega) (fun  h7 f8 p9 p10 p11 p12 => ?_))
  have k13 := rk_q (frm_s f8) k4
  have H14 := refT_c f8 (fun a k q1 q2 => by omega) H5
  have FR15 := frm_t FR6 (frm_m (S' := (fun a i => a = m ∨ (m + 9 ≤ a ∧ a < m + 30))) f8 (fun a k q => by omega))
  have w5 := rB_n p9
  refine z_ifb_eq 32 dX12_line_10 rfl (fun c16 => ?_) (fun c16 => ?_)
  · exact absurd trivial c16
  · skip
    refine e_iload_n dX12_line_13 rfl ?_
    refine z_iconst (0) dX12_line_14 rfl ?_
    refine z_bipush (9) dX12_line_15 rfl ?_
    refine e_callS [.int _, .int _, .int _] dX12_line_17 tm_12_115 rfl (Nat.le_of_ble_eq_true rfl) (Nat.le_refl _) (Nat.le_refl _) rfl (zp_X12_in n ⟨by omega, by omega⟩ 0 ⟨by omega, by omega⟩ 9 ⟨by omega, by omega⟩ ?_)
    refine z_ifb_eq 32 dX12_line_20 rfl (fun c17 => ?_) (fun c17 => ?_)
    · skip
      refine z_iconst (-1) dX12_line_32 rfl ?_
      refine z_iret dX12_line_33 rfl ⟨rfl, ?_⟩
      first | exact kq _ (Or.inr ⟨by omega, rfl⟩) _ FR15 | exact kq _ (Or.inl ⟨by omega, by omega, g', LG, Or.inl ⟨by omega, rfl⟩⟩) _ FR15 | exact kq _ (Or.inl ⟨by omega, by omega, g', LG, Or.inr (Or.inl ⟨by omega, r, RW.1.1, SR, rfl⟩)⟩) _ FR15 | exact kq _ (Or.inl ⟨by omega, by omega, g', LG, Or.inr (Or.inr ⟨by omega, by rw [Y3, show e = nd g' by omega]⟩)⟩) _ FR15
    · skip
      refine e_iload_n dX12_line_23 rfl ?_
      refine z_iconst (0) dX12_line_24 rfl ?_
      refine z_iconst (2) dX12_line_25 rfl ?_
      refine e_callS [.int _, .int _, .int _] dX12_line_26 tm_12_115 rfl (Nat.le_of_ble_eq_true rfl) (Nat.le_refl _) (Nat.le_refl _) rfl (zp_X12_in w ⟨by omega, by omega⟩ 0 ⟨by omega, by omega⟩ 2 ⟨by omega, by omega⟩ ?_)
      refine z_ifb_ne 34 dX12_line_29 rfl (fun c18 => ?_) (fun c18 => ?_)
      · skip
        refine z_iconst (0) dX12_line_34 rfl ?_
        refine e_istore (L' := [_, _, _, _, _, _]) dX12_line_35 (Nat.le_of_ble_eq_true rfl) rfl ?_
        have lp19 : ∀ (n19 : Nat) (k : Int) (h19 : mH), (n - k).toNat = n19 → (rk h19 m) → (refT h19 m 0 σ) → (frm (fun a i => a = m ∨ (m + 9 ≤ a ∧ a < m + 30)) h h19) → (0 ≤ k ∧ k ≤ n) → (∃ g', lnP (sG σ f) k.toNat g' ∧ rB h19 m g') → mEv TB0 ad M_X12_line (dd + 7) (0, 0) (mCal TB0 ad (dd + 6)) (fun v h' z => z.1 = 0 ∧ Q v h') 37 [some (.ref m), some (.int (zI f)), some (.int (zI n)), some (.int (zI w)), some (.int (zI k)), none] [] h19 (0, 0) := by
          intro n19
          induction n19 using Nat.strongRecOn with
          | ind n19 ih19 =>
          intro k h19 hn19 k20 H21 FR22 I1 IX
          refine e_iload dX12_line_37 rfl ?_
          refine e_iload_n dX12_line_39 rfl ?_
          refine z_icmp_ge 53 dX12_line_40 rfl ⟨by omega, by omega⟩ ⟨by omega, by omega⟩ (fun c23 => ?_) (fun c23 => ?_)
          · skip
            obtain ⟨g', LN, B'⟩ := IX
            have nb := rB_n B'
            have LG : lnP (sG σ f) n.toNat g' := by rw [show n = k by omega]; exact LN
            refine e_iload_n dX12_line_53 rfl ?_
            refine z_if_ne 62 dX12_line_54 rfl ⟨by omega, by omega⟩ (fun c24 => ?_) (fun c24 => ?_)
            · skip
              refine e_aload_n dX12_line_62 rfl ?_
              refine z_iconst (0) dX12_line_63 rfl ?_
              refine e_callV [.int _] dX12_line_64 tm_12_435 rfl (Nat.le_of_ble_eq_true rfl) (rk_s k20) (Nat.le_of_ble_eq_true rfl) (Nat.le_refl _) (Nat.le_refl _) rfl (zp_X12_layAsked_0 k20 B' (fun  h25 f26 p27 => ?_))
              have k28 := rk_q (frm_s f26) k20
              have H29 := refT_c f26 (fun a k q1 q2 => by omega) H21
              have H30 := rB_c f26 (fun a k q => by omega) B'
              have FR31 := frm_t FR22 (frm_m (S' := (fun a i => a = m ∨ (m + 9 ≤ a ∧ a < m + 30))) f26 (fun a k q => by omega))
              obtain ⟨r, RW, SR⟩ := p27
              refine z_iconst (0) dX12_line_67 rfl ?_
              refine e_istore (L' := [_, _, _, _, _, _]) dX12_line_68 (Nat.le_of_ble_eq_true rfl) rfl ?_
              refine z_iconst (0) dX12_line_70 rfl ?_
              refine e_istore (L' := [_, _, _, _, _, _]) dX12_line_71 (Nat.le_of_ble_eq_true rfl) rfl ?_
              have lp32 : ∀ (n32 : Nat) (t e : Int), (nd g' - e).toNat = n32 → (0 ≤ e ∧ e ≤ nd g') → (0 ≤ t ∧ t ≤ 20 * e) → (t = sumZ (dl g') e.toNat) → mEv TB0 ad M_X12_line (dd + 7) (0, 0) (mCal TB0 ad (dd + 6)) (fun v h' z => z.1 = 0 ∧ Q v h') 73 [some (.ref m), some (.int (zI f)), some (.int (zI n)), some (.int (zI w)), some (.int (zI t)), some (.int (zI e))] [] h25 (0, 0) := by
                intro n32
                induction n32 using Nat.strongRecOn with
                | ind n32 ih32 =>
                intro t e  hn32  Y1 Y2 Y3
                refine e_iload dX12_line_73 rfl ?_
                refine e_aload_n dX12_line_75 rfl ?_
                refine z_get (nd g') dX12_line_76 tf_12_271 (rk_s k28) (Or.inl rfl) (rB_nd H30) ?_
                have y33 := rB_n H30
                refine z_icmp_ge 105 dX12_line_79 rfl ⟨by omega, by omega⟩ ⟨by omega, by omega⟩ (fun c34 => ?_) (fun c34 => ?_)
                · skip
                  refine e_iload_n dX12_line_105 rfl ?_
                  refine z_iconst (1) dX12_line_106 rfl ?_
                  refine z_icmp_ne 117 dX12_line_107 rfl ⟨by omega, by omega⟩ ⟨by omega, by omega⟩ (fun c35 => ?_) (fun c35 => ?_)
                  · skip
                    refine e_iload dX12_line_117 rfl ?_
                    refine z_iret dX12_line_119 rfl ⟨rfl, ?_⟩
                    first | exact kq _ (Or.inr ⟨by omega, rfl⟩) _ FR31 | exact kq _ (Or.inl ⟨by omega, by omega, g', LG, Or.inl ⟨by omega, rfl⟩⟩) _ FR31 | exact kq _ (Or.inl ⟨by omega, by omega, g', LG, Or.inr (Or.inl ⟨by omega, r, RW.1.1, SR, rfl⟩)⟩) _ FR31 | exact kq _ (Or.inl ⟨by omega, by omega, g', LG, Or.inr (Or.inr ⟨by omega, by rw [Y3, show e = nd g' by omega]⟩)⟩) _ FR31
                  · skip
                    refine e_aload_n dX12_line_110 rfl ?_
                    refine e_callV [] dX12_line_111 tm_12_410 rfl (Nat.le_of_ble_eq_true rfl) (rk_s k28) (Nat.le_of_ble_eq_true rfl) (Nat.le_refl _) (Nat.le_refl _) rfl (zp_X12_sumOfRow k28 H30 RW ?_)
                    have y36 := sfR_b g' r
                    refine e_goto 119 dX12_line_114 rfl ?_
                    refine z_iret dX12_line_119 rfl ⟨rfl, ?_⟩
                    first | exact kq _ (Or.inr ⟨by omega, rfl⟩) _ FR31 | exact kq _ (Or.inl ⟨by omega, by omega, g', LG, Or.inl ⟨by omega, rfl⟩⟩) _ FR31 | exact kq _ (Or.inl ⟨by omega, by omega, g', LG, Or.inr (Or.inl ⟨by omega, r, RW.1.1, SR, rfl⟩)⟩) _ FR31 | exact kq _ (Or.inl ⟨by omega, by omega, g', LG, Or.inr (Or.inr ⟨by omega, by rw [Y3, show e = nd g' by omega]⟩)⟩) _ FR31
                · skip
                  refine e_iload_n dX12_line_82 rfl ?_
                  refine z_iconst (2) dX12_line_83 rfl ?_
                  refine z_icmp_ne 105 dX12_line_84 rfl ⟨by omega, by omega⟩ ⟨by omega, by omega⟩ (fun c37 => ?_) (fun c37 => ?_)
                  · skip
                    refine e_iload_n dX12_line_105 rfl ?_
                    refine z_iconst (1) dX12_line_106 rfl ?_
                    refine z_icmp_ne 117 dX12_line_107 rfl ⟨by omega, by omega⟩ ⟨by omega, by omega⟩ (fun c38 => ?_) (fun c38 => ?_)
                    · skip
                      refine e_iload dX12_line_117 rfl ?_
                      refine z_iret dX12_line_119 rfl ⟨rfl, ?_⟩
                      first | exact kq _ (Or.inr ⟨by omega, rfl⟩) _ FR31 | exact kq _ (Or.inl ⟨by omega, by omega, g', LG, Or.inl ⟨by omega, rfl⟩⟩) _ FR31 | exact kq _ (Or.inl ⟨by omega, by omega, g', LG, Or.inr (Or.inl ⟨by omega, r, RW.1.1, SR, rfl⟩)⟩) _ FR31 | exact kq _ (Or.inl ⟨by omega, by omega, g', LG, Or.inr (Or.inr ⟨by omega, by rw [Y3, show e = nd g' by omega]⟩)⟩) _ FR31
                    · skip
                      refine e_aload_n dX12_line_110 rfl ?_
                      refine e_callV [] dX12_line_111 tm_12_410 rfl (Nat.le_of_ble_eq_true rfl) (rk_s k28) (Nat.le_of_ble_eq_true rfl) (Nat.le_refl _) (Nat.le_refl _) rfl (zp_X12_sumOfRow k28 H30 RW ?_)
                      have y39 := sfR_b g' r
                      refine e_goto 119 dX12_line_114 rfl ?_
                      refine z_iret dX12_line_119 rfl ⟨rfl, ?_⟩
                      first | exact kq _ (Or.inr ⟨by omega, rfl⟩) _ FR31 | exact kq _ (Or.inl ⟨by omega, by omega, g', LG, Or.inl ⟨by omega, rfl⟩⟩) _ FR31 | exact kq _ (Or.inl ⟨by omega, by omega, g', LG, Or.inr (Or.inl ⟨by omega, r, RW.1.1, SR, rfl⟩)⟩) _ FR31 | exact kq _ (Or.inl ⟨by omega, by omega, g', LG, Or.inr (Or.inr ⟨by omega, by rw [Y3, show e = nd g' by omega]⟩)⟩) _ FR31
                  · skip
                    refine e_iload dX12_line_87 rfl ?_
                    refine e_aload_n dX12_line_89 rfl ?_
                    refine e_get (.ref (m + 11)) dX12_line_90 tf_12_41 (rk_s k28) (congrArg va_rf (rk_r11 k28)) ?_
                    refine e_iload dX12_line_93 rfl ?_
                    refine z_ild (dl g' e) dX12_line_95 (rk_a11 k28) (by decide) (by omega) (by omega) (rB_dl H30 (by omega) (by omega)) ?_
                    have y40 := wB_d (rB_w H30) (show 0 ≤ e by omega) (by omega)
                    refine z_iadd dX12_line_96 ?_
                    refine e_istore (L' := [_, _, _, _, _, _]) dX12_line_97 (Nat.le_of_ble_eq_true rfl) rfl ?_
                    refine z_iinc (L' := [_, _, _, _, _, _]) dX12_line_99 rfl rfl ?_
                    refine e_goto 73 dX12_line_102 rfl ?_
                    exact ih32 _ (by omega) (t + (dl g' e)) (e + 1)  rfl  (by omega) (by omega) (by rw [sumZ_s (by omega)]; omega)
              exact lp32 _ 0 0  rfl  (by omega) (by omega) rfl
            · skip
              refine e_aload_n dX12_line_57 rfl ?_
              refine z_get (nd g') dX12_line_58 tf_12_271 (rk_s k20) (Or.inl rfl) (rB_nd B') ?_
              have y41 := rB_n B'
              refine z_iret dX12_line_61 rfl ⟨rfl, ?_⟩
              first | exact kq _ (Or.inr ⟨by omega, rfl⟩) _ FR22 | exact kq _ (Or.inl ⟨by omega, by omega, g', LG, Or.inl ⟨by omega, rfl⟩⟩) _ FR22 | exact kq _ (Or.inl ⟨by omega, by omega, g', LG, Or.inr (Or.inl ⟨by omega, r, RW.1.1, SR, rfl⟩)⟩) _ FR22 | exact kq _ (Or.inl ⟨by omega, by omega, g', LG, Or.inr (Or.inr ⟨by omega, by rw [Y3, show e = nd g' by omega]⟩)⟩) _ FR22
          · skip
            obtain ⟨g', LN, B'⟩ := IX
            have nb := rB_n B'
            refine e_aload_n dX12_line_43 rfl ?_
            refine e_callV [] dX12_line_44 tm_12_564 rfl (Nat.le_of_ble_eq_true rfl) (rk_s k20) (Nat.le_of_ble_eq_true rfl) (Nat.le_refl _) (Nat.le_refl _) rfl (zp_X12_goesOn k20 B' (fun  h42 f43 p44 => ?_))
            have k45 := rk_q (frm_s f43) k20
            have H46 := refT_c f43 (fun a k q1 q2 => by omega) H21
            have FR47 := frm_t FR22 (frm_m (S' := (fun a i => a = m ∨ (m + 9 ≤ a ∧ a < m + 30))) f43 (fun a k q => by omega))
            obtain ⟨r, R1, R2⟩ := p44
            refine z_iinc (L' := [_, _, _, _, _, _]) dX12_line_47 rfl rfl ?_
            refine e_goto 37 dX12_line_50 rfl ?_
            exact ih19 _ (by omega) (k + 1) h42 rfl k45 H46 FR47 (by omega) (⟨chF g' (rnZ r), by rw [show (k + 1).toNat = k.toNat + 1 by omega]; exact ⟨g', r, LN, R1.1, R1.2, rfl⟩, R2⟩)
        exact lp19 _ 0 h7 rfl k13 H14 FR15 (by omega) (⟨(sG σ f), rfl, p9⟩)
      · skip
        refine z_iconst (-1) dX12_line_32 rfl ?_
        refine z_iret dX12_line_33 rfl ⟨rfl, ?_⟩
        first | exact kq _ (Or.inr ⟨by omega, rfl⟩) _ FR15 | exact kq _ (Or.inl ⟨by omega, by omega, g', LG, Or.inl ⟨by omega, rfl⟩⟩) _ FR15 | exact kq _ (Or.inl ⟨by omega, by omega, g', LG, Or.inr (Or.inl ⟨by omega, r, RW.1.1, SR, rfl⟩)⟩) _ FR15 | exact kq _ (Or.inl ⟨by omega, by omega, g', LG, Or.inr (Or.inr ⟨by omega, by rw [Y3, show e = nd g' by omega]⟩)⟩) _ FR15
set_option maxHeartbeats 400000 in
theorem zp_X12_line_out {ad : mA} {dd : Nat} {h : mH} {Q : mQ} {m : Nat} {σ : Sg} (hk : rk h m) (HR : refT h m 0 σ)  (f : Int) (f_r : -2147483648 ≤ f ∧ f < 2147483648) (n : Int) (n_r : -2147483648 ≤ n ∧ n < 2147483648) (w : Int) (w_r : -2147483648 ≤ w ∧ w < 2147483648) (p1 : ¬ (0 ≤ f ∧ f < cn σ 0)) (kq : ∀ h1, frm (fun a i => a = m ∨ (m + 9 ≤ a ∧ a < m + 30)) h h1 → Q (some (.int (zI (-1)))) h1) : mCal TB0 ad (dd + 7) M_X12_line [.ref m, .int (zI f), .int (zI n), .int (zI w)] h 0 0 Q := by
  refine ⟨Nat.le_of_ble_eq_true rfl, ?_⟩
  show mEv TB0 ad M_X12_line (dd + 7) (0, 0) (mCal TB0 ad (dd + 6)) (fun v h' z => z.1 = 0 ∧ Q v h') 0 [some (.ref m), some (.int (zI f)), some (.int (zI n)), some (.int (zI w)), none, none] [] h (0, 0)
  have FR0 : frm (fun a i => a = m ∨ (m + 9 ≤ a ∧ a < m + 30)) h h := frm_0 h
  have w1 := wS_n (refT_w HR)
  refine e_aload_n dX12_line_0 rfl ?_
  refine z_iconst (0) dX12_line_1 rfl ?_
  refine z_put dX12_line_2 tf_12_103 (rk_s hk) rfl (Or.inl rfl) (fun h1 e2 => ?_)
  have f3 := frm_1 e2
  have k4 := rk_q (frm_s f3) hk
  have H5 := refT_c f3 (fun a k q1 q2 => by omega) HR
  have FR6 := frm_t FR0 (frm_m (S' := (fun a i => a = m ∨ (m + 9 ≤ a ∧ a < m + 30))) f3 (fun a k q => by omega))
  refine e_aload_n dX12_line_5 rfl ?_
  refine e_iload_n dX12_line_6 rfl ?_
  refine e_callV [.int _] dX12_line_7 tm_12_292 rfl (Nat.le_of_ble_eq_true rfl) (rk_s k4) (Nat.le_of_ble_eq_true rfl) (Nat.le_refl _) (Nat.le_refl _) rfl (zp_X12_hand_out k4 H5 f ⟨by omega, by omega⟩ (by omega) ?_)
  refine z_ifb_eq 32 dX12_line_10 rfl (fun c7 => ?_) (fun c7 => ?_)
  · skip
    refine z_iconst (-1) dX12_line_32 rfl ?_
    refine z_iret dX12_line_33 rfl ⟨rfl, ?_⟩
    exact kq _ FR6
  · exfalso; exact c7
theorem op32 {ad : mA} {B : Nat} : op_32 ad B (Inv B) := by
  intro a b c 
  rw [← zI_toInt a]
  rw [← zI_toInt b]
  rw [← zI_toInt c]
  have ra := in_of a
  generalize a.toInt = a at *
  have rb := in_of b
  generalize b.toInt = b at *
  have rc := in_of c
  generalize c.toInt = c at *
  refine opq_I (ansW a (-1) (fun g r => lnQ g b c r)) (ansW_u (fun g r r' w x y => lnQ_u w x y)) (fun h σ hk HX Q kq => ?_) (fun h σ hr HR Q kq => ?_)
  · by_cases q : 0 ≤ a ∧ a < cn σ 0
    · exact zp_X11_line_in hk HX a ra b rb c rc q.1 q.2 (fun v p h1 f => kq v h1 f (Or.inl ⟨q.1, q.2, (clsT_w HX).2.2.1 a q.1 q.2, p⟩))
    · exact zp_X11_line_out hk HX a ra b rb c rc q (kq _ _ (frm_0 h) (Or.inr ⟨q, rfl⟩))
  · by_cases q : 0 ≤ a ∧ a < cn σ 0
    · exact zp_X12_line_in hr HR a ra b rb c rc q.1 q.2 (fun v p h1 f => kq v h1 f (Or.inl ⟨q.1, q.2, (refT_w HR).2.2.1 a q.1 q.2, p⟩))
    · exact zp_X12_line_out hr HR a ra b rb c rc q (fun h1 f => kq _ _ f (Or.inr ⟨q, rfl⟩))
