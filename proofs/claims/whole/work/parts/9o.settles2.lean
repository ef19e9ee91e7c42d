/-! SETTLES of the reference, op 29 -/
theorem dX12_settlesOne_0 : decode cX12_settlesOne 0 = .ok (.aload_n 0, 1) := by decide +kernel
theorem dX12_settlesOne_1 : decode cX12_settlesOne 1 = .ok (.invokevirtual 388, 3) := by decide +kernel
theorem dX12_settlesOne_4 : decode cX12_settlesOne 4 = .ok (.iconst 0, 1) := by decide +kernel
theorem dX12_settlesOne_5 : decode cX12_settlesOne 5 = .ok (.istore_n 1, 1) := by decide +kernel
theorem dX12_settlesOne_6 : decode cX12_settlesOne 6 = .ok (.iload_n 1, 1) := by decide +kernel
theorem dX12_settlesOne_7 : decode cX12_settlesOne 7 = .ok (.aload_n 0, 1) := by decide +kernel
theorem dX12_settlesOne_8 : decode cX12_settlesOne 8 = .ok (.getfield 271, 3) := by decide +kernel
theorem dX12_settlesOne_11 : decode cX12_settlesOne 11 = .ok (.if_icmp .ge 67, 3) := by decide +kernel
theorem dX12_settlesOne_14 : decode cX12_settlesOne 14 = .ok (.iconst 0, 1) := by decide +kernel
theorem dX12_settlesOne_15 : decode cX12_settlesOne 15 = .ok (.istore_n 2, 1) := by decide +kernel
theorem dX12_settlesOne_16 : decode cX12_settlesOne 16 = .ok (.iload_n 2, 1) := by decide +kernel
theorem dX12_settlesOne_17 : decode cX12_settlesOne 17 = .ok (.aload_n 0, 1) := by decide +kernel
theorem dX12_settlesOne_18 : decode cX12_settlesOne 18 = .ok (.getfield 274, 3) := by decide +kernel
theorem dX12_settlesOne_21 : decode cX12_settlesOne 21 = .ok (.if_icmp .ge 51, 3) := by decide +kernel
theorem dX12_settlesOne_24 : decode cX12_settlesOne 24 = .ok (.aload_n 0, 1) := by decide +kernel
theorem dX12_settlesOne_25 : decode cX12_settlesOne 25 = .ok (.iload_n 1, 1) := by decide +kernel
theorem dX12_settlesOne_26 : decode cX12_settlesOne 26 = .ok (.iload_n 2, 1) := by decide +kernel
theorem dX12_settlesOne_27 : decode cX12_settlesOne 27 = .ok (.invokevirtual 391, 3) := by decide +kernel
theorem dX12_settlesOne_30 : decode cX12_settlesOne 30 = .ok (.ifCond .eq 36, 3) := by decide +kernel
theorem dX12_settlesOne_33 : decode cX12_settlesOne 33 = .ok (.aload_n 0, 1) := by decide +kernel
theorem dX12_settlesOne_34 : decode cX12_settlesOne 34 = .ok (.getfield 62, 3) := by decide +kernel
theorem dX12_settlesOne_37 : decode cX12_settlesOne 37 = .ok (.iload_n 2, 1) := by decide +kernel
theorem dX12_settlesOne_38 : decode cX12_settlesOne 38 = .ok (.iaload, 1) := by decide +kernel
theorem dX12_settlesOne_39 : decode cX12_settlesOne 39 = .ok (.bipush 6, 2) := by decide +kernel
theorem dX12_settlesOne_41 : decode cX12_settlesOne 41 = .ok (.if_icmp .ge 16, 3) := by decide +kernel
theorem dX12_settlesOne_44 : decode cX12_settlesOne 44 = .ok (.aload_n 0, 1) := by decide +kernel
theorem dX12_settlesOne_45 : decode cX12_settlesOne 45 = .ok (.getfield 56, 3) := by decide +kernel
theorem dX12_settlesOne_48 : decode cX12_settlesOne 48 = .ok (.aload_n 0, 1) := by decide +kernel
theorem dX12_settlesOne_49 : decode cX12_settlesOne 49 = .ok (.getfield 62, 3) := by decide +kernel
theorem dX12_settlesOne_52 : decode cX12_settlesOne 52 = .ok (.iload_n 2, 1) := by decide +kernel
theorem dX12_settlesOne_53 : decode cX12_settlesOne 53 = .ok (.iaload, 1) := by decide +kernel
theorem dX12_settlesOne_54 : decode cX12_settlesOne 54 = .ok (.bipush 6, 2) := by decide +kernel
theorem dX12_settlesOne_56 : decode cX12_settlesOne 56 = .ok (.iastore, 1) := by decide +kernel
theorem dX12_settlesOne_57 : decode cX12_settlesOne 57 = .ok (.aload_n 0, 1) := by decide +kernel
theorem dX12_settlesOne_58 : decode cX12_settlesOne 58 = .ok (.getfield 56, 3) := by decide +kernel
theorem dX12_settlesOne_61 : decode cX12_settlesOne 61 = .ok (.iload_n 1, 1) := by decide +kernel
theorem dX12_settlesOne_62 : decode cX12_settlesOne 62 = .ok (.iload_n 2, 1) := by decide +kernel
theorem dX12_settlesOne_63 : decode cX12_settlesOne 63 = .ok (.iastore, 1) := by decide +kernel
theorem dX12_settlesOne_64 : decode cX12_settlesOne 64 = .ok (.iconst 1, 1) := by decide +kernel
theorem dX12_settlesOne_65 : decode cX12_settlesOne 65 = .ok (.ireturn, 1) := by decide +kernel
theorem dX12_settlesOne_66 : decode cX12_settlesOne 66 = .ok (.iinc 2 1, 3) := by decide +kernel
theorem dX12_settlesOne_69 : decode cX12_settlesOne 69 = .ok (.goto (-53), 3) := by decide +kernel
theorem dX12_settlesOne_72 : decode cX12_settlesOne 72 = .ok (.iinc 1 1, 3) := by decide +kernel
theorem dX12_settlesOne_75 : decode cX12_settlesOne 75 = .ok (.goto (-69), 3) := by decide +kernel
theorem dX12_settlesOne_78 : decode cX12_settlesOne 78 = .ok (.iconst 0, 1) := by decide +kernel
theorem dX12_settlesOne_79 : decode cX12_settlesOne 79 = .ok (.ireturn, 1) := by decide +kernel
theorem dX12_settles_0 : decode cX12_settles 0 = .ok (.aload_n 0, 1) := by decide +kernel
theorem dX12_settles_1 : decode cX12_settles 1 = .ok (.iconst 0, 1) := by decide +kernel
theorem dX12_settles_2 : decode cX12_settles 2 = .ok (.putfield 103, 3) := by decide +kernel
theorem dX12_settles_5 : decode cX12_settles 5 = .ok (.aload_n 0, 1) := by decide +kernel
theorem dX12_settles_6 : decode cX12_settles 6 = .ok (.iload_n 1, 1) := by decide +kernel
theorem dX12_settles_7 : decode cX12_settles 7 = .ok (.invokevirtual 292, 3) := by decide +kernel
theorem dX12_settles_10 : decode cX12_settles 10 = .ok (.ifCond .ne 5, 3) := by decide +kernel
theorem dX12_settles_13 : decode cX12_settles 13 = .ok (.iconst (-1), 1) := by decide +kernel
theorem dX12_settles_14 : decode cX12_settles 14 = .ok (.ireturn, 1) := by decide +kernel
theorem dX12_settles_15 : decode cX12_settles 15 = .ok (.aload_n 0, 1) := by decide +kernel
theorem dX12_settles_16 : decode cX12_settles 16 = .ok (.invokevirtual 432, 3) := by decide +kernel
theorem dX12_settles_19 : decode cX12_settles 19 = .ok (.iconst 0, 1) := by decide +kernel
theorem dX12_settles_20 : decode cX12_settles 20 = .ok (.istore_n 2, 1) := by decide +kernel
theorem dX12_settles_21 : decode cX12_settles 21 = .ok (.iload_n 2, 1) := by decide +kernel
theorem dX12_settles_22 : decode cX12_settles 22 = .ok (.bipush 100, 2) := by decide +kernel
theorem dX12_settles_24 : decode cX12_settles 24 = .ok (.if_icmp .gt 23, 3) := by decide +kernel
theorem dX12_settles_27 : decode cX12_settles 27 = .ok (.aload_n 0, 1) := by decide +kernel
theorem dX12_settles_28 : decode cX12_settles 28 = .ok (.invokevirtual 403, 3) := by decide +kernel
theorem dX12_settles_31 : decode cX12_settles 31 = .ok (.ifCond .ne 5, 3) := by decide +kernel
theorem dX12_settles_34 : decode cX12_settles 34 = .ok (.iload_n 2, 1) := by decide +kernel
theorem dX12_settles_35 : decode cX12_settles 35 = .ok (.ireturn, 1) := by decide +kernel
theorem dX12_settles_36 : decode cX12_settles 36 = .ok (.aload_n 0, 1) := by decide +kernel
theorem dX12_settles_37 : decode cX12_settles 37 = .ok (.invokevirtual 550, 3) := by decide +kernel
theorem dX12_settles_40 : decode cX12_settles 40 = .ok (.pop, 1) := by decide +kernel
theorem dX12_settles_41 : decode cX12_settles 41 = .ok (.iinc 2 1, 3) := by decide +kernel
theorem dX12_settles_44 : decode cX12_settles 44 = .ok (.goto (-23), 3) := by decide +kernel
theorem dX12_settles_47 : decode cX12_settles 47 = .ok (.iconst (-1), 1) := by decide +kernel
theorem dX12_settles_48 : decode cX12_settles 48 = .ok (.ireturn, 1) := by decide +kernel
set_option maxRecDepth 20000 in
theorem tm_12_550 : tMet TB0 12 550 = some (0, M_X12_settlesOne) := rfl
set_option maxHeartbeats 1000000 in
theorem zp_X12_settlesOne {ad : mA} {dd : Nat} {h : mH} {Q : mQ} {m : Nat} {g r : Int → Int} (hk : rk h m) (HB : rB h m g) (HW : rRw h m g r)   (pl : ¬ stn g r) (kq : ∀ v : Int, (v = 0 ∨ v = 1) → ∀ h1, frm (fun a k => a = m + 16 ∨ a = m + 18) h h1 → (∃ d u, fst2 g r d u ∧ rRw h1 m g (rvR r d u)) → Q (some (.int (zI v))) h1) : mCal TB0 ad (dd + 5) M_X12_settlesOne [.ref m] h 0 0 Q := by
  refine ⟨Nat.le_of_ble_eq_true rfl, ?_⟩
  show mEv TB0 ad M_X12_settlesOne (dd + 5) (0, 0) (mCal TB0 ad (dd + 4)) (fun v h' z => z.1 = 0 ∧ Q v h') 0 [some (.ref m), none, none] [] h (0, 0)
  have FR0 : frm (fun a k => a = m + 16 ∨ a = m + 18) h h := frm_0 h
  have w1 := rB_n HB
  have w2 := rB_nd HB
  have w3 := rB_nu HB
  refine e_aload_n dX12_settlesOne_0 rfl ?_
  refine e_callV [] dX12_settlesOne_1 tm_12_388 rfl (Nat.le_of_ble_eq_true rfl) (rk_s hk) (Nat.le_of_ble_eq_true rfl) (Nat.le_refl _) (Nat.le_refl _) rfl (zp_X12_layOthers hk HB HW (fun  h1 f2 p3 => ?_))
  have k4 := rk_q (frm_s f2) hk
  have H5 := rB_c f2 (fun a k q => by omega) HB
  have H6 := rRw_c f2 (fun a k q => by omega) HW
  have FR7 := frm_t FR0 (frm_m (S' := (fun a k => a = m + 16 ∨ a = m + 18)) f2 (fun a k q => by omega))
  refine z_iconst (0) dX12_settlesOne_4 rfl ?_
  refine e_istore_n (L' := [_, _, _]) dX12_settlesOne_5 (Nat.le_of_ble_eq_true rfl) rfl ?_
  have lp8 : ∀ (n8 : Nat) (d : Int), (nd g - d).toNat = n8 → (0 ≤ d ∧ d ≤ nd g) → (∀ e x, 0 ≤ e → e < nd g → 0 ≤ x → x < nu g → (e < d ∨ (e = d ∧ x < 0)) → ¬ lvP g r e x) → mEv TB0 ad M_X12_settlesOne (dd + 5) (0, 0) (mCal TB0 ad (dd + 4)) (fun v h' z => z.1 = 0 ∧ Q v h') 6 [some (.ref m), some (.int (zI d)), none] [] h1 (0, 0) := by
    intro n8
    induction n8 using Nat.strongRecOn with
    | ind n8 ih8 =>
    intro d  hn8  I1 I3
    refine e_iload_n dX12_settlesOne_6 rfl ?_
    refine e_aload_n dX12_settlesOne_7 rfl ?_
    refine z_get (nd g) dX12_settlesOne_8 tf_12_271 (rk_s k4) (Or.inl rfl) (rB_nd H5) ?_
    have y9 := rB_n H5
    refine z_icmp_ge 78 dX12_settlesOne_11 rfl ⟨by omega, by omega⟩ ⟨by omega, by omega⟩ (fun c10 => ?_) (fun c10 => ?_)
    · skip
      refine z_iconst (0) dX12_settlesOne_78 rfl ?_
      refine z_bret dX12_settlesOne_79 rfl (Or.inl rfl) ⟨rfl, ?_⟩
      exact absurd (fun e x a b c k => I3 e x a b c k (by omega)) pl
    · skip
      refine z_iconst (0) dX12_settlesOne_14 rfl ?_
      refine e_istore_n (L' := [_, _, _]) dX12_settlesOne_15 (Nat.le_of_ble_eq_true rfl) rfl ?_
      have lp11 : ∀ (n11 : Nat) (u : Int), (nu g - u).toNat = n11 → (0 ≤ u ∧ u ≤ nu g) → (∀ e x, 0 ≤ e → e < nd g → 0 ≤ x → x < nu g → (e < d ∨ (e = d ∧ x < u)) → ¬ lvP g r e x) → mEv TB0 ad M_X12_settlesOne (dd + 5) (0, 0) (mCal TB0 ad (dd + 4)) (fun v h' z => z.1 = 0 ∧ Q v h') 16 [some (.ref m), some (.int (zI d)), some (.int (zI u))] [] h1 (0, 0) := by
        intro n11
        induction n11 using Nat.strongRecOn with
        | ind n11 ih11 =>
        intro u  hn11  J1 J3
        refine e_iload_n dX12_settlesOne_16 rfl ?_
        refine e_aload_n dX12_settlesOne_17 rfl ?_
        refine z_get (nu g) dX12_settlesOne_18 tf_12_274 (rk_s k4) (Or.inl rfl) (rB_nu H5) ?_
        have y12 := rB_n H5
        refine z_icmp_ge 72 dX12_settlesOne_21 rfl ⟨by omega, by omega⟩ ⟨by omega, by omega⟩ (fun c13 => ?_) (fun c13 => ?_)
        · skip
          refine z_iinc (L' := [_, _, _]) dX12_settlesOne_72 rfl rfl ?_
          refine e_goto 6 dX12_settlesOne_75 rfl ?_
          exact mEv_wk (by exact ⟨Or.inr rfl, Or.inr rfl, Or.inl rfl, trivial⟩) (ih8 _ (by omega) (d + 1)  rfl  (by omega) (fun e x a b c k q => J3 e x a b c k (by omega)))
        · skip
          refine e_aload_n dX12_settlesOne_24 rfl ?_
          refine e_iload_n dX12_settlesOne_25 rfl ?_
          refine e_iload_n dX12_settlesOne_26 rfl ?_
          refine e_callV [.int _, .int _] dX12_settlesOne_27 tm_12_391 rfl (Nat.le_of_ble_eq_true rfl) (rk_s k4) (Nat.le_of_ble_eq_true rfl) (Nat.le_refl _) (Nat.le_refl _) rfl (zp_X12_wouldLeave k4 H5 H6 p3 d ⟨by omega, by omega⟩ u ⟨by omega, by omega⟩ (by omega) (by omega) ?_)
          have y14 := lvB_b g r d u
          refine z_if_eq 66 dX12_settlesOne_30 rfl ⟨by omega, by omega⟩ (fun c15 => ?_) (fun c15 => ?_)
          · skip
            refine z_iinc (L' := [_, _, _]) dX12_settlesOne_66 rfl rfl ?_
            refine e_goto 16 dX12_settlesOne_69 rfl ?_
            exact ih11 _ (by omega) (u + 1)  rfl  (by omega) (fun e x a b c k q => by
                      by_cases z : e = d ∧ x = u
                      · rw [z.1, z.2]; exact lvB_n (by omega)
                      · exact J3 e x a b c k (by omega))
          · skip
            have L2 : lvP g r d u := lvB_y (by omega)
            have ne := lvP_ne (by omega) L2
            refine e_aload_n dX12_settlesOne_33 rfl ?_
            refine e_get (.ref (m + 18)) dX12_settlesOne_34 tf_12_62 (rk_s k4) (congrArg va_rf (rk_r18 k4)) ?_
            refine e_iload_n dX12_settlesOne_37 rfl ?_
            refine z_ild (oR r u) dX12_settlesOne_38 (rk_a18 k4) (by decide) (by omega) (by omega) (own_u HW.1.1 (by omega) (p3 u (by omega) (by omega)) (oR_o r u)) ?_
            have y16 := oR_b HW.1.1 (show 0 ≤ u by omega) (by omega)
            refine z_bipush (6) dX12_settlesOne_39 rfl ?_
            refine z_icmp_ge 57 dX12_settlesOne_41 rfl ⟨by omega, by omega⟩ ⟨by omega, by omega⟩ (fun c17 => ?_) (fun c17 => ?_)
            · skip
              refine e_aload_n dX12_settlesOne_57 rfl ?_
              refine e_get (.ref (m + 16)) dX12_settlesOne_58 tf_12_56 (rk_s k4) (congrArg va_rf (rk_r16 k4)) ?_
              refine e_iload_n dX12_settlesOne_61 rfl ?_
              refine e_iload_n dX12_settlesOne_62 rfl ?_
              refine z_ist dX12_settlesOne_63 (rk_a16 k4) (by decide) (by omega) (by omega) (fun h18 e19 => ?_)
              have f20 := frm_1 e19
              have k21 := rk_q (frm_s f20) k4
              have H22 := rB_c f20 (fun a k q => by omega) H5
              have H23 := rOw_c f20 (fun a k q => by omega) p3
              have FR24 := frm_t FR7 (frm_m (S' := (fun a k => a = m + 16 ∨ a = m + 18)) f20 (fun a k q => by omega))
              refine z_iconst (1) dX12_settlesOne_64 rfl ?_
              refine z_bret dX12_settlesOne_65 rfl (Or.inr rfl) ⟨rfl, ?_⟩
              exact kq _ (Or.inr rfl) _ FR24 ⟨d, u, ⟨⟨by omega, by omega⟩, L2, J3⟩, ⟨rv_w HW.1.1 (by omega) (by omega) (by omega), isRw_b (by omega) (rv_w HW.1.1 (by omega) (by omega) (by omega))⟩, fun k a c => by
                by_cases z : k = d
                · rw [z, rv_d]; exact (rI_eq e19 ⟨by omega, by omega⟩)
                · rw [rv_k HW.1.1 (by omega) ⟨a, c⟩ z (by omega)]; exact ((frm_r f20 (by omega))).trans (H6.2 k a c)⟩
            · skip
              refine e_aload_n dX12_settlesOne_44 rfl ?_
              refine e_get (.ref (m + 16)) dX12_settlesOne_45 tf_12_56 (rk_s k4) (congrArg va_rf (rk_r16 k4)) ?_
              refine e_aload_n dX12_settlesOne_48 rfl ?_
              refine e_get (.ref (m + 18)) dX12_settlesOne_49 tf_12_62 (rk_s k4) (congrArg va_rf (rk_r18 k4)) ?_
              refine e_iload_n dX12_settlesOne_52 rfl ?_
              refine z_ild (oR r u) dX12_settlesOne_53 (rk_a18 k4) (by decide) (by omega) (by omega) (own_u HW.1.1 (by omega) (p3 u (by omega) (by omega)) (oR_o r u)) ?_
              have y25 := oR_b HW.1.1 (show 0 ≤ u by omega) (by omega)
              refine z_bipush (6) dX12_settlesOne_54 rfl ?_
              refine z_ist dX12_settlesOne_56 (rk_a16 k4) (by decide) (by omega) (by omega) (fun h26 e27 => ?_)
              have f28 := frm_1 e27
              have k29 := rk_q (frm_s f28) k4
              have H30 := rB_c f28 (fun a k q => by omega) H5
              have H31 := rOw_c f28 (fun a k q => by omega) p3
              have FR32 := frm_t FR7 (frm_m (S' := (fun a k => a = m + 16 ∨ a = m + 18)) f28 (fun a k q => by omega))
              refine e_aload_n dX12_settlesOne_57 rfl ?_
              refine e_get (.ref (m + 16)) dX12_settlesOne_58 tf_12_56 (rk_s k29) (congrArg va_rf (rk_r16 k29)) ?_
              refine e_iload_n dX12_settlesOne_61 rfl ?_
              refine e_iload_n dX12_settlesOne_62 rfl ?_
              refine z_ist dX12_settlesOne_63 (rk_a16 k29) (by decide) (by omega) (by omega) (fun h33 e34 => ?_)
              have f35 := frm_1 e34
              have k36 := rk_q (frm_s f35) k29
              have H37 := rB_c f35 (fun a k q => by omega) H30
              have H38 := rOw_c f35 (fun a k q => by omega) H31
              have FR39 := frm_t FR32 (frm_m (S' := (fun a k => a = m + 16 ∨ a = m + 18)) f35 (fun a k q => by omega))
              refine z_iconst (1) dX12_settlesOne_64 rfl ?_
              refine z_bret dX12_settlesOne_65 rfl (Or.inr rfl) ⟨rfl, ?_⟩
              exact kq _ (Or.inr rfl) _ FR39 ⟨d, u, ⟨⟨by omega, by omega⟩, L2, J3⟩, ⟨rv_w HW.1.1 (by omega) (by omega) (by omega), isRw_b (by omega) (rv_w HW.1.1 (by omega) (by omega) (by omega))⟩, fun k a c => by
                by_cases z : k = d
                · rw [z, rv_d]; exact (rI_eq e34 ⟨by omega, by omega⟩)
                · by_cases w : k = oR r u
                  · rw [rv_o HW.1.1 (by omega) z w (by omega), w]; exact ((frm_r f35 (by omega)).trans (rI_eq e27 ⟨by omega, by omega⟩))
                  · rw [rv_k HW.1.1 (by omega) ⟨a, c⟩ z w]; exact (((frm_r f35 (by omega)).trans (frm_r f28 (by omega)))).trans (H6.2 k a c)⟩
      exact lp11 _ 0  rfl  (by omega) I3
  exact lp8 _ 0  rfl  (by omega) (fun e x a b c k q => by omega)
set_option maxHeartbeats 2000000 in
theorem zp_X12_settles_in {ad : mA} {dd : Nat} {h : mH} {Q : mQ} {m : Nat} {σ : Sg} (hk : rk h m) (HR : refT h m 0 σ)  (f : Int) (f_r : -2147483648 ≤ f ∧ f < 2147483648) (p1 : 0 ≤ f) (p2 : f < cn σ 0) (kq : ∀ v : Int, (seP (sG σ f) v) → ∀ h1, frm (fun a i => a = m ∨ (m + 9 ≤ a ∧ a < m + 30)) h h1 → Q (some (.int (zI v))) h1) : mCal TB0 ad (dd + 6) M_X12_settles [.ref m, .int (zI f)] h 0 0 Q := by
  refine ⟨Nat.le_of_ble_eq_true rfl, ?_⟩
  show mEv TB0 ad M_X12_settles (dd + 6) (0, 0) (mCal TB0 ad (dd + 5)) (fun v h' z => z.1 = 0 ∧ Q v h') 0 [some (.ref m), some (.int (zI f)), none] [] h (0, 0)
  have FR0 : frm (fun a i => a = m ∨ (m + 9 ≤ a ∧ a < m + 30)) h h := frm_0 h
  have w1 := wS_n (refT_w HR)
  have W := (refT_w HR).2.2.1 f p1 p2
  refine e_aload_n dX12_settles_0 rfl ?_
  refine z_iconst (0) dX12_settles_1 rfl ?_
  refine z_put dX12_settles_2 tf_12_103 (rk_s hk) rfl (Or.inl rfl) (fun h1 e2 => ?_)
  have f3 := frm_1 e2
  have k4 := rk_q (frm_s f3) hk
  have H5 := refT_c f3 (fun a k q1 q2 => by omega) HR
  have FR6 := frm_t FR0 (frm_m (S' := (fun a i => a = m ∨ (m + 9 ≤ a ∧ a < m + 30))) f3 (fun a k q => by omega))
  refine e_aload_n dX12_settles_5 rfl ?_
  refine e_iload_n dX12_settles_6 rfl ?_
  refine e_callV [.int _] dX12_settles_7 tm_12_292 rfl (Nat.le_of_ble_eq_true rfl) (rk_s k4) (Nat.le_of_ble_eq_true rfl) (Nat.le_refl _) (Nat.le_refl _) rfl (zp_X12_hand_in k4 H5 f ⟨by omega, by omega⟩ (by omega) (by omega) (fun  h7 f8 p9 p10 p11 p12 => ?_))
  have k13 := rk_q (frm_s f8) k4
  have H14 := refT_c f8 (fun a k q1 q2 => by omega) H5
  have FR15 := frm_t FR6 (frm_m (S' := (fun a i => a = m ∨ (m + 9 ≤ a ∧ a < m + 30))) f8 (fun a k q => by omega))
  have w5 := rB_n p9
  have w6 := rC_n p11
  refine z_ifb_ne 15 dX12_settles_10 rfl (fun c16 => ?_) (fun c16 => ?_)
  · skip
    refine e_aload_n dX12_settles_15 rfl ?_
    refine e_callV [] dX12_settles_16 tm_12_432 rfl (Nat.le_of_ble_eq_true rfl) (rk_s k13) (Nat.le_of_ble_eq_true rfl) (Nat.le_refl _) (Nat.le_refl _) rfl (zp_X12_layTold k13 p9 p10 W (fun  h17 f18 p19 => ?_))
    have k20 := rk_q (frm_s f18) k13
    have H21 := refT_c f18 (fun a k q1 q2 => by omega) H14
    have H22 := rB_c f18 (fun a k q => by omega) p9
    have H23 := rM_c f18 (fun a k q => by omega) p10
    have H24 := rC_c f18 (fun a k q => by omega) p11
    have H25 := rK_c f18 (fun a k q1 q2 => by omega) p12
    have FR26 := frm_t FR15 (frm_m (S' := (fun a i => a = m ∨ (m + 9 ≤ a ∧ a < m + 30))) f18 (fun a k q => by omega))
    skip
    refine z_iconst (0) dX12_settles_19 rfl ?_
    refine e_istore_n (L' := [_, _, _]) dX12_settles_20 (Nat.le_of_ble_eq_true rfl) rfl ?_
    have lp27 : ∀ (n27 : Nat) (n : Int) (h27 : mH), (101 - n).toNat = n27 → (rk h27 m) → (refT h27 m 0 σ) → (rB h27 m (sG σ f)) → (rM h27 m (sG σ f)) → (rC h27 m (sG σ f)) → (rK h27 m f) → (frm (fun a i => a = m ∨ (m + 9 ≤ a ∧ a < m + 30)) h h27) → (0 ≤ n ∧ n ≤ 101) → (∃ r, rRw h27 m (sG σ f) r ∧ sqP (sG σ f) (tlR (sG σ f)) n.toNat r) → mEv TB0 ad M_X12_settles (dd + 6) (0, 0) (mCal TB0 ad (dd + 5)) (fun v h' z => z.1 = 0 ∧ Q v h') 21 [some (.ref m), some (.int (zI f)), some (.int (zI n))] [] h27 (0, 0) := by
      intro n27
      induction n27 using Nat.strongRecOn with
      | ind n27 ih27 =>
      intro n h27 hn27 k28 H29 H30 H31 H32 H33 FR34 I1 IX
      refine e_iload_n dX12_settles_21 rfl ?_
      obtain ⟨r, HW, SQ⟩ := IX
      have l0 := lvN_0 (g := (sG σ f)) (r := r) (by omega)
      refine z_bipush (100) dX12_settles_22 rfl ?_
      refine z_icmp_gt 47 dX12_settles_24 rfl ⟨by omega, by omega⟩ ⟨by omega, by omega⟩ (fun c35 => ?_) (fun c35 => ?_)
      · skip
        refine z_iconst (-1) dX12_settles_47 rfl ?_
        refine z_iret dX12_settles_48 rfl ⟨rfl, ?_⟩
        first | exact kq _ (Or.inl ⟨n.toNat, r, by omega, SQ, l0.mp (by omega), by omega⟩) _ FR34 | exact kq _ (Or.inr ⟨rfl, r, by rw [show (101 : Nat) = n.toNat by omega]; exact SQ⟩) _ FR34
      · skip
        refine e_aload_n dX12_settles_27 rfl ?_
        refine e_callV [] dX12_settles_28 tm_12_403 rfl (Nat.le_of_ble_eq_true rfl) (rk_s k28) (Nat.le_of_ble_eq_true rfl) (Nat.le_refl _) (Nat.le_refl _) rfl (zp_X12_leavingNow k28 H30 HW (fun  h36 f37 p38 => ?_))
        have k39 := rk_q (frm_s f37) k28
        have H40 := refT_c f37 (fun a k q1 q2 => by omega) H29
        have H41 := rB_c f37 (fun a k q => by omega) H30
        have H42 := rM_c f37 (fun a k q => by omega) H31
        have H43 := rC_c f37 (fun a k q => by omega) H32
        have H44 := rK_c f37 (fun a k q1 q2 => by omega) H33
        have H45 := rRw_c f37 (fun a k q => by omega) HW
        have FR46 := frm_t FR34 (frm_m (S' := (fun a i => a = m ∨ (m + 9 ≤ a ∧ a < m + 30))) f37 (fun a k q => by omega))
        have y47 := lvN_b (show (0 ≤ nd (sG σ f) ∧ nd (sG σ f) ≤ 6) ∧ (0 ≤ nu (sG σ f) ∧ nu (sG σ f) ≤ 6) by omega) r
        refine z_if_ne 36 dX12_settles_31 rfl ⟨by omega, by omega⟩ (fun c48 => ?_) (fun c48 => ?_)
        · skip
          have pl : ¬ stn (sG σ f) r := fun z => by have := l0.mpr z; omega
          refine e_aload_n dX12_settles_36 rfl ?_
          refine e_callV [] dX12_settles_37 tm_12_550 rfl (Nat.le_of_ble_eq_true rfl) (rk_s k39) (Nat.le_of_ble_eq_true rfl) (Nat.le_refl _) (Nat.le_refl _) rfl (zp_X12_settlesOne k39 H41 H45 pl (fun v49 p50 h51 f52 p53 => ?_))
          have k54 := rk_q (frm_s f52) k39
          have H55 := refT_c f52 (fun a k q1 q2 => by omega) H40
          have H56 := rB_c f52 (fun a k q => by omega) H41
          have H57 := rM_c f52 (fun a k q => by omega) H42
          have H58 := rC_c f52 (fun a k q => by omega) H43
          have H59 := rK_c f52 (fun a k q1 q2 => by omega) H44
          have FR60 := frm_t FR46 (frm_m (S' := (fun a i => a = m ∨ (m + 9 ≤ a ∧ a < m + 30))) f52 (fun a k q => by omega))
          skip
          refine e_pop dX12_settles_40 rfl ?_
          refine z_iinc (L' := [_, _, _]) dX12_settles_41 rfl rfl ?_
          refine e_goto 21 dX12_settles_44 rfl ?_
          exact ih27 _ (by omega) (n + 1) h51 rfl k54 H55 H56 H57 H58 H59 FR60 (by omega) (by
                    obtain ⟨d, u, F1, F2⟩ := p53
                    exact ⟨_, F2, sqP_s (by omega) SQ F1⟩)
        · skip
          refine e_iload_n dX12_settles_34 rfl ?_
          refine z_iret dX12_settles_35 rfl ⟨rfl, ?_⟩
          first | exact kq _ (Or.inl ⟨n.toNat, r, by omega, SQ, l0.mp (by omega), by omega⟩) _ FR46 | exact kq _ (Or.inr ⟨rfl, r, by rw [show (101 : Nat) = n.toNat by omega]; exact SQ⟩) _ FR46
    exact lp27 _ 0 h17 rfl k20 H21 H22 H23 H24 H25 FR26 (by omega) (⟨tlR (sG σ f), p19, fun k _ _ => rfl⟩)
  · exact absurd trivial c16
set_option maxHeartbeats 400000 in
theorem zp_X12_settles_out {ad : mA} {dd : Nat} {h : mH} {Q : mQ} {m : Nat} {σ : Sg} (hk : rk h m) (HR : refT h m 0 σ)  (f : Int) (f_r : -2147483648 ≤ f ∧ f < 2147483648) (p1 : ¬ (0 ≤ f ∧ f < cn σ 0)) (kq : ∀ h1, frm (fun a i => a = m ∨ (m + 9 ≤ a ∧ a < m + 30)) h h1 → Q (some (.int (zI (-1)))) h1) : mCal TB0 ad (dd + 6) M_X12_settles [.ref m, .int (zI f)] h 0 0 Q := by
  refine ⟨Nat.le_of_ble_eq_true rfl, ?_⟩
  show mEv TB0 ad M_X12_settles (dd + 6) (0, 0) (mCal TB0 ad (dd + 5)) (fun v h' z => z.1 = 0 ∧ Q v h') 0 [some (.ref m), some (.int (zI f)), none] [] h (0, 0)
  have FR0 : frm (fun a i => a = m ∨ (m + 9 ≤ a ∧ a < m + 30)) h h := frm_0 h
  have w1 := wS_n (refT_w HR)
  refine e_aload_n dX12_settles_0 rfl ?_
  refine z_iconst (0) dX12_settles_1 rfl ?_
  refine z_put dX12_settles_2 tf_12_103 (rk_s hk) rfl (Or.inl rfl) (fun h1 e2 => ?_)
  have f3 := frm_1 e2
  have k4 := rk_q (frm_s f3) hk
  have H5 := refT_c f3 (fun a k q1 q2 => by omega) HR
  have FR6 := frm_t FR0 (frm_m (S' := (fun a i => a = m ∨ (m + 9 ≤ a ∧ a < m + 30))) f3 (fun a k q => by omega))
  refine e_aload_n dX12_settles_5 rfl ?_
  refine e_iload_n dX12_settles_6 rfl ?_
  refine e_callV [.int _] dX12_settles_7 tm_12_292 rfl (Nat.le_of_ble_eq_true rfl) (rk_s k4) (Nat.le_of_ble_eq_true rfl) (Nat.le_refl _) (Nat.le_refl _) rfl (zp_X12_hand_out k4 H5 f ⟨by omega, by omega⟩ (by omega) ?_)
  refine z_ifb_ne 15 dX12_settles_10 rfl (fun c7 => ?_) (fun c7 => ?_)
  · exfalso; exact c7
  · skip
    refine z_iconst (-1) dX12_settles_13 rfl ?_
    refine z_iret dX12_settles_14 rfl ⟨rfl, ?_⟩
    exact kq _ FR6
theorem op29 {ad : mA} {B : Nat} : op_29 ad B (Inv B) := by
  intro a 
  rw [← zI_toInt a]
  have ra := in_of a
  generalize a.toInt = a at *
  refine opq_I (ansW a (-1) (fun g r => seP g r)) (ansW_u (fun g r r' w x y => seP_u w.1.1.2 x y)) (fun h σ hk HX Q kq => ?_) (fun h σ hr HR Q kq => ?_)
  · by_cases q : 0 ≤ a ∧ a < cn σ 0
    · exact zp_X11_settles_in hk HX a ra q.1 q.2 (fun v p h1 f => kq v h1 f (Or.inl ⟨q.1, q.2, (clsT_w HX).2.2.1 a q.1 q.2, p⟩))
    · exact zp_X11_settles_out hk HX a ra q (kq _ _ (frm_0 h) (Or.inr ⟨q, rfl⟩))
  · by_cases q : 0 ≤ a ∧ a < cn σ 0
    · exact zp_X12_settles_in hr HR a ra q.1 q.2 (fun v p h1 f => kq v h1 f (Or.inl ⟨q.1, q.2, (refT_w HR).2.2.1 a q.1 q.2, p⟩))
    · exact zp_X12_settles_out hr HR a ra q (fun h1 f => kq _ _ f (Or.inr ⟨q, rfl⟩))
