/-! TRADE, RINGS: ops 12, 23 -/
theorem dX12_trade_0 : decode cX12_trade 0 = .ok (.aload_n 0, 1) := by decide +kernel
theorem dX12_trade_1 : decode cX12_trade 1 = .ok (.iconst 0, 1) := by decide +kernel
theorem dX12_trade_2 : decode cX12_trade 2 = .ok (.putfield 103, 3) := by decide +kernel
theorem dX12_trade_5 : decode cX12_trade 5 = .ok (.aload_n 0, 1) := by decide +kernel
theorem dX12_trade_6 : decode cX12_trade 6 = .ok (.iload_n 1, 1) := by decide +kernel
theorem dX12_trade_7 : decode cX12_trade 7 = .ok (.invokevirtual 292, 3) := by decide +kernel
theorem dX12_trade_10 : decode cX12_trade 10 = .ok (.ifCond .eq 19, 3) := by decide +kernel
theorem dX12_trade_13 : decode cX12_trade 13 = .ok (.aload_n 0, 1) := by decide +kernel
theorem dX12_trade_14 : decode cX12_trade 14 = .ok (.iload_n 2, 1) := by decide +kernel
theorem dX12_trade_15 : decode cX12_trade 15 = .ok (.invokevirtual 295, 3) := by decide +kernel
theorem dX12_trade_18 : decode cX12_trade 18 = .ok (.ifCond .eq 11, 3) := by decide +kernel
theorem dX12_trade_21 : decode cX12_trade 21 = .ok (.aload_n 0, 1) := by decide +kernel
theorem dX12_trade_22 : decode cX12_trade 22 = .ok (.iload_n 2, 1) := by decide +kernel
theorem dX12_trade_23 : decode cX12_trade 23 = .ok (.invokevirtual 286, 3) := by decide +kernel
theorem dX12_trade_26 : decode cX12_trade 26 = .ok (.ifCond .ne 5, 3) := by decide +kernel
theorem dX12_trade_29 : decode cX12_trade 29 = .ok (.iconst (-1), 1) := by decide +kernel
theorem dX12_trade_30 : decode cX12_trade 30 = .ok (.ireturn, 1) := by decide +kernel
theorem dX12_trade_31 : decode cX12_trade 31 = .ok (.aload_n 0, 1) := by decide +kernel
theorem dX12_trade_32 : decode cX12_trade 32 = .ok (.invokevirtual 457, 3) := by decide +kernel
theorem dX12_trade_35 : decode cX12_trade 35 = .ok (.aload_n 0, 1) := by decide +kernel
theorem dX12_trade_36 : decode cX12_trade 36 = .ok (.getfield 75, 3) := by decide +kernel
theorem dX12_trade_39 : decode cX12_trade 39 = .ok (.iload_n 2, 1) := by decide +kernel
theorem dX12_trade_40 : decode cX12_trade 40 = .ok (.iaload, 1) := by decide +kernel
theorem dX12_trade_41 : decode cX12_trade 41 = .ok (.ireturn, 1) := by decide +kernel
theorem dX12_rings_0 : decode cX12_rings 0 = .ok (.aload_n 0, 1) := by decide +kernel
theorem dX12_rings_1 : decode cX12_rings 1 = .ok (.iconst 0, 1) := by decide +kernel
theorem dX12_rings_2 : decode cX12_rings 2 = .ok (.putfield 103, 3) := by decide +kernel
theorem dX12_rings_5 : decode cX12_rings 5 = .ok (.aload_n 0, 1) := by decide +kernel
theorem dX12_rings_6 : decode cX12_rings 6 = .ok (.iload_n 1, 1) := by decide +kernel
theorem dX12_rings_7 : decode cX12_rings 7 = .ok (.invokevirtual 292, 3) := by decide +kernel
theorem dX12_rings_10 : decode cX12_rings 10 = .ok (.ifCond .ne 5, 3) := by decide +kernel
theorem dX12_rings_13 : decode cX12_rings 13 = .ok (.iconst (-1), 1) := by decide +kernel
theorem dX12_rings_14 : decode cX12_rings 14 = .ok (.ireturn, 1) := by decide +kernel
theorem dX12_rings_15 : decode cX12_rings 15 = .ok (.aload_n 0, 1) := by decide +kernel
theorem dX12_rings_16 : decode cX12_rings 16 = .ok (.invokevirtual 457, 3) := by decide +kernel
theorem dX12_rings_19 : decode cX12_rings 19 = .ok (.iconst 0, 1) := by decide +kernel
theorem dX12_rings_20 : decode cX12_rings 20 = .ok (.istore_n 3, 1) := by decide +kernel
theorem dX12_rings_21 : decode cX12_rings 21 = .ok (.iconst 0, 1) := by decide +kernel
theorem dX12_rings_22 : decode cX12_rings 22 = .ok (.istore 4, 2) := by decide +kernel
theorem dX12_rings_24 : decode cX12_rings 24 = .ok (.iload 4, 2) := by decide +kernel
theorem dX12_rings_26 : decode cX12_rings 26 = .ok (.aload_n 0, 1) := by decide +kernel
theorem dX12_rings_27 : decode cX12_rings 27 = .ok (.getfield 271, 3) := by decide +kernel
theorem dX12_rings_30 : decode cX12_rings 30 = .ok (.if_icmp .ge 43, 3) := by decide +kernel
theorem dX12_rings_33 : decode cX12_rings 33 = .ok (.iload_n 3, 1) := by decide +kernel
theorem dX12_rings_34 : decode cX12_rings 34 = .ok (.aload_n 0, 1) := by decide +kernel
theorem dX12_rings_35 : decode cX12_rings 35 = .ok (.iload 4, 2) := by decide +kernel
theorem dX12_rings_37 : decode cX12_rings 37 = .ok (.invokevirtual 286, 3) := by decide +kernel
theorem dX12_rings_40 : decode cX12_rings 40 = .ok (.ifCond .eq 24, 3) := by decide +kernel
theorem dX12_rings_43 : decode cX12_rings 43 = .ok (.aload_n 0, 1) := by decide +kernel
theorem dX12_rings_44 : decode cX12_rings 44 = .ok (.getfield 75, 3) := by decide +kernel
theorem dX12_rings_47 : decode cX12_rings 47 = .ok (.iload 4, 2) := by decide +kernel
theorem dX12_rings_49 : decode cX12_rings 49 = .ok (.iaload, 1) := by decide +kernel
theorem dX12_rings_50 : decode cX12_rings 50 = .ok (.aload_n 0, 1) := by decide +kernel
theorem dX12_rings_51 : decode cX12_rings 51 = .ok (.getfield 53, 3) := by decide +kernel
theorem dX12_rings_54 : decode cX12_rings 54 = .ok (.iload 4, 2) := by decide +kernel
theorem dX12_rings_56 : decode cX12_rings 56 = .ok (.iaload, 1) := by decide +kernel
theorem dX12_rings_57 : decode cX12_rings 57 = .ok (.if_icmp .eq 7, 3) := by decide +kernel
theorem dX12_rings_60 : decode cX12_rings 60 = .ok (.iconst 1, 1) := by decide +kernel
theorem dX12_rings_61 : decode cX12_rings 61 = .ok (.goto 4, 3) := by decide +kernel
theorem dX12_rings_64 : decode cX12_rings 64 = .ok (.iconst 0, 1) := by decide +kernel
theorem dX12_rings_65 : decode cX12_rings 65 = .ok (.iadd, 1) := by decide +kernel
theorem dX12_rings_66 : decode cX12_rings 66 = .ok (.istore_n 3, 1) := by decide +kernel
theorem dX12_rings_67 : decode cX12_rings 67 = .ok (.iinc 4 1, 3) := by decide +kernel
theorem dX12_rings_70 : decode cX12_rings 70 = .ok (.goto (-46), 3) := by decide +kernel
theorem dX12_rings_73 : decode cX12_rings 73 = .ok (.iload_n 2, 1) := by decide +kernel
theorem dX12_rings_74 : decode cX12_rings 74 = .ok (.ifCond .eq 7, 3) := by decide +kernel
theorem dX12_rings_77 : decode cX12_rings 77 = .ok (.iload_n 3, 1) := by decide +kernel
theorem dX12_rings_78 : decode cX12_rings 78 = .ok (.goto 7, 3) := by decide +kernel
theorem dX12_rings_81 : decode cX12_rings 81 = .ok (.aload_n 0, 1) := by decide +kernel
theorem dX12_rings_82 : decode cX12_rings 82 = .ok (.getfield 451, 3) := by decide +kernel
theorem dX12_rings_85 : decode cX12_rings 85 = .ok (.ireturn, 1) := by decide +kernel
set_option maxRecDepth 20000 in
theorem tm_12_457 : tMet TB0 12 457 = some (0, M_X12_findTrade) := rfl
set_option maxHeartbeats 1000000 in
theorem zp_X12_trade_in {ad : mA} {dd : Nat} {h : mH} {Q : mQ} {m : Nat} {σ : Sg} (hk : rk h m) (HR : refT h m 0 σ)  (f : Int) (f_r : -2147483648 ≤ f ∧ f < 2147483648) (d : Int) (d_r : -2147483648 ≤ d ∧ d < 2147483648) (p1 : 0 ≤ f) (p2 : f < cn σ 0) (kq : ∀ v : Int, (tdP (sG σ f) d v) → ∀ h1, frm (fun a i => a = m ∨ (m + 9 ≤ a ∧ a < m + 30)) h h1 → Q (some (.int (zI v))) h1) : mCal TB0 ad (dd + 7) M_X12_trade [.ref m, .int (zI f), .int (zI d)] h 0 0 Q := by
  refine ⟨Nat.le_of_ble_eq_true rfl, ?_⟩
  show mEv TB0 ad M_X12_trade (dd + 7) (0, 0) (mCal TB0 ad (dd + 6)) (fun v h' z => z.1 = 0 ∧ Q v h') 0 [some (.ref m), some (.int (zI f)), some (.int (zI d))] [] h (0, 0)
  have FR0 : frm (fun a i => a = m ∨ (m + 9 ≤ a ∧ a < m + 30)) h h := frm_0 h
  have w1 := wS_n (refT_w HR)
  have W := (refT_w HR).2.2.1 f p1 p2
  have us := upv_s W d
  refine e_aload_n dX12_trade_0 rfl ?_
  refine z_iconst (0) dX12_trade_1 rfl ?_
  refine z_put dX12_trade_2 tf_12_103 (rk_s hk) rfl (Or.inl rfl) (fun h1 e2 => ?_)
  have f3 := frm_1 e2
  have k4 := rk_q (frm_s f3) hk
  have H5 := refT_c f3 (fun a k q1 q2 => by omega) HR
  have FR6 := frm_t FR0 (frm_m (S' := (fun a i => a = m ∨ (m + 9 ≤ a ∧ a < m + 30))) f3 (fun a k q => by omega))
  refine e_aload_n dX12_trade_5 rfl ?_
  refine e_iload_n dX12_trade_6 rfl ?_
  refine e_callV [.int _] dX12_trade_7 tm_12_292 rfl (Nat.le_of_ble_eq_true rfl) (rk_s k4) (Nat.le_of_ble_eq_true rfl) (Nat.le_refl _) (Nat.le_refl _) rfl (zp_X12_hand_in k4 H5 f ⟨by omega, by omega⟩ (by omega) (by omega) (fun  h7 f8 p9 p10 p11 p12 => ?_))
  have k13 := rk_q (frm_s f8) k4
  have H14 := refT_c f8 (fun a k q1 q2 => by omega) H5
  have FR15 := frm_t FR6 (frm_m (S' := (fun a i => a = m ∨ (m + 9 ≤ a ∧ a < m + 30))) f8 (fun a k q => by omega))
  have w5 := rB_n p9
  have w6 := rC_n p11
  refine z_ifb_eq 29 dX12_trade_10 rfl (fun c16 => ?_) (fun c16 => ?_)
  · exact absurd trivial c16
  · skip
    refine e_aload_n dX12_trade_13 rfl ?_
    refine e_iload_n dX12_trade_14 rfl ?_
    refine e_callV [.int _] dX12_trade_15 tm_12_295 rfl (Nat.le_of_ble_eq_true rfl) (rk_s k13) (Nat.le_of_ble_eq_true rfl) (Nat.le_refl _) (Nat.le_refl _) rfl (zp_X12_isDown k13 p9 d ⟨by omega, by omega⟩ ?_)
    refine z_ifb_eq 29 dX12_trade_18 rfl (fun c17 => ?_) (fun c17 => ?_)
    · skip
      refine z_iconst (-1) dX12_trade_29 rfl ?_
      refine z_iret dX12_trade_30 rfl ⟨rfl, ?_⟩
      refine kq _ ?_ _ FR15
      first | exact Or.inl ⟨by omega, rfl⟩ | exact Or.inr ⟨by omega, s0, n.toNat, r, E1, E3, rfl⟩
    · skip
      refine e_aload_n dX12_trade_21 rfl ?_
      refine e_iload_n dX12_trade_22 rfl ?_
      refine e_callV [.int _] dX12_trade_23 tm_12_286 rfl (Nat.le_of_ble_eq_true rfl) (rk_s k13) (Nat.le_of_ble_eq_true rfl) (Nat.le_refl _) (Nat.le_refl _) rfl (zp_X12_isPaired k13 p10 d ⟨by omega, by omega⟩ (by omega) (by omega) ?_)
      have y18 := wM_d (rM_w p10) (show 0 ≤ d by omega) (by omega)
      refine z_ifb_ne 31 dX12_trade_26 rfl (fun c19 => ?_) (fun c19 => ?_)
      · skip
        have u1 := upv_in (g := (sG σ f)) (d := d) (by omega) (by omega)
        refine e_aload_n dX12_trade_31 rfl ?_
        refine e_callV [] dX12_trade_32 tm_12_457 rfl (Nat.le_of_ble_eq_true rfl) (rk_s k13) (Nat.le_of_ble_eq_true rfl) (Nat.le_refl _) (Nat.le_refl _) rfl (zp_X12_findTrade k13 p9 p10 (fun  h20 f21 p22 => ?_))
        have k23 := rk_q (frm_s f21) k13
        have H24 := refT_c f21 (fun a k q1 q2 => by omega) H14
        have H25 := rB_c f21 (fun a k q => by omega) p9
        have H26 := rM_c f21 (fun a k q => by omega) p10
        have H27 := rC_c f21 (fun a k q => by omega) p11
        have H28 := rK_c f21 (fun a k q1 q2 => by omega) p12
        have FR29 := frm_t FR15 (frm_m (S' := (fun a i => a = m ∨ (m + 9 ≤ a ∧ a < m + 30))) f21 (fun a k q => by omega))
        obtain ⟨s0, r, n, E1, E2, E3, E4⟩ := p22
        refine e_aload_n dX12_trade_35 rfl ?_
        refine e_get (.ref (m + 22)) dX12_trade_36 tf_12_75 (rk_s k23) (congrArg va_rf (rk_r22 k23)) ?_
        refine e_iload_n dX12_trade_39 rfl ?_
        refine z_ild (r d) dX12_trade_40 (rk_a22 k23) (by decide) (by omega) (by omega) (E2.1 d (by omega) (by omega)) ?_
        have y30 := rI_r (E2.1 d (by omega) (by omega))
        refine z_iret dX12_trade_41 rfl ⟨rfl, ?_⟩
        refine kq _ ?_ _ FR29
        first | exact Or.inl ⟨by omega, rfl⟩ | exact Or.inr ⟨by omega, s0, n.toNat, r, E1, E3, rfl⟩
      · skip
        have u1 := upv_in (g := (sG σ f)) (d := d) (by omega) (by omega)
        refine z_iconst (-1) dX12_trade_29 rfl ?_
        refine z_iret dX12_trade_30 rfl ⟨rfl, ?_⟩
        refine kq _ ?_ _ FR15
        first | exact Or.inl ⟨by omega, rfl⟩ | exact Or.inr ⟨by omega, s0, n.toNat, r, E1, E3, rfl⟩
set_option maxHeartbeats 400000 in
theorem zp_X12_trade_out {ad : mA} {dd : Nat} {h : mH} {Q : mQ} {m : Nat} {σ : Sg} (hk : rk h m) (HR : refT h m 0 σ)  (f : Int) (f_r : -2147483648 ≤ f ∧ f < 2147483648) (d : Int) (d_r : -2147483648 ≤ d ∧ d < 2147483648) (p1 : ¬ (0 ≤ f ∧ f < cn σ 0)) (kq : ∀ h1, frm (fun a i => a = m ∨ (m + 9 ≤ a ∧ a < m + 30)) h h1 → Q (some (.int (zI (-1)))) h1) : mCal TB0 ad (dd + 7) M_X12_trade [.ref m, .int (zI f), .int (zI d)] h 0 0 Q := by
  refine ⟨Nat.le_of_ble_eq_true rfl, ?_⟩
  show mEv TB0 ad M_X12_trade (dd + 7) (0, 0) (mCal TB0 ad (dd + 6)) (fun v h' z => z.1 = 0 ∧ Q v h') 0 [some (.ref m), some (.int (zI f)), some (.int (zI d))] [] h (0, 0)
  have FR0 : frm (fun a i => a = m ∨ (m + 9 ≤ a ∧ a < m + 30)) h h := frm_0 h
  have w1 := wS_n (refT_w HR)
  refine e_aload_n dX12_trade_0 rfl ?_
  refine z_iconst (0) dX12_trade_1 rfl ?_
  refine z_put dX12_trade_2 tf_12_103 (rk_s hk) rfl (Or.inl rfl) (fun h1 e2 => ?_)
  have f3 := frm_1 e2
  have k4 := rk_q (frm_s f3) hk
  have H5 := refT_c f3 (fun a k q1 q2 => by omega) HR
  have FR6 := frm_t FR0 (frm_m (S' := (fun a i => a = m ∨ (m + 9 ≤ a ∧ a < m + 30))) f3 (fun a k q => by omega))
  refine e_aload_n dX12_trade_5 rfl ?_
  refine e_iload_n dX12_trade_6 rfl ?_
  refine e_callV [.int _] dX12_trade_7 tm_12_292 rfl (Nat.le_of_ble_eq_true rfl) (rk_s k4) (Nat.le_of_ble_eq_true rfl) (Nat.le_refl _) (Nat.le_refl _) rfl (zp_X12_hand_out k4 H5 f ⟨by omega, by omega⟩ (by omega) ?_)
  refine z_ifb_eq 29 dX12_trade_10 rfl (fun c7 => ?_) (fun c7 => ?_)
  · skip
    refine z_iconst (-1) dX12_trade_29 rfl ?_
    refine z_iret dX12_trade_30 rfl ⟨rfl, ?_⟩
    exact kq _ FR6
  · exfalso; exact c7
set_option maxHeartbeats 1000000 in
theorem zp_X12_rings_in {ad : mA} {dd : Nat} {h : mH} {Q : mQ} {m : Nat} {σ : Sg} (hk : rk h m) (HR : refT h m 0 σ)  (f : Int) (f_r : -2147483648 ≤ f ∧ f < 2147483648) (p : Prop) [Decidable p] (p1 : 0 ≤ f) (p2 : f < cn σ 0) (kq : ∀ v : Int, (rgP (sG σ f) p v) → ∀ h1, frm (fun a i => a = m ∨ (m + 9 ≤ a ∧ a < m + 30)) h h1 → Q (some (.int (zI v))) h1) : mCal TB0 ad (dd + 7) M_X12_rings [.ref m, .int (zI f), .int (zI (bZ p))] h 0 0 Q := by
  refine ⟨Nat.le_of_ble_eq_true rfl, ?_⟩
  show mEv TB0 ad M_X12_rings (dd + 7) (0, 0) (mCal TB0 ad (dd + 6)) (fun v h' z => z.1 = 0 ∧ Q v h') 0 [some (.ref m), some (.int (zI f)), some (.int (zI (bZ p))), none, none] [] h (0, 0)
  have FR0 : frm (fun a i => a = m ∨ (m + 9 ≤ a ∧ a < m + 30)) h h := frm_0 h
  have w1 := wS_n (refT_w HR)
  have W := (refT_w HR).2.2.1 f p1 p2
  refine e_aload_n dX12_rings_0 rfl ?_
  refine z_iconst (0) dX12_rings_1 rfl ?_
  refine z_put dX12_rings_2 tf_12_103 (rk_s hk) rfl (Or.inl rfl) (fun h1 e2 => ?_)
  have f3 := frm_1 e2
  have k4 := rk_q (frm_s f3) hk
  have H5 := refT_c f3 (fun a k q1 q2 => by omega) HR
  have FR6 := frm_t FR0 (frm_m (S' := (fun a i => a = m ∨ (m + 9 ≤ a ∧ a < m + 30))) f3 (fun a k q => by omega))
  refine e_aload_n dX12_rings_5 rfl ?_
  refine e_iload_n dX12_rings_6 rfl ?_
  refine e_callV [.int _] dX12_rings_7 tm_12_292 rfl (Nat.le_of_ble_eq_true rfl) (rk_s k4) (Nat.le_of_ble_eq_true rfl) (Nat.le_refl _) (Nat.le_refl _) rfl (zp_X12_hand_in k4 H5 f ⟨by omega, by omega⟩ (by omega) (by omega) (fun  h7 f8 p9 p10 p11 p12 => ?_))
  have k13 := rk_q (frm_s f8) k4
  have H14 := refT_c f8 (fun a k q1 q2 => by omega) H5
  have FR15 := frm_t FR6 (frm_m (S' := (fun a i => a = m ∨ (m + 9 ≤ a ∧ a < m + 30))) f8 (fun a k q => by omega))
  have w5 := rB_n p9
  have w6 := rC_n p11
  refine z_ifb_ne 15 dX12_rings_10 rfl (fun c16 => ?_) (fun c16 => ?_)
  · skip
    refine e_aload_n dX12_rings_15 rfl ?_
    refine e_callV [] dX12_rings_16 tm_12_457 rfl (Nat.le_of_ble_eq_true rfl) (rk_s k13) (Nat.le_of_ble_eq_true rfl) (Nat.le_refl _) (Nat.le_refl _) rfl (zp_X12_findTrade k13 p9 p10 (fun  h17 f18 p19 => ?_))
    have k20 := rk_q (frm_s f18) k13
    have H21 := refT_c f18 (fun a k q1 q2 => by omega) H14
    have H22 := rB_c f18 (fun a k q => by omega) p9
    have H23 := rM_c f18 (fun a k q => by omega) p10
    have H24 := rC_c f18 (fun a k q => by omega) p11
    have H25 := rK_c f18 (fun a k q1 q2 => by omega) p12
    have FR26 := frm_t FR15 (frm_m (S' := (fun a i => a = m ∨ (m + 9 ≤ a ∧ a < m + 30))) f18 (fun a k q => by omega))
    obtain ⟨s0, r, n, E1, E2, E3, E4⟩ := p19
    refine z_iconst (0) dX12_rings_19 rfl ?_
    refine e_istore_n (L' := [_, _, _, _, _]) dX12_rings_20 (Nat.le_of_ble_eq_true rfl) rfl ?_
    refine z_iconst (0) dX12_rings_21 rfl ?_
    refine e_istore (L' := [_, _, _, _, _]) dX12_rings_22 (Nat.le_of_ble_eq_true rfl) rfl ?_
    have lp27 : ∀ (n27 : Nat) (t d : Int), (nd (sG σ f) - d).toNat = n27 → (0 ≤ d ∧ d ≤ nd (sG σ f)) → (0 ≤ t ∧ t ≤ d) → (rI h17 m 49 = n ∧ t = sumZ (fun d => bZ (upv (sG σ f) d ≠ -1 ∧ r d ≠ upv (sG σ f) d)) d.toNat) → mEv TB0 ad M_X12_rings (dd + 7) (0, 0) (mCal TB0 ad (dd + 6)) (fun v h' z => z.1 = 0 ∧ Q v h') 24 [some (.ref m), some (.int (zI f)), some (.int (zI (bZ p))), some (.int (zI t)), some (.int (zI d))] [] h17 (0, 0) := by
      intro n27
      induction n27 using Nat.strongRecOn with
      | ind n27 ih27 =>
      intro t d  hn27  I1 I2 I3
      refine e_iload dX12_rings_24 rfl ?_
      refine e_aload_n dX12_rings_26 rfl ?_
      refine z_get (nd (sG σ f)) dX12_rings_27 tf_12_271 (rk_s k20) (Or.inl rfl) (rB_nd H22) ?_
      have y28 := rB_n H22
      refine z_icmp_ge 73 dX12_rings_30 rfl ⟨by omega, by omega⟩ ⟨by omega, by omega⟩ (fun c29 => ?_) (fun c29 => ?_)
      · skip
        refine e_iload_n dX12_rings_73 rfl ?_
        refine z_ifb_eq 81 dX12_rings_74 rfl (fun c30 => ?_) (fun c30 => ?_)
        · skip
          refine e_aload_n dX12_rings_81 rfl ?_
          refine z_get n dX12_rings_82 tf_12_451 (rk_s k20) (Or.inl rfl) E2.2 ?_
          have y31 := rI_r E2.2
          refine z_iret dX12_rings_85 rfl ⟨rfl, ?_⟩
          refine kq _ ?_ _ FR26
          first | exact ⟨s0, n.toNat, r, E1, E3, by rw [if_pos (by assumption), I3.2, show d = nd (sG σ f) by omega]; rfl⟩ | exact ⟨s0, n.toNat, r, E1, E3, by rw [if_neg (by assumption)]; omega⟩
        · skip
          refine e_iload_n dX12_rings_77 rfl ?_
          refine e_goto 85 dX12_rings_78 rfl ?_
          refine z_iret dX12_rings_85 rfl ⟨rfl, ?_⟩
          refine kq _ ?_ _ FR26
          first | exact ⟨s0, n.toNat, r, E1, E3, by rw [if_pos (by assumption), I3.2, show d = nd (sG σ f) by omega]; rfl⟩ | exact ⟨s0, n.toNat, r, E1, E3, by rw [if_neg (by assumption)]; omega⟩
      · skip
        have u1 := upv_in (g := (sG σ f)) (d := d) (by omega) (by omega)
        refine e_iload_n dX12_rings_33 rfl ?_
        refine e_aload_n dX12_rings_34 rfl ?_
        refine e_iload dX12_rings_35 rfl ?_
        refine e_callV [.int _] dX12_rings_37 tm_12_286 rfl (Nat.le_of_ble_eq_true rfl) (rk_s k20) (Nat.le_of_ble_eq_true rfl) (Nat.le_refl _) (Nat.le_refl _) rfl (zp_X12_isPaired k20 H23 d ⟨by omega, by omega⟩ (by omega) (by omega) ?_)
        have y32 := wM_d (rM_w H23) (show 0 ≤ d by omega) (by omega)
        refine z_ifb_eq 64 dX12_rings_40 rfl (fun c33 => ?_) (fun c33 => ?_)
        · skip
          refine z_iconst (0) dX12_rings_64 rfl ?_
          refine z_iadd dX12_rings_65 ?_
          refine e_istore_n (L' := [_, _, _, _, _]) dX12_rings_66 (Nat.le_of_ble_eq_true rfl) rfl ?_
          refine z_iinc (L' := [_, _, _, _, _]) dX12_rings_67 rfl rfl ?_
          refine e_goto 24 dX12_rings_70 rfl ?_
          exact ih27 _ (by omega) (t + 0) (d + 1)  rfl  (by omega) (by omega) (⟨I3.1, by rw [sumZ_s (by omega), u1]; first | (rw [bZ_1 ⟨by omega, by omega⟩]; omega) | (rw [bZ_0 (by omega)]; omega)⟩)
        · skip
          refine e_aload_n dX12_rings_43 rfl ?_
          refine e_get (.ref (m + 22)) dX12_rings_44 tf_12_75 (rk_s k20) (congrArg va_rf (rk_r22 k20)) ?_
          refine e_iload dX12_rings_47 rfl ?_
          refine z_ild (r d) dX12_rings_49 (rk_a22 k20) (by decide) (by omega) (by omega) (E2.1 d (by omega) (by omega)) ?_
          have y34 := rI_r (E2.1 d (by omega) (by omega))
          refine e_aload_n dX12_rings_50 rfl ?_
          refine e_get (.ref (m + 15)) dX12_rings_51 tf_12_53 (rk_s k20) (congrArg va_rf (rk_r15 k20)) ?_
          refine e_iload dX12_rings_54 rfl ?_
          refine z_ild (dm (sG σ f) d) dX12_rings_56 (rk_a15 k20) (by decide) (by omega) (by omega) (rM_d H23 (by omega) (by omega)) ?_
          have y35 := wM_d (rM_w H23) (show 0 ≤ d by omega) (by omega)
          refine z_icmp_eq 64 dX12_rings_57 rfl ⟨by omega, by omega⟩ ⟨by omega, by omega⟩ (fun c36 => ?_) (fun c36 => ?_)
          · skip
            refine z_iconst (0) dX12_rings_64 rfl ?_
            refine z_iadd dX12_rings_65 ?_
            refine e_istore_n (L' := [_, _, _, _, _]) dX12_rings_66 (Nat.le_of_ble_eq_true rfl) rfl ?_
            refine z_iinc (L' := [_, _, _, _, _]) dX12_rings_67 rfl rfl ?_
            refine e_goto 24 dX12_rings_70 rfl ?_
            exact ih27 _ (by omega) (t + 0) (d + 1)  rfl  (by omega) (by omega) (⟨I3.1, by rw [sumZ_s (by omega), u1]; first | (rw [bZ_1 ⟨by omega, by omega⟩]; omega) | (rw [bZ_0 (by omega)]; omega)⟩)
          · skip
            refine z_iconst (1) dX12_rings_60 rfl ?_
            refine e_goto 65 dX12_rings_61 rfl ?_
            refine z_iadd dX12_rings_65 ?_
            refine e_istore_n (L' := [_, _, _, _, _]) dX12_rings_66 (Nat.le_of_ble_eq_true rfl) rfl ?_
            refine z_iinc (L' := [_, _, _, _, _]) dX12_rings_67 rfl rfl ?_
            refine e_goto 24 dX12_rings_70 rfl ?_
            exact ih27 _ (by omega) (t + 1) (d + 1)  rfl  (by omega) (by omega) (⟨I3.1, by rw [sumZ_s (by omega), u1]; first | (rw [bZ_1 ⟨by omega, by omega⟩]; omega) | (rw [bZ_0 (by omega)]; omega)⟩)
    exact lp27 _ 0 0  rfl  (by omega) (by omega) (⟨E2.2, rfl⟩)
  · exact absurd trivial c16
set_option maxHeartbeats 400000 in
theorem zp_X12_rings_out {ad : mA} {dd : Nat} {h : mH} {Q : mQ} {m : Nat} {σ : Sg} (hk : rk h m) (HR : refT h m 0 σ)  (f : Int) (f_r : -2147483648 ≤ f ∧ f < 2147483648) (p : Prop) [Decidable p] (p1 : ¬ (0 ≤ f ∧ f < cn σ 0)) (kq : ∀ h1, frm (fun a i => a = m ∨ (m + 9 ≤ a ∧ a < m + 30)) h h1 → Q (some (.int (zI (-1)))) h1) : mCal TB0 ad (dd + 7) M_X12_rings [.ref m, .int (zI f), .int (zI (bZ p))] h 0 0 Q := by
  refine ⟨Nat.le_of_ble_eq_true rfl, ?_⟩
  show mEv TB0 ad M_X12_rings (dd + 7) (0, 0) (mCal TB0 ad (dd + 6)) (fun v h' z => z.1 = 0 ∧ Q v h') 0 [some (.ref m), some (.int (zI f)), some (.int (zI (bZ p))), none, none] [] h (0, 0)
  have FR0 : frm (fun a i => a = m ∨ (m + 9 ≤ a ∧ a < m + 30)) h h := frm_0 h
  have w1 := wS_n (refT_w HR)
  refine e_aload_n dX12_rings_0 rfl ?_
  refine z_iconst (0) dX12_rings_1 rfl ?_
  refine z_put dX12_rings_2 tf_12_103 (rk_s hk) rfl (Or.inl rfl) (fun h1 e2 => ?_)
  have f3 := frm_1 e2
  have k4 := rk_q (frm_s f3) hk
  have H5 := refT_c f3 (fun a k q1 q2 => by omega) HR
  have FR6 := frm_t FR0 (frm_m (S' := (fun a i => a = m ∨ (m + 9 ≤ a ∧ a < m + 30))) f3 (fun a k q => by omega))
  refine e_aload_n dX12_rings_5 rfl ?_
  refine e_iload_n dX12_rings_6 rfl ?_
  refine e_callV [.int _] dX12_rings_7 tm_12_292 rfl (Nat.le_of_ble_eq_true rfl) (rk_s k4) (Nat.le_of_ble_eq_true rfl) (Nat.le_refl _) (Nat.le_refl _) rfl (zp_X12_hand_out k4 H5 f ⟨by omega, by omega⟩ (by omega) ?_)
  refine z_ifb_ne 15 dX12_rings_10 rfl (fun c7 => ?_) (fun c7 => ?_)
  · exfalso; exact c7
  · skip
    refine z_iconst (-1) dX12_rings_13 rfl ?_
    refine z_iret dX12_rings_14 rfl ⟨rfl, ?_⟩
    exact kq _ FR6
/-- a question about a forge that is sound -/
def ansW (f : Int) (none_ : Int) (R : (Int → Int) → Int → Prop) (σ : Sg) (r : Int) : Prop := (0 ≤ f ∧ f < cn σ 0 ∧ wfF (sG σ f) ∧ R (sG σ f) r) ∨ (¬ (0 ≤ f ∧ f < cn σ 0) ∧ r = none_)
theorem ansW_u {f n : Int} {R : (Int → Int) → Int → Prop} (hR : ∀ g r r', wfF g → R g r → R g r' → r = r') (σ : Sg) (r r' : Int) (a : ansW f n R σ r) (b : ansW f n R σ r') : r = r' := by
  rcases a with ⟨a1, a2, a0, a3⟩ | ⟨a1, a2⟩
  · rcases b with ⟨b1, b2, b0, b3⟩ | ⟨b1, b2⟩
    · exact hR _ _ _ a0 a3 b3
    · exact absurd ⟨a1, a2⟩ b1
  · rcases b with ⟨b1, b2, b0, b3⟩ | ⟨b1, b2⟩
    · exact absurd ⟨b1, b2⟩ a1
    · rw [a2, b2]
theorem op12 {ad : mA} {B : Nat} : op_12 ad B (Inv B) := by
  intro a b 
  rw [← zI_toInt a]
  rw [← zI_toInt b]
  have ra := in_of a
  generalize a.toInt = a at *
  have rb := in_of b
  generalize b.toInt = b at *
  refine opq_I (ansW a (-1) (fun g r => tdP g b r)) (ansW_u (fun g r r' w x y => tdP_u w x y)) (fun h σ hk HX Q kq => ?_) (fun h σ hr HR Q kq => ?_)
  · by_cases q : 0 ≤ a ∧ a < cn σ 0
    · exact zp_X11_trade_in hk HX a ra b rb q.1 q.2 (fun v p h1 f => kq v h1 f (Or.inl ⟨q.1, q.2, (clsT_w HX).2.2.1 a q.1 q.2, p⟩))
    · exact zp_X11_trade_out hk HX a ra b rb q (kq _ _ (frm_0 h) (Or.inr ⟨q, rfl⟩))
  · by_cases q : 0 ≤ a ∧ a < cn σ 0
    · exact zp_X12_trade_in hr HR a ra b rb q.1 q.2 (fun v p h1 f => kq v h1 f (Or.inl ⟨q.1, q.2, (refT_w HR).2.2.1 a q.1 q.2, p⟩))
    · exact zp_X12_trade_out hr HR a ra b rb q (fun h1 f => kq _ _ f (Or.inr ⟨q, rfl⟩))
theorem op23 {ad : mA} {B : Nat} : op_23 ad B (Inv B) := by
  intro a bb hb
  rw [← zI_toInt a]
  rw [bb_z hb]
  have ra := in_of a
  generalize a.toInt = a at *
  refine opq_I (ansW a (-1) (fun g r => rgP g (bb = 1) r)) (ansW_u (fun g r r' w x y => rgP_u w x y)) (fun h σ hk HX Q kq => ?_) (fun h σ hr HR Q kq => ?_)
  · by_cases q : 0 ≤ a ∧ a < cn σ 0
    · exact zp_X11_rings_in hk HX a ra (bb = 1) q.1 q.2 (fun v p h1 f => kq v h1 f (Or.inl ⟨q.1, q.2, (clsT_w HX).2.2.1 a q.1 q.2, p⟩))
    · exact zp_X11_rings_out hk HX a ra (bb = 1) q (kq _ _ (frm_0 h) (Or.inr ⟨q, rfl⟩))
  · by_cases q : 0 ≤ a ∧ a < cn σ 0
    · exact zp_X12_rings_in hr HR a ra (bb = 1) q.1 q.2 (fun v p h1 f => kq v h1 f (Or.inl ⟨q.1, q.2, (refT_w HR).2.2.1 a q.1 q.2, p⟩))
    · exact zp_X12_rings_out hr HR a ra (bb = 1) q (fun h1 f => kq _ _ f (Or.inr ⟨q, rfl⟩))
