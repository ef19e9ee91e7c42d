/-! TILL, STATE -/
theorem dX11_till_0 : decode cX11_till 0 = .ok (.aload_n 0, 1) := by decide +kernel
theorem dX11_till_1 : decode cX11_till 1 = .ok (.getfield 10, 3) := by decide +kernel
theorem dX11_till_4 : decode cX11_till 4 = .ok (.iload_n 1, 1) := by decide +kernel
theorem dX11_till_5 : decode cX11_till 5 = .ok (.invokevirtual 94, 3) := by decide +kernel
theorem dX11_till_8 : decode cX11_till 8 = .ok (.astore_n 3, 1) := by decide +kernel
theorem dX11_till_9 : decode cX11_till 9 = .ok (.aload_n 0, 1) := by decide +kernel
theorem dX11_till_10 : decode cX11_till 10 = .ok (.getfield 10, 3) := by decide +kernel
theorem dX11_till_13 : decode cX11_till 13 = .ok (.iload_n 2, 1) := by decide +kernel
theorem dX11_till_14 : decode cX11_till 14 = .ok (.invokevirtual 111, 3) := by decide +kernel
theorem dX11_till_17 : decode cX11_till 17 = .ok (.astore 4, 2) := by decide +kernel
theorem dX11_till_19 : decode cX11_till 19 = .ok (.aload_n 3, 1) := by decide +kernel
theorem dX11_till_20 : decode cX11_till 20 = .ok (.ifnull 8, 3) := by decide +kernel
theorem dX11_till_23 : decode cX11_till 23 = .ok (.aload 4, 2) := by decide +kernel
theorem dX11_till_25 : decode cX11_till 25 = .ok (.ifnonnull 5, 3) := by decide +kernel
theorem dX11_till_28 : decode cX11_till 28 = .ok (.iconst (-1), 1) := by decide +kernel
theorem dX11_till_29 : decode cX11_till 29 = .ok (.ireturn, 1) := by decide +kernel
theorem dX11_till_30 : decode cX11_till 30 = .ok (.aload_n 0, 1) := by decide +kernel
theorem dX11_till_31 : decode cX11_till 31 = .ok (.getfield 30, 3) := by decide +kernel
theorem dX11_till_34 : decode cX11_till 34 = .ok (.aload_n 3, 1) := by decide +kernel
theorem dX11_till_35 : decode cX11_till 35 = .ok (.aload 4, 2) := by decide +kernel
theorem dX11_till_37 : decode cX11_till 37 = .ok (.aload 4, 2) := by decide +kernel
theorem dX11_till_39 : decode cX11_till 39 = .ok (.getfield 119, 3) := by decide +kernel
theorem dX11_till_42 : decode cX11_till 42 = .ok (.invokevirtual 122, 3) := by decide +kernel
theorem dX11_till_45 : decode cX11_till 45 = .ok (.ireturn, 1) := by decide +kernel
theorem dX11_state_0 : decode cX11_state 0 = .ok (.aload_n 0, 1) := by decide +kernel
theorem dX11_state_1 : decode cX11_state 1 = .ok (.getfield 10, 3) := by decide +kernel
theorem dX11_state_4 : decode cX11_state 4 = .ok (.iload_n 1, 1) := by decide +kernel
theorem dX11_state_5 : decode cX11_state 5 = .ok (.invokevirtual 94, 3) := by decide +kernel
theorem dX11_state_8 : decode cX11_state 8 = .ok (.astore 5, 2) := by decide +kernel
theorem dX11_state_10 : decode cX11_state 10 = .ok (.aload_n 0, 1) := by decide +kernel
theorem dX11_state_11 : decode cX11_state 11 = .ok (.getfield 10, 3) := by decide +kernel
theorem dX11_state_14 : decode cX11_state 14 = .ok (.iload_n 2, 1) := by decide +kernel
theorem dX11_state_15 : decode cX11_state 15 = .ok (.invokevirtual 111, 3) := by decide +kernel
theorem dX11_state_18 : decode cX11_state 18 = .ok (.astore 6, 2) := by decide +kernel
theorem dX11_state_20 : decode cX11_state 20 = .ok (.aload 5, 2) := by decide +kernel
theorem dX11_state_22 : decode cX11_state 22 = .ok (.ifnull 12, 3) := by decide +kernel
theorem dX11_state_25 : decode cX11_state 25 = .ok (.aload 6, 2) := by decide +kernel
theorem dX11_state_27 : decode cX11_state 27 = .ok (.ifnull 7, 3) := by decide +kernel
theorem dX11_state_30 : decode cX11_state 30 = .ok (.iload_n 3, 1) := by decide +kernel
theorem dX11_state_31 : decode cX11_state 31 = .ok (.ifCond .ge 6, 3) := by decide +kernel
theorem dX11_state_34 : decode cX11_state 34 = .ok (.bipush (-2), 2) := by decide +kernel
theorem dX11_state_36 : decode cX11_state 36 = .ok (.ireturn, 1) := by decide +kernel
theorem dX11_state_37 : decode cX11_state 37 = .ok (.aload_n 0, 1) := by decide +kernel
theorem dX11_state_38 : decode cX11_state 38 = .ok (.getfield 30, 3) := by decide +kernel
theorem dX11_state_41 : decode cX11_state 41 = .ok (.aload 5, 2) := by decide +kernel
theorem dX11_state_43 : decode cX11_state 43 = .ok (.aload 6, 2) := by decide +kernel
theorem dX11_state_45 : decode cX11_state 45 = .ok (.iload_n 3, 1) := by decide +kernel
theorem dX11_state_46 : decode cX11_state 46 = .ok (.invokevirtual 122, 3) := by decide +kernel
theorem dX11_state_49 : decode cX11_state 49 = .ok (.iload_n 3, 1) := by decide +kernel
theorem dX11_state_50 : decode cX11_state 50 = .ok (.if_icmp .ne 15, 3) := by decide +kernel
theorem dX11_state_53 : decode cX11_state 53 = .ok (.aload_n 0, 1) := by decide +kernel
theorem dX11_state_54 : decode cX11_state 54 = .ok (.getfield 30, 3) := by decide +kernel
theorem dX11_state_57 : decode cX11_state 57 = .ok (.iload 4, 2) := by decide +kernel
theorem dX11_state_59 : decode cX11_state 59 = .ok (.invokevirtual 126, 3) := by decide +kernel
theorem dX11_state_62 : decode cX11_state 62 = .ok (.goto 5, 3) := by decide +kernel
theorem dX11_state_65 : decode cX11_state 65 = .ok (.bipush (-2), 2) := by decide +kernel
theorem dX11_state_67 : decode cX11_state 67 = .ok (.ireturn, 1) := by decide +kernel
theorem tf_11_119 : tFld TB0 11 119 = some (10, 3) := rfl
set_option maxRecDepth 20000 in
theorem tm_11_122 : tMet TB0 11 122 = some (0, M_X7_live) := rfl
set_option maxRecDepth 20000 in
theorem tm_11_126 : tMet TB0 11 126 = some (0, M_X7_tell) := rfl
set_option maxHeartbeats 2000000 in
theorem zp_X11_till_in {ad : mA} {dd : Nat} {h : mH} {Q : mQ} {x : Nat} {σ : Sg} (hk : bk h x) (HX : clsT h (x + 1) σ)  (f : Int) (f_r : -2147483648 ≤ f ∧ f < 2147483648) (y : Int) (y_r : -2147483648 ≤ y ∧ y < 2147483648) (p1 : 0 ≤ f ∧ f < cn σ 0) (p2 : 0 ≤ y ∧ y < cn σ 1) (kq : ∀ v : Int, (lvR (sY σ y) (sG σ f) (sY σ y 0) v) → ∀ h1, frm (fun a i => x + 56 ≤ a ∧ a < x + 157) h h1 → Q (some (.int (zI v))) h1) : mCal TB0 ad (dd + 7) M_X11_till [.ref x, .int (zI f), .int (zI y)] h 0 0 Q := by
  refine ⟨Nat.le_of_ble_eq_true rfl, ?_⟩
  show mEv TB0 ad M_X11_till (dd + 7) (0, 0) (mCal TB0 ad (dd + 6)) (fun v h' z => z.1 = 0 ∧ Q v h') 0 [some (.ref x), some (.int (zI f)), some (.int (zI y)), none, none] [] h (0, 0)
  have FR0 : frm (fun a i => x + 56 ≤ a ∧ a < x + 157) h h := frm_0 h
  have w1 := wS_n (clsT_w HX)
  refine e_aload_n dX11_till_0 rfl ?_
  refine e_get (.ref (x + 1)) dX11_till_1 tf_11_10 (congrArg Prod.fst (bk_s0 hk)) (congrArg va_rf (bk_r0_0 hk)) ?_
  refine e_iload_n dX11_till_4 rfl ?_
  refine e_callV [.int _] dX11_till_5 tm_11_94 rfl (Nat.le_of_ble_eq_true rfl) (congrArg Prod.fst (bk_s1 hk)) (Nat.le_of_ble_eq_true rfl) (Nat.le_refl _) (Nat.le_refl _) rfl (zp_X8_forgeAt_in (bk_td1 hk) HX f ⟨by omega, by omega⟩ (by omega) (by omega) ?_)
  have k1 := fAt_k (bk_td1 hk) f
  have H2 := clsT_F HX (show 0 ≤ f by omega) (by omega)
  have y3 := fAt_b (x + 1) f
  refine e_astore_n (L' := [_, _, _, _, _]) dX11_till_8 (Nat.le_of_ble_eq_true rfl) rfl ?_
  refine e_aload_n dX11_till_9 rfl ?_
  refine e_get (.ref (x + 1)) dX11_till_10 tf_11_10 (congrArg Prod.fst (bk_s0 hk)) (congrArg va_rf (bk_r0_0 hk)) ?_
  refine e_iload_n dX11_till_13 rfl ?_
  refine e_callV [.int _] dX11_till_14 tm_11_111 rfl (Nat.le_of_ble_eq_true rfl) (congrArg Prod.fst (bk_s1 hk)) (Nat.le_of_ble_eq_true rfl) (Nat.le_refl _) (Nat.le_refl _) rfl (zp_X8_yearAt_in (bk_td1 hk) HX y ⟨by omega, by omega⟩ (by omega) (by omega) ?_)
  have k4 := yAt_k (bk_td1 hk) y
  have H5 := clsT_Y HX (show 0 ≤ y by omega) (by omega)
  have y6 := yAt_b (x + 1) y
  refine e_astore (L' := [_, _, _, _, _]) dX11_till_17 (Nat.le_of_ble_eq_true rfl) rfl ?_
  refine e_aload_n dX11_till_19 rfl ?_
  refine e_ifnull 28 dX11_till_20 rfl ?_
  refine e_aload dX11_till_23 rfl ?_
  refine e_ifnonnull 30 dX11_till_25 rfl ?_
  have wy := ((clsT_w HX).2.2.2.1 y p2.1 p2.2).1
  refine e_aload_n dX11_till_30 rfl ?_
  refine e_get (.ref (x + 83)) dX11_till_31 tf_11_30 (congrArg Prod.fst (bk_s0 hk)) (congrArg va_rf (bk_r0_3 hk)) ?_
  refine e_aload_n dX11_till_34 rfl ?_
  refine e_aload dX11_till_35 rfl ?_
  refine e_aload dX11_till_37 rfl ?_
  refine z_get ((sY σ y) 0) dX11_till_39 tf_11_119 (congrArg Prod.fst (yr_s0 k4)) (Or.inl rfl) (isY_n H5) ?_
  have y7 := (isY_w H5).1
  refine e_callV [.ref _, .ref _, .int _] dX11_till_42 tm_11_122 rfl (Nat.le_of_ble_eq_true rfl) (congrArg Prod.fst (bk_s83 hk)) (Nat.le_of_ble_eq_true rfl) (Nat.le_refl _) (Nat.le_refl _) rfl (zp_X7_live (bk_se83 hk) k1 k4 H2 H5 ((sY σ y) 0) ⟨by omega, by omega⟩ (by omega) (by omega) (by omega) (fun v8 p9 h10 f11 p12 p13 => ?_))
  have k14 := bk_q (frm_s f11) hk
  have k15 := lk_q (frm_s f11) k1
  have k16 := lk_q (frm_s f11) k4
  have H17 := clsT_c f11 (fun a k q1 q2 => by omega) HX
  have H18 := isF_c f11 (fun a k q1 q2 => by omega) H2
  have H19 := isY_c f11 (fun a k q1 q2 => by omega) H5
  have FR20 := frm_t FR0 (frm_m (S' := (fun a i => x + 56 ≤ a ∧ a < x + 157)) f11 (fun a k q => by omega))
  refine z_iret dX11_till_45 rfl ⟨rfl, ?_⟩
  exact kq _ (by assumption) _ FR20
set_option maxHeartbeats 400000 in
theorem zp_X11_till_io {ad : mA} {dd : Nat} {h : mH} {Q : mQ} {x : Nat} {σ : Sg} (hk : bk h x) (HX : clsT h (x + 1) σ)  (f : Int) (f_r : -2147483648 ≤ f ∧ f < 2147483648) (y : Int) (y_r : -2147483648 ≤ y ∧ y < 2147483648) (p1 : 0 ≤ f ∧ f < cn σ 0) (p2 : ¬ (0 ≤ y ∧ y < cn σ 1)) (kq : Q (some (.int (zI (-1)))) h) : mCal TB0 ad (dd + 7) M_X11_till [.ref x, .int (zI f), .int (zI y)] h 0 0 Q := by
  refine ⟨Nat.le_of_ble_eq_true rfl, ?_⟩
  show mEv TB0 ad M_X11_till (dd + 7) (0, 0) (mCal TB0 ad (dd + 6)) (fun v h' z => z.1 = 0 ∧ Q v h') 0 [some (.ref x), some (.int (zI f)), some (.int (zI y)), none, none] [] h (0, 0)
  have w1 := wS_n (clsT_w HX)
  refine e_aload_n dX11_till_0 rfl ?_
  refine e_get (.ref (x + 1)) dX11_till_1 tf_11_10 (congrArg Prod.fst (bk_s0 hk)) (congrArg va_rf (bk_r0_0 hk)) ?_
  refine e_iload_n dX11_till_4 rfl ?_
  refine e_callV [.int _] dX11_till_5 tm_11_94 rfl (Nat.le_of_ble_eq_true rfl) (congrArg Prod.fst (bk_s1 hk)) (Nat.le_of_ble_eq_true rfl) (Nat.le_refl _) (Nat.le_refl _) rfl (zp_X8_forgeAt_in (bk_td1 hk) HX f ⟨by omega, by omega⟩ (by omega) (by omega) ?_)
  have k1 := fAt_k (bk_td1 hk) f
  have H2 := clsT_F HX (show 0 ≤ f by omega) (by omega)
  have y3 := fAt_b (x + 1) f
  refine e_astore_n (L' := [_, _, _, _, _]) dX11_till_8 (Nat.le_of_ble_eq_true rfl) rfl ?_
  refine e_aload_n dX11_till_9 rfl ?_
  refine e_get (.ref (x + 1)) dX11_till_10 tf_11_10 (congrArg Prod.fst (bk_s0 hk)) (congrArg va_rf (bk_r0_0 hk)) ?_
  refine e_iload_n dX11_till_13 rfl ?_
  refine e_callV [.int _] dX11_till_14 tm_11_111 rfl (Nat.le_of_ble_eq_true rfl) (congrArg Prod.fst (bk_s1 hk)) (Nat.le_of_ble_eq_true rfl) (Nat.le_refl _) (Nat.le_refl _) rfl (zp_X8_yearAt_out (bk_td1 hk) HX y ⟨by omega, by omega⟩ (by omega) ?_)
  refine e_astoreN (L' := [_, _, _, _, _]) dX11_till_17 (Nat.le_of_ble_eq_true rfl) rfl ?_
  refine e_aload_n dX11_till_19 rfl ?_
  refine e_ifnull 28 dX11_till_20 rfl ?_
  refine e_aloadN dX11_till_23 rfl ?_
  refine e_ifnonnullN 30 dX11_till_25 rfl ?_
  refine z_iconst (-1) dX11_till_28 rfl ?_
  refine z_iret dX11_till_29 rfl ⟨rfl, ?_⟩
  refine z_q kq ?_
  rfl
set_option maxHeartbeats 400000 in
theorem zp_X11_till_oi {ad : mA} {dd : Nat} {h : mH} {Q : mQ} {x : Nat} {σ : Sg} (hk : bk h x) (HX : clsT h (x + 1) σ)  (f : Int) (f_r : -2147483648 ≤ f ∧ f < 2147483648) (y : Int) (y_r : -2147483648 ≤ y ∧ y < 2147483648) (p1 : ¬ (0 ≤ f ∧ f < cn σ 0)) (p2 : 0 ≤ y ∧ y < cn σ 1) (kq : Q (some (.int (zI (-1)))) h) : mCal TB0 ad (dd + 7) M_X11_till [.ref x, .int (zI f), .int (zI y)] h 0 0 Q := by
  refine ⟨Nat.le_of_ble_eq_true rfl, ?_⟩
  show mEv TB0 ad M_X11_till (dd + 7) (0, 0) (mCal TB0 ad (dd + 6)) (fun v h' z => z.1 = 0 ∧ Q v h') 0 [some (.ref x), some (.int (zI f)), some (.int (zI y)), none, none] [] h (0, 0)
  have w1 := wS_n (clsT_w HX)
  refine e_aload_n dX11_till_0 rfl ?_
  refine e_get (.ref (x + 1)) dX11_till_1 tf_11_10 (congrArg Prod.fst (bk_s0 hk)) (congrArg va_rf (bk_r0_0 hk)) ?_
  refine e_iload_n dX11_till_4 rfl ?_
  refine e_callV [.int _] dX11_till_5 tm_11_94 rfl (Nat.le_of_ble_eq_true rfl) (congrArg Prod.fst (bk_s1 hk)) (Nat.le_of_ble_eq_true rfl) (Nat.le_refl _) (Nat.le_refl _) rfl (zp_X8_forgeAt_out (bk_td1 hk) HX f ⟨by omega, by omega⟩ (by omega) ?_)
  refine e_astore_nN (L' := [_, _, _, _, _]) dX11_till_8 (Nat.le_of_ble_eq_true rfl) rfl ?_
  refine e_aload_n dX11_till_9 rfl ?_
  refine e_get (.ref (x + 1)) dX11_till_10 tf_11_10 (congrArg Prod.fst (bk_s0 hk)) (congrArg va_rf (bk_r0_0 hk)) ?_
  refine e_iload_n dX11_till_13 rfl ?_
  refine e_callV [.int _] dX11_till_14 tm_11_111 rfl (Nat.le_of_ble_eq_true rfl) (congrArg Prod.fst (bk_s1 hk)) (Nat.le_of_ble_eq_true rfl) (Nat.le_refl _) (Nat.le_refl _) rfl (zp_X8_yearAt_in (bk_td1 hk) HX y ⟨by omega, by omega⟩ (by omega) (by omega) ?_)
  have k1 := yAt_k (bk_td1 hk) y
  have H2 := clsT_Y HX (show 0 ≤ y by omega) (by omega)
  have y3 := yAt_b (x + 1) y
  refine e_astore (L' := [_, _, _, _, _]) dX11_till_17 (Nat.le_of_ble_eq_true rfl) rfl ?_
  refine e_aload_nN dX11_till_19 rfl ?_
  refine e_ifnullN 28 dX11_till_20 rfl ?_
  refine z_iconst (-1) dX11_till_28 rfl ?_
  refine z_iret dX11_till_29 rfl ⟨rfl, ?_⟩
  refine z_q kq ?_
  rfl
set_option maxHeartbeats 400000 in
theorem zp_X11_till_oo {ad : mA} {dd : Nat} {h : mH} {Q : mQ} {x : Nat} {σ : Sg} (hk : bk h x) (HX : clsT h (x + 1) σ)  (f : Int) (f_r : -2147483648 ≤ f ∧ f < 2147483648) (y : Int) (y_r : -2147483648 ≤ y ∧ y < 2147483648) (p1 : ¬ (0 ≤ f ∧ f < cn σ 0)) (p2 : ¬ (0 ≤ y ∧ y < cn σ 1)) (kq : Q (some (.int (zI (-1)))) h) : mCal TB0 ad (dd + 7) M_X11_till [.ref x, .int (zI f), .int (zI y)] h 0 0 Q := by
  refine ⟨Nat.le_of_ble_eq_true rfl, ?_⟩
  show mEv TB0 ad M_X11_till (dd + 7) (0, 0) (mCal TB0 ad (dd + 6)) (fun v h' z => z.1 = 0 ∧ Q v h') 0 [some (.ref x), some (.int (zI f)), some (.int (zI y)), none, none] [] h (0, 0)
  have w1 := wS_n (clsT_w HX)
  refine e_aload_n dX11_till_0 rfl ?_
  refine e_get (.ref (x + 1)) dX11_till_1 tf_11_10 (congrArg Prod.fst (bk_s0 hk)) (congrArg va_rf (bk_r0_0 hk)) ?_
  refine e_iload_n dX11_till_4 rfl ?_
  refine e_callV [.int _] dX11_till_5 tm_11_94 rfl (Nat.le_of_ble_eq_true rfl) (congrArg Prod.fst (bk_s1 hk)) (Nat.le_of_ble_eq_true rfl) (Nat.le_refl _) (Nat.le_refl _) rfl (zp_X8_forgeAt_out (bk_td1 hk) HX f ⟨by omega, by omega⟩ (by omega) ?_)
  refine e_astore_nN (L' := [_, _, _, _, _]) dX11_till_8 (Nat.le_of_ble_eq_true rfl) rfl ?_
  refine e_aload_n dX11_till_9 rfl ?_
  refine e_get (.ref (x + 1)) dX11_till_10 tf_11_10 (congrArg Prod.fst (bk_s0 hk)) (congrArg va_rf (bk_r0_0 hk)) ?_
  refine e_iload_n dX11_till_13 rfl ?_
  refine e_callV [.int _] dX11_till_14 tm_11_111 rfl (Nat.le_of_ble_eq_true rfl) (congrArg Prod.fst (bk_s1 hk)) (Nat.le_of_ble_eq_true rfl) (Nat.le_refl _) (Nat.le_refl _) rfl (zp_X8_yearAt_out (bk_td1 hk) HX y ⟨by omega, by omega⟩ (by omega) ?_)
  refine e_astoreN (L' := [_, _, _, _, _]) dX11_till_17 (Nat.le_of_ble_eq_true rfl) rfl ?_
  refine e_aload_nN dX11_till_19 rfl ?_
  refine e_ifnullN 28 dX11_till_20 rfl ?_
  refine z_iconst (-1) dX11_till_28 rfl ?_
  refine z_iret dX11_till_29 rfl ⟨rfl, ?_⟩
  refine z_q kq ?_
  rfl
set_option maxHeartbeats 2000000 in
theorem zp_X11_state_in {ad : mA} {dd : Nat} {h : mH} {Q : mQ} {x : Nat} {σ : Sg} (hk : bk h x) (HX : clsT h (x + 1) σ)  (f : Int) (f_r : -2147483648 ≤ f ∧ f < 2147483648) (y : Int) (y_r : -2147483648 ≤ y ∧ y < 2147483648) (n : Int) (n_r : -2147483648 ≤ n ∧ n < 2147483648) (w : Int) (w_r : -2147483648 ≤ w ∧ w < 2147483648) (p1 : 0 ≤ f ∧ f < cn σ 0) (p2 : 0 ≤ y ∧ y < cn σ 1) (kq : ∀ v : Int, (stR (sY σ y) (sG σ f) n w v) → ∀ h1, frm (fun a i => x + 56 ≤ a ∧ a < x + 157) h h1 → Q (some (.int (zI v))) h1) : mCal TB0 ad (dd + 7) M_X11_state [.ref x, .int (zI f), .int (zI y), .int (zI n), .int (zI w)] h 0 0 Q := by
  refine ⟨Nat.le_of_ble_eq_true rfl, ?_⟩
  show mEv TB0 ad M_X11_state (dd + 7) (0, 0) (mCal TB0 ad (dd + 6)) (fun v h' z => z.1 = 0 ∧ Q v h') 0 [some (.ref x), some (.int (zI f)), some (.int (zI y)), some (.int (zI n)), some (.int (zI w)), none, none] [] h (0, 0)
  have FR0 : frm (fun a i => x + 56 ≤ a ∧ a < x + 157) h h := frm_0 h
  have w1 := wS_n (clsT_w HX)
  refine e_aload_n dX11_state_0 rfl ?_
  refine e_get (.ref (x + 1)) dX11_state_1 tf_11_10 (congrArg Prod.fst (bk_s0 hk)) (congrArg va_rf (bk_r0_0 hk)) ?_
  refine e_iload_n dX11_state_4 rfl ?_
  refine e_callV [.int _] dX11_state_5 tm_11_94 rfl (Nat.le_of_ble_eq_true rfl) (congrArg Prod.fst (bk_s1 hk)) (Nat.le_of_ble_eq_true rfl) (Nat.le_refl _) (Nat.le_refl _) rfl (zp_X8_forgeAt_in (bk_td1 hk) HX f ⟨by omega, by omega⟩ (by omega) (by omega) ?_)
  have k1 := fAt_k (bk_td1 hk) f
  have H2 := clsT_F HX (show 0 ≤ f by omega) (by omega)
  have y3 := fAt_b (x + 1) f
  refine e_astore (L' := [_, _, _, _, _, _, _]) dX11_state_8 (Nat.le_of_ble_eq_true rfl) rfl ?_
  refine e_aload_n dX11_state_10 rfl ?_
  refine e_get (.ref (x + 1)) dX11_state_11 tf_11_10 (congrArg Prod.fst (bk_s0 hk)) (congrArg va_rf (bk_r0_0 hk)) ?_
  refine e_iload_n dX11_state_14 rfl ?_
  refine e_callV [.int _] dX11_state_15 tm_11_111 rfl (Nat.le_of_ble_eq_true rfl) (congrArg Prod.fst (bk_s1 hk)) (Nat.le_of_ble_eq_true rfl) (Nat.le_refl _) (Nat.le_refl _) rfl (zp_X8_yearAt_in (bk_td1 hk) HX y ⟨by omega, by omega⟩ (by omega) (by omega) ?_)
  have k4 := yAt_k (bk_td1 hk) y
  have H5 := clsT_Y HX (show 0 ≤ y by omega) (by omega)
  have y6 := yAt_b (x + 1) y
  refine e_astore (L' := [_, _, _, _, _, _, _]) dX11_state_18 (Nat.le_of_ble_eq_true rfl) rfl ?_
  refine e_aload dX11_state_20 rfl ?_
  refine e_ifnull 34 dX11_state_22 rfl ?_
  refine e_aload dX11_state_25 rfl ?_
  refine e_ifnull 34 dX11_state_27 rfl ?_
  refine e_iload_n dX11_state_30 rfl ?_
  refine z_if_ge 37 dX11_state_31 rfl ⟨by omega, by omega⟩ (fun c7 => ?_) (fun c7 => ?_)
  · skip
    have wy := ((clsT_w HX).2.2.2.1 y p2.1 p2.2).1
    refine e_aload_n dX11_state_37 rfl ?_
    refine e_get (.ref (x + 83)) dX11_state_38 tf_11_30 (congrArg Prod.fst (bk_s0 hk)) (congrArg va_rf (bk_r0_3 hk)) ?_
    refine e_aload dX11_state_41 rfl ?_
    refine e_aload dX11_state_43 rfl ?_
    refine e_iload_n dX11_state_45 rfl ?_
    refine e_callV [.ref _, .ref _, .int _] dX11_state_46 tm_11_122 rfl (Nat.le_of_ble_eq_true rfl) (congrArg Prod.fst (bk_s83 hk)) (Nat.le_of_ble_eq_true rfl) (Nat.le_refl _) (Nat.le_refl _) rfl (zp_X7_live (bk_se83 hk) k1 k4 H2 H5 n ⟨by omega, by omega⟩ (by omega) (by omega) (by omega) (fun v8 p9 h10 f11 p12 p13 => ?_))
    have k14 := bk_q (frm_s f11) hk
    have k15 := lk_q (frm_s f11) k1
    have k16 := lk_q (frm_s f11) k4
    have H17 := clsT_c f11 (fun a k q1 q2 => by omega) HX
    have H18 := isF_c f11 (fun a k q1 q2 => by omega) H2
    have H19 := isY_c f11 (fun a k q1 q2 => by omega) H5
    have FR20 := frm_t FR0 (frm_m (S' := (fun a i => x + 56 ≤ a ∧ a < x + 157)) f11 (fun a k q => by omega))
    refine e_iload_n dX11_state_49 rfl ?_
    have lb : lvR (sY σ y) (sG σ f) n v8 := by assumption
    have lb2 := lb.1
    refine z_icmp_ne 65 dX11_state_50 rfl ⟨by omega, by omega⟩ ⟨by omega, by omega⟩ (fun c21 => ?_) (fun c21 => ?_)
    · skip
      refine z_bipush (-2) dX11_state_65 rfl ?_
      refine z_iret dX11_state_67 rfl ⟨rfl, ?_⟩
      refine kq _ ?_ _ FR20
      first | exact stR_o (by omega) | exact stR_y (by assumption) (by assumption) | exact stR_n (by assumption) (by assumption)
    · skip
      refine e_aload_n dX11_state_53 rfl ?_
      refine e_get (.ref (x + 83)) dX11_state_54 tf_11_30 (congrArg Prod.fst (bk_s0 k14)) (congrArg va_rf (bk_r0_3 k14)) ?_
      refine e_iload dX11_state_57 rfl ?_
      refine e_callV [.int _] dX11_state_59 tm_11_126 rfl (Nat.le_of_ble_eq_true rfl) (congrArg Prod.fst (bk_s83 k14)) (Nat.le_of_ble_eq_true rfl) (Nat.le_refl _) (Nat.le_refl _) rfl (zp_X7_tell (bk_se83 k14) p12 p13 w ⟨by omega, by omega⟩ ?_)
      refine e_goto 67 dX11_state_62 rfl ?_
      refine z_iret dX11_state_67 rfl ⟨rfl, ?_⟩
      refine kq _ ?_ _ FR20
      first | exact stR_o (by omega) | exact stR_y (by assumption) (by assumption) | exact stR_n (by assumption) (by assumption)
  · skip
    refine z_bipush (-2) dX11_state_34 rfl ?_
    refine z_iret dX11_state_36 rfl ⟨rfl, ?_⟩
    refine kq _ ?_ _ FR0
    first | exact stR_o (by omega) | exact stR_y (by assumption) (by assumption) | exact stR_n (by assumption) (by assumption)
set_option maxHeartbeats 400000 in
theorem zp_X11_state_io {ad : mA} {dd : Nat} {h : mH} {Q : mQ} {x : Nat} {σ : Sg} (hk : bk h x) (HX : clsT h (x + 1) σ)  (f : Int) (f_r : -2147483648 ≤ f ∧ f < 2147483648) (y : Int) (y_r : -2147483648 ≤ y ∧ y < 2147483648) (n : Int) (n_r : -2147483648 ≤ n ∧ n < 2147483648) (w : Int) (w_r : -2147483648 ≤ w ∧ w < 2147483648) (p1 : 0 ≤ f ∧ f < cn σ 0) (p2 : ¬ (0 ≤ y ∧ y < cn σ 1)) (kq : Q (some (.int (zI (-2)))) h) : mCal TB0 ad (dd + 7) M_X11_state [.ref x, .int (zI f), .int (zI y), .int (zI n), .int (zI w)] h 0 0 Q := by
  refine ⟨Nat.le_of_ble_eq_true rfl, ?_⟩
  show mEv TB0 ad M_X11_state (dd + 7) (0, 0) (mCal TB0 ad (dd + 6)) (fun v h' z => z.1 = 0 ∧ Q v h') 0 [some (.ref x), some (.int (zI f)), some (.int (zI y)), some (.int (zI n)), some (.int (zI w)), none, none] [] h (0, 0)
  have w1 := wS_n (clsT_w HX)
  refine e_aload_n dX11_state_0 rfl ?_
  refine e_get (.ref (x + 1)) dX11_state_1 tf_11_10 (congrArg Prod.fst (bk_s0 hk)) (congrArg va_rf (bk_r0_0 hk)) ?_
  refine e_iload_n dX11_state_4 rfl ?_
  refine e_callV [.int _] dX11_state_5 tm_11_94 rfl (Nat.le_of_ble_eq_true rfl) (congrArg Prod.fst (bk_s1 hk)) (Nat.le_of_ble_eq_true rfl) (Nat.le_refl _) (Nat.le_refl _) rfl (zp_X8_forgeAt_in (bk_td1 hk) HX f ⟨by omega, by omega⟩ (by omega) (by omega) ?_)
  have k1 := fAt_k (bk_td1 hk) f
  have H2 := clsT_F HX (show 0 ≤ f by omega) (by omega)
  have y3 := fAt_b (x + 1) f
  refine e_astore (L' := [_, _, _, _, _, _, _]) dX11_state_8 (Nat.le_of_ble_eq_true rfl) rfl ?_
  refine e_aload_n dX11_state_10 rfl ?_
  refine e_get (.ref (x + 1)) dX11_state_11 tf_11_10 (congrArg Prod.fst (bk_s0 hk)) (congrArg va_rf (bk_r0_0 hk)) ?_
  refine e_iload_n dX11_state_14 rfl ?_
  refine e_callV [.int _] dX11_state_15 tm_11_111 rfl (Nat.le_of_ble_eq_true rfl) (congrArg Prod.fst (bk_s1 hk)) (Nat.le_of_ble_eq_true rfl) (Nat.le_refl _) (Nat.le_refl _) rfl (zp_X8_yearAt_out (bk_td1 hk) HX y ⟨by omega, by omega⟩ (by omega) ?_)
  refine e_astoreN (L' := [_, _, _, _, _, _, _]) dX11_state_18 (Nat.le_of_ble_eq_true rfl) rfl ?_
  refine e_aload dX11_state_20 rfl ?_
  refine e_ifnull 34 dX11_state_22 rfl ?_
  refine e_aloadN dX11_state_25 rfl ?_
  refine e_ifnullN 34 dX11_state_27 rfl ?_
  refine z_bipush (-2) dX11_state_34 rfl ?_
  refine z_iret dX11_state_36 rfl ⟨rfl, ?_⟩
  refine z_q kq ?_
  rfl
set_option maxHeartbeats 400000 in
theorem zp_X11_state_oi {ad : mA} {dd : Nat} {h : mH} {Q : mQ} {x : Nat} {σ : Sg} (hk : bk h x) (HX : clsT h (x + 1) σ)  (f : Int) (f_r : -2147483648 ≤ f ∧ f < 2147483648) (y : Int) (y_r : -2147483648 ≤ y ∧ y < 2147483648) (n : Int) (n_r : -2147483648 ≤ n ∧ n < 2147483648) (w : Int) (w_r : -2147483648 ≤ w ∧ w < 2147483648) (p1 : ¬ (0 ≤ f ∧ f < cn σ 0)) (p2 : 0 ≤ y ∧ y < cn σ 1) (kq : Q (some (.int (zI (-2)))) h) : mCal TB0 ad (dd + 7) M_X11_state [.ref x, .int (zI f), .int (zI y), .int (zI n), .int (zI w)] h 0 0 Q := by
  refine ⟨Nat.le_of_ble_eq_true rfl, ?_⟩
  show mEv TB0 ad M_X11_state (dd + 7) (0, 0) (mCal TB0 ad (dd + 6)) (fun v h' z => z.1 = 0 ∧ Q v h') 0 [some (.ref x), some (.int (zI f)), some (.int (zI y)), some (.int (zI n)), some (.int (zI w)), none, none] [] h (0, 0)
  have w1 := wS_n (clsT_w HX)
  refine e_aload_n dX11_state_0 rfl ?_
  refine e_get (.ref (x + 1)) dX11_state_1 tf_11_10 (congrArg Prod.fst (bk_s0 hk)) (congrArg va_rf (bk_r0_0 hk)) ?_
  refine e_iload_n dX11_state_4 rfl ?_
  refine e_callV [.int _] dX11_state_5 tm_11_94 rfl (Nat.le_of_ble_eq_true rfl) (congrArg Prod.fst (bk_s1 hk)) (Nat.le_of_ble_eq_true rfl) (Nat.le_refl _) (Nat.le_refl _) rfl (zp_X8_forgeAt_out (bk_td1 hk) HX f ⟨by omega, by omega⟩ (by omega) ?_)
  refine e_astoreN (L' := [_, _, _, _, _, _, _]) dX11_state_8 (Nat.le_of_ble_eq_true rfl) rfl ?_
  refine e_aload_n dX11_state_10 rfl ?_
  refine e_get (.ref (x + 1)) dX11_state_11 tf_11_10 (congrArg Prod.fst (bk_s0 hk)) (congrArg va_rf (bk_r0_0 hk)) ?_
  refine e_iload_n dX11_state_14 rfl ?_
  refine e_callV [.int _] dX11_state_15 tm_11_111 rfl (Nat.le_of_ble_eq_true rfl) (congrArg Prod.fst (bk_s1 hk)) (Nat.le_of_ble_eq_true rfl) (Nat.le_refl _) (Nat.le_refl _) rfl (zp_X8_yearAt_in (bk_td1 hk) HX y ⟨by omega, by omega⟩ (by omega) (by omega) ?_)
  have k1 := yAt_k (bk_td1 hk) y
  have H2 := clsT_Y HX (show 0 ≤ y by omega) (by omega)
  have y3 := yAt_b (x + 1) y
  refine e_astore (L' := [_, _, _, _, _, _, _]) dX11_state_18 (Nat.le_of_ble_eq_true rfl) rfl ?_
  refine e_aloadN dX11_state_20 rfl ?_
  refine e_ifnullN 34 dX11_state_22 rfl ?_
  refine z_bipush (-2) dX11_state_34 rfl ?_
  refine z_iret dX11_state_36 rfl ⟨rfl, ?_⟩
  refine z_q kq ?_
  rfl
set_option maxHeartbeats 400000 in
theorem zp_X11_state_oo {ad : mA} {dd : Nat} {h : mH} {Q : mQ} {x : Nat} {σ : Sg} (hk : bk h x) (HX : clsT h (x + 1) σ)  (f : Int) (f_r : -2147483648 ≤ f ∧ f < 2147483648) (y : Int) (y_r : -2147483648 ≤ y ∧ y < 2147483648) (n : Int) (n_r : -2147483648 ≤ n ∧ n < 2147483648) (w : Int) (w_r : -2147483648 ≤ w ∧ w < 2147483648) (p1 : ¬ (0 ≤ f ∧ f < cn σ 0)) (p2 : ¬ (0 ≤ y ∧ y < cn σ 1)) (kq : Q (some (.int (zI (-2)))) h) : mCal TB0 ad (dd + 7) M_X11_state [.ref x, .int (zI f), .int (zI y), .int (zI n), .int (zI w)] h 0 0 Q := by
  refine ⟨Nat.le_of_ble_eq_true rfl, ?_⟩
  show mEv TB0 ad M_X11_state (dd + 7) (0, 0) (mCal TB0 ad (dd + 6)) (fun v h' z => z.1 = 0 ∧ Q v h') 0 [some (.ref x), some (.int (zI f)), some (.int (zI y)), some (.int (zI n)), some (.int (zI w)), none, none] [] h (0, 0)
  have w1 := wS_n (clsT_w HX)
  refine e_aload_n dX11_state_0 rfl ?_
  refine e_get (.ref (x + 1)) dX11_state_1 tf_11_10 (congrArg Prod.fst (bk_s0 hk)) (congrArg va_rf (bk_r0_0 hk)) ?_
  refine e_iload_n dX11_state_4 rfl ?_
  refine e_callV [.int _] dX11_state_5 tm_11_94 rfl (Nat.le_of_ble_eq_true rfl) (congrArg Prod.fst (bk_s1 hk)) (Nat.le_of_ble_eq_true rfl) (Nat.le_refl _) (Nat.le_refl _) rfl (zp_X8_forgeAt_out (bk_td1 hk) HX f ⟨by omega, by omega⟩ (by omega) ?_)
  refine e_astoreN (L' := [_, _, _, _, _, _, _]) dX11_state_8 (Nat.le_of_ble_eq_true rfl) rfl ?_
  refine e_aload_n dX11_state_10 rfl ?_
  refine e_get (.ref (x + 1)) dX11_state_11 tf_11_10 (congrArg Prod.fst (bk_s0 hk)) (congrArg va_rf (bk_r0_0 hk)) ?_
  refine e_iload_n dX11_state_14 rfl ?_
  refine e_callV [.int _] dX11_state_15 tm_11_111 rfl (Nat.le_of_ble_eq_true rfl) (congrArg Prod.fst (bk_s1 hk)) (Nat.le_of_ble_eq_true rfl) (Nat.le_refl _) (Nat.le_refl _) rfl (zp_X8_yearAt_out (bk_td1 hk) HX y ⟨by omega, by omega⟩ (by omega) ?_)
  refine e_astoreN (L' := [_, _, _, _, _, _, _]) dX11_state_18 (Nat.le_of_ble_eq_true rfl) rfl ?_
  refine e_aloadN dX11_state_20 rfl ?_
  refine e_ifnullN 34 dX11_state_22 rfl ?_
  refine z_bipush (-2) dX11_state_34 rfl ?_
  refine z_iret dX11_state_36 rfl ⟨rfl, ?_⟩
  refine z_q kq ?_
  rfl
theorem op7 {ad : mA} {B : Nat} : op_7 ad B (Inv B) := by
  intro a b
  rw [← zI_toInt a]
  rw [← zI_toInt b]
  have ra := in_of a
  generalize a.toInt = a at *
  have rb := in_of b
  generalize b.toInt = b at *
  refine opq_I (ansFY a b (-1) (fun σ r => lvR (sY σ b) (sG σ a) (sY σ b 0) r)) (ansFY_u (fun σ r r' x y => lvR_u x y)) (fun h σ hk HX Q kq => ?_) (fun h σ hr HR Q kq => ?_)
  · by_cases q1 : 0 ≤ a ∧ a < cn σ 0
    · by_cases q2 : 0 ≤ b ∧ b < cn σ 1
      · exact zp_X11_till_in hk HX a ra b rb q1 q2 (fun v p h1 f => kq v h1 f (Or.inl ⟨⟨q1, q2⟩, p⟩))
      · exact zp_X11_till_io hk HX a ra b rb q1 q2 (kq _ _ (frm_0 h) (Or.inr ⟨fun z => q2 z.2, rfl⟩))
    · by_cases q2 : 0 ≤ b ∧ b < cn σ 1
      · exact zp_X11_till_oi hk HX a ra b rb q1 q2 (kq _ _ (frm_0 h) (Or.inr ⟨fun z => q1 z.1, rfl⟩))
      · exact zp_X11_till_oo hk HX a ra b rb q1 q2 (kq _ _ (frm_0 h) (Or.inr ⟨fun z => q1 z.1, rfl⟩))
  · by_cases q2 : 0 ≤ b ∧ b < cn σ 1
    · by_cases q1 : 0 ≤ a ∧ a < cn σ 0
      · exact zp_X12_till_in hr HR a ra b rb q1 q2 (fun v p h1 f => kq v h1 f (Or.inl ⟨⟨q1, q2⟩, p⟩))
      · exact zp_X12_till_of hr HR a ra b rb q1 q2 (fun h1 f => kq _ _ f (Or.inr ⟨fun z => q1 z.1, rfl⟩))
    · exact zp_X12_till_oy hr HR a ra b rb q2 (fun h1 f => kq _ _ f (Or.inr ⟨fun z => q2 z.2, rfl⟩))
theorem op8 {ad : mA} {B : Nat} : op_8 ad B (Inv B) := by
  intro a b c e
  rw [← zI_toInt a]
  rw [← zI_toInt b]
  rw [← zI_toInt c]
  rw [← zI_toInt e]
  have ra := in_of a
  generalize a.toInt = a at *
  have rb := in_of b
  generalize b.toInt = b at *
  have rc := in_of c
  generalize c.toInt = c at *
  have re := in_of e
  generalize e.toInt = e at *
  refine opq_I (ansFY a b (-2) (fun σ r => stR (sY σ b) (sG σ a) c e r)) (ansFY_u (fun σ r r' x y => stR_u x y)) (fun h σ hk HX Q kq => ?_) (fun h σ hr HR Q kq => ?_)
  · by_cases q1 : 0 ≤ a ∧ a < cn σ 0
    · by_cases q2 : 0 ≤ b ∧ b < cn σ 1
      · exact zp_X11_state_in hk HX a ra b rb c rc e re q1 q2 (fun v p h1 f => kq v h1 f (Or.inl ⟨⟨q1, q2⟩, p⟩))
      · exact zp_X11_state_io hk HX a ra b rb c rc e re q1 q2 (kq _ _ (frm_0 h) (Or.inr ⟨fun z => q2 z.2, rfl⟩))
    · by_cases q2 : 0 ≤ b ∧ b < cn σ 1
      · exact zp_X11_state_oi hk HX a ra b rb c rc e re q1 q2 (kq _ _ (frm_0 h) (Or.inr ⟨fun z => q1 z.1, rfl⟩))
      · exact zp_X11_state_oo hk HX a ra b rb c rc e re q1 q2 (kq _ _ (frm_0 h) (Or.inr ⟨fun z => q1 z.1, rfl⟩))
  · by_cases q2 : 0 ≤ b ∧ b < cn σ 1
    · by_cases q1 : 0 ≤ a ∧ a < cn σ 0
      · exact zp_X12_state_in hr HR a ra b rb c rc e re q1 q2 (fun v p h1 f => kq v h1 f (Or.inl ⟨⟨q1, q2⟩, p⟩))
      · exact zp_X12_state_of hr HR a ra b rb c rc e re q1 q2 (fun h1 f => kq _ _ f (Or.inr ⟨fun z => q1 z.1, rfl⟩))
    · exact zp_X12_state_oy hr HR a ra b rb c rc e re q2 (fun h1 f => kq _ _ f (Or.inr ⟨fun z => q2 z.2, rfl⟩))
