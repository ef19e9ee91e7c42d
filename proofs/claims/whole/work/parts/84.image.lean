/-! IMAGES: image, again -/
theorem dX11_image_0 : decode cX11_image 0 = .ok (.iload_n 1, 1) := by decide +kernel
theorem dX11_image_1 : decode cX11_image 1 = .ok (.ifCond .lt 8, 3) := by decide +kernel
theorem dX11_image_4 : decode cX11_image 4 = .ok (.iload_n 1, 1) := by decide +kernel
theorem dX11_image_5 : decode cX11_image 5 = .ok (.iconst 3, 1) := by decide +kernel
theorem dX11_image_6 : decode cX11_image 6 = .ok (.if_icmp .lt 5, 3) := by decide +kernel
theorem dX11_image_9 : decode cX11_image 9 = .ok (.iconst 0, 1) := by decide +kernel
theorem dX11_image_10 : decode cX11_image 10 = .ok (.ireturn, 1) := by decide +kernel
theorem dX11_image_11 : decode cX11_image 11 = .ok (.aload_n 0, 1) := by decide +kernel
theorem dX11_image_12 : decode cX11_image 12 = .ok (.getfield 16, 3) := by decide +kernel
theorem dX11_image_15 : decode cX11_image 15 = .ok (.iload_n 1, 1) := by decide +kernel
theorem dX11_image_16 : decode cX11_image 16 = .ok (.aaload, 1) := by decide +kernel
theorem dX11_image_17 : decode cX11_image 17 = .ok (.ifnonnull 16, 3) := by decide +kernel
theorem dX11_image_20 : decode cX11_image 20 = .ok (.aload_n 0, 1) := by decide +kernel
theorem dX11_image_21 : decode cX11_image 21 = .ok (.getfield 16, 3) := by decide +kernel
theorem dX11_image_24 : decode cX11_image 24 = .ok (.iload_n 1, 1) := by decide +kernel
theorem dX11_image_25 : decode cX11_image 25 = .ok (.new 7, 3) := by decide +kernel
theorem dX11_image_28 : decode cX11_image 28 = .ok (.dup, 1) := by decide +kernel
theorem dX11_image_29 : decode cX11_image 29 = .ok (.invokespecial 9, 3) := by decide +kernel
theorem dX11_image_32 : decode cX11_image 32 = .ok (.aastore, 1) := by decide +kernel
theorem dX11_image_33 : decode cX11_image 33 = .ok (.aload_n 0, 1) := by decide +kernel
theorem dX11_image_34 : decode cX11_image 34 = .ok (.getfield 16, 3) := by decide +kernel
theorem dX11_image_37 : decode cX11_image 37 = .ok (.iload_n 1, 1) := by decide +kernel
theorem dX11_image_38 : decode cX11_image 38 = .ok (.aaload, 1) := by decide +kernel
theorem dX11_image_39 : decode cX11_image 39 = .ok (.aload_n 0, 1) := by decide +kernel
theorem dX11_image_40 : decode cX11_image 40 = .ok (.getfield 10, 3) := by decide +kernel
theorem dX11_image_43 : decode cX11_image 43 = .ok (.invokevirtual 322, 3) := by decide +kernel
theorem dX11_image_46 : decode cX11_image 46 = .ok (.iconst 1, 1) := by decide +kernel
theorem dX11_image_47 : decode cX11_image 47 = .ok (.ireturn, 1) := by decide +kernel
theorem dX11_again_0 : decode cX11_again 0 = .ok (.iload_n 1, 1) := by decide +kernel
theorem dX11_again_1 : decode cX11_again 1 = .ok (.ifCond .lt 17, 3) := by decide +kernel
theorem dX11_again_4 : decode cX11_again 4 = .ok (.iload_n 1, 1) := by decide +kernel
theorem dX11_again_5 : decode cX11_again 5 = .ok (.iconst 3, 1) := by decide +kernel
theorem dX11_again_6 : decode cX11_again 6 = .ok (.if_icmp .ge 12, 3) := by decide +kernel
theorem dX11_again_9 : decode cX11_again 9 = .ok (.aload_n 0, 1) := by decide +kernel
theorem dX11_again_10 : decode cX11_again 10 = .ok (.getfield 16, 3) := by decide +kernel
theorem dX11_again_13 : decode cX11_again 13 = .ok (.iload_n 1, 1) := by decide +kernel
theorem dX11_again_14 : decode cX11_again 14 = .ok (.aaload, 1) := by decide +kernel
theorem dX11_again_15 : decode cX11_again 15 = .ok (.ifnonnull 5, 3) := by decide +kernel
theorem dX11_again_18 : decode cX11_again 18 = .ok (.iconst 0, 1) := by decide +kernel
theorem dX11_again_19 : decode cX11_again 19 = .ok (.ireturn, 1) := by decide +kernel
theorem dX11_again_20 : decode cX11_again 20 = .ok (.aload_n 0, 1) := by decide +kernel
theorem dX11_again_21 : decode cX11_again 21 = .ok (.getfield 10, 3) := by decide +kernel
theorem dX11_again_24 : decode cX11_again 24 = .ok (.aload_n 0, 1) := by decide +kernel
theorem dX11_again_25 : decode cX11_again 25 = .ok (.getfield 16, 3) := by decide +kernel
theorem dX11_again_28 : decode cX11_again 28 = .ok (.iload_n 1, 1) := by decide +kernel
theorem dX11_again_29 : decode cX11_again 29 = .ok (.aaload, 1) := by decide +kernel
theorem dX11_again_30 : decode cX11_again 30 = .ok (.invokevirtual 322, 3) := by decide +kernel
theorem dX11_again_33 : decode cX11_again 33 = .ok (.iconst 1, 1) := by decide +kernel
theorem dX11_again_34 : decode cX11_again 34 = .ok (.ireturn, 1) := by decide +kernel
theorem dX12_image_0 : decode cX12_image 0 = .ok (.aload_n 0, 1) := by decide +kernel
theorem dX12_image_1 : decode cX12_image 1 = .ok (.iconst 0, 1) := by decide +kernel
theorem dX12_image_2 : decode cX12_image 2 = .ok (.putfield 103, 3) := by decide +kernel
theorem dX12_image_5 : decode cX12_image 5 = .ok (.iload_n 1, 1) := by decide +kernel
theorem dX12_image_6 : decode cX12_image 6 = .ok (.iconst 0, 1) := by decide +kernel
theorem dX12_image_7 : decode cX12_image 7 = .ok (.iconst 2, 1) := by decide +kernel
theorem dX12_image_8 : decode cX12_image 8 = .ok (.invokestatic 115, 3) := by decide +kernel
theorem dX12_image_11 : decode cX12_image 11 = .ok (.ifCond .ne 5, 3) := by decide +kernel
theorem dX12_image_14 : decode cX12_image 14 = .ok (.iconst 0, 1) := by decide +kernel
theorem dX12_image_15 : decode cX12_image 15 = .ok (.ireturn, 1) := by decide +kernel
theorem dX12_image_16 : decode cX12_image 16 = .ok (.aload_n 0, 1) := by decide +kernel
theorem dX12_image_17 : decode cX12_image 17 = .ok (.iconst 0, 1) := by decide +kernel
theorem dX12_image_18 : decode cX12_image 18 = .ok (.iload_n 1, 1) := by decide +kernel
theorem dX12_image_19 : decode cX12_image 19 = .ok (.iconst 1, 1) := by decide +kernel
theorem dX12_image_20 : decode cX12_image 20 = .ok (.iadd, 1) := by decide +kernel
theorem dX12_image_21 : decode cX12_image 21 = .ok (.invokevirtual 567, 3) := by decide +kernel
theorem dX12_image_24 : decode cX12_image 24 = .ok (.aload_n 0, 1) := by decide +kernel
theorem dX12_image_25 : decode cX12_image 25 = .ok (.getfield 100, 3) := by decide +kernel
theorem dX12_image_28 : decode cX12_image 28 = .ok (.iload_n 1, 1) := by decide +kernel
theorem dX12_image_29 : decode cX12_image 29 = .ok (.iconst 1, 1) := by decide +kernel
theorem dX12_image_30 : decode cX12_image 30 = .ok (.bastore, 1) := by decide +kernel
theorem dX12_image_31 : decode cX12_image 31 = .ok (.iconst 1, 1) := by decide +kernel
theorem dX12_image_32 : decode cX12_image 32 = .ok (.ireturn, 1) := by decide +kernel
theorem dX12_again_0 : decode cX12_again 0 = .ok (.aload_n 0, 1) := by decide +kernel
theorem dX12_again_1 : decode cX12_again 1 = .ok (.iconst 0, 1) := by decide +kernel
theorem dX12_again_2 : decode cX12_again 2 = .ok (.putfield 103, 3) := by decide +kernel
theorem dX12_again_5 : decode cX12_again 5 = .ok (.iload_n 1, 1) := by decide +kernel
theorem dX12_again_6 : decode cX12_again 6 = .ok (.iconst 0, 1) := by decide +kernel
theorem dX12_again_7 : decode cX12_again 7 = .ok (.iconst 2, 1) := by decide +kernel
theorem dX12_again_8 : decode cX12_again 8 = .ok (.invokestatic 115, 3) := by decide +kernel
theorem dX12_again_11 : decode cX12_again 11 = .ok (.ifCond .eq 12, 3) := by decide +kernel
theorem dX12_again_14 : decode cX12_again 14 = .ok (.aload_n 0, 1) := by decide +kernel
theorem dX12_again_15 : decode cX12_again 15 = .ok (.getfield 100, 3) := by decide +kernel
theorem dX12_again_18 : decode cX12_again 18 = .ok (.iload_n 1, 1) := by decide +kernel
theorem dX12_again_19 : decode cX12_again 19 = .ok (.baload, 1) := by decide +kernel
theorem dX12_again_20 : decode cX12_again 20 = .ok (.ifCond .ne 5, 3) := by decide +kernel
theorem dX12_again_23 : decode cX12_again 23 = .ok (.iconst 0, 1) := by decide +kernel
theorem dX12_again_24 : decode cX12_again 24 = .ok (.ireturn, 1) := by decide +kernel
theorem dX12_again_25 : decode cX12_again 25 = .ok (.aload_n 0, 1) := by decide +kernel
theorem dX12_again_26 : decode cX12_again 26 = .ok (.iload_n 1, 1) := by decide +kernel
theorem dX12_again_27 : decode cX12_again 27 = .ok (.iconst 1, 1) := by decide +kernel
theorem dX12_again_28 : decode cX12_again 28 = .ok (.iadd, 1) := by decide +kernel
theorem dX12_again_29 : decode cX12_again 29 = .ok (.iconst 0, 1) := by decide +kernel
theorem dX12_again_30 : decode cX12_again 30 = .ok (.invokevirtual 567, 3) := by decide +kernel
theorem dX12_again_33 : decode cX12_again 33 = .ok (.iconst 1, 1) := by decide +kernel
theorem dX12_again_34 : decode cX12_again 34 = .ok (.ireturn, 1) := by decide +kernel
set_option maxRecDepth 20000 in
theorem tm_11_322 : tMet TB0 11 322 = some (0, M_X8_copyFrom) := rfl
set_option maxRecDepth 20000 in
theorem tm_12_567 : tMet TB0 12 567 = some (0, M_X12_copyAll) := rfl
theorem refT_im {h h1 : mH} {m : Nat} {s k : Int} {σ : Sg} (hs : 0 ≤ s ∧ s < 4) (hk : 0 ≤ k ∧ k < 3) (ne : s ≠ k + 1) (f : frm (fun a i => (a = m ∧ i = 0) ∨ ((a = m + 1 ∧ 600 * (k + 1) ≤ (i : Int) ∧ (i : Int) < 600 * (k + 1) + 600) ∨ (m + 2 ≤ a ∧ a ≤ m + 4 ∧ (i : Int) = (k + 1)) ∨ (a = m + 5 ∧ 3 * (k + 1) ≤ (i : Int) ∧ (i : Int) < 3 * (k + 1) + 3) ∨ (a = m + 6 ∧ 162 * (k + 1) ≤ (i : Int) ∧ (i : Int) < 162 * (k + 1) + 162) ∨ (a = m + 7 ∧ 242 * (k + 1) ≤ (i : Int) ∧ (i : Int) < 242 * (k + 1) + 242) ∨ (a = m + 8 ∧ 50 * (k + 1) ≤ (i : Int) ∧ (i : Int) < 50 * (k + 1) + 50)) ∨ (a = m + 30 ∧ (i : Int) = k)) h h1) (H : refT h m s σ) : refT h1 m s σ := by
  obtain ⟨w, a, b, ⟨c1, c2, c3⟩, d, y, e⟩ := H
  have wn := wS_n w
  refine ⟨w, fun i p q => (frm_r f (by omega)).trans (a i p q), fun i p q => (frm_r f (by omega)).trans (b i p q), ⟨(frm_r f (by omega)).trans c1, (frm_r f (by omega)).trans c2, (frm_r f (by omega)).trans c3⟩, fun i p q j r t => (frm_r f (by omega)).trans (d i p q j r t), fun i p q j r t => (frm_r f (by omega)).trans (y i p q j r t), fun i p q j r t => (frm_r f (by omega)).trans (e i p q j r t)⟩
set_option maxHeartbeats 400000 in
theorem zp_X11_again_in {ad : mA} {dd : Nat} {h : mH} {Q : mQ} {x : Nat} {σ : Sg} {t : Nat} (hk : bk h x) (hk1 : tdk h t) (HO : clsT h t σ)  (k : Int) (k_r : -2147483648 ≤ k ∧ k < 2147483648) (p1 : 0 ≤ k ∧ k < 3) (hm : mR h (x + 55) k.toNat = some t) (pd : x + 188 ≤ t) (kq : ∀ h1, frm (fun a k => x + 1 ≤ a ∧ a < x + 55) h h1 → (clsT h1 (x + 1) σ) → Q (some (.int (zI (bZ True)))) h1) : mCal TB0 ad (dd + 4) M_X11_again [.ref x, .int (zI k)] h 0 0 Q := by
  refine ⟨Nat.le_of_ble_eq_true rfl, ?_⟩
  show mEv TB0 ad M_X11_again (dd + 4) (0, 0) (mCal TB0 ad (dd + 3)) (fun v h' z => z.1 = 0 ∧ Q v h') 0 [some (.ref x), some (.int (zI k))] [] h (0, 0)
  have FR0 : frm (fun a k => x + 1 ≤ a ∧ a < x + 55) h h := frm_0 h
  refine e_iload_n dX11_again_0 rfl ?_
  refine z_if_lt 18 dX11_again_1 rfl ⟨by omega, by omega⟩ (fun c1 => ?_) (fun c1 => ?_)
  · exfalso; omega
  · skip
    refine e_iload_n dX11_again_4 rfl ?_
    refine z_iconst (3) dX11_again_5 rfl ?_
    refine z_icmp_ge 18 dX11_again_6 rfl ⟨by omega, by omega⟩ ⟨by omega, by omega⟩ (fun c2 => ?_) (fun c2 => ?_)
    · exfalso; omega
    · skip
      refine e_aload_n dX11_again_9 rfl ?_
      refine e_get (.ref (x + 55)) dX11_again_10 tf_11_16 (congrArg Prod.fst (bk_s0 hk)) (congrArg va_rf (bk_r0_1 hk)) ?_
      refine e_iload_n dX11_again_13 rfl ?_
      refine z_ald (.ref t) dX11_again_14 (bk_s55 hk) (by decide) (by decide) (by decide) (by omega) (by omega) (congrArg va_rf hm) ?_
      refine e_ifnonnull 20 dX11_again_15 rfl ?_
      refine e_aload_n dX11_again_20 rfl ?_
      refine e_get (.ref (x + 1)) dX11_again_21 tf_11_10 (congrArg Prod.fst (bk_s0 hk)) (congrArg va_rf (bk_r0_0 hk)) ?_
      refine e_aload_n dX11_again_24 rfl ?_
      refine e_get (.ref (x + 55)) dX11_again_25 tf_11_16 (congrArg Prod.fst (bk_s0 hk)) (congrArg va_rf (bk_r0_1 hk)) ?_
      refine e_iload_n dX11_again_28 rfl ?_
      refine z_ald (.ref t) dX11_again_29 (bk_s55 hk) (by decide) (by decide) (by decide) (by omega) (by omega) (congrArg va_rf hm) ?_
      refine e_callV [.ref _] dX11_again_30 tm_11_322 rfl (Nat.le_of_ble_eq_true rfl) (congrArg Prod.fst (bk_s1 hk)) (Nat.le_of_ble_eq_true rfl) (Nat.le_refl _) (Nat.le_refl _) rfl (zp_X8_copyFrom (bk_td1 hk) hk1 HO (by omega) (fun  h3 f4 p5 => ?_))
      have k6 := bk_q (frm_s f4) hk
      have k7 := lk_q (frm_s f4) hk1
      have H8 := clsT_c f4 (fun a k q1 q2 => by omega) HO
      have FR9 := frm_t FR0 (frm_m (S' := (fun a k => x + 1 ≤ a ∧ a < x + 55)) f4 (fun a k q => by omega))
      refine z_iconst (1) dX11_again_33 rfl ?_
      refine z_bret dX11_again_34 rfl (Or.inr rfl) ⟨rfl, ?_⟩
      exact z_q1 (p := True) (kq _ FR9 p5) trivial
set_option maxHeartbeats 400000 in
theorem zp_X11_again_none {ad : mA} {dd : Nat} {h : mH} {Q : mQ} {x : Nat}  (hk : bk h x)  (k : Int) (k_r : -2147483648 ≤ k ∧ k < 2147483648) (p1 : 0 ≤ k ∧ k < 3) (hm : mR h (x + 55) k.toNat = none) (kq : Q (some (.int (zI (bZ False)))) h) : mCal TB0 ad (dd + 4) M_X11_again [.ref x, .int (zI k)] h 0 0 Q := by
  refine ⟨Nat.le_of_ble_eq_true rfl, ?_⟩
  show mEv TB0 ad M_X11_again (dd + 4) (0, 0) (mCal TB0 ad (dd + 3)) (fun v h' z => z.1 = 0 ∧ Q v h') 0 [some (.ref x), some (.int (zI k))] [] h (0, 0)
  refine e_iload_n dX11_again_0 rfl ?_
  refine z_if_lt 18 dX11_again_1 rfl ⟨by omega, by omega⟩ (fun c1 => ?_) (fun c1 => ?_)
  · exfalso; omega
  · skip
    refine e_iload_n dX11_again_4 rfl ?_
    refine z_iconst (3) dX11_again_5 rfl ?_
    refine z_icmp_ge 18 dX11_again_6 rfl ⟨by omega, by omega⟩ ⟨by omega, by omega⟩ (fun c2 => ?_) (fun c2 => ?_)
    · exfalso; omega
    · skip
      refine e_aload_n dX11_again_9 rfl ?_
      refine e_get (.ref (x + 55)) dX11_again_10 tf_11_16 (congrArg Prod.fst (bk_s0 hk)) (congrArg va_rf (bk_r0_1 hk)) ?_
      refine e_iload_n dX11_again_13 rfl ?_
      refine z_ald (.null) dX11_again_14 (bk_s55 hk) (by decide) (by decide) (by decide) (by omega) (by omega) (congrArg va_rf hm) ?_
      refine e_ifnonnullN 20 dX11_again_15 rfl ?_
      refine z_iconst (0) dX11_again_18 rfl ?_
      refine z_bret dX11_again_19 rfl (Or.inl rfl) ⟨rfl, ?_⟩
      refine z_q0 kq ?_
      exact id
set_option maxHeartbeats 400000 in
theorem zp_X11_again_out {ad : mA} {dd : Nat} {h : mH} {Q : mQ} {x : Nat}  (hk : bk h x)  (k : Int) (k_r : -2147483648 ≤ k ∧ k < 2147483648) (p1 : ¬ (0 ≤ k ∧ k < 3)) (kq : Q (some (.int (zI (bZ False)))) h) : mCal TB0 ad (dd + 4) M_X11_again [.ref x, .int (zI k)] h 0 0 Q := by
  refine ⟨Nat.le_of_ble_eq_true rfl, ?_⟩
  show mEv TB0 ad M_X11_again (dd + 4) (0, 0) (mCal TB0 ad (dd + 3)) (fun v h' z => z.1 = 0 ∧ Q v h') 0 [some (.ref x), some (.int (zI k))] [] h (0, 0)
  refine e_iload_n dX11_again_0 rfl ?_
  refine z_if_lt 18 dX11_again_1 rfl ⟨by omega, by omega⟩ (fun c1 => ?_) (fun c1 => ?_)
  · skip
    refine z_iconst (0) dX11_again_18 rfl ?_
    refine z_bret dX11_again_19 rfl (Or.inl rfl) ⟨rfl, ?_⟩
    refine z_q0 kq ?_
    exact id
  · skip
    refine e_iload_n dX11_again_4 rfl ?_
    refine z_iconst (3) dX11_again_5 rfl ?_
    refine z_icmp_ge 18 dX11_again_6 rfl ⟨by omega, by omega⟩ ⟨by omega, by omega⟩ (fun c2 => ?_) (fun c2 => ?_)
    · skip
      refine z_iconst (0) dX11_again_18 rfl ?_
      refine z_bret dX11_again_19 rfl (Or.inl rfl) ⟨rfl, ?_⟩
      refine z_q0 kq ?_
      exact id
    · exfalso; omega
set_option maxHeartbeats 400000 in
theorem zp_X11_image_old {ad : mA} {dd : Nat} {h : mH} {Q : mQ} {x : Nat} {σ : Sg} {t : Nat} (hk : bk h x) (hk1 : tdk h t) (HX : clsT h (x + 1) σ)  (k : Int) (k_r : -2147483648 ≤ k ∧ k < 2147483648) (p1 : 0 ≤ k ∧ k < 3) (hm : mR h (x + 55) k.toNat = some t) (pd : x + 188 ≤ t) (kq : ∀ h1, frm (fun a k => t ≤ a ∧ a < t + 54) h h1 → (clsT h1 t σ) → Q (some (.int (zI (bZ True)))) h1) : mCal TB0 ad (dd + 4) M_X11_image [.ref x, .int (zI k)] h 0 0 Q := by
  refine ⟨Nat.le_of_ble_eq_true rfl, ?_⟩
  show mEv TB0 ad M_X11_image (dd + 4) (0, 0) (mCal TB0 ad (dd + 3)) (fun v h' z => z.1 = 0 ∧ Q v h') 0 [some (.ref x), some (.int (zI k))] [] h (0, 0)
  have FR0 : frm (fun a k => t ≤ a ∧ a < t + 54) h h := frm_0 h
  refine e_iload_n dX11_image_0 rfl ?_
  refine z_if_lt 9 dX11_image_1 rfl ⟨by omega, by omega⟩ (fun c1 => ?_) (fun c1 => ?_)
  · exfalso; omega
  · skip
    refine e_iload_n dX11_image_4 rfl ?_
    refine z_iconst (3) dX11_image_5 rfl ?_
    refine z_icmp_lt 11 dX11_image_6 rfl ⟨by omega, by omega⟩ ⟨by omega, by omega⟩ (fun c2 => ?_) (fun c2 => ?_)
    · skip
      refine e_aload_n dX11_image_11 rfl ?_
      refine e_get (.ref (x + 55)) dX11_image_12 tf_11_16 (congrArg Prod.fst (bk_s0 hk)) (congrArg va_rf (bk_r0_1 hk)) ?_
      refine e_iload_n dX11_image_15 rfl ?_
      refine z_ald (.ref t) dX11_image_16 (bk_s55 hk) (by decide) (by decide) (by decide) (by omega) (by omega) (congrArg va_rf hm) ?_
      refine e_ifnonnull 33 dX11_image_17 rfl ?_
      refine e_aload_n dX11_image_33 rfl ?_
      refine e_get (.ref (x + 55)) dX11_image_34 tf_11_16 (congrArg Prod.fst (bk_s0 hk)) (congrArg va_rf (bk_r0_1 hk)) ?_
      refine e_iload_n dX11_image_37 rfl ?_
      refine z_ald (.ref t) dX11_image_38 (bk_s55 hk) (by decide) (by decide) (by decide) (by omega) (by omega) (congrArg va_rf hm) ?_
      refine e_aload_n dX11_image_39 rfl ?_
      refine e_get (.ref (x + 1)) dX11_image_40 tf_11_10 (congrArg Prod.fst (bk_s0 hk)) (congrArg va_rf (bk_r0_0 hk)) ?_
      refine e_callV [.ref _] dX11_image_43 tm_11_322 rfl (Nat.le_of_ble_eq_true rfl) (congrArg Prod.fst (td_s0 hk1)) (Nat.le_of_ble_eq_true rfl) (Nat.le_refl _) (Nat.le_refl _) rfl (zp_X8_copyFrom hk1 (bk_td1 hk) HX (by omega) (fun  h3 f4 p5 => ?_))
      have k6 := bk_q (frm_s f4) hk
      have k7 := lk_q (frm_s f4) hk1
      have H8 := clsT_c f4 (fun a k q1 q2 => by omega) HX
      have FR9 := frm_t FR0 (frm_m (S' := (fun a k => t ≤ a ∧ a < t + 54)) f4 (fun a k q => by omega))
      refine z_iconst (1) dX11_image_46 rfl ?_
      refine z_bret dX11_image_47 rfl (Or.inr rfl) ⟨rfl, ?_⟩
      exact z_q1 (p := True) (kq _ FR9 p5) trivial
    · exfalso; omega
set_option maxHeartbeats 400000 in
theorem zp_X11_image_out {ad : mA} {dd : Nat} {h : mH} {Q : mQ} {x : Nat}  (hk : bk h x)  (k : Int) (k_r : -2147483648 ≤ k ∧ k < 2147483648) (p1 : ¬ (0 ≤ k ∧ k < 3)) (kq : Q (some (.int (zI (bZ False)))) h) : mCal TB0 ad (dd + 4) M_X11_image [.ref x, .int (zI k)] h 0 0 Q := by
  refine ⟨Nat.le_of_ble_eq_true rfl, ?_⟩
  show mEv TB0 ad M_X11_image (dd + 4) (0, 0) (mCal TB0 ad (dd + 3)) (fun v h' z => z.1 = 0 ∧ Q v h') 0 [some (.ref x), some (.int (zI k))] [] h (0, 0)
  refine e_iload_n dX11_image_0 rfl ?_
  refine z_if_lt 9 dX11_image_1 rfl ⟨by omega, by omega⟩ (fun c1 => ?_) (fun c1 => ?_)
  · skip
    refine z_iconst (0) dX11_image_9 rfl ?_
    refine z_bret dX11_image_10 rfl (Or.inl rfl) ⟨rfl, ?_⟩
    refine z_q0 kq ?_
    exact id
  · skip
    refine e_iload_n dX11_image_4 rfl ?_
    refine z_iconst (3) dX11_image_5 rfl ?_
    refine z_icmp_lt 11 dX11_image_6 rfl ⟨by omega, by omega⟩ ⟨by omega, by omega⟩ (fun c2 => ?_) (fun c2 => ?_)
    · exfalso; omega
    · skip
      refine z_iconst (0) dX11_image_9 rfl ?_
      refine z_bret dX11_image_10 rfl (Or.inl rfl) ⟨rfl, ?_⟩
      refine z_q0 kq ?_
      exact id
set_option maxHeartbeats 4000000 in
theorem zp_X12_again_in {ad : mA} {dd : Nat} {h : mH} {Q : mQ} {m : Nat} {σ : Sg} (k : Int) (k_r : -2147483648 ≤ k ∧ k < 2147483648) (hk : rk h m) (HO : refT h m (k + 1) σ)  (p1 : 0 ≤ k ∧ k < 3) (hk1 : rI h (m + 30) k = 1) (kq : ∀ h1, frm (fun a i => (a = m ∧ i = 0) ∨ ((a = m + 1 ∧ 600 * 0 ≤ (i : Int) ∧ (i : Int) < 600 * 0 + 600) ∨ (m + 2 ≤ a ∧ a ≤ m + 4 ∧ (i : Int) = 0) ∨ (a = m + 5 ∧ 3 * 0 ≤ (i : Int) ∧ (i : Int) < 3 * 0 + 3) ∨ (a = m + 6 ∧ 162 * 0 ≤ (i : Int) ∧ (i : Int) < 162 * 0 + 162) ∨ (a = m + 7 ∧ 242 * 0 ≤ (i : Int) ∧ (i : Int) < 242 * 0 + 242) ∨ (a = m + 8 ∧ 50 * 0 ≤ (i : Int) ∧ (i : Int) < 50 * 0 + 50))) h h1 → (refT h1 m 0 σ) → Q (some (.int (zI (bZ True)))) h1) : mCal TB0 ad (dd + 3) M_X12_again [.ref m, .int (zI k)] h 0 0 Q := by
  refine ⟨Nat.le_of_ble_eq_true rfl, ?_⟩
  show mEv TB0 ad M_X12_again (dd + 3) (0, 0) (mCal TB0 ad (dd + 2)) (fun v h' z => z.1 = 0 ∧ Q v h') 0 [some (.ref m), some (.int (zI k))] [] h (0, 0)
  have FR0 : frm (fun a i => (a = m ∧ i = 0) ∨ ((a = m + 1 ∧ 600 * 0 ≤ (i : Int) ∧ (i : Int) < 600 * 0 + 600) ∨ (m + 2 ≤ a ∧ a ≤ m + 4 ∧ (i : Int) = 0) ∨ (a = m + 5 ∧ 3 * 0 ≤ (i : Int) ∧ (i : Int) < 3 * 0 + 3) ∨ (a = m + 6 ∧ 162 * 0 ≤ (i : Int) ∧ (i : Int) < 162 * 0 + 162) ∨ (a = m + 7 ∧ 242 * 0 ≤ (i : Int) ∧ (i : Int) < 242 * 0 + 242) ∨ (a = m + 8 ∧ 50 * 0 ≤ (i : Int) ∧ (i : Int) < 50 * 0 + 50))) h h := frm_0 h
  refine e_aload_n dX12_again_0 rfl ?_
  refine z_iconst (0) dX12_again_1 rfl ?_
  refine z_put dX12_again_2 tf_12_103 (rk_s hk) rfl (Or.inl rfl) (fun h1 e2 => ?_)
  have f3 := frm_1 e2
  have k4 := rk_q (frm_s f3) hk
  have H5 := refT_c f3 (fun a k q1 q2 => by omega) HO
  have FR6 := frm_t FR0 (frm_m (S' := (fun a i => (a = m ∧ i = 0) ∨ ((a = m + 1 ∧ 600 * 0 ≤ (i : Int) ∧ (i : Int) < 600 * 0 + 600) ∨ (m + 2 ≤ a ∧ a ≤ m + 4 ∧ (i : Int) = 0) ∨ (a = m + 5 ∧ 3 * 0 ≤ (i : Int) ∧ (i : Int) < 3 * 0 + 3) ∨ (a = m + 6 ∧ 162 * 0 ≤ (i : Int) ∧ (i : Int) < 162 * 0 + 162) ∨ (a = m + 7 ∧ 242 * 0 ≤ (i : Int) ∧ (i : Int) < 242 * 0 + 242) ∨ (a = m + 8 ∧ 50 * 0 ≤ (i : Int) ∧ (i : Int) < 50 * 0 + 50)))) f3 (fun a k q => by omega))
  refine e_iload_n dX12_again_5 rfl ?_
  refine z_iconst (0) dX12_again_6 rfl ?_
  refine z_iconst (2) dX12_again_7 rfl ?_
  refine e_callS [.int _, .int _, .int _] dX12_again_8 tm_12_115 rfl (Nat.le_of_ble_eq_true rfl) (Nat.le_refl _) (Nat.le_refl _) rfl (zp_X12_in k ⟨by omega, by omega⟩ 0 ⟨by omega, by omega⟩ 2 ⟨by omega, by omega⟩ ?_)
  refine z_ifb_eq 23 dX12_again_11 rfl (fun c7 => ?_) (fun c7 => ?_)
  · exfalso; omega
  · skip
    refine e_aload_n dX12_again_14 rfl ?_
    refine e_get (.ref (m + 30)) dX12_again_15 tf_12_100 (rk_s k4) (congrArg va_rf (rk_r30 k4)) ?_
    refine e_iload_n dX12_again_18 rfl ?_
    refine z_zld 1 dX12_again_19 (rk_a30 k4) (by decide) (by omega) (by omega) (((frm_r f3 (by omega))).trans hk1) ?_
    refine z_if_ne 25 dX12_again_20 rfl ⟨by omega, by omega⟩ (fun c8 => ?_) (fun c8 => ?_)
    · skip
      refine e_aload_n dX12_again_25 rfl ?_
      refine e_iload_n dX12_again_26 rfl ?_
      refine z_iconst (1) dX12_again_27 rfl ?_
      refine z_iadd dX12_again_28 ?_
      refine z_iconst (0) dX12_again_29 rfl ?_
      refine e_callV [.int _, .int _] dX12_again_30 tm_12_567 rfl (Nat.le_of_ble_eq_true rfl) (rk_s k4) (Nat.le_of_ble_eq_true rfl) (Nat.le_refl _) (Nat.le_refl _) rfl (zp_X12_copyAll (k + 1) ⟨by omega, by omega⟩ 0 ⟨by omega, by omega⟩ k4 H5 (by omega) (by omega) (by omega) (fun  h9 f10 p11 => ?_))
      have k12 := rk_q (frm_s f10) k4
      have FR13 := frm_t FR6 (frm_m (S' := (fun a i => (a = m ∧ i = 0) ∨ ((a = m + 1 ∧ 600 * 0 ≤ (i : Int) ∧ (i : Int) < 600 * 0 + 600) ∨ (m + 2 ≤ a ∧ a ≤ m + 4 ∧ (i : Int) = 0) ∨ (a = m + 5 ∧ 3 * 0 ≤ (i : Int) ∧ (i : Int) < 3 * 0 + 3) ∨ (a = m + 6 ∧ 162 * 0 ≤ (i : Int) ∧ (i : Int) < 162 * 0 + 162) ∨ (a = m + 7 ∧ 242 * 0 ≤ (i : Int) ∧ (i : Int) < 242 * 0 + 242) ∨ (a = m + 8 ∧ 50 * 0 ≤ (i : Int) ∧ (i : Int) < 50 * 0 + 50)))) f10 (fun a k q => by omega))
      refine z_iconst (1) dX12_again_33 rfl ?_
      refine z_bret dX12_again_34 rfl (Or.inr rfl) ⟨rfl, ?_⟩
      exact z_q1 (p := True) (kq _ FR13 p11) trivial
    · exfalso; omega
set_option maxHeartbeats 400000 in
theorem zp_X12_again_no {ad : mA} {dd : Nat} {h : mH} {Q : mQ} {m : Nat}  (hk : rk h m)  (k : Int) (k_r : -2147483648 ≤ k ∧ k < 2147483648) (p1 : ¬ (0 ≤ k ∧ k < 3) ∨ rI h (m + 30) k = 0) (kq : ∀ h1, frm (fun a i => a = m ∧ i = 0) h h1 → Q (some (.int (zI (bZ False)))) h1) : mCal TB0 ad (dd + 3) M_X12_again [.ref m, .int (zI k)] h 0 0 Q := by
  refine ⟨Nat.le_of_ble_eq_true rfl, ?_⟩
  show mEv TB0 ad M_X12_again (dd + 3) (0, 0) (mCal TB0 ad (dd + 2)) (fun v h' z => z.1 = 0 ∧ Q v h') 0 [some (.ref m), some (.int (zI k))] [] h (0, 0)
  have FR0 : frm (fun a i => a = m ∧ i = 0) h h := frm_0 h
  refine e_aload_n dX12_again_0 rfl ?_
  refine z_iconst (0) dX12_again_1 rfl ?_
  refine z_put dX12_again_2 tf_12_103 (rk_s hk) rfl (Or.inl rfl) (fun h1 e2 => ?_)
  have f3 := frm_1 e2
  have k4 := rk_q (frm_s f3) hk
  have FR5 := frm_t FR0 (frm_m (S' := (fun a i => a = m ∧ i = 0)) f3 (fun a k q => by omega))
  refine e_iload_n dX12_again_5 rfl ?_
  refine z_iconst (0) dX12_again_6 rfl ?_
  refine z_iconst (2) dX12_again_7 rfl ?_
  refine e_callS [.int _, .int _, .int _] dX12_again_8 tm_12_115 rfl (Nat.le_of_ble_eq_true rfl) (Nat.le_refl _) (Nat.le_refl _) rfl (zp_X12_in k ⟨by omega, by omega⟩ 0 ⟨by omega, by omega⟩ 2 ⟨by omega, by omega⟩ ?_)
  refine z_ifb_eq 23 dX12_again_11 rfl (fun c6 => ?_) (fun c6 => ?_)
  · skip
    refine z_iconst (0) dX12_again_23 rfl ?_
    refine z_bret dX12_again_24 rfl (Or.inl rfl) ⟨rfl, ?_⟩
    exact z_q0 (p := False) (kq _ FR5) id
  · skip
    refine e_aload_n dX12_again_14 rfl ?_
    refine e_get (.ref (m + 30)) dX12_again_15 tf_12_100 (rk_s k4) (congrArg va_rf (rk_r30 k4)) ?_
    refine e_iload_n dX12_again_18 rfl ?_
    refine z_zld (rI h (m + 30) k) dX12_again_19 (rk_a30 k4) (by decide) (by omega) (by omega) ((frm_r f3 (by omega))) ?_
    refine z_if_ne 25 dX12_again_20 rfl ⟨by omega, by omega⟩ (fun c7 => ?_) (fun c7 => ?_)
    · exfalso; omega
    · skip
      refine z_iconst (0) dX12_again_23 rfl ?_
      refine z_bret dX12_again_24 rfl (Or.inl rfl) ⟨rfl, ?_⟩
      exact z_q0 (p := False) (kq _ FR5) id
set_option maxHeartbeats 4000000 in
theorem zp_X12_image_in {ad : mA} {dd : Nat} {h : mH} {Q : mQ} {m : Nat} {σ : Sg} (hk : rk h m) (HR : refT h m 0 σ)  (k : Int) (k_r : -2147483648 ≤ k ∧ k < 2147483648) (p1 : 0 ≤ k ∧ k < 3) (kq : ∀ h1, frm (fun a i => (a = m ∧ i = 0) ∨ ((a = m + 1 ∧ 600 * (k + 1) ≤ (i : Int) ∧ (i : Int) < 600 * (k + 1) + 600) ∨ (m + 2 ≤ a ∧ a ≤ m + 4 ∧ (i : Int) = (k + 1)) ∨ (a = m + 5 ∧ 3 * (k + 1) ≤ (i : Int) ∧ (i : Int) < 3 * (k + 1) + 3) ∨ (a = m + 6 ∧ 162 * (k + 1) ≤ (i : Int) ∧ (i : Int) < 162 * (k + 1) + 162) ∨ (a = m + 7 ∧ 242 * (k + 1) ≤ (i : Int) ∧ (i : Int) < 242 * (k + 1) + 242) ∨ (a = m + 8 ∧ 50 * (k + 1) ≤ (i : Int) ∧ (i : Int) < 50 * (k + 1) + 50)) ∨ (a = m + 30 ∧ (i : Int) = k)) h h1 → (refT h1 m (k + 1) σ) → (rI h1 (m + 30) k = 1) → Q (some (.int (zI (bZ True)))) h1) : mCal TB0 ad (dd + 3) M_X12_image [.ref m, .int (zI k)] h 0 0 Q := by
  refine ⟨Nat.le_of_ble_eq_true rfl, ?_⟩
  show mEv TB0 ad M_X12_image (dd + 3) (0, 0) (mCal TB0 ad (dd + 2)) (fun v h' z => z.1 = 0 ∧ Q v h') 0 [some (.ref m), some (.int (zI k))] [] h (0, 0)
  have FR0 : frm (fun a i => (a = m ∧ i = 0) ∨ ((a = m + 1 ∧ 600 * (k + 1) ≤ (i : Int) ∧ (i : Int) < 600 * (k + 1) + 600) ∨ (m + 2 ≤ a ∧ a ≤ m + 4 ∧ (i : Int) = (k + 1)) ∨ (a = m + 5 ∧ 3 * (k + 1) ≤ (i : Int) ∧ (i : Int) < 3 * (k + 1) + 3) ∨ (a = m + 6 ∧ 162 * (k + 1) ≤ (i : Int) ∧ (i : Int) < 162 * (k + 1) + 162) ∨ (a = m + 7 ∧ 242 * (k + 1) ≤ (i : Int) ∧ (i : Int) < 242 * (k + 1) + 242) ∨ (a = m + 8 ∧ 50 * (k + 1) ≤ (i : Int) ∧ (i : Int) < 50 * (k + 1) + 50)) ∨ (a = m + 30 ∧ (i : Int) = k)) h h := frm_0 h
  refine e_aload_n dX12_image_0 rfl ?_
  refine z_iconst (0) dX12_image_1 rfl ?_
  refine z_put dX12_image_2 tf_12_103 (rk_s hk) rfl (Or.inl rfl) (fun h1 e2 => ?_)
  have f3 := frm_1 e2
  have k4 := rk_q (frm_s f3) hk
  have H5 := refT_c f3 (fun a k q1 q2 => by omega) HR
  have FR6 := frm_t FR0 (frm_m (S' := (fun a i => (a = m ∧ i = 0) ∨ ((a = m + 1 ∧ 600 * (k + 1) ≤ (i : Int) ∧ (i : Int) < 600 * (k + 1) + 600) ∨ (m + 2 ≤ a ∧ a ≤ m + 4 ∧ (i : Int) = (k + 1)) ∨ (a = m + 5 ∧ 3 * (k + 1) ≤ (i : Int) ∧ (i : Int) < 3 * (k + 1) + 3) ∨ (a = m + 6 ∧ 162 * (k + 1) ≤ (i : Int) ∧ (i : Int) < 162 * (k + 1) + 162) ∨ (a = m + 7 ∧ 242 * (k + 1) ≤ (i : Int) ∧ (i : Int) < 242 * (k + 1) + 242) ∨ (a = m + 8 ∧ 50 * (k + 1) ≤ (i : Int) ∧ (i : Int) < 50 * (k + 1) + 50)) ∨ (a = m + 30 ∧ (i : Int) = k))) f3 (fun a k q => by omega))
  refine e_iload_n dX12_image_5 rfl ?_
  refine z_iconst (0) dX12_image_6 rfl ?_
  refine z_iconst (2) dX12_image_7 rfl ?_
  refine e_callS [.int _, .int _, .int _] dX12_image_8 tm_12_115 rfl (Nat.le_of_ble_eq_true rfl) (Nat.le_refl _) (Nat.le_refl _) rfl (zp_X12_in k ⟨by omega, by omega⟩ 0 ⟨by omega, by omega⟩ 2 ⟨by omega, by omega⟩ ?_)
  refine z_ifb_ne 16 dX12_image_11 rfl (fun c7 => ?_) (fun c7 => ?_)
  · skip
    refine e_aload_n dX12_image_16 rfl ?_
    refine z_iconst (0) dX12_image_17 rfl ?_
    refine e_iload_n dX12_image_18 rfl ?_
    refine z_iconst (1) dX12_image_19 rfl ?_
    refine z_iadd dX12_image_20 ?_
    refine e_callV [.int _, .int _] dX12_image_21 tm_12_567 rfl (Nat.le_of_ble_eq_true rfl) (rk_s k4) (Nat.le_of_ble_eq_true rfl) (Nat.le_refl _) (Nat.le_refl _) rfl (zp_X12_copyAll 0 ⟨by omega, by omega⟩ (k + 1) ⟨by omega, by omega⟩ k4 H5 (by omega) (by omega) (by omega) (fun  h8 f9 p10 => ?_))
    have k11 := rk_q (frm_s f9) k4
    have FR12 := frm_t FR6 (frm_m (S' := (fun a i => (a = m ∧ i = 0) ∨ ((a = m + 1 ∧ 600 * (k + 1) ≤ (i : Int) ∧ (i : Int) < 600 * (k + 1) + 600) ∨ (m + 2 ≤ a ∧ a ≤ m + 4 ∧ (i : Int) = (k + 1)) ∨ (a = m + 5 ∧ 3 * (k + 1) ≤ (i : Int) ∧ (i : Int) < 3 * (k + 1) + 3) ∨ (a = m + 6 ∧ 162 * (k + 1) ≤ (i : Int) ∧ (i : Int) < 162 * (k + 1) + 162) ∨ (a = m + 7 ∧ 242 * (k + 1) ≤ (i : Int) ∧ (i : Int) < 242 * (k + 1) + 242) ∨ (a = m + 8 ∧ 50 * (k + 1) ≤ (i : Int) ∧ (i : Int) < 50 * (k + 1) + 50)) ∨ (a = m + 30 ∧ (i : Int) = k))) f9 (fun a k q => by omega))
    refine e_aload_n dX12_image_24 rfl ?_
    refine e_get (.ref (m + 30)) dX12_image_25 tf_12_100 (rk_s k11) (congrArg va_rf (rk_r30 k11)) ?_
    refine e_iload_n dX12_image_28 rfl ?_
    refine z_iconst (1) dX12_image_29 rfl ?_
    refine z_zst dX12_image_30 (rk_a30 k11) (by decide) (by omega) (by omega) (Or.inr rfl) (fun h13 e14 => ?_)
    have f15 := frm_1 e14
    have k16 := rk_q (frm_s f15) k11
    have H17 := refT_c f15 (fun a k q1 q2 => by omega) p10
    have FR18 := frm_t FR12 (frm_m (S' := (fun a i => (a = m ∧ i = 0) ∨ ((a = m + 1 ∧ 600 * (k + 1) ≤ (i : Int) ∧ (i : Int) < 600 * (k + 1) + 600) ∨ (m + 2 ≤ a ∧ a ≤ m + 4 ∧ (i : Int) = (k + 1)) ∨ (a = m + 5 ∧ 3 * (k + 1) ≤ (i : Int) ∧ (i : Int) < 3 * (k + 1) + 3) ∨ (a = m + 6 ∧ 162 * (k + 1) ≤ (i : Int) ∧ (i : Int) < 162 * (k + 1) + 162) ∨ (a = m + 7 ∧ 242 * (k + 1) ≤ (i : Int) ∧ (i : Int) < 242 * (k + 1) + 242) ∨ (a = m + 8 ∧ 50 * (k + 1) ≤ (i : Int) ∧ (i : Int) < 50 * (k + 1) + 50)) ∨ (a = m + 30 ∧ (i : Int) = k))) f15 (fun a k q => by omega))
    refine z_iconst (1) dX12_image_31 rfl ?_
    refine z_bret dX12_image_32 rfl (Or.inr rfl) ⟨rfl, ?_⟩
    exact z_q1 (p := True) (kq _ FR18 H17 (show rI h13 (m + 30) k = 1 from (rI_eq e14 ⟨by omega, by omega⟩))) trivial
  · exfalso; omega
set_option maxHeartbeats 400000 in
theorem zp_X12_image_out {ad : mA} {dd : Nat} {h : mH} {Q : mQ} {m : Nat}  (hk : rk h m)  (k : Int) (k_r : -2147483648 ≤ k ∧ k < 2147483648) (p1 : ¬ (0 ≤ k ∧ k < 3)) (kq : ∀ h1, frm (fun a i => a = m ∧ i = 0) h h1 → Q (some (.int (zI (bZ False)))) h1) : mCal TB0 ad (dd + 3) M_X12_image [.ref m, .int (zI k)] h 0 0 Q := by
  refine ⟨Nat.le_of_ble_eq_true rfl, ?_⟩
  show mEv TB0 ad M_X12_image (dd + 3) (0, 0) (mCal TB0 ad (dd + 2)) (fun v h' z => z.1 = 0 ∧ Q v h') 0 [some (.ref m), some (.int (zI k))] [] h (0, 0)
  have FR0 : frm (fun a i => a = m ∧ i = 0) h h := frm_0 h
  refine e_aload_n dX12_image_0 rfl ?_
  refine z_iconst (0) dX12_image_1 rfl ?_
  refine z_put dX12_image_2 tf_12_103 (rk_s hk) rfl (Or.inl rfl) (fun h1 e2 => ?_)
  have f3 := frm_1 e2
  have k4 := rk_q (frm_s f3) hk
  have FR5 := frm_t FR0 (frm_m (S' := (fun a i => a = m ∧ i = 0)) f3 (fun a k q => by omega))
  refine e_iload_n dX12_image_5 rfl ?_
  refine z_iconst (0) dX12_image_6 rfl ?_
  refine z_iconst (2) dX12_image_7 rfl ?_
  refine e_callS [.int _, .int _, .int _] dX12_image_8 tm_12_115 rfl (Nat.le_of_ble_eq_true rfl) (Nat.le_refl _) (Nat.le_refl _) rfl (zp_X12_in k ⟨by omega, by omega⟩ 0 ⟨by omega, by omega⟩ 2 ⟨by omega, by omega⟩ ?_)
  refine z_ifb_ne 16 dX12_image_11 rfl (fun c6 => ?_) (fun c6 => ?_)
  · exfalso; omega
  · skip
    refine z_iconst (0) dX12_image_14 rfl ?_
    refine z_bret dX12_image_15 rfl (Or.inl rfl) ⟨rfl, ?_⟩
    exact z_q0 (p := False) (kq _ FR5) id
/-- the heap with a new Told at its end, held at images[k] -/
def imN (h : mH) (x : Nat) (k : Int) (hc : mH) : Prop := mE hc = mE h + 54 ∧ tdk hc (mE h) ∧ mR hc (x + 55) k.toNat = some (mE h) ∧ ∀ a, a < mE h → mS hc a = mS h a ∧ mI hc a = mI h a ∧ ∀ j, ¬ (a = x + 55 ∧ j = k.toNat) → mR hc a j = mR h a j
set_option maxRecDepth 100000 in
theorem bR_55 : bR.all (fun q => q.1 != 55 && Nat.blt q.1 157) = true := by decide +kernel
set_option maxRecDepth 100000 in
theorem bA_157 : bA.all (fun q => Nat.blt q.1 157) = true := by decide +kernel
set_option maxRecDepth 100000 in
theorem tdA_54 : tdA.all (fun q => Nat.blt q.1 54) = true := by decide +kernel
set_option maxRecDepth 100000 in
theorem tdR_54 : tdR.all (fun q => Nat.blt q.1 54) = true := by decide +kernel
set_option maxRecDepth 100000 in
theorem rA_31 : rA.all (fun q => Nat.blt q.1 31) = true := by decide +kernel
theorem tdk_on {h h1 : mH} {t : Nat} (e : ∀ a, t ≤ a → a < t + 54 → mS h1 a = mS h a ∧ ∀ j, mR h1 a j = mR h a j) (H : tdk h t) : tdk h1 t := by
  refine ⟨fun q hq => ?_, fun q hq => ?_⟩
  · have l := Nat.blt_eq.mp (List.all_eq_true.mp tdA_54 q hq)
    rw [(e (t + q.1) (by omega) (by omega)).1]; exact H.1 q hq
  · have l := Nat.blt_eq.mp (List.all_eq_true.mp tdR_54 q hq)
    rw [(e (t + q.1) (by omega) (by omega)).2]; exact H.2 q hq
theorem bk_on {h h1 : mH} {x : Nat} (e : ∀ a, x ≤ a → a < x + 157 → mS h1 a = mS h a ∧ ∀ j, a ≠ x + 55 → mR h1 a j = mR h a j) (H : bk h x) : bk h1 x := by
  refine ⟨fun q hq => ?_, fun q hq => ?_⟩
  · have l := Nat.blt_eq.mp (List.all_eq_true.mp bA_157 q hq)
    rw [(e (x + q.1) (by omega) (by omega)).1]; exact H.1 q hq
  · have l := List.all_eq_true.mp bR_55 q hq
    simp only [Bool.and_eq_true, bne_iff_ne] at l
    have l2 := Nat.blt_eq.mp l.2
    have l1 := l.1
    rw [(e (x + q.1) (by omega) (by omega)).2 _ (by omega)]; exact H.2 q hq
theorem rk_on {h h1 : mH} {m : Nat} (e : ∀ a, m ≤ a → a < m + 31 → mS h1 a = mS h a ∧ ∀ j, mR h1 a j = mR h a j) (H : rk h m) : rk h1 m := by
  refine ⟨by rw [(e m (by omega) (by omega)).1]; exact H.1, fun q hq => ?_⟩
  have l := Nat.blt_eq.mp (List.all_eq_true.mp rA_31 q hq)
  rw [(e m (by omega) (by omega)).2, (e (m + q.1) (by omega) (by omega)).1]; exact H.2 q hq
set_option maxHeartbeats 2000000 in
theorem zp_X11_image_new {ad : mA} {dd : Nat} {h : mH} {Q : mQ} {x : Nat} {σ : Sg} (hk : bk h x) (HX : clsT h (x + 1) σ) (k : Int) (k_r : -2147483648 ≤ k ∧ k < 2147483648) (p1 : 0 ≤ k ∧ k < 3) (hm : mR h (x + 55) k.toNat = none) (hE : x + 188 ≤ mE h) (kq : ∀ hc h1, imN h x k hc → frm (fun a k => mE h ≤ a ∧ a < mE h + 54) hc h1 → clsT h1 (mE h) σ → Q (some (.int (zI (bZ True)))) h1) : mCal TB0 ad (dd + 6) M_X11_image [.ref x, .int (zI k)] h 54 1113 Q := by
  refine ⟨Nat.le_of_ble_eq_true rfl, ?_⟩
  show mEv TB0 ad M_X11_image (dd + 6) (54, 1113) (mCal TB0 ad (dd + 5)) (fun v h' z => z.1 = 54 ∧ Q v h') 0 [some (.ref x), some (.int (zI k))] [] h (0, 0)
  refine e_iload_n dX11_image_0 rfl ?_
  refine z_if_lt 9 dX11_image_1 rfl ⟨by omega, by omega⟩ (fun c1 => ?_) (fun c1 => ?_)
  · exfalso; omega
  · skip
    refine e_iload_n dX11_image_4 rfl ?_
    refine z_iconst (3) dX11_image_5 rfl ?_
    refine z_icmp_lt 11 dX11_image_6 rfl ⟨by omega, by omega⟩ ⟨by omega, by omega⟩ (fun c2 => ?_) (fun c2 => ?_)
    · skip
      refine e_aload_n dX11_image_11 rfl ?_
      refine e_get (.ref (x + 55)) dX11_image_12 tf_11_16 (congrArg Prod.fst (bk_s0 hk)) (congrArg va_rf (bk_r0_1 hk)) ?_
      refine e_iload_n dX11_image_15 rfl ?_
      refine z_ald (.null) dX11_image_16 (bk_s55 hk) (by decide) (by decide) (by decide) (by omega) (by omega) (congrArg va_rf hm) ?_
      refine e_ifnonnullN 33 dX11_image_17 rfl ?_
      refine e_aload_n dX11_image_20 rfl ?_
      refine e_get (.ref (x + 55)) dX11_image_21 tf_11_16 (congrArg Prod.fst (bk_s0 hk)) (congrArg va_rf (bk_r0_1 hk)) ?_
      refine e_iload_n dX11_image_24 rfl ?_
      have hh : hq h h (mE h) [] [] := ⟨⟨rfl, fun o c hc => by simp at hc⟩, old_r h _⟩
      refine kw_new hh dX11_image_25 tc_11_7 (Nat.le_of_ble_eq_true rfl) (Nat.le_of_ble_eq_true rfl) (fun ha hha => ?_)
      refine e_dup dX11_image_28 rfl ?_
      refine kw_ctor hha dX11_image_29 (Or.inl tm_11_9) rfl (Nat.le_of_ble_eq_true rfl) (Nat.le_of_ble_eq_true rfl) (Nat.le_of_ble_eq_true rfl) (kw_X8_init ad _ _) (fun hb hhb => ?_)
      have hhb : hq h hb (mE h) [] tdS := hhb
      have e55 : mS hb (x + 55) = (19, 3) := (hhb.2 (x + 55) (by omega)).1.trans (bk_s55 hk)
      have et : mS hb (mE h) = (8, 0) := td_s0 (tdS_td hhb.1)
      refine e_ast k.toNat dX11_image_32 e55 (Nat.le_of_ble_eq_true rfl) (Nat.le_of_ble_eq_true rfl) et (Nat.le_of_ble_eq_true rfl) rfl (zI_in (by omega) (by omega) (by omega)) (zI_clamp (by omega) (by omega)) ?_
      have N : imN h x k (wR hb (x + 55) k.toNat (some (mE h))) := by
        have o1 := mOne_wR hb (x + 55) k.toNat (some (mE h))
        refine ⟨?_, ?_, ?_, fun a ha => ?_⟩
        · rw [o1.1, hhb.1.1, tdS_len]; rfl
        · refine tdk_on (fun a z1 z2 => ⟨o1.2.1 a, fun j => ?_⟩) (tdS_td hhb.1)
          rw [(o1.2.2 a (by omega)).2.2]
        · rw [mR_wR_self]; exact if_pos rfl
        · obtain ⟨g1, g2, g3, g4⟩ := hhb.2 a ha
          refine ⟨(o1.2.1 a).trans g1, ?_, fun j nj => ?_⟩
          · rw [← g2]; rfl
          · by_cases z : a = x + 55
            · subst z
              rw [mR_wR_self, ← g4]
              exact if_neg (fun w => nj ⟨rfl, w⟩)
            · rw [(o1.2.2 a z).2.2, g4]
      revert N
      generalize wR hb (x + 55) k.toNat (some (mE h)) = hc
      intro N
      have kb : bk hc x := bk_on (fun a z1 z2 => ⟨(N.2.2.2 a (by omega)).1, fun j nj => (N.2.2.2 a (by omega)).2.2 j (fun w => nj w.1)⟩) hk
      have kt := N.2.1
      have hmc := N.2.2.1
      have HXc : clsT hc (x + 1) σ := clsT_q (fun a z1 z2 z => by unfold rI; rw [(N.2.2.2 a (by omega)).2.1]) HX
      have FR0 : frm (fun a k => mE h ≤ a ∧ a < mE h + 54) hc hc := frm_0 hc
      show mEv TB0 ad M_X11_image (dd + 6) (54, 1113) (mCal TB0 ad (dd + 5)) (fun v h' z => z.1 = 54 ∧ Q v h') 33 [some (.ref x), some (.int (zI k))] [] hc (54, 1113)
      refine e_aload_n dX11_image_33 rfl ?_
      refine e_get (.ref (x + 55)) dX11_image_34 tf_11_16 (congrArg Prod.fst (bk_s0 kb)) (congrArg va_rf (bk_r0_1 kb)) ?_
      refine e_iload_n dX11_image_37 rfl ?_
      refine z_ald (.ref (mE h)) dX11_image_38 (bk_s55 kb) (by decide) (by decide) (by decide) (by omega) (by omega) (congrArg va_rf hmc) ?_
      refine e_aload_n dX11_image_39 rfl ?_
      refine e_get (.ref (x + 1)) dX11_image_40 tf_11_10 (congrArg Prod.fst (bk_s0 kb)) (congrArg va_rf (bk_r0_0 kb)) ?_
      refine e_callV [.ref _] dX11_image_43 tm_11_322 rfl (Nat.le_of_ble_eq_true rfl) (congrArg Prod.fst (td_s0 kt)) (Nat.le_of_ble_eq_true rfl) (Nat.le_refl _) (Nat.le_refl _) rfl (zp_X8_copyFrom kt (bk_td1 kb) HXc (by omega) (fun  h3 f4 p5 => ?_))
      have k6 := bk_q (frm_s f4) kb
      have k7 := lk_q (frm_s f4) kt
      have H8 := clsT_c f4 (fun a k q1 q2 => by omega) HXc
      have FR9 := frm_t FR0 (frm_m (S' := (fun a k => mE h ≤ a ∧ a < mE h + 54)) f4 (fun a k q => by omega))
      refine z_iconst (1) dX11_image_46 rfl ?_
      refine z_bret dX11_image_47 rfl (Or.inr rfl) ⟨rfl, ?_⟩
      exact z_q1 (p := True) (kq hc _ N FR9 p5) trivial
    · exfalso; omega
