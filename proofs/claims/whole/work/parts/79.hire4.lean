/-! HIRE: the class's bid -/
theorem dX4_bid_0 : decode cX4_bid 0 = .ok (.aload_n 0, 1) := by decide +kernel
theorem dX4_bid_1 : decode cX4_bid 1 = .ok (.aload_n 1, 1) := by decide +kernel
theorem dX4_bid_2 : decode cX4_bid 2 = .ok (.iload_n 2, 1) := by decide +kernel
theorem dX4_bid_3 : decode cX4_bid 3 = .ok (.invokevirtual 76, 3) := by decide +kernel
theorem dX4_bid_6 : decode cX4_bid 6 = .ok (.istore_n 3, 1) := by decide +kernel
theorem dX4_bid_7 : decode cX4_bid 7 = .ok (.iload_n 3, 1) := by decide +kernel
theorem dX4_bid_8 : decode cX4_bid 8 = .ok (.iconst (-1), 1) := by decide +kernel
theorem dX4_bid_9 : decode cX4_bid 9 = .ok (.if_icmp .eq 18, 3) := by decide +kernel
theorem dX4_bid_12 : decode cX4_bid 12 = .ok (.aload_n 1, 1) := by decide +kernel
theorem dX4_bid_13 : decode cX4_bid 13 = .ok (.iload_n 2, 1) := by decide +kernel
theorem dX4_bid_14 : decode cX4_bid 14 = .ok (.iload_n 3, 1) := by decide +kernel
theorem dX4_bid_15 : decode cX4_bid 15 = .ok (.invokevirtual 64, 3) := by decide +kernel
theorem dX4_bid_18 : decode cX4_bid 18 = .ok (.aload_n 0, 1) := by decide +kernel
theorem dX4_bid_19 : decode cX4_bid 19 = .ok (.getfield 15, 3) := by decide +kernel
theorem dX4_bid_22 : decode cX4_bid 22 = .ok (.iload_n 3, 1) := by decide +kernel
theorem dX4_bid_23 : decode cX4_bid 23 = .ok (.iaload, 1) := by decide +kernel
theorem dX4_bid_24 : decode cX4_bid 24 = .ok (.if_icmp .ge 16, 3) := by decide +kernel
theorem dX4_bid_27 : decode cX4_bid 27 = .ok (.aload_n 0, 1) := by decide +kernel
theorem dX4_bid_28 : decode cX4_bid 28 = .ok (.dup, 1) := by decide +kernel
theorem dX4_bid_29 : decode cX4_bid 29 = .ok (.getfield 25, 3) := by decide +kernel
theorem dX4_bid_32 : decode cX4_bid 32 = .ok (.iconst 1, 1) := by decide +kernel
theorem dX4_bid_33 : decode cX4_bid 33 = .ok (.iload_n 2, 1) := by decide +kernel
theorem dX4_bid_34 : decode cX4_bid 34 = .ok (.ishl, 1) := by decide +kernel
theorem dX4_bid_35 : decode cX4_bid 35 = .ok (.ior, 1) := by decide +kernel
theorem dX4_bid_36 : decode cX4_bid 36 = .ok (.putfield 25, 3) := by decide +kernel
theorem dX4_bid_39 : decode cX4_bid 39 = .ok (.return_, 1) := by decide +kernel
theorem dX4_bid_40 : decode cX4_bid 40 = .ok (.aload_n 0, 1) := by decide +kernel
theorem dX4_bid_41 : decode cX4_bid 41 = .ok (.getfield 22, 3) := by decide +kernel
theorem dX4_bid_44 : decode cX4_bid 44 = .ok (.iload_n 3, 1) := by decide +kernel
theorem dX4_bid_45 : decode cX4_bid 45 = .ok (.iaload, 1) := by decide +kernel
theorem dX4_bid_46 : decode cX4_bid 46 = .ok (.iconst (-1), 1) := by decide +kernel
theorem dX4_bid_47 : decode cX4_bid 47 = .ok (.if_icmp .eq 25, 3) := by decide +kernel
theorem dX4_bid_50 : decode cX4_bid 50 = .ok (.aload_n 0, 1) := by decide +kernel
theorem dX4_bid_51 : decode cX4_bid 51 = .ok (.getfield 15, 3) := by decide +kernel
theorem dX4_bid_54 : decode cX4_bid 54 = .ok (.iload_n 3, 1) := by decide +kernel
theorem dX4_bid_55 : decode cX4_bid 55 = .ok (.dup2, 1) := by decide +kernel
theorem dX4_bid_56 : decode cX4_bid 56 = .ok (.iaload, 1) := by decide +kernel
theorem dX4_bid_57 : decode cX4_bid 57 = .ok (.iconst 1, 1) := by decide +kernel
theorem dX4_bid_58 : decode cX4_bid 58 = .ok (.iadd, 1) := by decide +kernel
theorem dX4_bid_59 : decode cX4_bid 59 = .ok (.iastore, 1) := by decide +kernel
theorem dX4_bid_60 : decode cX4_bid 60 = .ok (.aload_n 0, 1) := by decide +kernel
theorem dX4_bid_61 : decode cX4_bid 61 = .ok (.getfield 9, 3) := by decide +kernel
theorem dX4_bid_64 : decode cX4_bid 64 = .ok (.aload_n 0, 1) := by decide +kernel
theorem dX4_bid_65 : decode cX4_bid 65 = .ok (.getfield 22, 3) := by decide +kernel
theorem dX4_bid_68 : decode cX4_bid 68 = .ok (.iload_n 3, 1) := by decide +kernel
theorem dX4_bid_69 : decode cX4_bid 69 = .ok (.iaload, 1) := by decide +kernel
theorem dX4_bid_70 : decode cX4_bid 70 = .ok (.iconst (-1), 1) := by decide +kernel
theorem dX4_bid_71 : decode cX4_bid 71 = .ok (.iastore, 1) := by decide +kernel
theorem dX4_bid_72 : decode cX4_bid 72 = .ok (.aload_n 0, 1) := by decide +kernel
theorem dX4_bid_73 : decode cX4_bid 73 = .ok (.getfield 22, 3) := by decide +kernel
theorem dX4_bid_76 : decode cX4_bid 76 = .ok (.iload_n 3, 1) := by decide +kernel
theorem dX4_bid_77 : decode cX4_bid 77 = .ok (.iload_n 2, 1) := by decide +kernel
theorem dX4_bid_78 : decode cX4_bid 78 = .ok (.iastore, 1) := by decide +kernel
theorem dX4_bid_79 : decode cX4_bid 79 = .ok (.aload_n 0, 1) := by decide +kernel
theorem dX4_bid_80 : decode cX4_bid 80 = .ok (.getfield 9, 3) := by decide +kernel
theorem dX4_bid_83 : decode cX4_bid 83 = .ok (.iload_n 2, 1) := by decide +kernel
theorem dX4_bid_84 : decode cX4_bid 84 = .ok (.iload_n 3, 1) := by decide +kernel
theorem dX4_bid_85 : decode cX4_bid 85 = .ok (.iastore, 1) := by decide +kernel
theorem dX4_bid_86 : decode cX4_bid 86 = .ok (.return_, 1) := by decide +kernel
set_option maxRecDepth 20000 in
theorem tm_4_76 : tMet TB0 4 76 = some (0, M_X4_bestWorth) := rfl
theorem gotZ_6 : gotZ 6 = -1 := rfl
theorem gotZ_u {u : Int} (h : u < 6) : gotZ u = u := if_neg (by omega)
set_option maxHeartbeats 3000000 in
theorem zp_X4_bid {ad : mA} {dd : Nat} {h : mH} {Q : mQ} {y f : Nat} {g r t w : Int → Int} {l : Int} (hk : mkk h y) (hk1 : fgk h f) (HF : isF h f g) (HH : hiC h y g r t w l)  (d : Int) (d_r : -2147483648 ≤ d ∧ d < 2147483648) (p1 : 0 ≤ d ∧ d < nd g) (pr6 : r d = 6) (pf : y + 4 ≤ f ∨ f + 16 ≤ y) (kq : ∀ h1, frm (fun a k => (a = y ∧ k = 4) ∨ (y + 1 ≤ a ∧ a ≤ y + 3)) h h1 → (hiC h1 y g (bdR g r t w d) (bdT g t w d) (bdW g t w d) (bdL g w l d)) → Q none h1) : mCal TB0 ad (dd + 4) M_X4_bid [.ref y, .ref f, .int (zI d)] h 0 0 Q := by
  refine ⟨Nat.le_of_ble_eq_true rfl, ?_⟩
  show mEv TB0 ad M_X4_bid (dd + 4) (0, 0) (mCal TB0 ad (dd + 3)) (fun v h' z => z.1 = 0 ∧ Q v h') 0 [some (.ref y), some (.ref f), some (.int (zI d)), none] [] h (0, 0)
  have FR0 : frm (fun a k => (a = y ∧ k = 4) ∨ (y + 1 ≤ a ∧ a ≤ y + 3)) h h := frm_0 h
  have w1 := isF_n HF
  have w2 := isF_nd HF
  have w3 := isF_nu HF
  have w4 := isF_nc HF
  have W := isF_w HF
  have wl := HH.1.2.2.2
  refine e_aload_n dX4_bid_0 rfl ?_
  refine e_aload_n dX4_bid_1 rfl ?_
  refine e_iload_n dX4_bid_2 rfl ?_
  refine e_callV [.ref _, .int _] dX4_bid_3 tm_4_76 rfl (Nat.le_of_ble_eq_true rfl) (congrArg Prod.fst (mk_s0 hk)) (Nat.le_of_ble_eq_true rfl) (Nat.le_refl _) (Nat.le_refl _) rfl (zp_X4_bestWorth hk hk1 HF HH d ⟨by omega, by omega⟩ (by omega) (fun v1 p2 => ?_))
  have fb := fmax_b (by assumption : fmax (fun _ => True) (wth g w d) (nu g) v1)
  have eb : v1 = bwZ g w d := bwZ_u (by omega) (by assumption)
  refine e_istore_n (L' := [_, _, _, _]) dX4_bid_6 (Nat.le_of_ble_eq_true rfl) rfl ?_
  refine e_iload_n dX4_bid_7 rfl ?_
  refine z_iconst (-1) dX4_bid_8 rfl ?_
  refine z_icmp_eq 27 dX4_bid_9 rfl ⟨by omega, by omega⟩ ⟨by omega, by omega⟩ (fun c3 => ?_) (fun c3 => ?_)
  · skip
    refine e_aload_n dX4_bid_27 rfl ?_
    refine e_dup dX4_bid_28 rfl ?_
    refine z_get l dX4_bid_29 tf_4_25 (congrArg Prod.fst (mk_s0 hk)) (Or.inl rfl) HH.2.2.2.2 ?_
    have y4 := HH.1.2.2.2
    refine z_iconst (1) dX4_bid_32 rfl ?_
    refine e_iload_n dX4_bid_33 rfl ?_
    refine z_ishl dX4_bid_34 (by omega) (by omega) (by omega) (by omega) ?_
    have y5 := shlZ_b 1 d
    refine z_ior dX4_bid_35 (by omega) (by omega) (by omega) (by omega) ?_
    have y6 := orZ_b l (shlZ 1 d)
    refine z_put dX4_bid_36 tf_4_25 (congrArg Prod.fst (mk_s0 hk)) rfl (Or.inl rfl) (fun h7 e8 => ?_)
    have f9 := frm_1 e8
    have k10 := lk_q (frm_s f9) hk
    have k11 := lk_q (frm_s f9) hk1
    have H12 := isF_c f9 (fun a k q1 q2 => by omega) HF
    have FR13 := frm_t FR0 (frm_m (S' := (fun a k => (a = y ∧ k = 4) ∨ (y + 1 ≤ a ∧ a ≤ y + 3))) f9 (fun a k q => by omega))
    refine e_vret dX4_bid_39 rfl ⟨rfl, ?_⟩
    have X : bdX g w d := by unfold bdX; rw [← eb]; omega
    have e1 : bdR g r t w d = r := by unfold bdR; rw [if_pos X]
    have e2 : bdT g t w d = t := by unfold bdT; rw [if_pos X]
    have e3 : bdW g t w d = w := by unfold bdW; rw [if_pos X]
    have e4 : bdL g w l d = orZ l (b1 d) := by unfold bdL; rw [if_pos X]
    refine kq _ FR13 ?_
    rw [e1, e2, e3, e4]
    exact ⟨wfH_l HH.1 (by omega), fun i a c => ((frm_r f9 (by omega))).trans (HH.2.1 i a c), fun i a c => ((frm_r f9 (by omega))).trans (HH.2.2.1 i a c), fun i a c => ((frm_r f9 (by omega))).trans (HH.2.2.2.1 i a c), (show rI h7 y 4 = (orZ l (shlZ 1 d)) from (rI_eq e8 ⟨by omega, by omega⟩))⟩
  · skip
    refine e_aload_n dX4_bid_12 rfl ?_
    refine e_iload_n dX4_bid_13 rfl ?_
    refine e_iload_n dX4_bid_14 rfl ?_
    refine e_callV [.int _, .int _] dX4_bid_15 tm_4_64 rfl (Nat.le_of_ble_eq_true rfl) (congrArg Prod.fst (fg_s0 hk1)) (Nat.le_of_ble_eq_true rfl) (Nat.le_refl _) (Nat.le_refl _) rfl (zp_X2_fitOf hk1 HF d ⟨by omega, by omega⟩ v1 ⟨by omega, by omega⟩ ?_)
    have y14 := fitC_s g d v1
    refine e_aload_n dX4_bid_18 rfl ?_
    refine e_get (.ref (y + 2)) dX4_bid_19 tf_4_15 (congrArg Prod.fst (mk_s0 hk)) (congrArg va_rf (mk_r0_1 hk)) ?_
    refine e_iload_n dX4_bid_22 rfl ?_
    refine z_ild (w v1) dX4_bid_23 (mk_s2 hk) (by decide) (by omega) (by omega) (HH.2.2.1 v1 (by omega) (by omega)) ?_
    have y15 := HH.1.2.2.1 v1 (by omega) (by omega)
    refine z_icmp_ge 40 dX4_bid_24 rfl ⟨by omega, by omega⟩ ⟨by omega, by omega⟩ (fun c16 => ?_) (fun c16 => ?_)
    · skip
      refine e_aload_n dX4_bid_40 rfl ?_
      refine e_get (.ref (y + 3)) dX4_bid_41 tf_4_22 (congrArg Prod.fst (mk_s0 hk)) (congrArg va_rf (mk_r0_3 hk)) ?_
      refine e_iload_n dX4_bid_44 rfl ?_
      refine z_ild (t v1) dX4_bid_45 (mk_s3 hk) (by decide) (by omega) (by omega) (HH.2.2.2.1 v1 (by omega) (by omega)) ?_
      have y17 := HH.1.2.1 v1 (by omega) (by omega)
      refine z_iconst (-1) dX4_bid_46 rfl ?_
      refine z_icmp_eq 72 dX4_bid_47 rfl ⟨by omega, by omega⟩ ⟨by omega, by omega⟩ (fun c18 => ?_) (fun c18 => ?_)
      · skip
        refine e_aload_n dX4_bid_72 rfl ?_
        refine e_get (.ref (y + 3)) dX4_bid_73 tf_4_22 (congrArg Prod.fst (mk_s0 hk)) (congrArg va_rf (mk_r0_3 hk)) ?_
        refine e_iload_n dX4_bid_76 rfl ?_
        refine e_iload_n dX4_bid_77 rfl ?_
        refine z_ist dX4_bid_78 (mk_s3 hk) (by decide) (by omega) (by omega) (fun h19 e20 => ?_)
        have f21 := frm_1 e20
        have k22 := lk_q (frm_s f21) hk
        have k23 := lk_q (frm_s f21) hk1
        have H24 := isF_c f21 (fun a k q1 q2 => by omega) HF
        have FR25 := frm_t FR0 (frm_m (S' := (fun a k => (a = y ∧ k = 4) ∨ (y + 1 ≤ a ∧ a ≤ y + 3))) f21 (fun a k q => by omega))
        refine e_aload_n dX4_bid_79 rfl ?_
        refine e_get (.ref (y + 1)) dX4_bid_80 tf_4_9 (congrArg Prod.fst (mk_s0 k22)) (congrArg va_rf (mk_r0_0 k22)) ?_
        refine e_iload_n dX4_bid_83 rfl ?_
        refine e_iload_n dX4_bid_84 rfl ?_
        refine z_ist dX4_bid_85 (mk_s1 k22) (by decide) (by omega) (by omega) (fun h26 e27 => ?_)
        have f28 := frm_1 e27
        have k29 := lk_q (frm_s f28) k22
        have k30 := lk_q (frm_s f28) k23
        have H31 := isF_c f28 (fun a k q1 q2 => by omega) H24
        have FR32 := frm_t FR25 (frm_m (S' := (fun a k => (a = y ∧ k = 4) ∨ (y + 1 ≤ a ∧ a ≤ y + 3))) f28 (fun a k q => by omega))
        refine e_vret dX4_bid_86 rfl ⟨rfl, ?_⟩
        have X : ¬ bdX g w d := by unfold bdX; rw [← eb]; omega
        have T : t (bwZ g w d) = -1 := by rw [← eb]; omega
        have e1 : bdR g r t w d = setG r d v1 := by unfold bdR; rw [if_neg X, if_pos T, ← eb]
        have e2 : bdT g t w d = setG t v1 d := by unfold bdT; rw [if_neg X, ← eb]
        have e3 : bdW g t w d = w := by unfold bdW; rw [if_neg X, if_pos T]
        have e4 : bdL g w l d = l := by unfold bdL; rw [if_neg X]
        refine kq _ FR32 ?_
        rw [e1, e2, e3, e4]
        refine ⟨wfH_t HH.1 (by omega) p1 (by omega) pr6 (by omega), fun i a c => ?_, fun i a c => ?_, fun i a c => ?_, (((frm_r f28 (by omega)).trans (frm_r f21 (by omega)))).trans HH.2.2.2.2⟩
        · unfold setG
          by_cases q : i = d
          · rw [if_pos q, q, gotZ_u (by omega)]; exact (rI_eq e27 ⟨by omega, by omega⟩)
          · rw [if_neg q]
            exact (((frm_r f28 (by omega)).trans (frm_r f21 (by omega)))).trans (HH.2.1 i a c)
        · exact (((frm_r f28 (by omega)).trans (frm_r f21 (by omega)))).trans (HH.2.2.1 i a c)
        · unfold setG
          by_cases q : i = v1
          · rw [if_pos q, q]; exact ((frm_r f28 (by omega)).trans (rI_eq e20 ⟨by omega, by omega⟩))
          · rw [if_neg q]; exact (((frm_r f28 (by omega)).trans (frm_r f21 (by omega)))).trans (HH.2.2.2.1 i a c)
      · skip
        refine e_aload_n dX4_bid_50 rfl ?_
        refine e_get (.ref (y + 2)) dX4_bid_51 tf_4_15 (congrArg Prod.fst (mk_s0 hk)) (congrArg va_rf (mk_r0_1 hk)) ?_
        refine e_iload_n dX4_bid_54 rfl ?_
        refine e_dup2 dX4_bid_55 rfl rfl ?_
        refine z_ild (w v1) dX4_bid_56 (mk_s2 hk) (by decide) (by omega) (by omega) (HH.2.2.1 v1 (by omega) (by omega)) ?_
        have y33 := HH.1.2.2.1 v1 (by omega) (by omega)
        refine z_iconst (1) dX4_bid_57 rfl ?_
        refine z_iadd dX4_bid_58 ?_
        refine z_ist dX4_bid_59 (mk_s2 hk) (by decide) (by omega) (by omega) (fun h34 e35 => ?_)
        have f36 := frm_1 e35
        have k37 := lk_q (frm_s f36) hk
        have k38 := lk_q (frm_s f36) hk1
        have H39 := isF_c f36 (fun a k q1 q2 => by omega) HF
        have FR40 := frm_t FR0 (frm_m (S' := (fun a k => (a = y ∧ k = 4) ∨ (y + 1 ≤ a ∧ a ≤ y + 3))) f36 (fun a k q => by omega))
        refine e_aload_n dX4_bid_60 rfl ?_
        refine e_get (.ref (y + 1)) dX4_bid_61 tf_4_9 (congrArg Prod.fst (mk_s0 k37)) (congrArg va_rf (mk_r0_0 k37)) ?_
        refine e_aload_n dX4_bid_64 rfl ?_
        refine e_get (.ref (y + 3)) dX4_bid_65 tf_4_22 (congrArg Prod.fst (mk_s0 k37)) (congrArg va_rf (mk_r0_3 k37)) ?_
        refine e_iload_n dX4_bid_68 rfl ?_
        refine z_ild (t v1) dX4_bid_69 (mk_s3 k37) (by decide) (by omega) (by omega) ((frm_r f36 (by omega)).trans (HH.2.2.2.1 v1 (by omega) (by omega))) ?_
        have y41 := HH.1.2.1 v1 (by omega) (by omega)
        refine z_iconst (-1) dX4_bid_70 rfl ?_
        refine z_ist dX4_bid_71 (mk_s1 k37) (by decide) (by omega) (by omega) (fun h42 e43 => ?_)
        have f44 := frm_1 e43
        have k45 := lk_q (frm_s f44) k37
        have k46 := lk_q (frm_s f44) k38
        have H47 := isF_c f44 (fun a k q1 q2 => by omega) H39
        have FR48 := frm_t FR40 (frm_m (S' := (fun a k => (a = y ∧ k = 4) ∨ (y + 1 ≤ a ∧ a ≤ y + 3))) f44 (fun a k q => by omega))
        refine e_aload_n dX4_bid_72 rfl ?_
        refine e_get (.ref (y + 3)) dX4_bid_73 tf_4_22 (congrArg Prod.fst (mk_s0 k45)) (congrArg va_rf (mk_r0_3 k45)) ?_
        refine e_iload_n dX4_bid_76 rfl ?_
        refine e_iload_n dX4_bid_77 rfl ?_
        refine z_ist dX4_bid_78 (mk_s3 k45) (by decide) (by omega) (by omega) (fun h49 e50 => ?_)
        have f51 := frm_1 e50
        have k52 := lk_q (frm_s f51) k45
        have k53 := lk_q (frm_s f51) k46
        have H54 := isF_c f51 (fun a k q1 q2 => by omega) H47
        have FR55 := frm_t FR48 (frm_m (S' := (fun a k => (a = y ∧ k = 4) ∨ (y + 1 ≤ a ∧ a ≤ y + 3))) f51 (fun a k q => by omega))
        refine e_aload_n dX4_bid_79 rfl ?_
        refine e_get (.ref (y + 1)) dX4_bid_80 tf_4_9 (congrArg Prod.fst (mk_s0 k52)) (congrArg va_rf (mk_r0_0 k52)) ?_
        refine e_iload_n dX4_bid_83 rfl ?_
        refine e_iload_n dX4_bid_84 rfl ?_
        refine z_ist dX4_bid_85 (mk_s1 k52) (by decide) (by omega) (by omega) (fun h56 e57 => ?_)
        have f58 := frm_1 e57
        have k59 := lk_q (frm_s f58) k52
        have k60 := lk_q (frm_s f58) k53
        have H61 := isF_c f58 (fun a k q1 q2 => by omega) H54
        have FR62 := frm_t FR55 (frm_m (S' := (fun a k => (a = y ∧ k = 4) ∨ (y + 1 ≤ a ∧ a ≤ y + 3))) f58 (fun a k q => by omega))
        refine e_vret dX4_bid_86 rfl ⟨rfl, ?_⟩
        have X : ¬ bdX g w d := by unfold bdX; rw [← eb]; omega
        have T : ¬ t (bwZ g w d) = -1 := by rw [← eb]; omega
        have e1 : bdR g r t w d = setG (setG r (t v1) 6) d v1 := by unfold bdR; rw [if_neg X, if_neg T, ← eb]
        have e2 : bdT g t w d = setG t v1 d := by unfold bdT; rw [if_neg X, ← eb]
        have e3 : bdW g t w d = setG w v1 (w v1 + 1) := by unfold bdW; rw [if_neg X, if_neg T, ← eb]
        have e4 : bdL g w l d = l := by unfold bdL; rw [if_neg X]
        refine kq _ FR62 ?_
        rw [e1, e2, e3, e4]
        refine ⟨wfH_r HH.1 (by omega) p1 (by omega) pr6 (by omega) (by omega), fun i a c => ?_, fun i a c => ?_, fun i a c => ?_, (((frm_r f58 (by omega)).trans ((frm_r f51 (by omega)).trans ((frm_r f44 (by omega)).trans (frm_r f36 (by omega)))))).trans HH.2.2.2.2⟩
        · unfold setG
          by_cases q : i = d
          · rw [if_pos q, q, gotZ_u (by omega)]; exact (rI_eq e57 ⟨by omega, by omega⟩)
          · rw [if_neg q]
            by_cases q2 : i = t v1
            · rw [if_pos q2, q2, gotZ_6]; exact (((frm_r f58 (by omega)).trans (frm_r f51 (by omega))).trans (rI_eq e43 ⟨by omega, by omega⟩))
            · rw [if_neg q2]; exact (((frm_r f58 (by omega)).trans ((frm_r f51 (by omega)).trans ((frm_r f44 (by omega)).trans (frm_r f36 (by omega)))))).trans (HH.2.1 i a c)
        · unfold setG
          by_cases q : i = v1
          · rw [if_pos q, q]; exact (((frm_r f58 (by omega)).trans ((frm_r f51 (by omega)).trans (frm_r f44 (by omega)))).trans (rI_eq e35 ⟨by omega, by omega⟩))
          · rw [if_neg q]; exact (((frm_r f58 (by omega)).trans ((frm_r f51 (by omega)).trans ((frm_r f44 (by omega)).trans (frm_r f36 (by omega)))))).trans (HH.2.2.1 i a c)
        · unfold setG
          by_cases q : i = v1
          · rw [if_pos q, q]; exact ((frm_r f58 (by omega)).trans (rI_eq e50 ⟨by omega, by omega⟩))
          · rw [if_neg q]; exact (((frm_r f58 (by omega)).trans ((frm_r f51 (by omega)).trans ((frm_r f44 (by omega)).trans (frm_r f36 (by omega)))))).trans (HH.2.2.2.1 i a c)
    · skip
      refine e_aload_n dX4_bid_27 rfl ?_
      refine e_dup dX4_bid_28 rfl ?_
      refine z_get l dX4_bid_29 tf_4_25 (congrArg Prod.fst (mk_s0 hk)) (Or.inl rfl) HH.2.2.2.2 ?_
      have y63 := HH.1.2.2.2
      refine z_iconst (1) dX4_bid_32 rfl ?_
      refine e_iload_n dX4_bid_33 rfl ?_
      refine z_ishl dX4_bid_34 (by omega) (by omega) (by omega) (by omega) ?_
      have y64 := shlZ_b 1 d
      refine z_ior dX4_bid_35 (by omega) (by omega) (by omega) (by omega) ?_
      have y65 := orZ_b l (shlZ 1 d)
      refine z_put dX4_bid_36 tf_4_25 (congrArg Prod.fst (mk_s0 hk)) rfl (Or.inl rfl) (fun h66 e67 => ?_)
      have f68 := frm_1 e67
      have k69 := lk_q (frm_s f68) hk
      have k70 := lk_q (frm_s f68) hk1
      have H71 := isF_c f68 (fun a k q1 q2 => by omega) HF
      have FR72 := frm_t FR0 (frm_m (S' := (fun a k => (a = y ∧ k = 4) ∨ (y + 1 ≤ a ∧ a ≤ y + 3))) f68 (fun a k q => by omega))
      refine e_vret dX4_bid_39 rfl ⟨rfl, ?_⟩
      have X : bdX g w d := by unfold bdX; rw [← eb]; omega
      have e1 : bdR g r t w d = r := by unfold bdR; rw [if_pos X]
      have e2 : bdT g t w d = t := by unfold bdT; rw [if_pos X]
      have e3 : bdW g t w d = w := by unfold bdW; rw [if_pos X]
      have e4 : bdL g w l d = orZ l (b1 d) := by unfold bdL; rw [if_pos X]
      refine kq _ FR72 ?_
      rw [e1, e2, e3, e4]
      exact ⟨wfH_l HH.1 (by omega), fun i a c => ((frm_r f68 (by omega))).trans (HH.2.1 i a c), fun i a c => ((frm_r f68 (by omega))).trans (HH.2.2.1 i a c), fun i a c => ((frm_r f68 (by omega))).trans (HH.2.2.2.1 i a c), (show rI h66 y 4 = (orZ l (shlZ 1 d)) from (rI_eq e67 ⟨by omega, by omega⟩))⟩
