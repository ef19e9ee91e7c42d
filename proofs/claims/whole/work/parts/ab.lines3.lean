/-! TEXT: deeds and clues, as the class takes them -/
theorem dX6_deedLine_0 : decode cX6_deedLine 0 = .ok (.aload_n 0, 1) := by decide +kernel
theorem dX6_deedLine_1 : decode cX6_deedLine 1 = .ok (.invokevirtual 183, 3) := by decide +kernel
theorem dX6_deedLine_4 : decode cX6_deedLine 4 = .ok (.istore_n 1, 1) := by decide +kernel
theorem dX6_deedLine_5 : decode cX6_deedLine 5 = .ok (.iload_n 1, 1) := by decide +kernel
theorem dX6_deedLine_6 : decode cX6_deedLine 6 = .ok (.iconst (-1), 1) := by decide +kernel
theorem dX6_deedLine_7 : decode cX6_deedLine 7 = .ok (.if_icmp .ne 8, 3) := by decide +kernel
theorem dX6_deedLine_10 : decode cX6_deedLine 10 = .ok (.aload_n 0, 1) := by decide +kernel
theorem dX6_deedLine_11 : decode cX6_deedLine 11 = .ok (.invokevirtual 143, 3) := by decide +kernel
theorem dX6_deedLine_14 : decode cX6_deedLine 14 = .ok (.ireturn, 1) := by decide +kernel
theorem dX6_deedLine_15 : decode cX6_deedLine 15 = .ok (.aload_n 0, 1) := by decide +kernel
theorem dX6_deedLine_16 : decode cX6_deedLine 16 = .ok (.aload_n 0, 1) := by decide +kernel
theorem dX6_deedLine_17 : decode cX6_deedLine 17 = .ok (.getfield 21, 3) := by decide +kernel
theorem dX6_deedLine_20 : decode cX6_deedLine 20 = .ok (.getfield 116, 3) := by decide +kernel
theorem dX6_deedLine_23 : decode cX6_deedLine 23 = .ok (.bipush 40, 2) := by decide +kernel
theorem dX6_deedLine_25 : decode cX6_deedLine 25 = .ok (.if_icmp .lt 7, 3) := by decide +kernel
theorem dX6_deedLine_28 : decode cX6_deedLine 28 = .ok (.iconst 1, 1) := by decide +kernel
theorem dX6_deedLine_29 : decode cX6_deedLine 29 = .ok (.goto 4, 3) := by decide +kernel
theorem dX6_deedLine_32 : decode cX6_deedLine 32 = .ok (.iconst 0, 1) := by decide +kernel
theorem dX6_deedLine_33 : decode cX6_deedLine 33 = .ok (.invokevirtual 146, 3) := by decide +kernel
theorem dX6_deedLine_36 : decode cX6_deedLine 36 = .ok (.aload_n 0, 1) := by decide +kernel
theorem dX6_deedLine_37 : decode cX6_deedLine 37 = .ok (.iload_n 1, 1) := by decide +kernel
theorem dX6_deedLine_38 : decode cX6_deedLine 38 = .ok (.invokevirtual 187, 3) := by decide +kernel
theorem dX6_deedLine_41 : decode cX6_deedLine 41 = .ok (.ifCond .ne 5, 3) := by decide +kernel
theorem dX6_deedLine_44 : decode cX6_deedLine 44 = .ok (.iconst 0, 1) := by decide +kernel
theorem dX6_deedLine_45 : decode cX6_deedLine 45 = .ok (.ireturn, 1) := by decide +kernel
theorem dX6_deedLine_46 : decode cX6_deedLine 46 = .ok (.aload_n 0, 1) := by decide +kernel
theorem dX6_deedLine_47 : decode cX6_deedLine 47 = .ok (.getfield 21, 3) := by decide +kernel
theorem dX6_deedLine_50 : decode cX6_deedLine 50 = .ok (.iload_n 1, 1) := by decide +kernel
theorem dX6_deedLine_51 : decode cX6_deedLine 51 = .ok (.aload_n 0, 1) := by decide +kernel
theorem dX6_deedLine_52 : decode cX6_deedLine 52 = .ok (.getfield 43, 3) := by decide +kernel
theorem dX6_deedLine_55 : decode cX6_deedLine 55 = .ok (.iconst 0, 1) := by decide +kernel
theorem dX6_deedLine_56 : decode cX6_deedLine 56 = .ok (.iaload, 1) := by decide +kernel
theorem dX6_deedLine_57 : decode cX6_deedLine 57 = .ok (.aload_n 0, 1) := by decide +kernel
theorem dX6_deedLine_58 : decode cX6_deedLine 58 = .ok (.getfield 43, 3) := by decide +kernel
theorem dX6_deedLine_61 : decode cX6_deedLine 61 = .ok (.iconst 1, 1) := by decide +kernel
theorem dX6_deedLine_62 : decode cX6_deedLine 62 = .ok (.iaload, 1) := by decide +kernel
theorem dX6_deedLine_63 : decode cX6_deedLine 63 = .ok (.invokevirtual 191, 3) := by decide +kernel
theorem dX6_deedLine_66 : decode cX6_deedLine 66 = .ok (.aload_n 0, 1) := by decide +kernel
theorem dX6_deedLine_67 : decode cX6_deedLine 67 = .ok (.invokevirtual 164, 3) := by decide +kernel
theorem dX6_deedLine_70 : decode cX6_deedLine 70 = .ok (.ireturn, 1) := by decide +kernel
theorem dX6_clueLine_0 : decode cX6_clueLine 0 = .ok (.aload_n 0, 1) := by decide +kernel
theorem dX6_clueLine_1 : decode cX6_clueLine 1 = .ok (.invokevirtual 208, 3) := by decide +kernel
theorem dX6_clueLine_4 : decode cX6_clueLine 4 = .ok (.istore_n 1, 1) := by decide +kernel
theorem dX6_clueLine_5 : decode cX6_clueLine 5 = .ok (.iload_n 1, 1) := by decide +kernel
theorem dX6_clueLine_6 : decode cX6_clueLine 6 = .ok (.ifCond .lt 8, 3) := by decide +kernel
theorem dX6_clueLine_9 : decode cX6_clueLine 9 = .ok (.iload_n 1, 1) := by decide +kernel
theorem dX6_clueLine_10 : decode cX6_clueLine 10 = .ok (.iconst 4, 1) := by decide +kernel
theorem dX6_clueLine_11 : decode cX6_clueLine 11 = .ok (.if_icmp .lt 8, 3) := by decide +kernel
theorem dX6_clueLine_14 : decode cX6_clueLine 14 = .ok (.aload_n 0, 1) := by decide +kernel
theorem dX6_clueLine_15 : decode cX6_clueLine 15 = .ok (.invokevirtual 143, 3) := by decide +kernel
theorem dX6_clueLine_18 : decode cX6_clueLine 18 = .ok (.ireturn, 1) := by decide +kernel
theorem dX6_clueLine_19 : decode cX6_clueLine 19 = .ok (.aload_n 0, 1) := by decide +kernel
theorem dX6_clueLine_20 : decode cX6_clueLine 20 = .ok (.aload_n 0, 1) := by decide +kernel
theorem dX6_clueLine_21 : decode cX6_clueLine 21 = .ok (.getfield 28, 3) := by decide +kernel
theorem dX6_clueLine_24 : decode cX6_clueLine 24 = .ok (.getfield 117, 3) := by decide +kernel
theorem dX6_clueLine_27 : decode cX6_clueLine 27 = .ok (.bipush 8, 2) := by decide +kernel
theorem dX6_clueLine_29 : decode cX6_clueLine 29 = .ok (.if_icmp .lt 7, 3) := by decide +kernel
theorem dX6_clueLine_32 : decode cX6_clueLine 32 = .ok (.iconst 1, 1) := by decide +kernel
theorem dX6_clueLine_33 : decode cX6_clueLine 33 = .ok (.goto 4, 3) := by decide +kernel
theorem dX6_clueLine_36 : decode cX6_clueLine 36 = .ok (.iconst 0, 1) := by decide +kernel
theorem dX6_clueLine_37 : decode cX6_clueLine 37 = .ok (.invokevirtual 146, 3) := by decide +kernel
theorem dX6_clueLine_40 : decode cX6_clueLine 40 = .ok (.aload_n 0, 1) := by decide +kernel
theorem dX6_clueLine_41 : decode cX6_clueLine 41 = .ok (.ldc 211, 2) := by decide +kernel
theorem dX6_clueLine_43 : decode cX6_clueLine 43 = .ok (.invokevirtual 123, 3) := by decide +kernel
theorem dX6_clueLine_46 : decode cX6_clueLine 46 = .ok (.istore_n 2, 1) := by decide +kernel
theorem dX6_clueLine_47 : decode cX6_clueLine 47 = .ok (.iload_n 2, 1) := by decide +kernel
theorem dX6_clueLine_48 : decode cX6_clueLine 48 = .ok (.ifCond .eq 7, 3) := by decide +kernel
theorem dX6_clueLine_51 : decode cX6_clueLine 51 = .ok (.aload_n 0, 1) := by decide +kernel
theorem dX6_clueLine_52 : decode cX6_clueLine 52 = .ok (.invokevirtual 118, 3) := by decide +kernel
theorem dX6_clueLine_55 : decode cX6_clueLine 55 = .ok (.aload_n 0, 1) := by decide +kernel
theorem dX6_clueLine_56 : decode cX6_clueLine 56 = .ok (.iconst 0, 1) := by decide +kernel
theorem dX6_clueLine_57 : decode cX6_clueLine 57 = .ok (.iconst 0, 1) := by decide +kernel
theorem dX6_clueLine_58 : decode cX6_clueLine 58 = .ok (.getstatic 213, 3) := by decide +kernel
theorem dX6_clueLine_61 : decode cX6_clueLine 61 = .ok (.iload_n 1, 1) := by decide +kernel
theorem dX6_clueLine_62 : decode cX6_clueLine 62 = .ok (.iaload, 1) := by decide +kernel
theorem dX6_clueLine_63 : decode cX6_clueLine 63 = .ok (.invokevirtual 156, 3) := by decide +kernel
theorem dX6_clueLine_66 : decode cX6_clueLine 66 = .ok (.ifCond .ne 5, 3) := by decide +kernel
theorem dX6_clueLine_69 : decode cX6_clueLine 69 = .ok (.iconst 0, 1) := by decide +kernel
theorem dX6_clueLine_70 : decode cX6_clueLine 70 = .ok (.ireturn, 1) := by decide +kernel
theorem dX6_clueLine_71 : decode cX6_clueLine 71 = .ok (.aload_n 0, 1) := by decide +kernel
theorem dX6_clueLine_72 : decode cX6_clueLine 72 = .ok (.getfield 28, 3) := by decide +kernel
theorem dX6_clueLine_75 : decode cX6_clueLine 75 = .ok (.iload_n 1, 1) := by decide +kernel
theorem dX6_clueLine_76 : decode cX6_clueLine 76 = .ok (.aload_n 0, 1) := by decide +kernel
theorem dX6_clueLine_77 : decode cX6_clueLine 77 = .ok (.getfield 43, 3) := by decide +kernel
theorem dX6_clueLine_80 : decode cX6_clueLine 80 = .ok (.iconst 0, 1) := by decide +kernel
theorem dX6_clueLine_81 : decode cX6_clueLine 81 = .ok (.iaload, 1) := by decide +kernel
theorem dX6_clueLine_82 : decode cX6_clueLine 82 = .ok (.iload_n 2, 1) := by decide +kernel
theorem dX6_clueLine_83 : decode cX6_clueLine 83 = .ok (.ifCond .ne 7, 3) := by decide +kernel
theorem dX6_clueLine_86 : decode cX6_clueLine 86 = .ok (.iconst 1, 1) := by decide +kernel
theorem dX6_clueLine_87 : decode cX6_clueLine 87 = .ok (.goto 4, 3) := by decide +kernel
theorem dX6_clueLine_90 : decode cX6_clueLine 90 = .ok (.iconst 0, 1) := by decide +kernel
theorem dX6_clueLine_91 : decode cX6_clueLine 91 = .ok (.invokevirtual 216, 3) := by decide +kernel
theorem dX6_clueLine_94 : decode cX6_clueLine 94 = .ok (.aload_n 0, 1) := by decide +kernel
theorem dX6_clueLine_95 : decode cX6_clueLine 95 = .ok (.invokevirtual 164, 3) := by decide +kernel
theorem dX6_clueLine_98 : decode cX6_clueLine 98 = .ok (.ireturn, 1) := by decide +kernel
theorem tf_6_116 : tFld TB0 6 116 = some (10, 3) := rfl
theorem tf_6_117 : tFld TB0 6 117 = some (1, 3) := rfl
set_option maxRecDepth 20000 in
theorem tm_6_183 : tMet TB0 6 183 = some (0, M_X6_deedSort) := rfl
set_option maxRecDepth 20000 in
theorem tm_6_187 : tMet TB0 6 187 = some (0, M_X6_takeDeedNumbers) := rfl
set_option maxRecDepth 20000 in
theorem tm_6_191 : tMet TB0 6 191 = some (0, M_X10_add) := rfl
set_option maxRecDepth 20000 in
theorem tm_6_208 : tMet TB0 6 208 = some (0, M_X6_clueSort) := rfl
set_option maxRecDepth 20000 in
theorem tm_6_216 : tMet TB0 6 216 = some (0, M_X1_add) := rfl
theorem tl_6_211 : tLdc TB0 6 211 = some (.inr 15) := rfl
theorem ts_6_213 : tSta TB0 6 213 = some 4 := rfl
/-! TEXT: deeds and clues, as the class takes them -/
theorem td2_1 {h : mH} {y : Nat} {T : Int → Int} {L p f q v : Int} (H : td2 h y T L p f q v) (z : v ≠ 0) : tkK T L p = 1 ∧ tkK T L (tkE T L p) = 1 ∧ rdP h y T L (tkE T L (tkE T L p)) ∧ rdF h y (ntF (¬ (0 ≤ tkV T L (tkE T L p) ∧ tkV T L (tkE T L p) ≤ 5)) 2 (ntF (¬ (0 ≤ tkV T L p ∧ tkV T L p ≤ 5)) 2 f)) (ntQ (¬ (0 ≤ tkV T L (tkE T L p) ∧ tkV T L (tkE T L p) ≤ 5)) (tkS T L (tkE T L p)) (ntF (¬ (0 ≤ tkV T L p ∧ tkV T L p ≤ 5)) 2 f) (ntQ (¬ (0 ≤ tkV T L p ∧ tkV T L p ≤ 5)) (tkS T L p) f q)) ∧ rI h (y + 26) 0 = tkV T L p ∧ rI h (y + 26) 1 = tkV T L (tkE T L p) := by
  rcases H with w | w | w
  · exact w.2
  · exact absurd w.1 z
  · exact absurd w.1 z
theorem td2_0 {h : mH} {y : Nat} {T : Int → Int} {L p f q v : Int} (H : td2 h y T L p f q v) (z : v = 0) : (tkK T L p ≠ 1 ∧ rdF h y 1 (tkS T L p)) ∨ (tkK T L p = 1 ∧ tkK T L (tkE T L p) ≠ 1 ∧ rdF h y 1 (tkS T L (tkE T L p))) := by
  rcases H with w | w | w
  · exact absurd w.1 (by omega)
  · exact Or.inl w.2
  · exact Or.inr w.2
theorem td4_1 {h : mH} {y : Nat} {T : Int → Int} {L p f q v : Int} (H : td4 h y T L p f q v) (z : v ≠ 0) : (tkW T L p = 1685026670 ∨ tkW T L p = 30064) ∧ tkK T L (tkE T L p) = 1 ∧ rdP h y T L (tkE T L (tkE T L p)) ∧ rdF h y (ntF (¬ (0 ≤ tkV T L (tkE T L p) ∧ tkV T L (tkE T L p) ≤ 5)) 2 f) (ntQ (¬ (0 ≤ tkV T L (tkE T L p) ∧ tkV T L (tkE T L p) ≤ 5)) (tkS T L (tkE T L p)) f q) ∧ rI h (y + 26) 0 = (if tkW T L p = 30064 then 1 else 0) ∧ rI h (y + 26) 1 = tkV T L (tkE T L p) := by
  rcases H with w | w | w
  · exact w.2
  · exact absurd w.1 z
  · exact absurd w.1 z
theorem td4_0 {h : mH} {y : Nat} {T : Int → Int} {L p f q v : Int} (H : td4 h y T L p f q v) (z : v = 0) : (¬ (tkW T L p = 1685026670 ∨ tkW T L p = 30064) ∧ rdF h y 1 (tkS T L p)) ∨ ((tkW T L p = 1685026670 ∨ tkW T L p = 30064) ∧ tkK T L (tkE T L p) ≠ 1 ∧ rdF h y 1 (tkS T L (tkE T L p))) := by
  rcases H with w | w | w
  · exact absurd w.1 (by omega)
  · exact Or.inl w.2
  · exact Or.inr w.2
set_option maxHeartbeats 4000000 in
theorem zp_X6_deedLine_rivet {ad : mA} {dd : Nat} {h : mH} {Q : mQ} {y : Nat} {T Y : Int → Int} {L p f q : Int} (hk : rdk h y) (HT : rdT h y T L) (HP : rdP h y T L p) (HF : rdF h y f q) (HG : rwY h (y + 17) Y) (HA : adK ad)  (py : 0 ≤ Y 0 ∧ Y 0 ≤ 40) (pu : tkW T L p = 491395638644) (kq : ∀ v : Int, (v = 0 ∨ v = 1) → ∀ h1, frm (fun a k => (a = y ∧ (k = 3 ∨ k = 4 ∨ (8 ≤ k ∧ k ≤ 11))) ∨ (y + 17 ≤ a ∧ a < y + 25) ∨ a = y + 26) h h1 → (lnO h1 y T L [(0, 5), (0, 5)] (tkE T L p) (ntF (40 ≤ Y 0) 3 f) (ntQ (40 ≤ Y 0) (tkS T L p) f q) v (rwY h1 (y + 17) (adY 40 Y 0 (tkV T L (tkE T L p)) (tkV T L (tkE T L (tkE T L p)))))) → Q (some (.int (zI v))) h1) : mCal TB0 ad (dd + 9) M_X6_deedLine [.ref y] h 0 0 Q := by
  refine ⟨Nat.le_of_ble_eq_true rfl, ?_⟩
  show mEv TB0 ad M_X6_deedLine (dd + 9) (0, 0) (mCal TB0 ad (dd + 8)) (fun v h' z => z.1 = 0 ∧ Q v h') 0 [some (.ref y), none] [] h (0, 0)
  have FR0 : frm (fun a k => (a = y ∧ (k = 3 ∨ k = 4 ∨ (8 ≤ k ∧ k ≤ 11))) ∨ (y + 17 ≤ a ∧ a < y + 25) ∨ a = y + 26) h h := frm_0 h
  have w1 := HT.1
  have tb := tk_b (T := T) HP.1.1 HP.1.2
  have p0 := HP.1
  refine e_aload_n dX6_deedLine_0 rfl ?_
  refine e_callV [] dX6_deedLine_1 tm_6_183 rfl (Nat.le_of_ble_eq_true rfl) (congrArg Prod.fst (rd_s0 hk)) (Nat.le_of_ble_eq_true rfl) (Nat.le_refl _) (Nat.le_refl _) rfl (zp_X6_deedSort_rivet hk HT HP HA (by omega) ?_)
  refine e_istore_n (L' := [_, _]) dX6_deedLine_4 (Nat.le_of_ble_eq_true rfl) rfl ?_
  refine e_iload_n dX6_deedLine_5 rfl ?_
  refine z_iconst (-1) dX6_deedLine_6 rfl ?_
  refine z_icmp_ne 15 dX6_deedLine_7 rfl ⟨by omega, by omega⟩ ⟨by omega, by omega⟩ (fun c1 => ?_) (fun c1 => ?_)
  · skip
    refine e_aload_n dX6_deedLine_15 rfl ?_
    refine e_aload_n dX6_deedLine_16 rfl ?_
    refine e_get (.ref (y + 17)) dX6_deedLine_17 tf_6_21 (congrArg Prod.fst (rd_s0 hk)) (congrArg va_rf (rd_r0_1 hk)) ?_
    refine z_get (Y 0) dX6_deedLine_20 tf_6_116 (congrArg Prod.fst (rd_s17 hk)) (Or.inl rfl) HG.1 ?_
    refine z_bipush (40) dX6_deedLine_23 rfl ?_
    refine z_icmp_lt 32 dX6_deedLine_25 rfl ⟨by omega, by omega⟩ ⟨by omega, by omega⟩ (fun c2 => ?_) (fun c2 => ?_)
    · skip
      refine z_iconst (0) dX6_deedLine_32 rfl ?_
      refine e_callV [.int _] dX6_deedLine_33 tm_6_146 rfl (Nat.le_of_ble_eq_true rfl) (congrArg Prod.fst (rd_s0 hk)) (Nat.le_of_ble_eq_true rfl) (Nat.le_refl _) (Nat.le_refl _) rfl (zp_X6_beginLine hk HT HP HF False (fun  h3 f4 p5 p6 p7 => ?_))
      have k8 := lk_q (frm_s f4) hk
      have H9 := rdT_c f4 (fun a k q => by omega) HT
      have H10 := rwY_c f4 (fun a k q1 q2 => by omega) HG
      have FR11 := frm_t FR0 (frm_m (S' := (fun a k => (a = y ∧ (k = 3 ∨ k = 4 ∨ (8 ≤ k ∧ k ≤ 11))) ∨ (y + 17 ≤ a ∧ a < y + 25) ∨ a = y + 26)) f4 (fun a k q => by omega))
      have F12 : rdF h3 y (ntF (40 ≤ Y 0) 3 f) (ntQ (40 ≤ Y 0) (tkS T L p) f q) := by rw [(nt_iff (c := 40 ≤ Y 0) (c' := False) (k := 3) (s := tkS T L p) (f := f) (q := q) ⟨fun z => absurd z (by omega), fun z => z.elim⟩).1, (nt_iff (c := 40 ≤ Y 0) (c' := False) (k := 3) (s := tkS T L p) (f := f) (q := q) ⟨fun z => absurd z (by omega), fun z => z.elim⟩).2]; exact p6
      refine e_aload_n dX6_deedLine_36 rfl ?_
      refine e_iload_n dX6_deedLine_37 rfl ?_
      refine e_callV [.int _] dX6_deedLine_38 tm_6_187 rfl (Nat.le_of_ble_eq_true rfl) (congrArg Prod.fst (rd_s0 k8)) (Nat.le_of_ble_eq_true rfl) (Nat.le_refl _) (Nat.le_refl _) rfl (zp_X6_takeDeedNumbers_0 k8 H9 p5 F12 (fun v13 p14 h15 f16 p17 => ?_))
      have k18 := lk_q (frm_s f16) k8
      have H19 := rdT_c f16 (fun a k q => by omega) H9
      have H20 := rwY_c f16 (fun a k q1 q2 => by omega) H10
      have FR21 := frm_t FR11 (frm_m (S' := (fun a k => (a = y ∧ (k = 3 ∨ k = 4 ∨ (8 ≤ k ∧ k ≤ 11))) ∨ (y + 17 ≤ a ∧ a < y + 25) ∨ a = y + 26)) f16 (fun a k q => by omega))
      skip
      refine z_if_ne 46 dX6_deedLine_41 rfl ⟨by omega, by omega⟩ (fun c22 => ?_) (fun c22 => ?_)
      · skip
        obtain ⟨K23a, K23b, K23p, K23f, K23c, K23d⟩ := td2_1 p17 (by omega)
        refine e_aload_n dX6_deedLine_46 rfl ?_
        refine e_get (.ref (y + 17)) dX6_deedLine_47 tf_6_21 (congrArg Prod.fst (rd_s0 k18)) (congrArg va_rf (rd_r0_1 k18)) ?_
        refine e_iload_n dX6_deedLine_50 rfl ?_
        refine e_aload_n dX6_deedLine_51 rfl ?_
        refine e_get (.ref (y + 26)) dX6_deedLine_52 tf_6_43 (congrArg Prod.fst (rd_s0 k18)) (congrArg va_rf (rd_r0_6 k18)) ?_
        refine z_iconst (0) dX6_deedLine_55 rfl ?_
        refine z_ild (tkV T L (tkE T L p)) dX6_deedLine_56 (rd_s26 k18) (by decide) (by omega) (by omega) K23c ?_
        have y24 := tv_b K23a
        refine e_aload_n dX6_deedLine_57 rfl ?_
        refine e_get (.ref (y + 26)) dX6_deedLine_58 tf_6_43 (congrArg Prod.fst (rd_s0 k18)) (congrArg va_rf (rd_r0_6 k18)) ?_
        refine z_iconst (1) dX6_deedLine_61 rfl ?_
        refine z_ild (tkV T L (tkE T L (tkE T L p))) dX6_deedLine_62 (rd_s26 k18) (by decide) (by omega) (by omega) K23d ?_
        have y25 := tv_b K23b
        have SZ : rI h15 (y + 17) 3 = Y 0 := H20.1
        refine e_callV [.int _, .int _, .int _] dX6_deedLine_63 tm_6_191 rfl (Nat.le_of_ble_eq_true rfl) (congrArg Prod.fst (rd_s17 k18)) (Nat.le_of_ble_eq_true rfl) (Nat.le_refl _) (Nat.le_refl _) rfl (zp_X10_add (rd_yr17 k18) (Y 0) 0 ⟨by omega, by omega⟩ (tkV T L (tkE T L p)) ⟨by omega, by omega⟩ (tkV T L (tkE T L (tkE T L p))) ⟨by omega, by omega⟩ ⟨SZ, by omega, by omega⟩ (fun  h26 f27 p28 => ?_))
        have k29 := lk_q (frm_s f27) k18
        have H30 := rdT_c f27 (fun a k q => by omega) H19
        have H31 := rdP_c f27 (fun a k q => by omega) K23p
        have H32 := rdF_c f27 (fun a k q => by omega) K23f
        have FR33 := frm_t FR21 (frm_m (S' := (fun a k => (a = y ∧ (k = 3 ∨ k = 4 ∨ (8 ≤ k ∧ k ≤ 11))) ∨ (y + 17 ≤ a ∧ a < y + 25) ∨ a = y + 26)) f27 (fun a k q => by omega))
        have G1 : rwY h26 (y + 17) (adY 40 Y 0 (tkV T L (tkE T L p)) (tkV T L (tkE T L (tkE T L p)))) := rwY_a py.1 H20 f27 p28
        refine e_aload_n dX6_deedLine_66 rfl ?_
        refine e_callV [] dX6_deedLine_67 tm_6_164 rfl (Nat.le_of_ble_eq_true rfl) (congrArg Prod.fst (rd_s0 k29)) (Nat.le_of_ble_eq_true rfl) (Nat.le_refl _) (Nat.le_refl _) rfl (zp_X6_takeStop k29 H30 H31 H32 (fun v34 p35 h36 f37 p38 => ?_))
        have k39 := lk_q (frm_s f37) k29
        have H40 := rdT_c f37 (fun a k q => by omega) H30
        have H41 := rwY_c f37 (fun a k q1 q2 => by omega) G1
        have FR42 := frm_t FR33 (frm_m (S' := (fun a k => (a = y ∧ (k = 3 ∨ k = 4 ∨ (8 ≤ k ∧ k ≤ 11))) ∨ (y + 17 ≤ a ∧ a < y + 25) ∨ a = y + 26)) f37 (fun a k q => by omega))
        skip
        refine z_bret dX6_deedLine_70 rfl (by omega) ⟨rfl, ?_⟩
        rcases p38 with ⟨w, k5, P5, F5⟩ | ⟨w, k5, F5⟩
        · exact kq _ (Or.inr w) _ FR42 (Or.inl ⟨w, ⟨K23a, K23b, k5⟩, P5, F5, H41⟩)
        · exact kq _ (Or.inl w) _ FR42 (Or.inr ⟨w, fun z => k5 z.2.2, by rw [xp_y K23a, xp_y K23b]; exact F5⟩)
      · skip
        refine z_iconst (0) dX6_deedLine_44 rfl ?_
        refine z_bret dX6_deedLine_45 rfl (Or.inl rfl) ⟨rfl, ?_⟩
        rcases td2_0 p17 (by omega) with ⟨k0, f0⟩ | ⟨k1, k0, f0⟩
        · exact kq 0 (Or.inl rfl) _ FR21 (Or.inr ⟨rfl, fun z => k0 z.1, by rw [xp_n k0]; exact f0⟩)
        · exact kq 0 (Or.inl rfl) _ FR21 (Or.inr ⟨rfl, fun z => k0 z.2.1, by rw [xp_y k1, xp_n k0]; exact f0⟩)
    · skip
      refine z_iconst (1) dX6_deedLine_28 rfl ?_
      refine e_goto 33 dX6_deedLine_29 rfl ?_
      refine e_callV [.int _] dX6_deedLine_33 tm_6_146 rfl (Nat.le_of_ble_eq_true rfl) (congrArg Prod.fst (rd_s0 hk)) (Nat.le_of_ble_eq_true rfl) (Nat.le_refl _) (Nat.le_refl _) rfl (zp_X6_beginLine hk HT HP HF True (fun  h43 f44 p45 p46 p47 => ?_))
      have k48 := lk_q (frm_s f44) hk
      have H49 := rdT_c f44 (fun a k q => by omega) HT
      have H50 := rwY_c f44 (fun a k q1 q2 => by omega) HG
      have FR51 := frm_t FR0 (frm_m (S' := (fun a k => (a = y ∧ (k = 3 ∨ k = 4 ∨ (8 ≤ k ∧ k ≤ 11))) ∨ (y + 17 ≤ a ∧ a < y + 25) ∨ a = y + 26)) f44 (fun a k q => by omega))
      have F52 : rdF h43 y (ntF (40 ≤ Y 0) 3 f) (ntQ (40 ≤ Y 0) (tkS T L p) f q) := by rw [(nt_iff (c := 40 ≤ Y 0) (c' := True) (k := 3) (s := tkS T L p) (f := f) (q := q) ⟨fun _ => trivial, fun _ => by omega⟩).1, (nt_iff (c := 40 ≤ Y 0) (c' := True) (k := 3) (s := tkS T L p) (f := f) (q := q) ⟨fun _ => trivial, fun _ => by omega⟩).2]; exact p46
      refine e_aload_n dX6_deedLine_36 rfl ?_
      refine e_iload_n dX6_deedLine_37 rfl ?_
      refine e_callV [.int _] dX6_deedLine_38 tm_6_187 rfl (Nat.le_of_ble_eq_true rfl) (congrArg Prod.fst (rd_s0 k48)) (Nat.le_of_ble_eq_true rfl) (Nat.le_refl _) (Nat.le_refl _) rfl (zp_X6_takeDeedNumbers_0 k48 H49 p45 F52 (fun v53 p54 h55 f56 p57 => ?_))
      have k58 := lk_q (frm_s f56) k48
      have H59 := rdT_c f56 (fun a k q => by omega) H49
      have H60 := rwY_c f56 (fun a k q1 q2 => by omega) H50
      have FR61 := frm_t FR51 (frm_m (S' := (fun a k => (a = y ∧ (k = 3 ∨ k = 4 ∨ (8 ≤ k ∧ k ≤ 11))) ∨ (y + 17 ≤ a ∧ a < y + 25) ∨ a = y + 26)) f56 (fun a k q => by omega))
      skip
      refine z_if_ne 46 dX6_deedLine_41 rfl ⟨by omega, by omega⟩ (fun c62 => ?_) (fun c62 => ?_)
      · skip
        obtain ⟨K63a, K63b, K63p, K63f, K63c, K63d⟩ := td2_1 p57 (by omega)
        refine e_aload_n dX6_deedLine_46 rfl ?_
        refine e_get (.ref (y + 17)) dX6_deedLine_47 tf_6_21 (congrArg Prod.fst (rd_s0 k58)) (congrArg va_rf (rd_r0_1 k58)) ?_
        refine e_iload_n dX6_deedLine_50 rfl ?_
        refine e_aload_n dX6_deedLine_51 rfl ?_
        refine e_get (.ref (y + 26)) dX6_deedLine_52 tf_6_43 (congrArg Prod.fst (rd_s0 k58)) (congrArg va_rf (rd_r0_6 k58)) ?_
        refine z_iconst (0) dX6_deedLine_55 rfl ?_
        refine z_ild (tkV T L (tkE T L p)) dX6_deedLine_56 (rd_s26 k58) (by decide) (by omega) (by omega) K63c ?_
        have y64 := tv_b K63a
        refine e_aload_n dX6_deedLine_57 rfl ?_
        refine e_get (.ref (y + 26)) dX6_deedLine_58 tf_6_43 (congrArg Prod.fst (rd_s0 k58)) (congrArg va_rf (rd_r0_6 k58)) ?_
        refine z_iconst (1) dX6_deedLine_61 rfl ?_
        refine z_ild (tkV T L (tkE T L (tkE T L p))) dX6_deedLine_62 (rd_s26 k58) (by decide) (by omega) (by omega) K63d ?_
        have y65 := tv_b K63b
        have SZ : rI h55 (y + 17) 3 = Y 0 := H60.1
        refine e_callV [.int _, .int _, .int _] dX6_deedLine_63 tm_6_191 rfl (Nat.le_of_ble_eq_true rfl) (congrArg Prod.fst (rd_s17 k58)) (Nat.le_of_ble_eq_true rfl) (Nat.le_refl _) (Nat.le_refl _) rfl (zp_X10_add (rd_yr17 k58) (Y 0) 0 ⟨by omega, by omega⟩ (tkV T L (tkE T L p)) ⟨by omega, by omega⟩ (tkV T L (tkE T L (tkE T L p))) ⟨by omega, by omega⟩ ⟨SZ, by omega, by omega⟩ (fun  h66 f67 p68 => ?_))
        have k69 := lk_q (frm_s f67) k58
        have H70 := rdT_c f67 (fun a k q => by omega) H59
        have H71 := rdP_c f67 (fun a k q => by omega) K63p
        have H72 := rdF_c f67 (fun a k q => by omega) K63f
        have FR73 := frm_t FR61 (frm_m (S' := (fun a k => (a = y ∧ (k = 3 ∨ k = 4 ∨ (8 ≤ k ∧ k ≤ 11))) ∨ (y + 17 ≤ a ∧ a < y + 25) ∨ a = y + 26)) f67 (fun a k q => by omega))
        have G1 : rwY h66 (y + 17) (adY 40 Y 0 (tkV T L (tkE T L p)) (tkV T L (tkE T L (tkE T L p)))) := rwY_a py.1 H60 f67 p68
        refine e_aload_n dX6_deedLine_66 rfl ?_
        refine e_callV [] dX6_deedLine_67 tm_6_164 rfl (Nat.le_of_ble_eq_true rfl) (congrArg Prod.fst (rd_s0 k69)) (Nat.le_of_ble_eq_true rfl) (Nat.le_refl _) (Nat.le_refl _) rfl (zp_X6_takeStop k69 H70 H71 H72 (fun v74 p75 h76 f77 p78 => ?_))
        have k79 := lk_q (frm_s f77) k69
        have H80 := rdT_c f77 (fun a k q => by omega) H70
        have H81 := rwY_c f77 (fun a k q1 q2 => by omega) G1
        have FR82 := frm_t FR73 (frm_m (S' := (fun a k => (a = y ∧ (k = 3 ∨ k = 4 ∨ (8 ≤ k ∧ k ≤ 11))) ∨ (y + 17 ≤ a ∧ a < y + 25) ∨ a = y + 26)) f77 (fun a k q => by omega))
        skip
        refine z_bret dX6_deedLine_70 rfl (by omega) ⟨rfl, ?_⟩
        rcases p78 with ⟨w, k5, P5, F5⟩ | ⟨w, k5, F5⟩
        · exact kq _ (Or.inr w) _ FR82 (Or.inl ⟨w, ⟨K63a, K63b, k5⟩, P5, F5, H81⟩)
        · exact kq _ (Or.inl w) _ FR82 (Or.inr ⟨w, fun z => k5 z.2.2, by rw [xp_y K63a, xp_y K63b]; exact F5⟩)
      · skip
        refine z_iconst (0) dX6_deedLine_44 rfl ?_
        refine z_bret dX6_deedLine_45 rfl (Or.inl rfl) ⟨rfl, ?_⟩
        rcases td2_0 p57 (by omega) with ⟨k0, f0⟩ | ⟨k1, k0, f0⟩
        · exact kq 0 (Or.inl rfl) _ FR61 (Or.inr ⟨rfl, fun z => k0 z.1, by rw [xp_n k0]; exact f0⟩)
        · exact kq 0 (Or.inl rfl) _ FR61 (Or.inr ⟨rfl, fun z => k0 z.2.1, by rw [xp_y k1, xp_n k0]; exact f0⟩)
  · exfalso; omega
set_option maxHeartbeats 4000000 in
theorem zp_X6_deedLine_cut {ad : mA} {dd : Nat} {h : mH} {Q : mQ} {y : Nat} {T Y : Int → Int} {L p f q : Int} (hk : rdk h y) (HT : rdT h y T L) (HP : rdP h y T L p) (HF : rdF h y f q) (HG : rwY h (y + 17) Y) (HA : adK ad)  (py : 0 ≤ Y 0 ∧ Y 0 ≤ 40) (pu : tkW T L p = 6518132) (kq : ∀ v : Int, (v = 0 ∨ v = 1) → ∀ h1, frm (fun a k => (a = y ∧ (k = 3 ∨ k = 4 ∨ (8 ≤ k ∧ k ≤ 11))) ∨ (y + 17 ≤ a ∧ a < y + 25) ∨ a = y + 26) h h1 → (lnO h1 y T L [(0, 5), (0, 5)] (tkE T L p) (ntF (40 ≤ Y 0) 3 f) (ntQ (40 ≤ Y 0) (tkS T L p) f q) v (rwY h1 (y + 17) (adY 40 Y 3 (tkV T L (tkE T L p)) (tkV T L (tkE T L (tkE T L p)))))) → Q (some (.int (zI v))) h1) : mCal TB0 ad (dd + 9) M_X6_deedLine [.ref y] h 0 0 Q := by
  refine ⟨Nat.le_of_ble_eq_true rfl, ?_⟩
  show mEv TB0 ad M_X6_deedLine (dd + 9) (0, 0) (mCal TB0 ad (dd + 8)) (fun v h' z => z.1 = 0 ∧ Q v h') 0 [some (.ref y), none] [] h (0, 0)
  have FR0 : frm (fun a k => (a = y ∧ (k = 3 ∨ k = 4 ∨ (8 ≤ k ∧ k ≤ 11))) ∨ (y + 17 ≤ a ∧ a < y + 25) ∨ a = y + 26) h h := frm_0 h
  have w1 := HT.1
  have tb := tk_b (T := T) HP.1.1 HP.1.2
  have p0 := HP.1
  refine e_aload_n dX6_deedLine_0 rfl ?_
  refine e_callV [] dX6_deedLine_1 tm_6_183 rfl (Nat.le_of_ble_eq_true rfl) (congrArg Prod.fst (rd_s0 hk)) (Nat.le_of_ble_eq_true rfl) (Nat.le_refl _) (Nat.le_refl _) rfl (zp_X6_deedSort_cut hk HT HP HA (by omega) ?_)
  refine e_istore_n (L' := [_, _]) dX6_deedLine_4 (Nat.le_of_ble_eq_true rfl) rfl ?_
  refine e_iload_n dX6_deedLine_5 rfl ?_
  refine z_iconst (-1) dX6_deedLine_6 rfl ?_
  refine z_icmp_ne 15 dX6_deedLine_7 rfl ⟨by omega, by omega⟩ ⟨by omega, by omega⟩ (fun c1 => ?_) (fun c1 => ?_)
  · skip
    refine e_aload_n dX6_deedLine_15 rfl ?_
    refine e_aload_n dX6_deedLine_16 rfl ?_
    refine e_get (.ref (y + 17)) dX6_deedLine_17 tf_6_21 (congrArg Prod.fst (rd_s0 hk)) (congrArg va_rf (rd_r0_1 hk)) ?_
    refine z_get (Y 0) dX6_deedLine_20 tf_6_116 (congrArg Prod.fst (rd_s17 hk)) (Or.inl rfl) HG.1 ?_
    refine z_bipush (40) dX6_deedLine_23 rfl ?_
    refine z_icmp_lt 32 dX6_deedLine_25 rfl ⟨by omega, by omega⟩ ⟨by omega, by omega⟩ (fun c2 => ?_) (fun c2 => ?_)
    · skip
      refine z_iconst (0) dX6_deedLine_32 rfl ?_
      refine e_callV [.int _] dX6_deedLine_33 tm_6_146 rfl (Nat.le_of_ble_eq_true rfl) (congrArg Prod.fst (rd_s0 hk)) (Nat.le_of_ble_eq_true rfl) (Nat.le_refl _) (Nat.le_refl _) rfl (zp_X6_beginLine hk HT HP HF False (fun  h3 f4 p5 p6 p7 => ?_))
      have k8 := lk_q (frm_s f4) hk
      have H9 := rdT_c f4 (fun a k q => by omega) HT
      have H10 := rwY_c f4 (fun a k q1 q2 => by omega) HG
      have FR11 := frm_t FR0 (frm_m (S' := (fun a k => (a = y ∧ (k = 3 ∨ k = 4 ∨ (8 ≤ k ∧ k ≤ 11))) ∨ (y + 17 ≤ a ∧ a < y + 25) ∨ a = y + 26)) f4 (fun a k q => by omega))
      have F12 : rdF h3 y (ntF (40 ≤ Y 0) 3 f) (ntQ (40 ≤ Y 0) (tkS T L p) f q) := by rw [(nt_iff (c := 40 ≤ Y 0) (c' := False) (k := 3) (s := tkS T L p) (f := f) (q := q) ⟨fun z => absurd z (by omega), fun z => z.elim⟩).1, (nt_iff (c := 40 ≤ Y 0) (c' := False) (k := 3) (s := tkS T L p) (f := f) (q := q) ⟨fun z => absurd z (by omega), fun z => z.elim⟩).2]; exact p6
      refine e_aload_n dX6_deedLine_36 rfl ?_
      refine e_iload_n dX6_deedLine_37 rfl ?_
      refine e_callV [.int _] dX6_deedLine_38 tm_6_187 rfl (Nat.le_of_ble_eq_true rfl) (congrArg Prod.fst (rd_s0 k8)) (Nat.le_of_ble_eq_true rfl) (Nat.le_refl _) (Nat.le_refl _) rfl (zp_X6_takeDeedNumbers_3 k8 H9 p5 F12 (fun v13 p14 h15 f16 p17 => ?_))
      have k18 := lk_q (frm_s f16) k8
      have H19 := rdT_c f16 (fun a k q => by omega) H9
      have H20 := rwY_c f16 (fun a k q1 q2 => by omega) H10
      have FR21 := frm_t FR11 (frm_m (S' := (fun a k => (a = y ∧ (k = 3 ∨ k = 4 ∨ (8 ≤ k ∧ k ≤ 11))) ∨ (y + 17 ≤ a ∧ a < y + 25) ∨ a = y + 26)) f16 (fun a k q => by omega))
      skip
      refine z_if_ne 46 dX6_deedLine_41 rfl ⟨by omega, by omega⟩ (fun c22 => ?_) (fun c22 => ?_)
      · skip
        obtain ⟨K23a, K23b, K23p, K23f, K23c, K23d⟩ := td2_1 p17 (by omega)
        refine e_aload_n dX6_deedLine_46 rfl ?_
        refine e_get (.ref (y + 17)) dX6_deedLine_47 tf_6_21 (congrArg Prod.fst (rd_s0 k18)) (congrArg va_rf (rd_r0_1 k18)) ?_
        refine e_iload_n dX6_deedLine_50 rfl ?_
        refine e_aload_n dX6_deedLine_51 rfl ?_
        refine e_get (.ref (y + 26)) dX6_deedLine_52 tf_6_43 (congrArg Prod.fst (rd_s0 k18)) (congrArg va_rf (rd_r0_6 k18)) ?_
        refine z_iconst (0) dX6_deedLine_55 rfl ?_
        refine z_ild (tkV T L (tkE T L p)) dX6_deedLine_56 (rd_s26 k18) (by decide) (by omega) (by omega) K23c ?_
        have y24 := tv_b K23a
        refine e_aload_n dX6_deedLine_57 rfl ?_
        refine e_get (.ref (y + 26)) dX6_deedLine_58 tf_6_43 (congrArg Prod.fst (rd_s0 k18)) (congrArg va_rf (rd_r0_6 k18)) ?_
        refine z_iconst (1) dX6_deedLine_61 rfl ?_
        refine z_ild (tkV T L (tkE T L (tkE T L p))) dX6_deedLine_62 (rd_s26 k18) (by decide) (by omega) (by omega) K23d ?_
        have y25 := tv_b K23b
        have SZ : rI h15 (y + 17) 3 = Y 0 := H20.1
        refine e_callV [.int _, .int _, .int _] dX6_deedLine_63 tm_6_191 rfl (Nat.le_of_ble_eq_true rfl) (congrArg Prod.fst (rd_s17 k18)) (Nat.le_of_ble_eq_true rfl) (Nat.le_refl _) (Nat.le_refl _) rfl (zp_X10_add (rd_yr17 k18) (Y 0) 3 ⟨by omega, by omega⟩ (tkV T L (tkE T L p)) ⟨by omega, by omega⟩ (tkV T L (tkE T L (tkE T L p))) ⟨by omega, by omega⟩ ⟨SZ, by omega, by omega⟩ (fun  h26 f27 p28 => ?_))
        have k29 := lk_q (frm_s f27) k18
        have H30 := rdT_c f27 (fun a k q => by omega) H19
        have H31 := rdP_c f27 (fun a k q => by omega) K23p
        have H32 := rdF_c f27 (fun a k q => by omega) K23f
        have FR33 := frm_t FR21 (frm_m (S' := (fun a k => (a = y ∧ (k = 3 ∨ k = 4 ∨ (8 ≤ k ∧ k ≤ 11))) ∨ (y + 17 ≤ a ∧ a < y + 25) ∨ a = y + 26)) f27 (fun a k q => by omega))
        have G1 : rwY h26 (y + 17) (adY 40 Y 3 (tkV T L (tkE T L p)) (tkV T L (tkE T L (tkE T L p)))) := rwY_a py.1 H20 f27 p28
        refine e_aload_n dX6_deedLine_66 rfl ?_
        refine e_callV [] dX6_deedLine_67 tm_6_164 rfl (Nat.le_of_ble_eq_true rfl) (congrArg Prod.fst (rd_s0 k29)) (Nat.le_of_ble_eq_true rfl) (Nat.le_refl _) (Nat.le_refl _) rfl (zp_X6_takeStop k29 H30 H31 H32 (fun v34 p35 h36 f37 p38 => ?_))
        have k39 := lk_q (frm_s f37) k29
        have H40 := rdT_c f37 (fun a k q => by omega) H30
        have H41 := rwY_c f37 (fun a k q1 q2 => by omega) G1
        have FR42 := frm_t FR33 (frm_m (S' := (fun a k => (a = y ∧ (k = 3 ∨ k = 4 ∨ (8 ≤ k ∧ k ≤ 11))) ∨ (y + 17 ≤ a ∧ a < y + 25) ∨ a = y + 26)) f37 (fun a k q => by omega))
        skip
        refine z_bret dX6_deedLine_70 rfl (by omega) ⟨rfl, ?_⟩
        rcases p38 with ⟨w, k5, P5, F5⟩ | ⟨w, k5, F5⟩
        · exact kq _ (Or.inr w) _ FR42 (Or.inl ⟨w, ⟨K23a, K23b, k5⟩, P5, F5, H41⟩)
        · exact kq _ (Or.inl w) _ FR42 (Or.inr ⟨w, fun z => k5 z.2.2, by rw [xp_y K23a, xp_y K23b]; exact F5⟩)
      · skip
        refine z_iconst (0) dX6_deedLine_44 rfl ?_
        refine z_bret dX6_deedLine_45 rfl (Or.inl rfl) ⟨rfl, ?_⟩
        rcases td2_0 p17 (by omega) with ⟨k0, f0⟩ | ⟨k1, k0, f0⟩
        · exact kq 0 (Or.inl rfl) _ FR21 (Or.inr ⟨rfl, fun z => k0 z.1, by rw [xp_n k0]; exact f0⟩)
        · exact kq 0 (Or.inl rfl) _ FR21 (Or.inr ⟨rfl, fun z => k0 z.2.1, by rw [xp_y k1, xp_n k0]; exact f0⟩)
    · skip
      refine z_iconst (1) dX6_deedLine_28 rfl ?_
      refine e_goto 33 dX6_deedLine_29 rfl ?_
      refine e_callV [.int _] dX6_deedLine_33 tm_6_146 rfl (Nat.le_of_ble_eq_true rfl) (congrArg Prod.fst (rd_s0 hk)) (Nat.le_of_ble_eq_true rfl) (Nat.le_refl _) (Nat.le_refl _) rfl (zp_X6_beginLine hk HT HP HF True (fun  h43 f44 p45 p46 p47 => ?_))
      have k48 := lk_q (frm_s f44) hk
      have H49 := rdT_c f44 (fun a k q => by omega) HT
      have H50 := rwY_c f44 (fun a k q1 q2 => by omega) HG
      have FR51 := frm_t FR0 (frm_m (S' := (fun a k => (a = y ∧ (k = 3 ∨ k = 4 ∨ (8 ≤ k ∧ k ≤ 11))) ∨ (y + 17 ≤ a ∧ a < y + 25) ∨ a = y + 26)) f44 (fun a k q => by omega))
      have F52 : rdF h43 y (ntF (40 ≤ Y 0) 3 f) (ntQ (40 ≤ Y 0) (tkS T L p) f q) := by rw [(nt_iff (c := 40 ≤ Y 0) (c' := True) (k := 3) (s := tkS T L p) (f := f) (q := q) ⟨fun _ => trivial, fun _ => by omega⟩).1, (nt_iff (c := 40 ≤ Y 0) (c' := True) (k := 3) (s := tkS T L p) (f := f) (q := q) ⟨fun _ => trivial, fun _ => by omega⟩).2]; exact p46
      refine e_aload_n dX6_deedLine_36 rfl ?_
      refine e_iload_n dX6_deedLine_37 rfl ?_
      refine e_callV [.int _] dX6_deedLine_38 tm_6_187 rfl (Nat.le_of_ble_eq_true rfl) (congrArg Prod.fst (rd_s0 k48)) (Nat.le_of_ble_eq_true rfl) (Nat.le_refl _) (Nat.le_refl _) rfl (zp_X6_takeDeedNumbers_3 k48 H49 p45 F52 (fun v53 p54 h55 f56 p57 => ?_))
      have k58 := lk_q (frm_s f56) k48
      have H59 := rdT_c f56 (fun a k q => by omega) H49
      have H60 := rwY_c f56 (fun a k q1 q2 => by omega) H50
      have FR61 := frm_t FR51 (frm_m (S' := (fun a k => (a = y ∧ (k = 3 ∨ k = 4 ∨ (8 ≤ k ∧ k ≤ 11))) ∨ (y + 17 ≤ a ∧ a < y + 25) ∨ a = y + 26)) f56 (fun a k q => by omega))
      skip
      refine z_if_ne 46 dX6_deedLine_41 rfl ⟨by omega, by omega⟩ (fun c62 => ?_) (fun c62 => ?_)
      · skip
        obtain ⟨K63a, K63b, K63p, K63f, K63c, K63d⟩ := td2_1 p57 (by omega)
        refine e_aload_n dX6_deedLine_46 rfl ?_
        refine e_get (.ref (y + 17)) dX6_deedLine_47 tf_6_21 (congrArg Prod.fst (rd_s0 k58)) (congrArg va_rf (rd_r0_1 k58)) ?_
        refine e_iload_n dX6_deedLine_50 rfl ?_
        refine e_aload_n dX6_deedLine_51 rfl ?_
        refine e_get (.ref (y + 26)) dX6_deedLine_52 tf_6_43 (congrArg Prod.fst (rd_s0 k58)) (congrArg va_rf (rd_r0_6 k58)) ?_
        refine z_iconst (0) dX6_deedLine_55 rfl ?_
        refine z_ild (tkV T L (tkE T L p)) dX6_deedLine_56 (rd_s26 k58) (by decide) (by omega) (by omega) K63c ?_
        have y64 := tv_b K63a
        refine e_aload_n dX6_deedLine_57 rfl ?_
        refine e_get (.ref (y + 26)) dX6_deedLine_58 tf_6_43 (congrArg Prod.fst (rd_s0 k58)) (congrArg va_rf (rd_r0_6 k58)) ?_
        refine z_iconst (1) dX6_deedLine_61 rfl ?_
        refine z_ild (tkV T L (tkE T L (tkE T L p))) dX6_deedLine_62 (rd_s26 k58) (by decide) (by omega) (by omega) K63d ?_
        have y65 := tv_b K63b
        have SZ : rI h55 (y + 17) 3 = Y 0 := H60.1
        refine e_callV [.int _, .int _, .int _] dX6_deedLine_63 tm_6_191 rfl (Nat.le_of_ble_eq_true rfl) (congrArg Prod.fst (rd_s17 k58)) (Nat.le_of_ble_eq_true rfl) (Nat.le_refl _) (Nat.le_refl _) rfl (zp_X10_add (rd_yr17 k58) (Y 0) 3 ⟨by omega, by omega⟩ (tkV T L (tkE T L p)) ⟨by omega, by omega⟩ (tkV T L (tkE T L (tkE T L p))) ⟨by omega, by omega⟩ ⟨SZ, by omega, by omega⟩ (fun  h66 f67 p68 => ?_))
        have k69 := lk_q (frm_s f67) k58
        have H70 := rdT_c f67 (fun a k q => by omega) H59
        have H71 := rdP_c f67 (fun a k q => by omega) K63p
        have H72 := rdF_c f67 (fun a k q => by omega) K63f
        have FR73 := frm_t FR61 (frm_m (S' := (fun a k => (a = y ∧ (k = 3 ∨ k = 4 ∨ (8 ≤ k ∧ k ≤ 11))) ∨ (y + 17 ≤ a ∧ a < y + 25) ∨ a = y + 26)) f67 (fun a k q => by omega))
        have G1 : rwY h66 (y + 17) (adY 40 Y 3 (tkV T L (tkE T L p)) (tkV T L (tkE T L (tkE T L p)))) := rwY_a py.1 H60 f67 p68
        refine e_aload_n dX6_deedLine_66 rfl ?_
        refine e_callV [] dX6_deedLine_67 tm_6_164 rfl (Nat.le_of_ble_eq_true rfl) (congrArg Prod.fst (rd_s0 k69)) (Nat.le_of_ble_eq_true rfl) (Nat.le_refl _) (Nat.le_refl _) rfl (zp_X6_takeStop k69 H70 H71 H72 (fun v74 p75 h76 f77 p78 => ?_))
        have k79 := lk_q (frm_s f77) k69
        have H80 := rdT_c f77 (fun a k q => by omega) H70
        have H81 := rwY_c f77 (fun a k q1 q2 => by omega) G1
        have FR82 := frm_t FR73 (frm_m (S' := (fun a k => (a = y ∧ (k = 3 ∨ k = 4 ∨ (8 ≤ k ∧ k ≤ 11))) ∨ (y + 17 ≤ a ∧ a < y + 25) ∨ a = y + 26)) f77 (fun a k q => by omega))
        skip
        refine z_bret dX6_deedLine_70 rfl (by omega) ⟨rfl, ?_⟩
        rcases p78 with ⟨w, k5, P5, F5⟩ | ⟨w, k5, F5⟩
        · exact kq _ (Or.inr w) _ FR82 (Or.inl ⟨w, ⟨K63a, K63b, k5⟩, P5, F5, H81⟩)
        · exact kq _ (Or.inl w) _ FR82 (Or.inr ⟨w, fun z => k5 z.2.2, by rw [xp_y K63a, xp_y K63b]; exact F5⟩)
      · skip
        refine z_iconst (0) dX6_deedLine_44 rfl ?_
        refine z_bret dX6_deedLine_45 rfl (Or.inl rfl) ⟨rfl, ?_⟩
        rcases td2_0 p57 (by omega) with ⟨k0, f0⟩ | ⟨k1, k0, f0⟩
        · exact kq 0 (Or.inl rfl) _ FR61 (Or.inr ⟨rfl, fun z => k0 z.1, by rw [xp_n k0]; exact f0⟩)
        · exact kq 0 (Or.inl rfl) _ FR61 (Or.inr ⟨rfl, fun z => k0 z.2.1, by rw [xp_y k1, xp_n k0]; exact f0⟩)
  · exfalso; omega
set_option maxHeartbeats 4000000 in
theorem zp_X6_deedLine_heat {ad : mA} {dd : Nat} {h : mH} {Q : mQ} {y : Nat} {T Y : Int → Int} {L p f q : Int} (hk : rdk h y) (HT : rdT h y T L) (HP : rdP h y T L p) (HF : rdF h y f q) (HG : rwY h (y + 17) Y) (HA : adK ad)  (py : 0 ≤ Y 0 ∧ Y 0 ≤ 40) (pu : tkW T L p = 1751474548) (kq : ∀ v : Int, (v = 0 ∨ v = 1) → ∀ h1, frm (fun a k => (a = y ∧ (k = 3 ∨ k = 4 ∨ (8 ≤ k ∧ k ≤ 11))) ∨ (y + 17 ≤ a ∧ a < y + 25) ∨ a = y + 26) h h1 → (lnO h1 y T L [(0, 5)] (tkE T L p) (ntF (40 ≤ Y 0) 3 f) (ntQ (40 ≤ Y 0) (tkS T L p) f q) v (rwY h1 (y + 17) (adY 40 Y 1 (tkV T L (tkE T L p)) (-1)))) → Q (some (.int (zI v))) h1) : mCal TB0 ad (dd + 9) M_X6_deedLine [.ref y] h 0 0 Q := by
  refine ⟨Nat.le_of_ble_eq_true rfl, ?_⟩
  show mEv TB0 ad M_X6_deedLine (dd + 9) (0, 0) (mCal TB0 ad (dd + 8)) (fun v h' z => z.1 = 0 ∧ Q v h') 0 [some (.ref y), none] [] h (0, 0)
  have FR0 : frm (fun a k => (a = y ∧ (k = 3 ∨ k = 4 ∨ (8 ≤ k ∧ k ≤ 11))) ∨ (y + 17 ≤ a ∧ a < y + 25) ∨ a = y + 26) h h := frm_0 h
  have w1 := HT.1
  have tb := tk_b (T := T) HP.1.1 HP.1.2
  have p0 := HP.1
  refine e_aload_n dX6_deedLine_0 rfl ?_
  refine e_callV [] dX6_deedLine_1 tm_6_183 rfl (Nat.le_of_ble_eq_true rfl) (congrArg Prod.fst (rd_s0 hk)) (Nat.le_of_ble_eq_true rfl) (Nat.le_refl _) (Nat.le_refl _) rfl (zp_X6_deedSort_heat hk HT HP HA (by omega) ?_)
  refine e_istore_n (L' := [_, _]) dX6_deedLine_4 (Nat.le_of_ble_eq_true rfl) rfl ?_
  refine e_iload_n dX6_deedLine_5 rfl ?_
  refine z_iconst (-1) dX6_deedLine_6 rfl ?_
  refine z_icmp_ne 15 dX6_deedLine_7 rfl ⟨by omega, by omega⟩ ⟨by omega, by omega⟩ (fun c1 => ?_) (fun c1 => ?_)
  · skip
    refine e_aload_n dX6_deedLine_15 rfl ?_
    refine e_aload_n dX6_deedLine_16 rfl ?_
    refine e_get (.ref (y + 17)) dX6_deedLine_17 tf_6_21 (congrArg Prod.fst (rd_s0 hk)) (congrArg va_rf (rd_r0_1 hk)) ?_
    refine z_get (Y 0) dX6_deedLine_20 tf_6_116 (congrArg Prod.fst (rd_s17 hk)) (Or.inl rfl) HG.1 ?_
    refine z_bipush (40) dX6_deedLine_23 rfl ?_
    refine z_icmp_lt 32 dX6_deedLine_25 rfl ⟨by omega, by omega⟩ ⟨by omega, by omega⟩ (fun c2 => ?_) (fun c2 => ?_)
    · skip
      refine z_iconst (0) dX6_deedLine_32 rfl ?_
      refine e_callV [.int _] dX6_deedLine_33 tm_6_146 rfl (Nat.le_of_ble_eq_true rfl) (congrArg Prod.fst (rd_s0 hk)) (Nat.le_of_ble_eq_true rfl) (Nat.le_refl _) (Nat.le_refl _) rfl (zp_X6_beginLine hk HT HP HF False (fun  h3 f4 p5 p6 p7 => ?_))
      have k8 := lk_q (frm_s f4) hk
      have H9 := rdT_c f4 (fun a k q => by omega) HT
      have H10 := rwY_c f4 (fun a k q1 q2 => by omega) HG
      have FR11 := frm_t FR0 (frm_m (S' := (fun a k => (a = y ∧ (k = 3 ∨ k = 4 ∨ (8 ≤ k ∧ k ≤ 11))) ∨ (y + 17 ≤ a ∧ a < y + 25) ∨ a = y + 26)) f4 (fun a k q => by omega))
      have F12 : rdF h3 y (ntF (40 ≤ Y 0) 3 f) (ntQ (40 ≤ Y 0) (tkS T L p) f q) := by rw [(nt_iff (c := 40 ≤ Y 0) (c' := False) (k := 3) (s := tkS T L p) (f := f) (q := q) ⟨fun z => absurd z (by omega), fun z => z.elim⟩).1, (nt_iff (c := 40 ≤ Y 0) (c' := False) (k := 3) (s := tkS T L p) (f := f) (q := q) ⟨fun z => absurd z (by omega), fun z => z.elim⟩).2]; exact p6
      refine e_aload_n dX6_deedLine_36 rfl ?_
      refine e_iload_n dX6_deedLine_37 rfl ?_
      refine e_callV [.int _] dX6_deedLine_38 tm_6_187 rfl (Nat.le_of_ble_eq_true rfl) (congrArg Prod.fst (rd_s0 k8)) (Nat.le_of_ble_eq_true rfl) (Nat.le_refl _) (Nat.le_refl _) rfl (zp_X6_takeDeedNumbers_1 k8 H9 p5 F12 (fun v13 p14 h15 f16 p17 => ?_))
      have k18 := lk_q (frm_s f16) k8
      have H19 := rdT_c f16 (fun a k q => by omega) H9
      have H20 := rwY_c f16 (fun a k q1 q2 => by omega) H10
      have FR21 := frm_t FR11 (frm_m (S' := (fun a k => (a = y ∧ (k = 3 ∨ k = 4 ∨ (8 ≤ k ∧ k ≤ 11))) ∨ (y + 17 ≤ a ∧ a < y + 25) ∨ a = y + 26)) f16 (fun a k q => by omega))
      skip
      refine z_if_ne 46 dX6_deedLine_41 rfl ⟨by omega, by omega⟩ (fun c22 => ?_) (fun c22 => ?_)
      · skip
        obtain ⟨K23, K23p, K23f, K23n⟩ := tn_1 p17 (by omega)
        refine e_aload_n dX6_deedLine_46 rfl ?_
        refine e_get (.ref (y + 17)) dX6_deedLine_47 tf_6_21 (congrArg Prod.fst (rd_s0 k18)) (congrArg va_rf (rd_r0_1 k18)) ?_
        refine e_iload_n dX6_deedLine_50 rfl ?_
        refine e_aload_n dX6_deedLine_51 rfl ?_
        refine e_get (.ref (y + 26)) dX6_deedLine_52 tf_6_43 (congrArg Prod.fst (rd_s0 k18)) (congrArg va_rf (rd_r0_6 k18)) ?_
        refine z_iconst (0) dX6_deedLine_55 rfl ?_
        refine z_ild (tkV T L (tkE T L p)) dX6_deedLine_56 (rd_s26 k18) (by decide) (by omega) (by omega) K23n ?_
        have y24 := tv_b K23
        refine e_aload_n dX6_deedLine_57 rfl ?_
        refine e_get (.ref (y + 26)) dX6_deedLine_58 tf_6_43 (congrArg Prod.fst (rd_s0 k18)) (congrArg va_rf (rd_r0_6 k18)) ?_
        refine z_iconst (1) dX6_deedLine_61 rfl ?_
        refine z_ild (-1) dX6_deedLine_62 (rd_s26 k18) (by decide) (by omega) (by omega) (((frm_r f16 (by omega))).trans (p7 1 (by omega) (by omega))) ?_
        have SZ : rI h15 (y + 17) 3 = Y 0 := H20.1
        refine e_callV [.int _, .int _, .int _] dX6_deedLine_63 tm_6_191 rfl (Nat.le_of_ble_eq_true rfl) (congrArg Prod.fst (rd_s17 k18)) (Nat.le_of_ble_eq_true rfl) (Nat.le_refl _) (Nat.le_refl _) rfl (zp_X10_add (rd_yr17 k18) (Y 0) 1 ⟨by omega, by omega⟩ (tkV T L (tkE T L p)) ⟨by omega, by omega⟩ (-1) ⟨by omega, by omega⟩ ⟨SZ, by omega, by omega⟩ (fun  h25 f26 p27 => ?_))
        have k28 := lk_q (frm_s f26) k18
        have H29 := rdT_c f26 (fun a k q => by omega) H19
        have H30 := rdP_c f26 (fun a k q => by omega) K23p
        have H31 := rdF_c f26 (fun a k q => by omega) K23f
        have FR32 := frm_t FR21 (frm_m (S' := (fun a k => (a = y ∧ (k = 3 ∨ k = 4 ∨ (8 ≤ k ∧ k ≤ 11))) ∨ (y + 17 ≤ a ∧ a < y + 25) ∨ a = y + 26)) f26 (fun a k q => by omega))
        have G1 : rwY h25 (y + 17) (adY 40 Y 1 (tkV T L (tkE T L p)) (-1)) := rwY_a py.1 H20 f26 p27
        refine e_aload_n dX6_deedLine_66 rfl ?_
        refine e_callV [] dX6_deedLine_67 tm_6_164 rfl (Nat.le_of_ble_eq_true rfl) (congrArg Prod.fst (rd_s0 k28)) (Nat.le_of_ble_eq_true rfl) (Nat.le_refl _) (Nat.le_refl _) rfl (zp_X6_takeStop k28 H29 H30 H31 (fun v33 p34 h35 f36 p37 => ?_))
        have k38 := lk_q (frm_s f36) k28
        have H39 := rdT_c f36 (fun a k q => by omega) H29
        have H40 := rwY_c f36 (fun a k q1 q2 => by omega) G1
        have FR41 := frm_t FR32 (frm_m (S' := (fun a k => (a = y ∧ (k = 3 ∨ k = 4 ∨ (8 ≤ k ∧ k ≤ 11))) ∨ (y + 17 ≤ a ∧ a < y + 25) ∨ a = y + 26)) f36 (fun a k q => by omega))
        skip
        refine z_bret dX6_deedLine_70 rfl (by omega) ⟨rfl, ?_⟩
        rcases p37 with ⟨w, k5, P5, F5⟩ | ⟨w, k5, F5⟩
        · exact kq _ (Or.inr w) _ FR41 (Or.inl ⟨w, ⟨K23, k5⟩, P5, F5, H40⟩)
        · exact kq _ (Or.inl w) _ FR41 (Or.inr ⟨w, fun z => k5 z.2, by rw [xp_y K23]; exact F5⟩)
      · skip
        obtain ⟨k0, f0⟩ := tn_0 p17 (by omega)
        refine z_iconst (0) dX6_deedLine_44 rfl ?_
        refine z_bret dX6_deedLine_45 rfl (Or.inl rfl) ⟨rfl, ?_⟩
        exact kq 0 (Or.inl rfl) _ FR21 (Or.inr ⟨rfl, fun z => k0 z.1, by rw [xp_n k0]; exact f0⟩)
    · skip
      refine z_iconst (1) dX6_deedLine_28 rfl ?_
      refine e_goto 33 dX6_deedLine_29 rfl ?_
      refine e_callV [.int _] dX6_deedLine_33 tm_6_146 rfl (Nat.le_of_ble_eq_true rfl) (congrArg Prod.fst (rd_s0 hk)) (Nat.le_of_ble_eq_true rfl) (Nat.le_refl _) (Nat.le_refl _) rfl (zp_X6_beginLine hk HT HP HF True (fun  h42 f43 p44 p45 p46 => ?_))
      have k47 := lk_q (frm_s f43) hk
      have H48 := rdT_c f43 (fun a k q => by omega) HT
      have H49 := rwY_c f43 (fun a k q1 q2 => by omega) HG
      have FR50 := frm_t FR0 (frm_m (S' := (fun a k => (a = y ∧ (k = 3 ∨ k = 4 ∨ (8 ≤ k ∧ k ≤ 11))) ∨ (y + 17 ≤ a ∧ a < y + 25) ∨ a = y + 26)) f43 (fun a k q => by omega))
      have F51 : rdF h42 y (ntF (40 ≤ Y 0) 3 f) (ntQ (40 ≤ Y 0) (tkS T L p) f q) := by rw [(nt_iff (c := 40 ≤ Y 0) (c' := True) (k := 3) (s := tkS T L p) (f := f) (q := q) ⟨fun _ => trivial, fun _ => by omega⟩).1, (nt_iff (c := 40 ≤ Y 0) (c' := True) (k := 3) (s := tkS T L p) (f := f) (q := q) ⟨fun _ => trivial, fun _ => by omega⟩).2]; exact p45
      refine e_aload_n dX6_deedLine_36 rfl ?_
      refine e_iload_n dX6_deedLine_37 rfl ?_
      refine e_callV [.int _] dX6_deedLine_38 tm_6_187 rfl (Nat.le_of_ble_eq_true rfl) (congrArg Prod.fst (rd_s0 k47)) (Nat.le_of_ble_eq_true rfl) (Nat.le_refl _) (Nat.le_refl _) rfl (zp_X6_takeDeedNumbers_1 k47 H48 p44 F51 (fun v52 p53 h54 f55 p56 => ?_))
      have k57 := lk_q (frm_s f55) k47
      have H58 := rdT_c f55 (fun a k q => by omega) H48
      have H59 := rwY_c f55 (fun a k q1 q2 => by omega) H49
      have FR60 := frm_t FR50 (frm_m (S' := (fun a k => (a = y ∧ (k = 3 ∨ k = 4 ∨ (8 ≤ k ∧ k ≤ 11))) ∨ (y + 17 ≤ a ∧ a < y + 25) ∨ a = y + 26)) f55 (fun a k q => by omega))
      skip
      refine z_if_ne 46 dX6_deedLine_41 rfl ⟨by omega, by omega⟩ (fun c61 => ?_) (fun c61 => ?_)
      · skip
        obtain ⟨K62, K62p, K62f, K62n⟩ := tn_1 p56 (by omega)
        refine e_aload_n dX6_deedLine_46 rfl ?_
        refine e_get (.ref (y + 17)) dX6_deedLine_47 tf_6_21 (congrArg Prod.fst (rd_s0 k57)) (congrArg va_rf (rd_r0_1 k57)) ?_
        refine e_iload_n dX6_deedLine_50 rfl ?_
        refine e_aload_n dX6_deedLine_51 rfl ?_
        refine e_get (.ref (y + 26)) dX6_deedLine_52 tf_6_43 (congrArg Prod.fst (rd_s0 k57)) (congrArg va_rf (rd_r0_6 k57)) ?_
        refine z_iconst (0) dX6_deedLine_55 rfl ?_
        refine z_ild (tkV T L (tkE T L p)) dX6_deedLine_56 (rd_s26 k57) (by decide) (by omega) (by omega) K62n ?_
        have y63 := tv_b K62
        refine e_aload_n dX6_deedLine_57 rfl ?_
        refine e_get (.ref (y + 26)) dX6_deedLine_58 tf_6_43 (congrArg Prod.fst (rd_s0 k57)) (congrArg va_rf (rd_r0_6 k57)) ?_
        refine z_iconst (1) dX6_deedLine_61 rfl ?_
        refine z_ild (-1) dX6_deedLine_62 (rd_s26 k57) (by decide) (by omega) (by omega) (((frm_r f55 (by omega))).trans (p46 1 (by omega) (by omega))) ?_
        have SZ : rI h54 (y + 17) 3 = Y 0 := H59.1
        refine e_callV [.int _, .int _, .int _] dX6_deedLine_63 tm_6_191 rfl (Nat.le_of_ble_eq_true rfl) (congrArg Prod.fst (rd_s17 k57)) (Nat.le_of_ble_eq_true rfl) (Nat.le_refl _) (Nat.le_refl _) rfl (zp_X10_add (rd_yr17 k57) (Y 0) 1 ⟨by omega, by omega⟩ (tkV T L (tkE T L p)) ⟨by omega, by omega⟩ (-1) ⟨by omega, by omega⟩ ⟨SZ, by omega, by omega⟩ (fun  h64 f65 p66 => ?_))
        have k67 := lk_q (frm_s f65) k57
        have H68 := rdT_c f65 (fun a k q => by omega) H58
        have H69 := rdP_c f65 (fun a k q => by omega) K62p
        have H70 := rdF_c f65 (fun a k q => by omega) K62f
        have FR71 := frm_t FR60 (frm_m (S' := (fun a k => (a = y ∧ (k = 3 ∨ k = 4 ∨ (8 ≤ k ∧ k ≤ 11))) ∨ (y + 17 ≤ a ∧ a < y + 25) ∨ a = y + 26)) f65 (fun a k q => by omega))
        have G1 : rwY h64 (y + 17) (adY 40 Y 1 (tkV T L (tkE T L p)) (-1)) := rwY_a py.1 H59 f65 p66
        refine e_aload_n dX6_deedLine_66 rfl ?_
        refine e_callV [] dX6_deedLine_67 tm_6_164 rfl (Nat.le_of_ble_eq_true rfl) (congrArg Prod.fst (rd_s0 k67)) (Nat.le_of_ble_eq_true rfl) (Nat.le_refl _) (Nat.le_refl _) rfl (zp_X6_takeStop k67 H68 H69 H70 (fun v72 p73 h74 f75 p76 => ?_))
        have k77 := lk_q (frm_s f75) k67
        have H78 := rdT_c f75 (fun a k q => by omega) H68
        have H79 := rwY_c f75 (fun a k q1 q2 => by omega) G1
        have FR80 := frm_t FR71 (frm_m (S' := (fun a k => (a = y ∧ (k = 3 ∨ k = 4 ∨ (8 ≤ k ∧ k ≤ 11))) ∨ (y + 17 ≤ a ∧ a < y + 25) ∨ a = y + 26)) f75 (fun a k q => by omega))
        skip
        refine z_bret dX6_deedLine_70 rfl (by omega) ⟨rfl, ?_⟩
        rcases p76 with ⟨w, k5, P5, F5⟩ | ⟨w, k5, F5⟩
        · exact kq _ (Or.inr w) _ FR80 (Or.inl ⟨w, ⟨K62, k5⟩, P5, F5, H79⟩)
        · exact kq _ (Or.inl w) _ FR80 (Or.inr ⟨w, fun z => k5 z.2, by rw [xp_y K62]; exact F5⟩)
      · skip
        obtain ⟨k0, f0⟩ := tn_0 p56 (by omega)
        refine z_iconst (0) dX6_deedLine_44 rfl ?_
        refine z_bret dX6_deedLine_45 rfl (Or.inl rfl) ⟨rfl, ?_⟩
        exact kq 0 (Or.inl rfl) _ FR60 (Or.inr ⟨rfl, fun z => k0 z.1, by rw [xp_n k0]; exact f0⟩)
  · exfalso; omega
set_option maxHeartbeats 4000000 in
theorem zp_X6_deedLine_part {ad : mA} {dd : Nat} {h : mH} {Q : mQ} {y : Nat} {T Y : Int → Int} {L p f q : Int} (hk : rdk h y) (HT : rdT h y T L) (HP : rdP h y T L p) (HF : rdF h y f q) (HG : rwY h (y + 17) Y) (HA : adK ad)  (py : 0 ≤ Y 0 ∧ Y 0 ≤ 40) (pu : tkW T L p = 1885434484) (kq : ∀ v : Int, (v = 0 ∨ v = 1) → ∀ h1, frm (fun a k => (a = y ∧ (k = 3 ∨ k = 4 ∨ (8 ≤ k ∧ k ≤ 11))) ∨ (y + 17 ≤ a ∧ a < y + 25) ∨ a = y + 26) h h1 → (lnO h1 y T L [(0, 5)] (tkE T L p) (ntF (40 ≤ Y 0) 3 f) (ntQ (40 ≤ Y 0) (tkS T L p) f q) v (rwY h1 (y + 17) (adY 40 Y 2 (tkV T L (tkE T L p)) (-1)))) → Q (some (.int (zI v))) h1) : mCal TB0 ad (dd + 9) M_X6_deedLine [.ref y] h 0 0 Q := by
  refine ⟨Nat.le_of_ble_eq_true rfl, ?_⟩
  show mEv TB0 ad M_X6_deedLine (dd + 9) (0, 0) (mCal TB0 ad (dd + 8)) (fun v h' z => z.1 = 0 ∧ Q v h') 0 [some (.ref y), none] [] h (0, 0)
  have FR0 : frm (fun a k => (a = y ∧ (k = 3 ∨ k = 4 ∨ (8 ≤ k ∧ k ≤ 11))) ∨ (y + 17 ≤ a ∧ a < y + 25) ∨ a = y + 26) h h := frm_0 h
  have w1 := HT.1
  have tb := tk_b (T := T) HP.1.1 HP.1.2
  have p0 := HP.1
  refine e_aload_n dX6_deedLine_0 rfl ?_
  refine e_callV [] dX6_deedLine_1 tm_6_183 rfl (Nat.le_of_ble_eq_true rfl) (congrArg Prod.fst (rd_s0 hk)) (Nat.le_of_ble_eq_true rfl) (Nat.le_refl _) (Nat.le_refl _) rfl (zp_X6_deedSort_part hk HT HP HA (by omega) ?_)
  refine e_istore_n (L' := [_, _]) dX6_deedLine_4 (Nat.le_of_ble_eq_true rfl) rfl ?_
  refine e_iload_n dX6_deedLine_5 rfl ?_
  refine z_iconst (-1) dX6_deedLine_6 rfl ?_
  refine z_icmp_ne 15 dX6_deedLine_7 rfl ⟨by omega, by omega⟩ ⟨by omega, by omega⟩ (fun c1 => ?_) (fun c1 => ?_)
  · skip
    refine e_aload_n dX6_deedLine_15 rfl ?_
    refine e_aload_n dX6_deedLine_16 rfl ?_
    refine e_get (.ref (y + 17)) dX6_deedLine_17 tf_6_21 (congrArg Prod.fst (rd_s0 hk)) (congrArg va_rf (rd_r0_1 hk)) ?_
    refine z_get (Y 0) dX6_deedLine_20 tf_6_116 (congrArg Prod.fst (rd_s17 hk)) (Or.inl rfl) HG.1 ?_
    refine z_bipush (40) dX6_deedLine_23 rfl ?_
    refine z_icmp_lt 32 dX6_deedLine_25 rfl ⟨by omega, by omega⟩ ⟨by omega, by omega⟩ (fun c2 => ?_) (fun c2 => ?_)
    · skip
      refine z_iconst (0) dX6_deedLine_32 rfl ?_
      refine e_callV [.int _] dX6_deedLine_33 tm_6_146 rfl (Nat.le_of_ble_eq_true rfl) (congrArg Prod.fst (rd_s0 hk)) (Nat.le_of_ble_eq_true rfl) (Nat.le_refl _) (Nat.le_refl _) rfl (zp_X6_beginLine hk HT HP HF False (fun  h3 f4 p5 p6 p7 => ?_))
      have k8 := lk_q (frm_s f4) hk
      have H9 := rdT_c f4 (fun a k q => by omega) HT
      have H10 := rwY_c f4 (fun a k q1 q2 => by omega) HG
      have FR11 := frm_t FR0 (frm_m (S' := (fun a k => (a = y ∧ (k = 3 ∨ k = 4 ∨ (8 ≤ k ∧ k ≤ 11))) ∨ (y + 17 ≤ a ∧ a < y + 25) ∨ a = y + 26)) f4 (fun a k q => by omega))
      have F12 : rdF h3 y (ntF (40 ≤ Y 0) 3 f) (ntQ (40 ≤ Y 0) (tkS T L p) f q) := by rw [(nt_iff (c := 40 ≤ Y 0) (c' := False) (k := 3) (s := tkS T L p) (f := f) (q := q) ⟨fun z => absurd z (by omega), fun z => z.elim⟩).1, (nt_iff (c := 40 ≤ Y 0) (c' := False) (k := 3) (s := tkS T L p) (f := f) (q := q) ⟨fun z => absurd z (by omega), fun z => z.elim⟩).2]; exact p6
      refine e_aload_n dX6_deedLine_36 rfl ?_
      refine e_iload_n dX6_deedLine_37 rfl ?_
      refine e_callV [.int _] dX6_deedLine_38 tm_6_187 rfl (Nat.le_of_ble_eq_true rfl) (congrArg Prod.fst (rd_s0 k8)) (Nat.le_of_ble_eq_true rfl) (Nat.le_refl _) (Nat.le_refl _) rfl (zp_X6_takeDeedNumbers_2 k8 H9 p5 F12 (fun v13 p14 h15 f16 p17 => ?_))
      have k18 := lk_q (frm_s f16) k8
      have H19 := rdT_c f16 (fun a k q => by omega) H9
      have H20 := rwY_c f16 (fun a k q1 q2 => by omega) H10
      have FR21 := frm_t FR11 (frm_m (S' := (fun a k => (a = y ∧ (k = 3 ∨ k = 4 ∨ (8 ≤ k ∧ k ≤ 11))) ∨ (y + 17 ≤ a ∧ a < y + 25) ∨ a = y + 26)) f16 (fun a k q => by omega))
      skip
      refine z_if_ne 46 dX6_deedLine_41 rfl ⟨by omega, by omega⟩ (fun c22 => ?_) (fun c22 => ?_)
      · skip
        obtain ⟨K23, K23p, K23f, K23n⟩ := tn_1 p17 (by omega)
        refine e_aload_n dX6_deedLine_46 rfl ?_
        refine e_get (.ref (y + 17)) dX6_deedLine_47 tf_6_21 (congrArg Prod.fst (rd_s0 k18)) (congrArg va_rf (rd_r0_1 k18)) ?_
        refine e_iload_n dX6_deedLine_50 rfl ?_
        refine e_aload_n dX6_deedLine_51 rfl ?_
        refine e_get (.ref (y + 26)) dX6_deedLine_52 tf_6_43 (congrArg Prod.fst (rd_s0 k18)) (congrArg va_rf (rd_r0_6 k18)) ?_
        refine z_iconst (0) dX6_deedLine_55 rfl ?_
        refine z_ild (tkV T L (tkE T L p)) dX6_deedLine_56 (rd_s26 k18) (by decide) (by omega) (by omega) K23n ?_
        have y24 := tv_b K23
        refine e_aload_n dX6_deedLine_57 rfl ?_
        refine e_get (.ref (y + 26)) dX6_deedLine_58 tf_6_43 (congrArg Prod.fst (rd_s0 k18)) (congrArg va_rf (rd_r0_6 k18)) ?_
        refine z_iconst (1) dX6_deedLine_61 rfl ?_
        refine z_ild (-1) dX6_deedLine_62 (rd_s26 k18) (by decide) (by omega) (by omega) (((frm_r f16 (by omega))).trans (p7 1 (by omega) (by omega))) ?_
        have SZ : rI h15 (y + 17) 3 = Y 0 := H20.1
        refine e_callV [.int _, .int _, .int _] dX6_deedLine_63 tm_6_191 rfl (Nat.le_of_ble_eq_true rfl) (congrArg Prod.fst (rd_s17 k18)) (Nat.le_of_ble_eq_true rfl) (Nat.le_refl _) (Nat.le_refl _) rfl (zp_X10_add (rd_yr17 k18) (Y 0) 2 ⟨by omega, by omega⟩ (tkV T L (tkE T L p)) ⟨by omega, by omega⟩ (-1) ⟨by omega, by omega⟩ ⟨SZ, by omega, by omega⟩ (fun  h25 f26 p27 => ?_))
        have k28 := lk_q (frm_s f26) k18
        have H29 := rdT_c f26 (fun a k q => by omega) H19
        have H30 := rdP_c f26 (fun a k q => by omega) K23p
        have H31 := rdF_c f26 (fun a k q => by omega) K23f
        have FR32 := frm_t FR21 (frm_m (S' := (fun a k => (a = y ∧ (k = 3 ∨ k = 4 ∨ (8 ≤ k ∧ k ≤ 11))) ∨ (y + 17 ≤ a ∧ a < y + 25) ∨ a = y + 26)) f26 (fun a k q => by omega))
        have G1 : rwY h25 (y + 17) (adY 40 Y 2 (tkV T L (tkE T L p)) (-1)) := rwY_a py.1 H20 f26 p27
        refine e_aload_n dX6_deedLine_66 rfl ?_
        refine e_callV [] dX6_deedLine_67 tm_6_164 rfl (Nat.le_of_ble_eq_true rfl) (congrArg Prod.fst (rd_s0 k28)) (Nat.le_of_ble_eq_true rfl) (Nat.le_refl _) (Nat.le_refl _) rfl (zp_X6_takeStop k28 H29 H30 H31 (fun v33 p34 h35 f36 p37 => ?_))
        have k38 := lk_q (frm_s f36) k28
        have H39 := rdT_c f36 (fun a k q => by omega) H29
        have H40 := rwY_c f36 (fun a k q1 q2 => by omega) G1
        have FR41 := frm_t FR32 (frm_m (S' := (fun a k => (a = y ∧ (k = 3 ∨ k = 4 ∨ (8 ≤ k ∧ k ≤ 11))) ∨ (y + 17 ≤ a ∧ a < y + 25) ∨ a = y + 26)) f36 (fun a k q => by omega))
        skip
        refine z_bret dX6_deedLine_70 rfl (by omega) ⟨rfl, ?_⟩
        rcases p37 with ⟨w, k5, P5, F5⟩ | ⟨w, k5, F5⟩
        · exact kq _ (Or.inr w) _ FR41 (Or.inl ⟨w, ⟨K23, k5⟩, P5, F5, H40⟩)
        · exact kq _ (Or.inl w) _ FR41 (Or.inr ⟨w, fun z => k5 z.2, by rw [xp_y K23]; exact F5⟩)
      · skip
        obtain ⟨k0, f0⟩ := tn_0 p17 (by omega)
        refine z_iconst (0) dX6_deedLine_44 rfl ?_
        refine z_bret dX6_deedLine_45 rfl (Or.inl rfl) ⟨rfl, ?_⟩
        exact kq 0 (Or.inl rfl) _ FR21 (Or.inr ⟨rfl, fun z => k0 z.1, by rw [xp_n k0]; exact f0⟩)
    · skip
      refine z_iconst (1) dX6_deedLine_28 rfl ?_
      refine e_goto 33 dX6_deedLine_29 rfl ?_
      refine e_callV [.int _] dX6_deedLine_33 tm_6_146 rfl (Nat.le_of_ble_eq_true rfl) (congrArg Prod.fst (rd_s0 hk)) (Nat.le_of_ble_eq_true rfl) (Nat.le_refl _) (Nat.le_refl _) rfl (zp_X6_beginLine hk HT HP HF True (fun  h42 f43 p44 p45 p46 => ?_))
      have k47 := lk_q (frm_s f43) hk
      have H48 := rdT_c f43 (fun a k q => by omega) HT
      have H49 := rwY_c f43 (fun a k q1 q2 => by omega) HG
      have FR50 := frm_t FR0 (frm_m (S' := (fun a k => (a = y ∧ (k = 3 ∨ k = 4 ∨ (8 ≤ k ∧ k ≤ 11))) ∨ (y + 17 ≤ a ∧ a < y + 25) ∨ a = y + 26)) f43 (fun a k q => by omega))
      have F51 : rdF h42 y (ntF (40 ≤ Y 0) 3 f) (ntQ (40 ≤ Y 0) (tkS T L p) f q) := by rw [(nt_iff (c := 40 ≤ Y 0) (c' := True) (k := 3) (s := tkS T L p) (f := f) (q := q) ⟨fun _ => trivial, fun _ => by omega⟩).1, (nt_iff (c := 40 ≤ Y 0) (c' := True) (k := 3) (s := tkS T L p) (f := f) (q := q) ⟨fun _ => trivial, fun _ => by omega⟩).2]; exact p45
      refine e_aload_n dX6_deedLine_36 rfl ?_
      refine e_iload_n dX6_deedLine_37 rfl ?_
      refine e_callV [.int _] dX6_deedLine_38 tm_6_187 rfl (Nat.le_of_ble_eq_true rfl) (congrArg Prod.fst (rd_s0 k47)) (Nat.le_of_ble_eq_true rfl) (Nat.le_refl _) (Nat.le_refl _) rfl (zp_X6_takeDeedNumbers_2 k47 H48 p44 F51 (fun v52 p53 h54 f55 p56 => ?_))
      have k57 := lk_q (frm_s f55) k47
      have H58 := rdT_c f55 (fun a k q => by omega) H48
      have H59 := rwY_c f55 (fun a k q1 q2 => by omega) H49
      have FR60 := frm_t FR50 (frm_m (S' := (fun a k => (a = y ∧ (k = 3 ∨ k = 4 ∨ (8 ≤ k ∧ k ≤ 11))) ∨ (y + 17 ≤ a ∧ a < y + 25) ∨ a = y + 26)) f55 (fun a k q => by omega))
      skip
      refine z_if_ne 46 dX6_deedLine_41 rfl ⟨by omega, by omega⟩ (fun c61 => ?_) (fun c61 => ?_)
      · skip
        obtain ⟨K62, K62p, K62f, K62n⟩ := tn_1 p56 (by omega)
        refine e_aload_n dX6_deedLine_46 rfl ?_
        refine e_get (.ref (y + 17)) dX6_deedLine_47 tf_6_21 (congrArg Prod.fst (rd_s0 k57)) (congrArg va_rf (rd_r0_1 k57)) ?_
        refine e_iload_n dX6_deedLine_50 rfl ?_
        refine e_aload_n dX6_deedLine_51 rfl ?_
        refine e_get (.ref (y + 26)) dX6_deedLine_52 tf_6_43 (congrArg Prod.fst (rd_s0 k57)) (congrArg va_rf (rd_r0_6 k57)) ?_
        refine z_iconst (0) dX6_deedLine_55 rfl ?_
        refine z_ild (tkV T L (tkE T L p)) dX6_deedLine_56 (rd_s26 k57) (by decide) (by omega) (by omega) K62n ?_
        have y63 := tv_b K62
        refine e_aload_n dX6_deedLine_57 rfl ?_
        refine e_get (.ref (y + 26)) dX6_deedLine_58 tf_6_43 (congrArg Prod.fst (rd_s0 k57)) (congrArg va_rf (rd_r0_6 k57)) ?_
        refine z_iconst (1) dX6_deedLine_61 rfl ?_
        refine z_ild (-1) dX6_deedLine_62 (rd_s26 k57) (by decide) (by omega) (by omega) (((frm_r f55 (by omega))).trans (p46 1 (by omega) (by omega))) ?_
        have SZ : rI h54 (y + 17) 3 = Y 0 := H59.1
        refine e_callV [.int _, .int _, .int _] dX6_deedLine_63 tm_6_191 rfl (Nat.le_of_ble_eq_true rfl) (congrArg Prod.fst (rd_s17 k57)) (Nat.le_of_ble_eq_true rfl) (Nat.le_refl _) (Nat.le_refl _) rfl (zp_X10_add (rd_yr17 k57) (Y 0) 2 ⟨by omega, by omega⟩ (tkV T L (tkE T L p)) ⟨by omega, by omega⟩ (-1) ⟨by omega, by omega⟩ ⟨SZ, by omega, by omega⟩ (fun  h64 f65 p66 => ?_))
        have k67 := lk_q (frm_s f65) k57
        have H68 := rdT_c f65 (fun a k q => by omega) H58
        have H69 := rdP_c f65 (fun a k q => by omega) K62p
        have H70 := rdF_c f65 (fun a k q => by omega) K62f
        have FR71 := frm_t FR60 (frm_m (S' := (fun a k => (a = y ∧ (k = 3 ∨ k = 4 ∨ (8 ≤ k ∧ k ≤ 11))) ∨ (y + 17 ≤ a ∧ a < y + 25) ∨ a = y + 26)) f65 (fun a k q => by omega))
        have G1 : rwY h64 (y + 17) (adY 40 Y 2 (tkV T L (tkE T L p)) (-1)) := rwY_a py.1 H59 f65 p66
        refine e_aload_n dX6_deedLine_66 rfl ?_
        refine e_callV [] dX6_deedLine_67 tm_6_164 rfl (Nat.le_of_ble_eq_true rfl) (congrArg Prod.fst (rd_s0 k67)) (Nat.le_of_ble_eq_true rfl) (Nat.le_refl _) (Nat.le_refl _) rfl (zp_X6_takeStop k67 H68 H69 H70 (fun v72 p73 h74 f75 p76 => ?_))
        have k77 := lk_q (frm_s f75) k67
        have H78 := rdT_c f75 (fun a k q => by omega) H68
        have H79 := rwY_c f75 (fun a k q1 q2 => by omega) G1
        have FR80 := frm_t FR71 (frm_m (S' := (fun a k => (a = y ∧ (k = 3 ∨ k = 4 ∨ (8 ≤ k ∧ k ≤ 11))) ∨ (y + 17 ≤ a ∧ a < y + 25) ∨ a = y + 26)) f75 (fun a k q => by omega))
        skip
        refine z_bret dX6_deedLine_70 rfl (by omega) ⟨rfl, ?_⟩
        rcases p76 with ⟨w, k5, P5, F5⟩ | ⟨w, k5, F5⟩
        · exact kq _ (Or.inr w) _ FR80 (Or.inl ⟨w, ⟨K62, k5⟩, P5, F5, H79⟩)
        · exact kq _ (Or.inl w) _ FR80 (Or.inr ⟨w, fun z => k5 z.2, by rw [xp_y K62]; exact F5⟩)
      · skip
        obtain ⟨k0, f0⟩ := tn_0 p56 (by omega)
        refine z_iconst (0) dX6_deedLine_44 rfl ?_
        refine z_bret dX6_deedLine_45 rfl (Or.inl rfl) ⟨rfl, ?_⟩
        exact kq 0 (Or.inl rfl) _ FR60 (Or.inr ⟨rfl, fun z => k0 z.1, by rw [xp_n k0]; exact f0⟩)
  · exfalso; omega
set_option maxHeartbeats 4000000 in
theorem zp_X6_deedLine_oil {ad : mA} {dd : Nat} {h : mH} {Q : mQ} {y : Nat} {T Y : Int → Int} {L p f q : Int} (hk : rdk h y) (HT : rdT h y T L) (HP : rdP h y T L p) (HF : rdF h y f q) (HG : rwY h (y + 17) Y) (HA : adK ad)  (py : 0 ≤ Y 0 ∧ Y 0 ≤ 40) (pu : tkW T L p = 7301484) (kq : ∀ v : Int, (v = 0 ∨ v = 1) → ∀ h1, frm (fun a k => (a = y ∧ (k = 3 ∨ k = 4 ∨ (8 ≤ k ∧ k ≤ 11))) ∨ (y + 17 ≤ a ∧ a < y + 25) ∨ a = y + 26) h h1 → (lnO h1 y T L [(0, 5)] (tkE T L p) (ntF (40 ≤ Y 0) 3 f) (ntQ (40 ≤ Y 0) (tkS T L p) f q) v (rwY h1 (y + 17) (adY 40 Y 5 (tkV T L (tkE T L p)) (-1)))) → Q (some (.int (zI v))) h1) : mCal TB0 ad (dd + 9) M_X6_deedLine [.ref y] h 0 0 Q := by
  refine ⟨Nat.le_of_ble_eq_true rfl, ?_⟩
  show mEv TB0 ad M_X6_deedLine (dd + 9) (0, 0) (mCal TB0 ad (dd + 8)) (fun v h' z => z.1 = 0 ∧ Q v h') 0 [some (.ref y), none] [] h (0, 0)
  have FR0 : frm (fun a k => (a = y ∧ (k = 3 ∨ k = 4 ∨ (8 ≤ k ∧ k ≤ 11))) ∨ (y + 17 ≤ a ∧ a < y + 25) ∨ a = y + 26) h h := frm_0 h
  have w1 := HT.1
  have tb := tk_b (T := T) HP.1.1 HP.1.2
  have p0 := HP.1
  refine e_aload_n dX6_deedLine_0 rfl ?_
  refine e_callV [] dX6_deedLine_1 tm_6_183 rfl (Nat.le_of_ble_eq_true rfl) (congrArg Prod.fst (rd_s0 hk)) (Nat.le_of_ble_eq_true rfl) (Nat.le_refl _) (Nat.le_refl _) rfl (zp_X6_deedSort_oil hk HT HP HA (by omega) ?_)
  refine e_istore_n (L' := [_, _]) dX6_deedLine_4 (Nat.le_of_ble_eq_true rfl) rfl ?_
  refine e_iload_n dX6_deedLine_5 rfl ?_
  refine z_iconst (-1) dX6_deedLine_6 rfl ?_
  refine z_icmp_ne 15 dX6_deedLine_7 rfl ⟨by omega, by omega⟩ ⟨by omega, by omega⟩ (fun c1 => ?_) (fun c1 => ?_)
  · skip
    refine e_aload_n dX6_deedLine_15 rfl ?_
    refine e_aload_n dX6_deedLine_16 rfl ?_
    refine e_get (.ref (y + 17)) dX6_deedLine_17 tf_6_21 (congrArg Prod.fst (rd_s0 hk)) (congrArg va_rf (rd_r0_1 hk)) ?_
    refine z_get (Y 0) dX6_deedLine_20 tf_6_116 (congrArg Prod.fst (rd_s17 hk)) (Or.inl rfl) HG.1 ?_
    refine z_bipush (40) dX6_deedLine_23 rfl ?_
    refine z_icmp_lt 32 dX6_deedLine_25 rfl ⟨by omega, by omega⟩ ⟨by omega, by omega⟩ (fun c2 => ?_) (fun c2 => ?_)
    · skip
      refine z_iconst (0) dX6_deedLine_32 rfl ?_
      refine e_callV [.int _] dX6_deedLine_33 tm_6_146 rfl (Nat.le_of_ble_eq_true rfl) (congrArg Prod.fst (rd_s0 hk)) (Nat.le_of_ble_eq_true rfl) (Nat.le_refl _) (Nat.le_refl _) rfl (zp_X6_beginLine hk HT HP HF False (fun  h3 f4 p5 p6 p7 => ?_))
      have k8 := lk_q (frm_s f4) hk
      have H9 := rdT_c f4 (fun a k q => by omega) HT
      have H10 := rwY_c f4 (fun a k q1 q2 => by omega) HG
      have FR11 := frm_t FR0 (frm_m (S' := (fun a k => (a = y ∧ (k = 3 ∨ k = 4 ∨ (8 ≤ k ∧ k ≤ 11))) ∨ (y + 17 ≤ a ∧ a < y + 25) ∨ a = y + 26)) f4 (fun a k q => by omega))
      have F12 : rdF h3 y (ntF (40 ≤ Y 0) 3 f) (ntQ (40 ≤ Y 0) (tkS T L p) f q) := by rw [(nt_iff (c := 40 ≤ Y 0) (c' := False) (k := 3) (s := tkS T L p) (f := f) (q := q) ⟨fun z => absurd z (by omega), fun z => z.elim⟩).1, (nt_iff (c := 40 ≤ Y 0) (c' := False) (k := 3) (s := tkS T L p) (f := f) (q := q) ⟨fun z => absurd z (by omega), fun z => z.elim⟩).2]; exact p6
      refine e_aload_n dX6_deedLine_36 rfl ?_
      refine e_iload_n dX6_deedLine_37 rfl ?_
      refine e_callV [.int _] dX6_deedLine_38 tm_6_187 rfl (Nat.le_of_ble_eq_true rfl) (congrArg Prod.fst (rd_s0 k8)) (Nat.le_of_ble_eq_true rfl) (Nat.le_refl _) (Nat.le_refl _) rfl (zp_X6_takeDeedNumbers_5 k8 H9 p5 F12 (fun v13 p14 h15 f16 p17 => ?_))
      have k18 := lk_q (frm_s f16) k8
      have H19 := rdT_c f16 (fun a k q => by omega) H9
      have H20 := rwY_c f16 (fun a k q1 q2 => by omega) H10
      have FR21 := frm_t FR11 (frm_m (S' := (fun a k => (a = y ∧ (k = 3 ∨ k = 4 ∨ (8 ≤ k ∧ k ≤ 11))) ∨ (y + 17 ≤ a ∧ a < y + 25) ∨ a = y + 26)) f16 (fun a k q => by omega))
      skip
      refine z_if_ne 46 dX6_deedLine_41 rfl ⟨by omega, by omega⟩ (fun c22 => ?_) (fun c22 => ?_)
      · skip
        obtain ⟨K23, K23p, K23f, K23n⟩ := tn_1 p17 (by omega)
        refine e_aload_n dX6_deedLine_46 rfl ?_
        refine e_get (.ref (y + 17)) dX6_deedLine_47 tf_6_21 (congrArg Prod.fst (rd_s0 k18)) (congrArg va_rf (rd_r0_1 k18)) ?_
        refine e_iload_n dX6_deedLine_50 rfl ?_
        refine e_aload_n dX6_deedLine_51 rfl ?_
        refine e_get (.ref (y + 26)) dX6_deedLine_52 tf_6_43 (congrArg Prod.fst (rd_s0 k18)) (congrArg va_rf (rd_r0_6 k18)) ?_
        refine z_iconst (0) dX6_deedLine_55 rfl ?_
        refine z_ild (tkV T L (tkE T L p)) dX6_deedLine_56 (rd_s26 k18) (by decide) (by omega) (by omega) K23n ?_
        have y24 := tv_b K23
        refine e_aload_n dX6_deedLine_57 rfl ?_
        refine e_get (.ref (y + 26)) dX6_deedLine_58 tf_6_43 (congrArg Prod.fst (rd_s0 k18)) (congrArg va_rf (rd_r0_6 k18)) ?_
        refine z_iconst (1) dX6_deedLine_61 rfl ?_
        refine z_ild (-1) dX6_deedLine_62 (rd_s26 k18) (by decide) (by omega) (by omega) (((frm_r f16 (by omega))).trans (p7 1 (by omega) (by omega))) ?_
        have SZ : rI h15 (y + 17) 3 = Y 0 := H20.1
        refine e_callV [.int _, .int _, .int _] dX6_deedLine_63 tm_6_191 rfl (Nat.le_of_ble_eq_true rfl) (congrArg Prod.fst (rd_s17 k18)) (Nat.le_of_ble_eq_true rfl) (Nat.le_refl _) (Nat.le_refl _) rfl (zp_X10_add (rd_yr17 k18) (Y 0) 5 ⟨by omega, by omega⟩ (tkV T L (tkE T L p)) ⟨by omega, by omega⟩ (-1) ⟨by omega, by omega⟩ ⟨SZ, by omega, by omega⟩ (fun  h25 f26 p27 => ?_))
        have k28 := lk_q (frm_s f26) k18
        have H29 := rdT_c f26 (fun a k q => by omega) H19
        have H30 := rdP_c f26 (fun a k q => by omega) K23p
        have H31 := rdF_c f26 (fun a k q => by omega) K23f
        have FR32 := frm_t FR21 (frm_m (S' := (fun a k => (a = y ∧ (k = 3 ∨ k = 4 ∨ (8 ≤ k ∧ k ≤ 11))) ∨ (y + 17 ≤ a ∧ a < y + 25) ∨ a = y + 26)) f26 (fun a k q => by omega))
        have G1 : rwY h25 (y + 17) (adY 40 Y 5 (tkV T L (tkE T L p)) (-1)) := rwY_a py.1 H20 f26 p27
        refine e_aload_n dX6_deedLine_66 rfl ?_
        refine e_callV [] dX6_deedLine_67 tm_6_164 rfl (Nat.le_of_ble_eq_true rfl) (congrArg Prod.fst (rd_s0 k28)) (Nat.le_of_ble_eq_true rfl) (Nat.le_refl _) (Nat.le_refl _) rfl (zp_X6_takeStop k28 H29 H30 H31 (fun v33 p34 h35 f36 p37 => ?_))
        have k38 := lk_q (frm_s f36) k28
        have H39 := rdT_c f36 (fun a k q => by omega) H29
        have H40 := rwY_c f36 (fun a k q1 q2 => by omega) G1
        have FR41 := frm_t FR32 (frm_m (S' := (fun a k => (a = y ∧ (k = 3 ∨ k = 4 ∨ (8 ≤ k ∧ k ≤ 11))) ∨ (y + 17 ≤ a ∧ a < y + 25) ∨ a = y + 26)) f36 (fun a k q => by omega))
        skip
        refine z_bret dX6_deedLine_70 rfl (by omega) ⟨rfl, ?_⟩
        rcases p37 with ⟨w, k5, P5, F5⟩ | ⟨w, k5, F5⟩
        · exact kq _ (Or.inr w) _ FR41 (Or.inl ⟨w, ⟨K23, k5⟩, P5, F5, H40⟩)
        · exact kq _ (Or.inl w) _ FR41 (Or.inr ⟨w, fun z => k5 z.2, by rw [xp_y K23]; exact F5⟩)
      · skip
        obtain ⟨k0, f0⟩ := tn_0 p17 (by omega)
        refine z_iconst (0) dX6_deedLine_44 rfl ?_
        refine z_bret dX6_deedLine_45 rfl (Or.inl rfl) ⟨rfl, ?_⟩
        exact kq 0 (Or.inl rfl) _ FR21 (Or.inr ⟨rfl, fun z => k0 z.1, by rw [xp_n k0]; exact f0⟩)
    · skip
      refine z_iconst (1) dX6_deedLine_28 rfl ?_
      refine e_goto 33 dX6_deedLine_29 rfl ?_
      refine e_callV [.int _] dX6_deedLine_33 tm_6_146 rfl (Nat.le_of_ble_eq_true rfl) (congrArg Prod.fst (rd_s0 hk)) (Nat.le_of_ble_eq_true rfl) (Nat.le_refl _) (Nat.le_refl _) rfl (zp_X6_beginLine hk HT HP HF True (fun  h42 f43 p44 p45 p46 => ?_))
      have k47 := lk_q (frm_s f43) hk
      have H48 := rdT_c f43 (fun a k q => by omega) HT
      have H49 := rwY_c f43 (fun a k q1 q2 => by omega) HG
      have FR50 := frm_t FR0 (frm_m (S' := (fun a k => (a = y ∧ (k = 3 ∨ k = 4 ∨ (8 ≤ k ∧ k ≤ 11))) ∨ (y + 17 ≤ a ∧ a < y + 25) ∨ a = y + 26)) f43 (fun a k q => by omega))
      have F51 : rdF h42 y (ntF (40 ≤ Y 0) 3 f) (ntQ (40 ≤ Y 0) (tkS T L p) f q) := by rw [(nt_iff (c := 40 ≤ Y 0) (c' := True) (k := 3) (s := tkS T L p) (f := f) (q := q) ⟨fun _ => trivial, fun _ => by omega⟩).1, (nt_iff (c := 40 ≤ Y 0) (c' := True) (k := 3) (s := tkS T L p) (f := f) (q := q) ⟨fun _ => trivial, fun _ => by omega⟩).2]; exact p45
      refine e_aload_n dX6_deedLine_36 rfl ?_
      refine e_iload_n dX6_deedLine_37 rfl ?_
      refine e_callV [.int _] dX6_deedLine_38 tm_6_187 rfl (Nat.le_of_ble_eq_true rfl) (congrArg Prod.fst (rd_s0 k47)) (Nat.le_of_ble_eq_true rfl) (Nat.le_refl _) (Nat.le_refl _) rfl (zp_X6_takeDeedNumbers_5 k47 H48 p44 F51 (fun v52 p53 h54 f55 p56 => ?_))
      have k57 := lk_q (frm_s f55) k47
      have H58 := rdT_c f55 (fun a k q => by omega) H48
      have H59 := rwY_c f55 (fun a k q1 q2 => by omega) H49
      have FR60 := frm_t FR50 (frm_m (S' := (fun a k => (a = y ∧ (k = 3 ∨ k = 4 ∨ (8 ≤ k ∧ k ≤ 11))) ∨ (y + 17 ≤ a ∧ a < y + 25) ∨ a = y + 26)) f55 (fun a k q => by omega))
      skip
      refine z_if_ne 46 dX6_deedLine_41 rfl ⟨by omega, by omega⟩ (fun c61 => ?_) (fun c61 => ?_)
      · skip
        obtain ⟨K62, K62p, K62f, K62n⟩ := tn_1 p56 (by omega)
        refine e_aload_n dX6_deedLine_46 rfl ?_
        refine e_get (.ref (y + 17)) dX6_deedLine_47 tf_6_21 (congrArg Prod.fst (rd_s0 k57)) (congrArg va_rf (rd_r0_1 k57)) ?_
        refine e_iload_n dX6_deedLine_50 rfl ?_
        refine e_aload_n dX6_deedLine_51 rfl ?_
        refine e_get (.ref (y + 26)) dX6_deedLine_52 tf_6_43 (congrArg Prod.fst (rd_s0 k57)) (congrArg va_rf (rd_r0_6 k57)) ?_
        refine z_iconst (0) dX6_deedLine_55 rfl ?_
        refine z_ild (tkV T L (tkE T L p)) dX6_deedLine_56 (rd_s26 k57) (by decide) (by omega) (by omega) K62n ?_
        have y63 := tv_b K62
        refine e_aload_n dX6_deedLine_57 rfl ?_
        refine e_get (.ref (y + 26)) dX6_deedLine_58 tf_6_43 (congrArg Prod.fst (rd_s0 k57)) (congrArg va_rf (rd_r0_6 k57)) ?_
        refine z_iconst (1) dX6_deedLine_61 rfl ?_
        refine z_ild (-1) dX6_deedLine_62 (rd_s26 k57) (by decide) (by omega) (by omega) (((frm_r f55 (by omega))).trans (p46 1 (by omega) (by omega))) ?_
        have SZ : rI h54 (y + 17) 3 = Y 0 := H59.1
        refine e_callV [.int _, .int _, .int _] dX6_deedLine_63 tm_6_191 rfl (Nat.le_of_ble_eq_true rfl) (congrArg Prod.fst (rd_s17 k57)) (Nat.le_of_ble_eq_true rfl) (Nat.le_refl _) (Nat.le_refl _) rfl (zp_X10_add (rd_yr17 k57) (Y 0) 5 ⟨by omega, by omega⟩ (tkV T L (tkE T L p)) ⟨by omega, by omega⟩ (-1) ⟨by omega, by omega⟩ ⟨SZ, by omega, by omega⟩ (fun  h64 f65 p66 => ?_))
        have k67 := lk_q (frm_s f65) k57
        have H68 := rdT_c f65 (fun a k q => by omega) H58
        have H69 := rdP_c f65 (fun a k q => by omega) K62p
        have H70 := rdF_c f65 (fun a k q => by omega) K62f
        have FR71 := frm_t FR60 (frm_m (S' := (fun a k => (a = y ∧ (k = 3 ∨ k = 4 ∨ (8 ≤ k ∧ k ≤ 11))) ∨ (y + 17 ≤ a ∧ a < y + 25) ∨ a = y + 26)) f65 (fun a k q => by omega))
        have G1 : rwY h64 (y + 17) (adY 40 Y 5 (tkV T L (tkE T L p)) (-1)) := rwY_a py.1 H59 f65 p66
        refine e_aload_n dX6_deedLine_66 rfl ?_
        refine e_callV [] dX6_deedLine_67 tm_6_164 rfl (Nat.le_of_ble_eq_true rfl) (congrArg Prod.fst (rd_s0 k67)) (Nat.le_of_ble_eq_true rfl) (Nat.le_refl _) (Nat.le_refl _) rfl (zp_X6_takeStop k67 H68 H69 H70 (fun v72 p73 h74 f75 p76 => ?_))
        have k77 := lk_q (frm_s f75) k67
        have H78 := rdT_c f75 (fun a k q => by omega) H68
        have H79 := rwY_c f75 (fun a k q1 q2 => by omega) G1
        have FR80 := frm_t FR71 (frm_m (S' := (fun a k => (a = y ∧ (k = 3 ∨ k = 4 ∨ (8 ≤ k ∧ k ≤ 11))) ∨ (y + 17 ≤ a ∧ a < y + 25) ∨ a = y + 26)) f75 (fun a k q => by omega))
        skip
        refine z_bret dX6_deedLine_70 rfl (by omega) ⟨rfl, ?_⟩
        rcases p76 with ⟨w, k5, P5, F5⟩ | ⟨w, k5, F5⟩
        · exact kq _ (Or.inr w) _ FR80 (Or.inl ⟨w, ⟨K62, k5⟩, P5, F5, H79⟩)
        · exact kq _ (Or.inl w) _ FR80 (Or.inr ⟨w, fun z => k5 z.2, by rw [xp_y K62]; exact F5⟩)
      · skip
        obtain ⟨k0, f0⟩ := tn_0 p56 (by omega)
        refine z_iconst (0) dX6_deedLine_44 rfl ?_
        refine z_bret dX6_deedLine_45 rfl (Or.inl rfl) ⟨rfl, ?_⟩
        exact kq 0 (Or.inl rfl) _ FR60 (Or.inr ⟨rfl, fun z => k0 z.1, by rw [xp_n k0]; exact f0⟩)
  · exfalso; omega
set_option maxHeartbeats 4000000 in
theorem zp_X6_deedLine_day {ad : mA} {dd : Nat} {h : mH} {Q : mQ} {y : Nat} {T Y : Int → Int} {L p f q : Int} (hk : rdk h y) (HT : rdT h y T L) (HP : rdP h y T L p) (HF : rdF h y f q) (HG : rwY h (y + 17) Y) (HA : adK ad)  (py : 0 ≤ Y 0 ∧ Y 0 ≤ 40) (pu : tkW T L p = 6578553) (kq : ∀ v : Int, (v = 0 ∨ v = 1) → ∀ h1, frm (fun a k => (a = y ∧ (k = 3 ∨ k = 4 ∨ (8 ≤ k ∧ k ≤ 11))) ∨ (y + 17 ≤ a ∧ a < y + 25) ∨ a = y + 26) h h1 → (lnO h1 y T L [] (tkE T L p) (ntF (40 ≤ Y 0) 3 f) (ntQ (40 ≤ Y 0) (tkS T L p) f q) v (rwY h1 (y + 17) (adY 40 Y 6 (-1) (-1)))) → Q (some (.int (zI v))) h1) : mCal TB0 ad (dd + 9) M_X6_deedLine [.ref y] h 0 0 Q := by
  refine ⟨Nat.le_of_ble_eq_true rfl, ?_⟩
  show mEv TB0 ad M_X6_deedLine (dd + 9) (0, 0) (mCal TB0 ad (dd + 8)) (fun v h' z => z.1 = 0 ∧ Q v h') 0 [some (.ref y), none] [] h (0, 0)
  have FR0 : frm (fun a k => (a = y ∧ (k = 3 ∨ k = 4 ∨ (8 ≤ k ∧ k ≤ 11))) ∨ (y + 17 ≤ a ∧ a < y + 25) ∨ a = y + 26) h h := frm_0 h
  have w1 := HT.1
  have tb := tk_b (T := T) HP.1.1 HP.1.2
  have p0 := HP.1
  refine e_aload_n dX6_deedLine_0 rfl ?_
  refine e_callV [] dX6_deedLine_1 tm_6_183 rfl (Nat.le_of_ble_eq_true rfl) (congrArg Prod.fst (rd_s0 hk)) (Nat.le_of_ble_eq_true rfl) (Nat.le_refl _) (Nat.le_refl _) rfl (zp_X6_deedSort_day hk HT HP HA (by omega) ?_)
  refine e_istore_n (L' := [_, _]) dX6_deedLine_4 (Nat.le_of_ble_eq_true rfl) rfl ?_
  refine e_iload_n dX6_deedLine_5 rfl ?_
  refine z_iconst (-1) dX6_deedLine_6 rfl ?_
  refine z_icmp_ne 15 dX6_deedLine_7 rfl ⟨by omega, by omega⟩ ⟨by omega, by omega⟩ (fun c1 => ?_) (fun c1 => ?_)
  · skip
    refine e_aload_n dX6_deedLine_15 rfl ?_
    refine e_aload_n dX6_deedLine_16 rfl ?_
    refine e_get (.ref (y + 17)) dX6_deedLine_17 tf_6_21 (congrArg Prod.fst (rd_s0 hk)) (congrArg va_rf (rd_r0_1 hk)) ?_
    refine z_get (Y 0) dX6_deedLine_20 tf_6_116 (congrArg Prod.fst (rd_s17 hk)) (Or.inl rfl) HG.1 ?_
    refine z_bipush (40) dX6_deedLine_23 rfl ?_
    refine z_icmp_lt 32 dX6_deedLine_25 rfl ⟨by omega, by omega⟩ ⟨by omega, by omega⟩ (fun c2 => ?_) (fun c2 => ?_)
    · skip
      refine z_iconst (0) dX6_deedLine_32 rfl ?_
      refine e_callV [.int _] dX6_deedLine_33 tm_6_146 rfl (Nat.le_of_ble_eq_true rfl) (congrArg Prod.fst (rd_s0 hk)) (Nat.le_of_ble_eq_true rfl) (Nat.le_refl _) (Nat.le_refl _) rfl (zp_X6_beginLine hk HT HP HF False (fun  h3 f4 p5 p6 p7 => ?_))
      have k8 := lk_q (frm_s f4) hk
      have H9 := rdT_c f4 (fun a k q => by omega) HT
      have H10 := rwY_c f4 (fun a k q1 q2 => by omega) HG
      have FR11 := frm_t FR0 (frm_m (S' := (fun a k => (a = y ∧ (k = 3 ∨ k = 4 ∨ (8 ≤ k ∧ k ≤ 11))) ∨ (y + 17 ≤ a ∧ a < y + 25) ∨ a = y + 26)) f4 (fun a k q => by omega))
      have F12 : rdF h3 y (ntF (40 ≤ Y 0) 3 f) (ntQ (40 ≤ Y 0) (tkS T L p) f q) := by rw [(nt_iff (c := 40 ≤ Y 0) (c' := False) (k := 3) (s := tkS T L p) (f := f) (q := q) ⟨fun z => absurd z (by omega), fun z => z.elim⟩).1, (nt_iff (c := 40 ≤ Y 0) (c' := False) (k := 3) (s := tkS T L p) (f := f) (q := q) ⟨fun z => absurd z (by omega), fun z => z.elim⟩).2]; exact p6
      refine e_aload_n dX6_deedLine_36 rfl ?_
      refine e_iload_n dX6_deedLine_37 rfl ?_
      refine e_callV [.int _] dX6_deedLine_38 tm_6_187 rfl (Nat.le_of_ble_eq_true rfl) (congrArg Prod.fst (rd_s0 k8)) (Nat.le_of_ble_eq_true rfl) (Nat.le_refl _) (Nat.le_refl _) rfl (zp_X6_takeDeedNumbers_6 k8 ?_)
      refine z_ifb_ne 46 dX6_deedLine_41 rfl (fun c13 => ?_) (fun c13 => ?_)
      · skip
        refine e_aload_n dX6_deedLine_46 rfl ?_
        refine e_get (.ref (y + 17)) dX6_deedLine_47 tf_6_21 (congrArg Prod.fst (rd_s0 k8)) (congrArg va_rf (rd_r0_1 k8)) ?_
        refine e_iload_n dX6_deedLine_50 rfl ?_
        refine e_aload_n dX6_deedLine_51 rfl ?_
        refine e_get (.ref (y + 26)) dX6_deedLine_52 tf_6_43 (congrArg Prod.fst (rd_s0 k8)) (congrArg va_rf (rd_r0_6 k8)) ?_
        refine z_iconst (0) dX6_deedLine_55 rfl ?_
        refine z_ild (-1) dX6_deedLine_56 (rd_s26 k8) (by decide) (by omega) (by omega) (p7 0 (by omega) (by omega)) ?_
        refine e_aload_n dX6_deedLine_57 rfl ?_
        refine e_get (.ref (y + 26)) dX6_deedLine_58 tf_6_43 (congrArg Prod.fst (rd_s0 k8)) (congrArg va_rf (rd_r0_6 k8)) ?_
        refine z_iconst (1) dX6_deedLine_61 rfl ?_
        refine z_ild (-1) dX6_deedLine_62 (rd_s26 k8) (by decide) (by omega) (by omega) (p7 1 (by omega) (by omega)) ?_
        have SZ : rI h3 (y + 17) 3 = Y 0 := H10.1
        refine e_callV [.int _, .int _, .int _] dX6_deedLine_63 tm_6_191 rfl (Nat.le_of_ble_eq_true rfl) (congrArg Prod.fst (rd_s17 k8)) (Nat.le_of_ble_eq_true rfl) (Nat.le_refl _) (Nat.le_refl _) rfl (zp_X10_add (rd_yr17 k8) (Y 0) 6 ⟨by omega, by omega⟩ (-1) ⟨by omega, by omega⟩ (-1) ⟨by omega, by omega⟩ ⟨SZ, by omega, by omega⟩ (fun  h14 f15 p16 => ?_))
        have k17 := lk_q (frm_s f15) k8
        have H18 := rdT_c f15 (fun a k q => by omega) H9
        have H19 := rdP_c f15 (fun a k q => by omega) p5
        have H20 := rdF_c f15 (fun a k q => by omega) F12
        have FR21 := frm_t FR11 (frm_m (S' := (fun a k => (a = y ∧ (k = 3 ∨ k = 4 ∨ (8 ≤ k ∧ k ≤ 11))) ∨ (y + 17 ≤ a ∧ a < y + 25) ∨ a = y + 26)) f15 (fun a k q => by omega))
        have G1 : rwY h14 (y + 17) (adY 40 Y 6 (-1) (-1)) := rwY_a py.1 H10 f15 p16
        refine e_aload_n dX6_deedLine_66 rfl ?_
        refine e_callV [] dX6_deedLine_67 tm_6_164 rfl (Nat.le_of_ble_eq_true rfl) (congrArg Prod.fst (rd_s0 k17)) (Nat.le_of_ble_eq_true rfl) (Nat.le_refl _) (Nat.le_refl _) rfl (zp_X6_takeStop k17 H18 H19 H20 (fun v22 p23 h24 f25 p26 => ?_))
        have k27 := lk_q (frm_s f25) k17
        have H28 := rdT_c f25 (fun a k q => by omega) H18
        have H29 := rwY_c f25 (fun a k q1 q2 => by omega) G1
        have FR30 := frm_t FR21 (frm_m (S' := (fun a k => (a = y ∧ (k = 3 ∨ k = 4 ∨ (8 ≤ k ∧ k ≤ 11))) ∨ (y + 17 ≤ a ∧ a < y + 25) ∨ a = y + 26)) f25 (fun a k q => by omega))
        skip
        refine z_bret dX6_deedLine_70 rfl (by omega) ⟨rfl, ?_⟩
        rcases p26 with ⟨w, k5, P5, F5⟩ | ⟨w, k5, F5⟩
        · exact kq _ (Or.inr w) _ FR30 (Or.inl ⟨w, k5, P5, F5, H29⟩)
        · exact kq _ (Or.inl w) _ FR30 (Or.inr ⟨w, fun z => k5 z, F5⟩)
      · exact absurd trivial c13
    · skip
      refine z_iconst (1) dX6_deedLine_28 rfl ?_
      refine e_goto 33 dX6_deedLine_29 rfl ?_
      refine e_callV [.int _] dX6_deedLine_33 tm_6_146 rfl (Nat.le_of_ble_eq_true rfl) (congrArg Prod.fst (rd_s0 hk)) (Nat.le_of_ble_eq_true rfl) (Nat.le_refl _) (Nat.le_refl _) rfl (zp_X6_beginLine hk HT HP HF True (fun  h31 f32 p33 p34 p35 => ?_))
      have k36 := lk_q (frm_s f32) hk
      have H37 := rdT_c f32 (fun a k q => by omega) HT
      have H38 := rwY_c f32 (fun a k q1 q2 => by omega) HG
      have FR39 := frm_t FR0 (frm_m (S' := (fun a k => (a = y ∧ (k = 3 ∨ k = 4 ∨ (8 ≤ k ∧ k ≤ 11))) ∨ (y + 17 ≤ a ∧ a < y + 25) ∨ a = y + 26)) f32 (fun a k q => by omega))
      have F40 : rdF h31 y (ntF (40 ≤ Y 0) 3 f) (ntQ (40 ≤ Y 0) (tkS T L p) f q) := by rw [(nt_iff (c := 40 ≤ Y 0) (c' := True) (k := 3) (s := tkS T L p) (f := f) (q := q) ⟨fun _ => trivial, fun _ => by omega⟩).1, (nt_iff (c := 40 ≤ Y 0) (c' := True) (k := 3) (s := tkS T L p) (f := f) (q := q) ⟨fun _ => trivial, fun _ => by omega⟩).2]; exact p34
      refine e_aload_n dX6_deedLine_36 rfl ?_
      refine e_iload_n dX6_deedLine_37 rfl ?_
      refine e_callV [.int _] dX6_deedLine_38 tm_6_187 rfl (Nat.le_of_ble_eq_true rfl) (congrArg Prod.fst (rd_s0 k36)) (Nat.le_of_ble_eq_true rfl) (Nat.le_refl _) (Nat.le_refl _) rfl (zp_X6_takeDeedNumbers_6 k36 ?_)
      refine z_ifb_ne 46 dX6_deedLine_41 rfl (fun c41 => ?_) (fun c41 => ?_)
      · skip
        refine e_aload_n dX6_deedLine_46 rfl ?_
        refine e_get (.ref (y + 17)) dX6_deedLine_47 tf_6_21 (congrArg Prod.fst (rd_s0 k36)) (congrArg va_rf (rd_r0_1 k36)) ?_
        refine e_iload_n dX6_deedLine_50 rfl ?_
        refine e_aload_n dX6_deedLine_51 rfl ?_
        refine e_get (.ref (y + 26)) dX6_deedLine_52 tf_6_43 (congrArg Prod.fst (rd_s0 k36)) (congrArg va_rf (rd_r0_6 k36)) ?_
        refine z_iconst (0) dX6_deedLine_55 rfl ?_
        refine z_ild (-1) dX6_deedLine_56 (rd_s26 k36) (by decide) (by omega) (by omega) (p35 0 (by omega) (by omega)) ?_
        refine e_aload_n dX6_deedLine_57 rfl ?_
        refine e_get (.ref (y + 26)) dX6_deedLine_58 tf_6_43 (congrArg Prod.fst (rd_s0 k36)) (congrArg va_rf (rd_r0_6 k36)) ?_
        refine z_iconst (1) dX6_deedLine_61 rfl ?_
        refine z_ild (-1) dX6_deedLine_62 (rd_s26 k36) (by decide) (by omega) (by omega) (p35 1 (by omega) (by omega)) ?_
        have SZ : rI h31 (y + 17) 3 = Y 0 := H38.1
        refine e_callV [.int _, .int _, .int _] dX6_deedLine_63 tm_6_191 rfl (Nat.le_of_ble_eq_true rfl) (congrArg Prod.fst (rd_s17 k36)) (Nat.le_of_ble_eq_true rfl) (Nat.le_refl _) (Nat.le_refl _) rfl (zp_X10_add (rd_yr17 k36) (Y 0) 6 ⟨by omega, by omega⟩ (-1) ⟨by omega, by omega⟩ (-1) ⟨by omega, by omega⟩ ⟨SZ, by omega, by omega⟩ (fun  h42 f43 p44 => ?_))
        have k45 := lk_q (frm_s f43) k36
        have H46 := rdT_c f43 (fun a k q => by omega) H37
        have H47 := rdP_c f43 (fun a k q => by omega) p33
        have H48 := rdF_c f43 (fun a k q => by omega) F40
        have FR49 := frm_t FR39 (frm_m (S' := (fun a k => (a = y ∧ (k = 3 ∨ k = 4 ∨ (8 ≤ k ∧ k ≤ 11))) ∨ (y + 17 ≤ a ∧ a < y + 25) ∨ a = y + 26)) f43 (fun a k q => by omega))
        have G1 : rwY h42 (y + 17) (adY 40 Y 6 (-1) (-1)) := rwY_a py.1 H38 f43 p44
        refine e_aload_n dX6_deedLine_66 rfl ?_
        refine e_callV [] dX6_deedLine_67 tm_6_164 rfl (Nat.le_of_ble_eq_true rfl) (congrArg Prod.fst (rd_s0 k45)) (Nat.le_of_ble_eq_true rfl) (Nat.le_refl _) (Nat.le_refl _) rfl (zp_X6_takeStop k45 H46 H47 H48 (fun v50 p51 h52 f53 p54 => ?_))
        have k55 := lk_q (frm_s f53) k45
        have H56 := rdT_c f53 (fun a k q => by omega) H46
        have H57 := rwY_c f53 (fun a k q1 q2 => by omega) G1
        have FR58 := frm_t FR49 (frm_m (S' := (fun a k => (a = y ∧ (k = 3 ∨ k = 4 ∨ (8 ≤ k ∧ k ≤ 11))) ∨ (y + 17 ≤ a ∧ a < y + 25) ∨ a = y + 26)) f53 (fun a k q => by omega))
        skip
        refine z_bret dX6_deedLine_70 rfl (by omega) ⟨rfl, ?_⟩
        rcases p54 with ⟨w, k5, P5, F5⟩ | ⟨w, k5, F5⟩
        · exact kq _ (Or.inr w) _ FR58 (Or.inl ⟨w, k5, P5, F5, H57⟩)
        · exact kq _ (Or.inl w) _ FR58 (Or.inr ⟨w, fun z => k5 z, F5⟩)
      · exact absurd trivial c41
  · exfalso; omega
set_option maxHeartbeats 4000000 in
theorem zp_X6_deedLine_grind_up {ad : mA} {dd : Nat} {h : mH} {Q : mQ} {y : Nat} {T Y : Int → Int} {L p f q : Int} (hk : rdk h y) (HT : rdT h y T L) (HP : rdP h y T L p) (HF : rdF h y f q) (HG : rwY h (y + 17) Y) (HA : adK ad)  (py : 0 ≤ Y 0 ∧ Y 0 ≤ 40) (pu : tkW T L p = 444301143652) (pu4 : tkW T L (tkE T L p) = 30064) (kq : ∀ v : Int, (v = 0 ∨ v = 1) → ∀ h1, frm (fun a k => (a = y ∧ (k = 3 ∨ k = 4 ∨ (8 ≤ k ∧ k ≤ 11))) ∨ (y + 17 ≤ a ∧ a < y + 25) ∨ a = y + 26) h h1 → (lnO h1 y T L [(0, 5)] (tkE T L (tkE T L p)) (ntF (40 ≤ Y 0) 3 f) (ntQ (40 ≤ Y 0) (tkS T L p) f q) v (rwY h1 (y + 17) (adY 40 Y 4 (if tkW T L (tkE T L p) = 30064 then 1 else 0) (tkV T L (tkE T L (tkE T L p)))))) → Q (some (.int (zI v))) h1) : mCal TB0 ad (dd + 9) M_X6_deedLine [.ref y] h 0 0 Q := by
  refine ⟨Nat.le_of_ble_eq_true rfl, ?_⟩
  show mEv TB0 ad M_X6_deedLine (dd + 9) (0, 0) (mCal TB0 ad (dd + 8)) (fun v h' z => z.1 = 0 ∧ Q v h') 0 [some (.ref y), none] [] h (0, 0)
  have FR0 : frm (fun a k => (a = y ∧ (k = 3 ∨ k = 4 ∨ (8 ≤ k ∧ k ≤ 11))) ∨ (y + 17 ≤ a ∧ a < y + 25) ∨ a = y + 26) h h := frm_0 h
  have w1 := HT.1
  have tb := tk_b (T := T) HP.1.1 HP.1.2
  have p0 := HP.1
  refine e_aload_n dX6_deedLine_0 rfl ?_
  refine e_callV [] dX6_deedLine_1 tm_6_183 rfl (Nat.le_of_ble_eq_true rfl) (congrArg Prod.fst (rd_s0 hk)) (Nat.le_of_ble_eq_true rfl) (Nat.le_refl _) (Nat.le_refl _) rfl (zp_X6_deedSort_grind hk HT HP HA (by omega) ?_)
  refine e_istore_n (L' := [_, _]) dX6_deedLine_4 (Nat.le_of_ble_eq_true rfl) rfl ?_
  refine e_iload_n dX6_deedLine_5 rfl ?_
  refine z_iconst (-1) dX6_deedLine_6 rfl ?_
  refine z_icmp_ne 15 dX6_deedLine_7 rfl ⟨by omega, by omega⟩ ⟨by omega, by omega⟩ (fun c1 => ?_) (fun c1 => ?_)
  · skip
    refine e_aload_n dX6_deedLine_15 rfl ?_
    refine e_aload_n dX6_deedLine_16 rfl ?_
    refine e_get (.ref (y + 17)) dX6_deedLine_17 tf_6_21 (congrArg Prod.fst (rd_s0 hk)) (congrArg va_rf (rd_r0_1 hk)) ?_
    refine z_get (Y 0) dX6_deedLine_20 tf_6_116 (congrArg Prod.fst (rd_s17 hk)) (Or.inl rfl) HG.1 ?_
    refine z_bipush (40) dX6_deedLine_23 rfl ?_
    refine z_icmp_lt 32 dX6_deedLine_25 rfl ⟨by omega, by omega⟩ ⟨by omega, by omega⟩ (fun c2 => ?_) (fun c2 => ?_)
    · skip
      refine z_iconst (0) dX6_deedLine_32 rfl ?_
      refine e_callV [.int _] dX6_deedLine_33 tm_6_146 rfl (Nat.le_of_ble_eq_true rfl) (congrArg Prod.fst (rd_s0 hk)) (Nat.le_of_ble_eq_true rfl) (Nat.le_refl _) (Nat.le_refl _) rfl (zp_X6_beginLine hk HT HP HF False (fun  h3 f4 p5 p6 p7 => ?_))
      have k8 := lk_q (frm_s f4) hk
      have H9 := rdT_c f4 (fun a k q => by omega) HT
      have H10 := rwY_c f4 (fun a k q1 q2 => by omega) HG
      have FR11 := frm_t FR0 (frm_m (S' := (fun a k => (a = y ∧ (k = 3 ∨ k = 4 ∨ (8 ≤ k ∧ k ≤ 11))) ∨ (y + 17 ≤ a ∧ a < y + 25) ∨ a = y + 26)) f4 (fun a k q => by omega))
      have F12 : rdF h3 y (ntF (40 ≤ Y 0) 3 f) (ntQ (40 ≤ Y 0) (tkS T L p) f q) := by rw [(nt_iff (c := 40 ≤ Y 0) (c' := False) (k := 3) (s := tkS T L p) (f := f) (q := q) ⟨fun z => absurd z (by omega), fun z => z.elim⟩).1, (nt_iff (c := 40 ≤ Y 0) (c' := False) (k := 3) (s := tkS T L p) (f := f) (q := q) ⟨fun z => absurd z (by omega), fun z => z.elim⟩).2]; exact p6
      refine e_aload_n dX6_deedLine_36 rfl ?_
      refine e_iload_n dX6_deedLine_37 rfl ?_
      refine e_callV [.int _] dX6_deedLine_38 tm_6_187 rfl (Nat.le_of_ble_eq_true rfl) (congrArg Prod.fst (rd_s0 k8)) (Nat.le_of_ble_eq_true rfl) (Nat.le_refl _) (Nat.le_refl _) rfl (zp_X6_takeDeedNumbers_4_up k8 H9 p5 F12 HA pu4 (fun v13 p14 h15 f16 p17 => ?_))
      have k18 := lk_q (frm_s f16) k8
      have H19 := rdT_c f16 (fun a k q => by omega) H9
      have H20 := rwY_c f16 (fun a k q1 q2 => by omega) H10
      have FR21 := frm_t FR11 (frm_m (S' := (fun a k => (a = y ∧ (k = 3 ∨ k = 4 ∨ (8 ≤ k ∧ k ≤ 11))) ∨ (y + 17 ≤ a ∧ a < y + 25) ∨ a = y + 26)) f16 (fun a k q => by omega))
      skip
      refine z_if_ne 46 dX6_deedLine_41 rfl ⟨by omega, by omega⟩ (fun c22 => ?_) (fun c22 => ?_)
      · skip
        obtain ⟨K23s, K23b, K23p, K23f, K23c, K23d⟩ := td4_1 p17 (by omega)
        have sb4 : 0 ≤ (if tkW T L (tkE T L p) = 30064 then 1 else 0 : Int) ∧ (if tkW T L (tkE T L p) = 30064 then 1 else 0 : Int) ≤ 1 := by split <;> omega
        refine e_aload_n dX6_deedLine_46 rfl ?_
        refine e_get (.ref (y + 17)) dX6_deedLine_47 tf_6_21 (congrArg Prod.fst (rd_s0 k18)) (congrArg va_rf (rd_r0_1 k18)) ?_
        refine e_iload_n dX6_deedLine_50 rfl ?_
        refine e_aload_n dX6_deedLine_51 rfl ?_
        refine e_get (.ref (y + 26)) dX6_deedLine_52 tf_6_43 (congrArg Prod.fst (rd_s0 k18)) (congrArg va_rf (rd_r0_6 k18)) ?_
        refine z_iconst (0) dX6_deedLine_55 rfl ?_
        refine z_ild (if tkW T L (tkE T L p) = 30064 then 1 else 0) dX6_deedLine_56 (rd_s26 k18) (by decide) (by omega) (by omega) K23c ?_
        refine e_aload_n dX6_deedLine_57 rfl ?_
        refine e_get (.ref (y + 26)) dX6_deedLine_58 tf_6_43 (congrArg Prod.fst (rd_s0 k18)) (congrArg va_rf (rd_r0_6 k18)) ?_
        refine z_iconst (1) dX6_deedLine_61 rfl ?_
        refine z_ild (tkV T L (tkE T L (tkE T L p))) dX6_deedLine_62 (rd_s26 k18) (by decide) (by omega) (by omega) K23d ?_
        have y24 := tv_b K23b
        have SZ : rI h15 (y + 17) 3 = Y 0 := H20.1
        refine e_callV [.int _, .int _, .int _] dX6_deedLine_63 tm_6_191 rfl (Nat.le_of_ble_eq_true rfl) (congrArg Prod.fst (rd_s17 k18)) (Nat.le_of_ble_eq_true rfl) (Nat.le_refl _) (Nat.le_refl _) rfl (zp_X10_add (rd_yr17 k18) (Y 0) 4 ⟨by omega, by omega⟩ (if tkW T L (tkE T L p) = 30064 then 1 else 0) ⟨by omega, by omega⟩ (tkV T L (tkE T L (tkE T L p))) ⟨by omega, by omega⟩ ⟨SZ, by omega, by omega⟩ (fun  h25 f26 p27 => ?_))
        have k28 := lk_q (frm_s f26) k18
        have H29 := rdT_c f26 (fun a k q => by omega) H19
        have H30 := rdP_c f26 (fun a k q => by omega) K23p
        have H31 := rdF_c f26 (fun a k q => by omega) K23f
        have FR32 := frm_t FR21 (frm_m (S' := (fun a k => (a = y ∧ (k = 3 ∨ k = 4 ∨ (8 ≤ k ∧ k ≤ 11))) ∨ (y + 17 ≤ a ∧ a < y + 25) ∨ a = y + 26)) f26 (fun a k q => by omega))
        have G1 : rwY h25 (y + 17) (adY 40 Y 4 (if tkW T L (tkE T L p) = 30064 then 1 else 0) (tkV T L (tkE T L (tkE T L p)))) := rwY_a py.1 H20 f26 p27
        refine e_aload_n dX6_deedLine_66 rfl ?_
        refine e_callV [] dX6_deedLine_67 tm_6_164 rfl (Nat.le_of_ble_eq_true rfl) (congrArg Prod.fst (rd_s0 k28)) (Nat.le_of_ble_eq_true rfl) (Nat.le_refl _) (Nat.le_refl _) rfl (zp_X6_takeStop k28 H29 H30 H31 (fun v33 p34 h35 f36 p37 => ?_))
        have k38 := lk_q (frm_s f36) k28
        have H39 := rdT_c f36 (fun a k q => by omega) H29
        have H40 := rwY_c f36 (fun a k q1 q2 => by omega) G1
        have FR41 := frm_t FR32 (frm_m (S' := (fun a k => (a = y ∧ (k = 3 ∨ k = 4 ∨ (8 ≤ k ∧ k ≤ 11))) ∨ (y + 17 ≤ a ∧ a < y + 25) ∨ a = y + 26)) f36 (fun a k q => by omega))
        skip
        refine z_bret dX6_deedLine_70 rfl (by omega) ⟨rfl, ?_⟩
        rcases p37 with ⟨w, k5, P5, F5⟩ | ⟨w, k5, F5⟩
        · exact kq _ (Or.inr w) _ FR41 (Or.inl ⟨w, ⟨K23b, k5⟩, P5, F5, H40⟩)
        · exact kq _ (Or.inl w) _ FR41 (Or.inr ⟨w, fun z => k5 z.2, by rw [xp_y K23b]; exact F5⟩)
      · skip
        refine z_iconst (0) dX6_deedLine_44 rfl ?_
        refine z_bret dX6_deedLine_45 rfl (Or.inl rfl) ⟨rfl, ?_⟩
        rcases td4_0 p17 (by omega) with ⟨k0, f0⟩ | ⟨k1, k0, f0⟩
        · exfalso; omega
        · exact kq 0 (Or.inl rfl) _ FR21 (Or.inr ⟨rfl, fun z => k0 z.1, by rw [xp_n k0]; exact f0⟩)
    · skip
      refine z_iconst (1) dX6_deedLine_28 rfl ?_
      refine e_goto 33 dX6_deedLine_29 rfl ?_
      refine e_callV [.int _] dX6_deedLine_33 tm_6_146 rfl (Nat.le_of_ble_eq_true rfl) (congrArg Prod.fst (rd_s0 hk)) (Nat.le_of_ble_eq_true rfl) (Nat.le_refl _) (Nat.le_refl _) rfl (zp_X6_beginLine hk HT HP HF True (fun  h42 f43 p44 p45 p46 => ?_))
      have k47 := lk_q (frm_s f43) hk
      have H48 := rdT_c f43 (fun a k q => by omega) HT
      have H49 := rwY_c f43 (fun a k q1 q2 => by omega) HG
      have FR50 := frm_t FR0 (frm_m (S' := (fun a k => (a = y ∧ (k = 3 ∨ k = 4 ∨ (8 ≤ k ∧ k ≤ 11))) ∨ (y + 17 ≤ a ∧ a < y + 25) ∨ a = y + 26)) f43 (fun a k q => by omega))
      have F51 : rdF h42 y (ntF (40 ≤ Y 0) 3 f) (ntQ (40 ≤ Y 0) (tkS T L p) f q) := by rw [(nt_iff (c := 40 ≤ Y 0) (c' := True) (k := 3) (s := tkS T L p) (f := f) (q := q) ⟨fun _ => trivial, fun _ => by omega⟩).1, (nt_iff (c := 40 ≤ Y 0) (c' := True) (k := 3) (s := tkS T L p) (f := f) (q := q) ⟨fun _ => trivial, fun _ => by omega⟩).2]; exact p45
      refine e_aload_n dX6_deedLine_36 rfl ?_
      refine e_iload_n dX6_deedLine_37 rfl ?_
      refine e_callV [.int _] dX6_deedLine_38 tm_6_187 rfl (Nat.le_of_ble_eq_true rfl) (congrArg Prod.fst (rd_s0 k47)) (Nat.le_of_ble_eq_true rfl) (Nat.le_refl _) (Nat.le_refl _) rfl (zp_X6_takeDeedNumbers_4_up k47 H48 p44 F51 HA pu4 (fun v52 p53 h54 f55 p56 => ?_))
      have k57 := lk_q (frm_s f55) k47
      have H58 := rdT_c f55 (fun a k q => by omega) H48
      have H59 := rwY_c f55 (fun a k q1 q2 => by omega) H49
      have FR60 := frm_t FR50 (frm_m (S' := (fun a k => (a = y ∧ (k = 3 ∨ k = 4 ∨ (8 ≤ k ∧ k ≤ 11))) ∨ (y + 17 ≤ a ∧ a < y + 25) ∨ a = y + 26)) f55 (fun a k q => by omega))
      skip
      refine z_if_ne 46 dX6_deedLine_41 rfl ⟨by omega, by omega⟩ (fun c61 => ?_) (fun c61 => ?_)
      · skip
        obtain ⟨K62s, K62b, K62p, K62f, K62c, K62d⟩ := td4_1 p56 (by omega)
        have sb4 : 0 ≤ (if tkW T L (tkE T L p) = 30064 then 1 else 0 : Int) ∧ (if tkW T L (tkE T L p) = 30064 then 1 else 0 : Int) ≤ 1 := by split <;> omega
        refine e_aload_n dX6_deedLine_46 rfl ?_
        refine e_get (.ref (y + 17)) dX6_deedLine_47 tf_6_21 (congrArg Prod.fst (rd_s0 k57)) (congrArg va_rf (rd_r0_1 k57)) ?_
        refine e_iload_n dX6_deedLine_50 rfl ?_
        refine e_aload_n dX6_deedLine_51 rfl ?_
        refine e_get (.ref (y + 26)) dX6_deedLine_52 tf_6_43 (congrArg Prod.fst (rd_s0 k57)) (congrArg va_rf (rd_r0_6 k57)) ?_
        refine z_iconst (0) dX6_deedLine_55 rfl ?_
        refine z_ild (if tkW T L (tkE T L p) = 30064 then 1 else 0) dX6_deedLine_56 (rd_s26 k57) (by decide) (by omega) (by omega) K62c ?_
        refine e_aload_n dX6_deedLine_57 rfl ?_
        refine e_get (.ref (y + 26)) dX6_deedLine_58 tf_6_43 (congrArg Prod.fst (rd_s0 k57)) (congrArg va_rf (rd_r0_6 k57)) ?_
        refine z_iconst (1) dX6_deedLine_61 rfl ?_
        refine z_ild (tkV T L (tkE T L (tkE T L p))) dX6_deedLine_62 (rd_s26 k57) (by decide) (by omega) (by omega) K62d ?_
        have y63 := tv_b K62b
        have SZ : rI h54 (y + 17) 3 = Y 0 := H59.1
        refine e_callV [.int _, .int _, .int _] dX6_deedLine_63 tm_6_191 rfl (Nat.le_of_ble_eq_true rfl) (congrArg Prod.fst (rd_s17 k57)) (Nat.le_of_ble_eq_true rfl) (Nat.le_refl _) (Nat.le_refl _) rfl (zp_X10_add (rd_yr17 k57) (Y 0) 4 ⟨by omega, by omega⟩ (if tkW T L (tkE T L p) = 30064 then 1 else 0) ⟨by omega, by omega⟩ (tkV T L (tkE T L (tkE T L p))) ⟨by omega, by omega⟩ ⟨SZ, by omega, by omega⟩ (fun  h64 f65 p66 => ?_))
        have k67 := lk_q (frm_s f65) k57
        have H68 := rdT_c f65 (fun a k q => by omega) H58
        have H69 := rdP_c f65 (fun a k q => by omega) K62p
        have H70 := rdF_c f65 (fun a k q => by omega) K62f
        have FR71 := frm_t FR60 (frm_m (S' := (fun a k => (a = y ∧ (k = 3 ∨ k = 4 ∨ (8 ≤ k ∧ k ≤ 11))) ∨ (y + 17 ≤ a ∧ a < y + 25) ∨ a = y + 26)) f65 (fun a k q => by omega))
        have G1 : rwY h64 (y + 17) (adY 40 Y 4 (if tkW T L (tkE T L p) = 30064 then 1 else 0) (tkV T L (tkE T L (tkE T L p)))) := rwY_a py.1 H59 f65 p66
        refine e_aload_n dX6_deedLine_66 rfl ?_
        refine e_callV [] dX6_deedLine_67 tm_6_164 rfl (Nat.le_of_ble_eq_true rfl) (congrArg Prod.fst (rd_s0 k67)) (Nat.le_of_ble_eq_true rfl) (Nat.le_refl _) (Nat.le_refl _) rfl (zp_X6_takeStop k67 H68 H69 H70 (fun v72 p73 h74 f75 p76 => ?_))
        have k77 := lk_q (frm_s f75) k67
        have H78 := rdT_c f75 (fun a k q => by omega) H68
        have H79 := rwY_c f75 (fun a k q1 q2 => by omega) G1
        have FR80 := frm_t FR71 (frm_m (S' := (fun a k => (a = y ∧ (k = 3 ∨ k = 4 ∨ (8 ≤ k ∧ k ≤ 11))) ∨ (y + 17 ≤ a ∧ a < y + 25) ∨ a = y + 26)) f75 (fun a k q => by omega))
        skip
        refine z_bret dX6_deedLine_70 rfl (by omega) ⟨rfl, ?_⟩
        rcases p76 with ⟨w, k5, P5, F5⟩ | ⟨w, k5, F5⟩
        · exact kq _ (Or.inr w) _ FR80 (Or.inl ⟨w, ⟨K62b, k5⟩, P5, F5, H79⟩)
        · exact kq _ (Or.inl w) _ FR80 (Or.inr ⟨w, fun z => k5 z.2, by rw [xp_y K62b]; exact F5⟩)
      · skip
        refine z_iconst (0) dX6_deedLine_44 rfl ?_
        refine z_bret dX6_deedLine_45 rfl (Or.inl rfl) ⟨rfl, ?_⟩
        rcases td4_0 p56 (by omega) with ⟨k0, f0⟩ | ⟨k1, k0, f0⟩
        · exfalso; omega
        · exact kq 0 (Or.inl rfl) _ FR60 (Or.inr ⟨rfl, fun z => k0 z.1, by rw [xp_n k0]; exact f0⟩)
  · exfalso; omega
set_option maxHeartbeats 4000000 in
theorem zp_X6_deedLine_grind_down {ad : mA} {dd : Nat} {h : mH} {Q : mQ} {y : Nat} {T Y : Int → Int} {L p f q : Int} (hk : rdk h y) (HT : rdT h y T L) (HP : rdP h y T L p) (HF : rdF h y f q) (HG : rwY h (y + 17) Y) (HA : adK ad)  (py : 0 ≤ Y 0 ∧ Y 0 ≤ 40) (pu : tkW T L p = 444301143652) (pu4 : tkW T L (tkE T L p) = 1685026670) (kq : ∀ v : Int, (v = 0 ∨ v = 1) → ∀ h1, frm (fun a k => (a = y ∧ (k = 3 ∨ k = 4 ∨ (8 ≤ k ∧ k ≤ 11))) ∨ (y + 17 ≤ a ∧ a < y + 25) ∨ a = y + 26) h h1 → (lnO h1 y T L [(0, 5)] (tkE T L (tkE T L p)) (ntF (40 ≤ Y 0) 3 f) (ntQ (40 ≤ Y 0) (tkS T L p) f q) v (rwY h1 (y + 17) (adY 40 Y 4 (if tkW T L (tkE T L p) = 30064 then 1 else 0) (tkV T L (tkE T L (tkE T L p)))))) → Q (some (.int (zI v))) h1) : mCal TB0 ad (dd + 9) M_X6_deedLine [.ref y] h 0 0 Q := by
  refine ⟨Nat.le_of_ble_eq_true rfl, ?_⟩
  show mEv TB0 ad M_X6_deedLine (dd + 9) (0, 0) (mCal TB0 ad (dd + 8)) (fun v h' z => z.1 = 0 ∧ Q v h') 0 [some (.ref y), none] [] h (0, 0)
  have FR0 : frm (fun a k => (a = y ∧ (k = 3 ∨ k = 4 ∨ (8 ≤ k ∧ k ≤ 11))) ∨ (y + 17 ≤ a ∧ a < y + 25) ∨ a = y + 26) h h := frm_0 h
  have w1 := HT.1
  have tb := tk_b (T := T) HP.1.1 HP.1.2
  have p0 := HP.1
  refine e_aload_n dX6_deedLine_0 rfl ?_
  refine e_callV [] dX6_deedLine_1 tm_6_183 rfl (Nat.le_of_ble_eq_true rfl) (congrArg Prod.fst (rd_s0 hk)) (Nat.le_of_ble_eq_true rfl) (Nat.le_refl _) (Nat.le_refl _) rfl (zp_X6_deedSort_grind hk HT HP HA (by omega) ?_)
  refine e_istore_n (L' := [_, _]) dX6_deedLine_4 (Nat.le_of_ble_eq_true rfl) rfl ?_
  refine e_iload_n dX6_deedLine_5 rfl ?_
  refine z_iconst (-1) dX6_deedLine_6 rfl ?_
  refine z_icmp_ne 15 dX6_deedLine_7 rfl ⟨by omega, by omega⟩ ⟨by omega, by omega⟩ (fun c1 => ?_) (fun c1 => ?_)
  · skip
    refine e_aload_n dX6_deedLine_15 rfl ?_
    refine e_aload_n dX6_deedLine_16 rfl ?_
    refine e_get (.ref (y + 17)) dX6_deedLine_17 tf_6_21 (congrArg Prod.fst (rd_s0 hk)) (congrArg va_rf (rd_r0_1 hk)) ?_
    refine z_get (Y 0) dX6_deedLine_20 tf_6_116 (congrArg Prod.fst (rd_s17 hk)) (Or.inl rfl) HG.1 ?_
    refine z_bipush (40) dX6_deedLine_23 rfl ?_
    refine z_icmp_lt 32 dX6_deedLine_25 rfl ⟨by omega, by omega⟩ ⟨by omega, by omega⟩ (fun c2 => ?_) (fun c2 => ?_)
    · skip
      refine z_iconst (0) dX6_deedLine_32 rfl ?_
      refine e_callV [.int _] dX6_deedLine_33 tm_6_146 rfl (Nat.le_of_ble_eq_true rfl) (congrArg Prod.fst (rd_s0 hk)) (Nat.le_of_ble_eq_true rfl) (Nat.le_refl _) (Nat.le_refl _) rfl (zp_X6_beginLine hk HT HP HF False (fun  h3 f4 p5 p6 p7 => ?_))
      have k8 := lk_q (frm_s f4) hk
      have H9 := rdT_c f4 (fun a k q => by omega) HT
      have H10 := rwY_c f4 (fun a k q1 q2 => by omega) HG
      have FR11 := frm_t FR0 (frm_m (S' := (fun a k => (a = y ∧ (k = 3 ∨ k = 4 ∨ (8 ≤ k ∧ k ≤ 11))) ∨ (y + 17 ≤ a ∧ a < y + 25) ∨ a = y + 26)) f4 (fun a k q => by omega))
      have F12 : rdF h3 y (ntF (40 ≤ Y 0) 3 f) (ntQ (40 ≤ Y 0) (tkS T L p) f q) := by rw [(nt_iff (c := 40 ≤ Y 0) (c' := False) (k := 3) (s := tkS T L p) (f := f) (q := q) ⟨fun z => absurd z (by omega), fun z => z.elim⟩).1, (nt_iff (c := 40 ≤ Y 0) (c' := False) (k := 3) (s := tkS T L p) (f := f) (q := q) ⟨fun z => absurd z (by omega), fun z => z.elim⟩).2]; exact p6
      refine e_aload_n dX6_deedLine_36 rfl ?_
      refine e_iload_n dX6_deedLine_37 rfl ?_
      refine e_callV [.int _] dX6_deedLine_38 tm_6_187 rfl (Nat.le_of_ble_eq_true rfl) (congrArg Prod.fst (rd_s0 k8)) (Nat.le_of_ble_eq_true rfl) (Nat.le_refl _) (Nat.le_refl _) rfl (zp_X6_takeDeedNumbers_4_down k8 H9 p5 F12 HA pu4 (fun v13 p14 h15 f16 p17 => ?_))
      have k18 := lk_q (frm_s f16) k8
      have H19 := rdT_c f16 (fun a k q => by omega) H9
      have H20 := rwY_c f16 (fun a k q1 q2 => by omega) H10
      have FR21 := frm_t FR11 (frm_m (S' := (fun a k => (a = y ∧ (k = 3 ∨ k = 4 ∨ (8 ≤ k ∧ k ≤ 11))) ∨ (y + 17 ≤ a ∧ a < y + 25) ∨ a = y + 26)) f16 (fun a k q => by omega))
      skip
      refine z_if_ne 46 dX6_deedLine_41 rfl ⟨by omega, by omega⟩ (fun c22 => ?_) (fun c22 => ?_)
      · skip
        obtain ⟨K23s, K23b, K23p, K23f, K23c, K23d⟩ := td4_1 p17 (by omega)
        have sb4 : 0 ≤ (if tkW T L (tkE T L p) = 30064 then 1 else 0 : Int) ∧ (if tkW T L (tkE T L p) = 30064 then 1 else 0 : Int) ≤ 1 := by split <;> omega
        refine e_aload_n dX6_deedLine_46 rfl ?_
        refine e_get (.ref (y + 17)) dX6_deedLine_47 tf_6_21 (congrArg Prod.fst (rd_s0 k18)) (congrArg va_rf (rd_r0_1 k18)) ?_
        refine e_iload_n dX6_deedLine_50 rfl ?_
        refine e_aload_n dX6_deedLine_51 rfl ?_
        refine e_get (.ref (y + 26)) dX6_deedLine_52 tf_6_43 (congrArg Prod.fst (rd_s0 k18)) (congrArg va_rf (rd_r0_6 k18)) ?_
        refine z_iconst (0) dX6_deedLine_55 rfl ?_
        refine z_ild (if tkW T L (tkE T L p) = 30064 then 1 else 0) dX6_deedLine_56 (rd_s26 k18) (by decide) (by omega) (by omega) K23c ?_
        refine e_aload_n dX6_deedLine_57 rfl ?_
        refine e_get (.ref (y + 26)) dX6_deedLine_58 tf_6_43 (congrArg Prod.fst (rd_s0 k18)) (congrArg va_rf (rd_r0_6 k18)) ?_
        refine z_iconst (1) dX6_deedLine_61 rfl ?_
        refine z_ild (tkV T L (tkE T L (tkE T L p))) dX6_deedLine_62 (rd_s26 k18) (by decide) (by omega) (by omega) K23d ?_
        have y24 := tv_b K23b
        have SZ : rI h15 (y + 17) 3 = Y 0 := H20.1
        refine e_callV [.int _, .int _, .int _] dX6_deedLine_63 tm_6_191 rfl (Nat.le_of_ble_eq_true rfl) (congrArg Prod.fst (rd_s17 k18)) (Nat.le_of_ble_eq_true rfl) (Nat.le_refl _) (Nat.le_refl _) rfl (zp_X10_add (rd_yr17 k18) (Y 0) 4 ⟨by omega, by omega⟩ (if tkW T L (tkE T L p) = 30064 then 1 else 0) ⟨by omega, by omega⟩ (tkV T L (tkE T L (tkE T L p))) ⟨by omega, by omega⟩ ⟨SZ, by omega, by omega⟩ (fun  h25 f26 p27 => ?_))
        have k28 := lk_q (frm_s f26) k18
        have H29 := rdT_c f26 (fun a k q => by omega) H19
        have H30 := rdP_c f26 (fun a k q => by omega) K23p
        have H31 := rdF_c f26 (fun a k q => by omega) K23f
        have FR32 := frm_t FR21 (frm_m (S' := (fun a k => (a = y ∧ (k = 3 ∨ k = 4 ∨ (8 ≤ k ∧ k ≤ 11))) ∨ (y + 17 ≤ a ∧ a < y + 25) ∨ a = y + 26)) f26 (fun a k q => by omega))
        have G1 : rwY h25 (y + 17) (adY 40 Y 4 (if tkW T L (tkE T L p) = 30064 then 1 else 0) (tkV T L (tkE T L (tkE T L p)))) := rwY_a py.1 H20 f26 p27
        refine e_aload_n dX6_deedLine_66 rfl ?_
        refine e_callV [] dX6_deedLine_67 tm_6_164 rfl (Nat.le_of_ble_eq_true rfl) (congrArg Prod.fst (rd_s0 k28)) (Nat.le_of_ble_eq_true rfl) (Nat.le_refl _) (Nat.le_refl _) rfl (zp_X6_takeStop k28 H29 H30 H31 (fun v33 p34 h35 f36 p37 => ?_))
        have k38 := lk_q (frm_s f36) k28
        have H39 := rdT_c f36 (fun a k q => by omega) H29
        have H40 := rwY_c f36 (fun a k q1 q2 => by omega) G1
        have FR41 := frm_t FR32 (frm_m (S' := (fun a k => (a = y ∧ (k = 3 ∨ k = 4 ∨ (8 ≤ k ∧ k ≤ 11))) ∨ (y + 17 ≤ a ∧ a < y + 25) ∨ a = y + 26)) f36 (fun a k q => by omega))
        skip
        refine z_bret dX6_deedLine_70 rfl (by omega) ⟨rfl, ?_⟩
        rcases p37 with ⟨w, k5, P5, F5⟩ | ⟨w, k5, F5⟩
        · exact kq _ (Or.inr w) _ FR41 (Or.inl ⟨w, ⟨K23b, k5⟩, P5, F5, H40⟩)
        · exact kq _ (Or.inl w) _ FR41 (Or.inr ⟨w, fun z => k5 z.2, by rw [xp_y K23b]; exact F5⟩)
      · skip
        refine z_iconst (0) dX6_deedLine_44 rfl ?_
        refine z_bret dX6_deedLine_45 rfl (Or.inl rfl) ⟨rfl, ?_⟩
        rcases td4_0 p17 (by omega) with ⟨k0, f0⟩ | ⟨k1, k0, f0⟩
        · exfalso; omega
        · exact kq 0 (Or.inl rfl) _ FR21 (Or.inr ⟨rfl, fun z => k0 z.1, by rw [xp_n k0]; exact f0⟩)
    · skip
      refine z_iconst (1) dX6_deedLine_28 rfl ?_
      refine e_goto 33 dX6_deedLine_29 rfl ?_
      refine e_callV [.int _] dX6_deedLine_33 tm_6_146 rfl (Nat.le_of_ble_eq_true rfl) (congrArg Prod.fst (rd_s0 hk)) (Nat.le_of_ble_eq_true rfl) (Nat.le_refl _) (Nat.le_refl _) rfl (zp_X6_beginLine hk HT HP HF True (fun  h42 f43 p44 p45 p46 => ?_))
      have k47 := lk_q (frm_s f43) hk
      have H48 := rdT_c f43 (fun a k q => by omega) HT
      have H49 := rwY_c f43 (fun a k q1 q2 => by omega) HG
      have FR50 := frm_t FR0 (frm_m (S' := (fun a k => (a = y ∧ (k = 3 ∨ k = 4 ∨ (8 ≤ k ∧ k ≤ 11))) ∨ (y + 17 ≤ a ∧ a < y + 25) ∨ a = y + 26)) f43 (fun a k q => by omega))
      have F51 : rdF h42 y (ntF (40 ≤ Y 0) 3 f) (ntQ (40 ≤ Y 0) (tkS T L p) f q) := by rw [(nt_iff (c := 40 ≤ Y 0) (c' := True) (k := 3) (s := tkS T L p) (f := f) (q := q) ⟨fun _ => trivial, fun _ => by omega⟩).1, (nt_iff (c := 40 ≤ Y 0) (c' := True) (k := 3) (s := tkS T L p) (f := f) (q := q) ⟨fun _ => trivial, fun _ => by omega⟩).2]; exact p45
      refine e_aload_n dX6_deedLine_36 rfl ?_
      refine e_iload_n dX6_deedLine_37 rfl ?_
      refine e_callV [.int _] dX6_deedLine_38 tm_6_187 rfl (Nat.le_of_ble_eq_true rfl) (congrArg Prod.fst (rd_s0 k47)) (Nat.le_of_ble_eq_true rfl) (Nat.le_refl _) (Nat.le_refl _) rfl (zp_X6_takeDeedNumbers_4_down k47 H48 p44 F51 HA pu4 (fun v52 p53 h54 f55 p56 => ?_))
      have k57 := lk_q (frm_s f55) k47
      have H58 := rdT_c f55 (fun a k q => by omega) H48
      have H59 := rwY_c f55 (fun a k q1 q2 => by omega) H49
      have FR60 := frm_t FR50 (frm_m (S' := (fun a k => (a = y ∧ (k = 3 ∨ k = 4 ∨ (8 ≤ k ∧ k ≤ 11))) ∨ (y + 17 ≤ a ∧ a < y + 25) ∨ a = y + 26)) f55 (fun a k q => by omega))
      skip
      refine z_if_ne 46 dX6_deedLine_41 rfl ⟨by omega, by omega⟩ (fun c61 => ?_) (fun c61 => ?_)
      · skip
        obtain ⟨K62s, K62b, K62p, K62f, K62c, K62d⟩ := td4_1 p56 (by omega)
        have sb4 : 0 ≤ (if tkW T L (tkE T L p) = 30064 then 1 else 0 : Int) ∧ (if tkW T L (tkE T L p) = 30064 then 1 else 0 : Int) ≤ 1 := by split <;> omega
        refine e_aload_n dX6_deedLine_46 rfl ?_
        refine e_get (.ref (y + 17)) dX6_deedLine_47 tf_6_21 (congrArg Prod.fst (rd_s0 k57)) (congrArg va_rf (rd_r0_1 k57)) ?_
        refine e_iload_n dX6_deedLine_50 rfl ?_
        refine e_aload_n dX6_deedLine_51 rfl ?_
        refine e_get (.ref (y + 26)) dX6_deedLine_52 tf_6_43 (congrArg Prod.fst (rd_s0 k57)) (congrArg va_rf (rd_r0_6 k57)) ?_
        refine z_iconst (0) dX6_deedLine_55 rfl ?_
        refine z_ild (if tkW T L (tkE T L p) = 30064 then 1 else 0) dX6_deedLine_56 (rd_s26 k57) (by decide) (by omega) (by omega) K62c ?_
        refine e_aload_n dX6_deedLine_57 rfl ?_
        refine e_get (.ref (y + 26)) dX6_deedLine_58 tf_6_43 (congrArg Prod.fst (rd_s0 k57)) (congrArg va_rf (rd_r0_6 k57)) ?_
        refine z_iconst (1) dX6_deedLine_61 rfl ?_
        refine z_ild (tkV T L (tkE T L (tkE T L p))) dX6_deedLine_62 (rd_s26 k57) (by decide) (by omega) (by omega) K62d ?_
        have y63 := tv_b K62b
        have SZ : rI h54 (y + 17) 3 = Y 0 := H59.1
        refine e_callV [.int _, .int _, .int _] dX6_deedLine_63 tm_6_191 rfl (Nat.le_of_ble_eq_true rfl) (congrArg Prod.fst (rd_s17 k57)) (Nat.le_of_ble_eq_true rfl) (Nat.le_refl _) (Nat.le_refl _) rfl (zp_X10_add (rd_yr17 k57) (Y 0) 4 ⟨by omega, by omega⟩ (if tkW T L (tkE T L p) = 30064 then 1 else 0) ⟨by omega, by omega⟩ (tkV T L (tkE T L (tkE T L p))) ⟨by omega, by omega⟩ ⟨SZ, by omega, by omega⟩ (fun  h64 f65 p66 => ?_))
        have k67 := lk_q (frm_s f65) k57
        have H68 := rdT_c f65 (fun a k q => by omega) H58
        have H69 := rdP_c f65 (fun a k q => by omega) K62p
        have H70 := rdF_c f65 (fun a k q => by omega) K62f
        have FR71 := frm_t FR60 (frm_m (S' := (fun a k => (a = y ∧ (k = 3 ∨ k = 4 ∨ (8 ≤ k ∧ k ≤ 11))) ∨ (y + 17 ≤ a ∧ a < y + 25) ∨ a = y + 26)) f65 (fun a k q => by omega))
        have G1 : rwY h64 (y + 17) (adY 40 Y 4 (if tkW T L (tkE T L p) = 30064 then 1 else 0) (tkV T L (tkE T L (tkE T L p)))) := rwY_a py.1 H59 f65 p66
        refine e_aload_n dX6_deedLine_66 rfl ?_
        refine e_callV [] dX6_deedLine_67 tm_6_164 rfl (Nat.le_of_ble_eq_true rfl) (congrArg Prod.fst (rd_s0 k67)) (Nat.le_of_ble_eq_true rfl) (Nat.le_refl _) (Nat.le_refl _) rfl (zp_X6_takeStop k67 H68 H69 H70 (fun v72 p73 h74 f75 p76 => ?_))
        have k77 := lk_q (frm_s f75) k67
        have H78 := rdT_c f75 (fun a k q => by omega) H68
        have H79 := rwY_c f75 (fun a k q1 q2 => by omega) G1
        have FR80 := frm_t FR71 (frm_m (S' := (fun a k => (a = y ∧ (k = 3 ∨ k = 4 ∨ (8 ≤ k ∧ k ≤ 11))) ∨ (y + 17 ≤ a ∧ a < y + 25) ∨ a = y + 26)) f75 (fun a k q => by omega))
        skip
        refine z_bret dX6_deedLine_70 rfl (by omega) ⟨rfl, ?_⟩
        rcases p76 with ⟨w, k5, P5, F5⟩ | ⟨w, k5, F5⟩
        · exact kq _ (Or.inr w) _ FR80 (Or.inl ⟨w, ⟨K62b, k5⟩, P5, F5, H79⟩)
        · exact kq _ (Or.inl w) _ FR80 (Or.inr ⟨w, fun z => k5 z.2, by rw [xp_y K62b]; exact F5⟩)
      · skip
        refine z_iconst (0) dX6_deedLine_44 rfl ?_
        refine z_bret dX6_deedLine_45 rfl (Or.inl rfl) ⟨rfl, ?_⟩
        rcases td4_0 p56 (by omega) with ⟨k0, f0⟩ | ⟨k1, k0, f0⟩
        · exfalso; omega
        · exact kq 0 (Or.inl rfl) _ FR60 (Or.inr ⟨rfl, fun z => k0 z.1, by rw [xp_n k0]; exact f0⟩)
  · exfalso; omega
set_option maxHeartbeats 4000000 in
theorem zp_X6_deedLine_grind_no {ad : mA} {dd : Nat} {h : mH} {Q : mQ} {y : Nat} {T Y : Int → Int} {L p f q : Int} (hk : rdk h y) (HT : rdT h y T L) (HP : rdP h y T L p) (HF : rdF h y f q) (HG : rwY h (y + 17) Y) (HA : adK ad)  (py : 0 ≤ Y 0 ∧ Y 0 ≤ 40) (pu : tkW T L p = 444301143652) (pu4 : tkW T L (tkE T L p) ≠ 1685026670 ∧ tkW T L (tkE T L p) ≠ 30064) (kq : ∀ v : Int, (v = 0 ∨ v = 1) → ∀ h1, frm (fun a k => (a = y ∧ (k = 3 ∨ k = 4 ∨ (8 ≤ k ∧ k ≤ 11))) ∨ (y + 17 ≤ a ∧ a < y + 25) ∨ a = y + 26) h h1 → (v = 0) → (rdF h1 y 1 (tkS T L (tkE T L p))) → Q (some (.int (zI v))) h1) : mCal TB0 ad (dd + 9) M_X6_deedLine [.ref y] h 0 0 Q := by
  refine ⟨Nat.le_of_ble_eq_true rfl, ?_⟩
  show mEv TB0 ad M_X6_deedLine (dd + 9) (0, 0) (mCal TB0 ad (dd + 8)) (fun v h' z => z.1 = 0 ∧ Q v h') 0 [some (.ref y), none] [] h (0, 0)
  have FR0 : frm (fun a k => (a = y ∧ (k = 3 ∨ k = 4 ∨ (8 ≤ k ∧ k ≤ 11))) ∨ (y + 17 ≤ a ∧ a < y + 25) ∨ a = y + 26) h h := frm_0 h
  have w1 := HT.1
  have tb := tk_b (T := T) HP.1.1 HP.1.2
  have p0 := HP.1
  refine e_aload_n dX6_deedLine_0 rfl ?_
  refine e_callV [] dX6_deedLine_1 tm_6_183 rfl (Nat.le_of_ble_eq_true rfl) (congrArg Prod.fst (rd_s0 hk)) (Nat.le_of_ble_eq_true rfl) (Nat.le_refl _) (Nat.le_refl _) rfl (zp_X6_deedSort_grind hk HT HP HA (by omega) ?_)
  refine e_istore_n (L' := [_, _]) dX6_deedLine_4 (Nat.le_of_ble_eq_true rfl) rfl ?_
  refine e_iload_n dX6_deedLine_5 rfl ?_
  refine z_iconst (-1) dX6_deedLine_6 rfl ?_
  refine z_icmp_ne 15 dX6_deedLine_7 rfl ⟨by omega, by omega⟩ ⟨by omega, by omega⟩ (fun c1 => ?_) (fun c1 => ?_)
  · skip
    refine e_aload_n dX6_deedLine_15 rfl ?_
    refine e_aload_n dX6_deedLine_16 rfl ?_
    refine e_get (.ref (y + 17)) dX6_deedLine_17 tf_6_21 (congrArg Prod.fst (rd_s0 hk)) (congrArg va_rf (rd_r0_1 hk)) ?_
    refine z_get (Y 0) dX6_deedLine_20 tf_6_116 (congrArg Prod.fst (rd_s17 hk)) (Or.inl rfl) HG.1 ?_
    refine z_bipush (40) dX6_deedLine_23 rfl ?_
    refine z_icmp_lt 32 dX6_deedLine_25 rfl ⟨by omega, by omega⟩ ⟨by omega, by omega⟩ (fun c2 => ?_) (fun c2 => ?_)
    · skip
      refine z_iconst (0) dX6_deedLine_32 rfl ?_
      refine e_callV [.int _] dX6_deedLine_33 tm_6_146 rfl (Nat.le_of_ble_eq_true rfl) (congrArg Prod.fst (rd_s0 hk)) (Nat.le_of_ble_eq_true rfl) (Nat.le_refl _) (Nat.le_refl _) rfl (zp_X6_beginLine hk HT HP HF False (fun  h3 f4 p5 p6 p7 => ?_))
      have k8 := lk_q (frm_s f4) hk
      have H9 := rdT_c f4 (fun a k q => by omega) HT
      have H10 := rwY_c f4 (fun a k q1 q2 => by omega) HG
      have FR11 := frm_t FR0 (frm_m (S' := (fun a k => (a = y ∧ (k = 3 ∨ k = 4 ∨ (8 ≤ k ∧ k ≤ 11))) ∨ (y + 17 ≤ a ∧ a < y + 25) ∨ a = y + 26)) f4 (fun a k q => by omega))
      have F12 : rdF h3 y (ntF (40 ≤ Y 0) 3 f) (ntQ (40 ≤ Y 0) (tkS T L p) f q) := by rw [(nt_iff (c := 40 ≤ Y 0) (c' := False) (k := 3) (s := tkS T L p) (f := f) (q := q) ⟨fun z => absurd z (by omega), fun z => z.elim⟩).1, (nt_iff (c := 40 ≤ Y 0) (c' := False) (k := 3) (s := tkS T L p) (f := f) (q := q) ⟨fun z => absurd z (by omega), fun z => z.elim⟩).2]; exact p6
      refine e_aload_n dX6_deedLine_36 rfl ?_
      refine e_iload_n dX6_deedLine_37 rfl ?_
      refine e_callV [.int _] dX6_deedLine_38 tm_6_187 rfl (Nat.le_of_ble_eq_true rfl) (congrArg Prod.fst (rd_s0 k8)) (Nat.le_of_ble_eq_true rfl) (Nat.le_refl _) (Nat.le_refl _) rfl (zp_X6_takeDeedNumbers_4_no k8 H9 p5 F12 HA pu4 (fun v13 p14 h15 f16 p17 => ?_))
      have k18 := lk_q (frm_s f16) k8
      have H19 := rdT_c f16 (fun a k q => by omega) H9
      have H20 := rwY_c f16 (fun a k q1 q2 => by omega) H10
      have FR21 := frm_t FR11 (frm_m (S' := (fun a k => (a = y ∧ (k = 3 ∨ k = 4 ∨ (8 ≤ k ∧ k ≤ 11))) ∨ (y + 17 ≤ a ∧ a < y + 25) ∨ a = y + 26)) f16 (fun a k q => by omega))
      skip
      refine z_if_ne 46 dX6_deedLine_41 rfl ⟨by omega, by omega⟩ (fun c22 => ?_) (fun c22 => ?_)
      · exfalso; have X := td4_1 (by assumption) c22; omega
      · skip
        refine z_iconst (0) dX6_deedLine_44 rfl ?_
        refine z_bret dX6_deedLine_45 rfl (Or.inl rfl) ⟨rfl, ?_⟩
        rcases td4_0 p17 (by omega) with ⟨k0, f0⟩ | ⟨k1, k0, f0⟩
        · exact kq 0 (Or.inl rfl) _ FR21 rfl f0
        · exfalso; omega
    · skip
      refine z_iconst (1) dX6_deedLine_28 rfl ?_
      refine e_goto 33 dX6_deedLine_29 rfl ?_
      refine e_callV [.int _] dX6_deedLine_33 tm_6_146 rfl (Nat.le_of_ble_eq_true rfl) (congrArg Prod.fst (rd_s0 hk)) (Nat.le_of_ble_eq_true rfl) (Nat.le_refl _) (Nat.le_refl _) rfl (zp_X6_beginLine hk HT HP HF True (fun  h23 f24 p25 p26 p27 => ?_))
      have k28 := lk_q (frm_s f24) hk
      have H29 := rdT_c f24 (fun a k q => by omega) HT
      have H30 := rwY_c f24 (fun a k q1 q2 => by omega) HG
      have FR31 := frm_t FR0 (frm_m (S' := (fun a k => (a = y ∧ (k = 3 ∨ k = 4 ∨ (8 ≤ k ∧ k ≤ 11))) ∨ (y + 17 ≤ a ∧ a < y + 25) ∨ a = y + 26)) f24 (fun a k q => by omega))
      have F32 : rdF h23 y (ntF (40 ≤ Y 0) 3 f) (ntQ (40 ≤ Y 0) (tkS T L p) f q) := by rw [(nt_iff (c := 40 ≤ Y 0) (c' := True) (k := 3) (s := tkS T L p) (f := f) (q := q) ⟨fun _ => trivial, fun _ => by omega⟩).1, (nt_iff (c := 40 ≤ Y 0) (c' := True) (k := 3) (s := tkS T L p) (f := f) (q := q) ⟨fun _ => trivial, fun _ => by omega⟩).2]; exact p26
      refine e_aload_n dX6_deedLine_36 rfl ?_
      refine e_iload_n dX6_deedLine_37 rfl ?_
      refine e_callV [.int _] dX6_deedLine_38 tm_6_187 rfl (Nat.le_of_ble_eq_true rfl) (congrArg Prod.fst (rd_s0 k28)) (Nat.le_of_ble_eq_true rfl) (Nat.le_refl _) (Nat.le_refl _) rfl (zp_X6_takeDeedNumbers_4_no k28 H29 p25 F32 HA pu4 (fun v33 p34 h35 f36 p37 => ?_))
      have k38 := lk_q (frm_s f36) k28
      have H39 := rdT_c f36 (fun a k q => by omega) H29
      have H40 := rwY_c f36 (fun a k q1 q2 => by omega) H30
      have FR41 := frm_t FR31 (frm_m (S' := (fun a k => (a = y ∧ (k = 3 ∨ k = 4 ∨ (8 ≤ k ∧ k ≤ 11))) ∨ (y + 17 ≤ a ∧ a < y + 25) ∨ a = y + 26)) f36 (fun a k q => by omega))
      skip
      refine z_if_ne 46 dX6_deedLine_41 rfl ⟨by omega, by omega⟩ (fun c42 => ?_) (fun c42 => ?_)
      · exfalso; have X := td4_1 (by assumption) c42; omega
      · skip
        refine z_iconst (0) dX6_deedLine_44 rfl ?_
        refine z_bret dX6_deedLine_45 rfl (Or.inl rfl) ⟨rfl, ?_⟩
        rcases td4_0 p37 (by omega) with ⟨k0, f0⟩ | ⟨k1, k0, f0⟩
        · exact kq 0 (Or.inl rfl) _ FR41 rfl f0
        · exfalso; omega
  · exfalso; omega
set_option maxHeartbeats 400000 in
theorem zp_X6_deedLine_bad {ad : mA} {dd : Nat} {h : mH} {Q : mQ} {y : Nat} {T Y : Int → Int} {L p f q : Int} (hk : rdk h y) (HT : rdT h y T L) (HP : rdP h y T L p) (HF : rdF h y f q) (HA : adK ad)  (pu : tkW T L p ≠ 491395638644 ∧ tkW T L p ≠ 1751474548 ∧ tkW T L p ≠ 1885434484 ∧ tkW T L p ≠ 6518132 ∧ tkW T L p ≠ 444301143652 ∧ tkW T L p ≠ 7301484 ∧ tkW T L p ≠ 6578553) (kq : ∀ h1, frm (fun a k => (a = y ∧ (k = 3 ∨ k = 4 ∨ (8 ≤ k ∧ k ≤ 11))) ∨ (y + 17 ≤ a ∧ a < y + 25) ∨ a = y + 26) h h1 → (rdF h1 y 1 (tkS T L p)) → Q (some (.int (zI (bZ False)))) h1) : mCal TB0 ad (dd + 9) M_X6_deedLine [.ref y] h 0 0 Q := by
  refine ⟨Nat.le_of_ble_eq_true rfl, ?_⟩
  show mEv TB0 ad M_X6_deedLine (dd + 9) (0, 0) (mCal TB0 ad (dd + 8)) (fun v h' z => z.1 = 0 ∧ Q v h') 0 [some (.ref y), none] [] h (0, 0)
  have FR0 : frm (fun a k => (a = y ∧ (k = 3 ∨ k = 4 ∨ (8 ≤ k ∧ k ≤ 11))) ∨ (y + 17 ≤ a ∧ a < y + 25) ∨ a = y + 26) h h := frm_0 h
  have w1 := HT.1
  have tb := tk_b (T := T) HP.1.1 HP.1.2
  have p0 := HP.1
  refine e_aload_n dX6_deedLine_0 rfl ?_
  refine e_callV [] dX6_deedLine_1 tm_6_183 rfl (Nat.le_of_ble_eq_true rfl) (congrArg Prod.fst (rd_s0 hk)) (Nat.le_of_ble_eq_true rfl) (Nat.le_refl _) (Nat.le_refl _) rfl (zp_X6_deedSort_bad hk HT HP HA (by omega) ?_)
  refine e_istore_n (L' := [_, _]) dX6_deedLine_4 (Nat.le_of_ble_eq_true rfl) rfl ?_
  refine e_iload_n dX6_deedLine_5 rfl ?_
  refine z_iconst (-1) dX6_deedLine_6 rfl ?_
  refine z_icmp_ne 15 dX6_deedLine_7 rfl ⟨by omega, by omega⟩ ⟨by omega, by omega⟩ (fun c1 => ?_) (fun c1 => ?_)
  · exfalso; omega
  · skip
    refine e_aload_n dX6_deedLine_10 rfl ?_
    refine e_callV [] dX6_deedLine_11 tm_6_143 rfl (Nat.le_of_ble_eq_true rfl) (congrArg Prod.fst (rd_s0 hk)) (Nat.le_of_ble_eq_true rfl) (Nat.le_refl _) (Nat.le_refl _) rfl (zp_X6_refuse hk HP (by omega) (fun  h2 f3 p4 => ?_))
    have k5 := lk_q (frm_s f3) hk
    have H6 := rdT_c f3 (fun a k q => by omega) HT
    have H7 := rdP_c f3 (fun a k q => by omega) HP
    have FR8 := frm_t FR0 (frm_m (S' := (fun a k => (a = y ∧ (k = 3 ∨ k = 4 ∨ (8 ≤ k ∧ k ≤ 11))) ∨ (y + 17 ≤ a ∧ a < y + 25) ∨ a = y + 26)) f3 (fun a k q => by omega))
    refine z_bret dX6_deedLine_14 rfl (bZ_01 _) ⟨rfl, ?_⟩
    exact kq _ FR8 p4
set_option maxHeartbeats 4000000 in
theorem zp_X6_clueLine_long_no {ad : mA} {dd : Nat} {h : mH} {Q : mQ} {y : Nat} {T Y : Int → Int} {L p f q : Int} (hk : rdk h y) (HT : rdT h y T L) (HP : rdP h y T L p) (HF : rdF h y f q) (HG : rwY h (y + 21) Y) (HA : adK ad)  (py : 0 ≤ Y 0 ∧ Y 0 ≤ 8) (pu : tkW T L p = 1819242087) (pn : tkW T L (tkE T L p) = 28271) (kq : ∀ v : Int, (v = 0 ∨ v = 1) → ∀ h1, frm (fun a k => (a = y ∧ (k = 3 ∨ k = 4 ∨ (8 ≤ k ∧ k ≤ 11))) ∨ (y + 17 ≤ a ∧ a < y + 25) ∨ a = y + 26) h h1 → (lnO h1 y T L [(0, 40)] (tkE T L (tkE T L p)) (ntF (8 ≤ Y 0) 3 f) (ntQ (8 ≤ Y 0) (tkS T L p) f q) v (rwY h1 (y + 21) (adY 8 Y 0 (tkV T L (tkE T L (tkE T L p))) 0))) → Q (some (.int (zI v))) h1) : mCal TB0 ad (dd + 8) M_X6_clueLine [.ref y] h 0 0 Q := by
  refine ⟨Nat.le_of_ble_eq_true rfl, ?_⟩
  show mEv TB0 ad M_X6_clueLine (dd + 8) (0, 0) (mCal TB0 ad (dd + 7)) (fun v h' z => z.1 = 0 ∧ Q v h') 0 [some (.ref y), none, none] [] h (0, 0)
  have FR0 : frm (fun a k => (a = y ∧ (k = 3 ∨ k = 4 ∨ (8 ≤ k ∧ k ≤ 11))) ∨ (y + 17 ≤ a ∧ a < y + 25) ∨ a = y + 26) h h := frm_0 h
  have w1 := HT.1
  have tb := tk_b (T := T) HP.1.1 HP.1.2
  have p0 := HP.1
  refine e_aload_n dX6_clueLine_0 rfl ?_
  refine e_callV [] dX6_clueLine_1 tm_6_208 rfl (Nat.le_of_ble_eq_true rfl) (congrArg Prod.fst (rd_s0 hk)) (Nat.le_of_ble_eq_true rfl) (Nat.le_refl _) (Nat.le_refl _) rfl (zp_X6_clueSort_long hk HT HP HA (by omega) ?_)
  refine e_istore_n (L' := [_, _, _]) dX6_clueLine_4 (Nat.le_of_ble_eq_true rfl) rfl ?_
  refine e_iload_n dX6_clueLine_5 rfl ?_
  refine z_if_lt 14 dX6_clueLine_6 rfl ⟨by omega, by omega⟩ (fun c1 => ?_) (fun c1 => ?_)
  · exfalso; omega
  · skip
    refine e_iload_n dX6_clueLine_9 rfl ?_
    refine z_iconst (4) dX6_clueLine_10 rfl ?_
    refine z_icmp_lt 19 dX6_clueLine_11 rfl ⟨by omega, by omega⟩ ⟨by omega, by omega⟩ (fun c2 => ?_) (fun c2 => ?_)
    · skip
      refine e_aload_n dX6_clueLine_19 rfl ?_
      refine e_aload_n dX6_clueLine_20 rfl ?_
      refine e_get (.ref (y + 21)) dX6_clueLine_21 tf_6_28 (congrArg Prod.fst (rd_s0 hk)) (congrArg va_rf (rd_r0_2 hk)) ?_
      refine z_get (Y 0) dX6_clueLine_24 tf_6_117 (congrArg Prod.fst (rd_s21 hk)) (Or.inl rfl) HG.1 ?_
      refine z_bipush (8) dX6_clueLine_27 rfl ?_
      refine z_icmp_lt 36 dX6_clueLine_29 rfl ⟨by omega, by omega⟩ ⟨by omega, by omega⟩ (fun c3 => ?_) (fun c3 => ?_)
      · skip
        refine z_iconst (0) dX6_clueLine_36 rfl ?_
        refine e_callV [.int _] dX6_clueLine_37 tm_6_146 rfl (Nat.le_of_ble_eq_true rfl) (congrArg Prod.fst (rd_s0 hk)) (Nat.le_of_ble_eq_true rfl) (Nat.le_refl _) (Nat.le_refl _) rfl (zp_X6_beginLine hk HT HP HF False (fun  h4 f5 p6 p7 p8 => ?_))
        have k9 := lk_q (frm_s f5) hk
        have H10 := rdT_c f5 (fun a k q => by omega) HT
        have H11 := rwY_c f5 (fun a k q1 q2 => by omega) HG
        have FR12 := frm_t FR0 (frm_m (S' := (fun a k => (a = y ∧ (k = 3 ∨ k = 4 ∨ (8 ≤ k ∧ k ≤ 11))) ∨ (y + 17 ≤ a ∧ a < y + 25) ∨ a = y + 26)) f5 (fun a k q => by omega))
        have F13 : rdF h4 y (ntF (8 ≤ Y 0) 3 f) (ntQ (8 ≤ Y 0) (tkS T L p) f q) := by rw [(nt_iff (c := 8 ≤ Y 0) (c' := False) (k := 3) (s := tkS T L p) (f := f) (q := q) ⟨fun z => absurd z (by omega), fun z => z.elim⟩).1, (nt_iff (c := 8 ≤ Y 0) (c' := False) (k := 3) (s := tkS T L p) (f := f) (q := q) ⟨fun z => absurd z (by omega), fun z => z.elim⟩).2]; exact p7
        refine e_aload_n dX6_clueLine_40 rfl ?_
        refine e_ldcS dX6_clueLine_41 tl_6_211 ?_
        refine e_callV [.ref _] dX6_clueLine_43 tm_6_123 rfl (Nat.le_of_ble_eq_true rfl) (congrArg Prod.fst (rd_s0 k9)) (Nat.le_of_ble_eq_true rfl) (Nat.le_refl _) (Nat.le_refl _) rfl (zp_X6_isWord_no k9 H10 p6 HA ?_)
        refine e_istore_n (L' := [_, _, _]) dX6_clueLine_46 (Nat.le_of_ble_eq_true rfl) rfl ?_
        refine e_iload_n dX6_clueLine_47 rfl ?_
        refine z_ifb_eq 55 dX6_clueLine_48 rfl (fun c14 => ?_) (fun c14 => ?_)
        · exfalso; omega
        · skip
          refine e_aload_n dX6_clueLine_51 rfl ?_
          have PA52 := p6.2.1
          have tb2 := tk_b (T := T) p6.1.1 p6.1.2
          refine e_callV [] dX6_clueLine_52 tm_6_118 rfl (Nat.le_of_ble_eq_true rfl) (congrArg Prod.fst (rd_s0 k9)) (Nat.le_of_ble_eq_true rfl) (Nat.le_refl _) (Nat.le_refl _) rfl (zp_X6_advance k9 H10 (tkE T L (tkE T L p)) PA52 (by omega) (fun  h15 f16 p17 => ?_))
          have k18 := lk_q (frm_s f16) k9
          have H19 := rdT_c f16 (fun a k q => by omega) H10
          have H20 := rwY_c f16 (fun a k q1 q2 => by omega) H11
          have H21 := rdF_c f16 (fun a k q => by omega) F13
          have FR22 := frm_t FR12 (frm_m (S' := (fun a k => (a = y ∧ (k = 3 ∨ k = 4 ∨ (8 ≤ k ∧ k ≤ 11))) ∨ (y + 17 ≤ a ∧ a < y + 25) ∨ a = y + 26)) f16 (fun a k q => by omega))
          skip
          refine e_aload_n dX6_clueLine_55 rfl ?_
          refine z_iconst (0) dX6_clueLine_56 rfl ?_
          refine z_iconst (0) dX6_clueLine_57 rfl ?_
          refine e_gets dX6_clueLine_58 ts_6_213 ?_
          refine e_iload_n dX6_clueLine_61 rfl ?_
          refine z_oldK 40 dX6_clueLine_62 (Or.inl (by decide)) (HA 4 (by decide)).1 (by decide) (by decide) (by decide) (by rw [(HA 4 (by decide)).2]; decide) ?_
          refine e_callV [.int _, .int _, .int _] dX6_clueLine_63 tm_6_156 rfl (Nat.le_of_ble_eq_true rfl) (congrArg Prod.fst (rd_s0 k18)) (Nat.le_of_ble_eq_true rfl) (Nat.le_refl _) (Nat.le_refl _) rfl (zp_X6_takeNumber k18 H19 p17 H21 0 ⟨by omega, by omega⟩ 0 ⟨by omega, by omega⟩ 40 ⟨by omega, by omega⟩ (by omega) (fun v23 p24 h25 f26 p27 => ?_))
          have k28 := lk_q (frm_s f26) k18
          have H29 := rdT_c f26 (fun a k q => by omega) H19
          have H30 := rwY_c f26 (fun a k q1 q2 => by omega) H20
          have FR31 := frm_t FR22 (frm_m (S' := (fun a k => (a = y ∧ (k = 3 ∨ k = 4 ∨ (8 ≤ k ∧ k ≤ 11))) ∨ (y + 17 ≤ a ∧ a < y + 25) ∨ a = y + 26)) f26 (fun a k q => by omega))
          skip
          refine z_if_ne 71 dX6_clueLine_66 rfl ⟨by omega, by omega⟩ (fun c32 => ?_) (fun c32 => ?_)
          · skip
            obtain ⟨K33, K33p, K33f, K33n⟩ := tn_1 p27 (by omega)
            refine e_aload_n dX6_clueLine_71 rfl ?_
            refine e_get (.ref (y + 21)) dX6_clueLine_72 tf_6_28 (congrArg Prod.fst (rd_s0 k28)) (congrArg va_rf (rd_r0_2 k28)) ?_
            refine e_iload_n dX6_clueLine_75 rfl ?_
            refine e_aload_n dX6_clueLine_76 rfl ?_
            refine e_get (.ref (y + 26)) dX6_clueLine_77 tf_6_43 (congrArg Prod.fst (rd_s0 k28)) (congrArg va_rf (rd_r0_6 k28)) ?_
            refine z_iconst (0) dX6_clueLine_80 rfl ?_
            refine z_ild (tkV T L (tkE T L (tkE T L p))) dX6_clueLine_81 (rd_s26 k28) (by decide) (by omega) (by omega) K33n ?_
            have y34 := tv_b K33
            refine e_iload_n dX6_clueLine_82 rfl ?_
            refine z_ifb_ne 90 dX6_clueLine_83 rfl (fun c35 => ?_) (fun c35 => ?_)
            · skip
              refine z_iconst (0) dX6_clueLine_90 rfl ?_
              have SZ : rI h25 (y + 21) 3 = Y 0 := H30.1
              refine e_callV [.int _, .int _, .int _] dX6_clueLine_91 tm_6_216 rfl (Nat.le_of_ble_eq_true rfl) (congrArg Prod.fst (rd_s21 k28)) (Nat.le_of_ble_eq_true rfl) (Nat.le_refl _) (Nat.le_refl _) rfl (zp_X1_add (rd_cu21 k28) (Y 0) 0 ⟨by omega, by omega⟩ (tkV T L (tkE T L (tkE T L p))) ⟨by omega, by omega⟩ False ⟨SZ, by omega, by omega⟩ (fun  h36 f37 p38 => ?_))
              have k39 := lk_q (frm_s f37) k28
              have H40 := rdT_c f37 (fun a k q => by omega) H29
              have H41 := rdP_c f37 (fun a k q => by omega) K33p
              have H42 := rdF_c f37 (fun a k q => by omega) K33f
              have FR43 := frm_t FR31 (frm_m (S' := (fun a k => (a = y ∧ (k = 3 ∨ k = 4 ∨ (8 ≤ k ∧ k ≤ 11))) ∨ (y + 17 ≤ a ∧ a < y + 25) ∨ a = y + 26)) f37 (fun a k q => by omega))
              have G1 : rwY h36 (y + 21) (adY 8 Y 0 (tkV T L (tkE T L (tkE T L p))) 0) := rwY_a py.1 H30 f37 p38
              refine e_aload_n dX6_clueLine_94 rfl ?_
              refine e_callV [] dX6_clueLine_95 tm_6_164 rfl (Nat.le_of_ble_eq_true rfl) (congrArg Prod.fst (rd_s0 k39)) (Nat.le_of_ble_eq_true rfl) (Nat.le_refl _) (Nat.le_refl _) rfl (zp_X6_takeStop k39 H40 H41 H42 (fun v44 p45 h46 f47 p48 => ?_))
              have k49 := lk_q (frm_s f47) k39
              have H50 := rdT_c f47 (fun a k q => by omega) H40
              have H51 := rwY_c f47 (fun a k q1 q2 => by omega) G1
              have FR52 := frm_t FR43 (frm_m (S' := (fun a k => (a = y ∧ (k = 3 ∨ k = 4 ∨ (8 ≤ k ∧ k ≤ 11))) ∨ (y + 17 ≤ a ∧ a < y + 25) ∨ a = y + 26)) f47 (fun a k q => by omega))
              skip
              refine z_bret dX6_clueLine_98 rfl (by omega) ⟨rfl, ?_⟩
              rcases p48 with ⟨w, k5, P5, F5⟩ | ⟨w, k5, F5⟩
              · exact kq _ (Or.inr w) _ FR52 (Or.inl ⟨w, ⟨K33, k5⟩, P5, F5, H51⟩)
              · exact kq _ (Or.inl w) _ FR52 (Or.inr ⟨w, fun z => k5 z.2, by rw [xp_y K33]; exact F5⟩)
            · exfalso; omega
          · skip
            obtain ⟨k0, f0⟩ := tn_0 p27 (by omega)
            refine z_iconst (0) dX6_clueLine_69 rfl ?_
            refine z_bret dX6_clueLine_70 rfl (Or.inl rfl) ⟨rfl, ?_⟩
            exact kq 0 (Or.inl rfl) _ FR31 (Or.inr ⟨rfl, fun z => k0 z.1, by rw [xp_n k0]; exact f0⟩)
      · skip
        refine z_iconst (1) dX6_clueLine_32 rfl ?_
        refine e_goto 37 dX6_clueLine_33 rfl ?_
        refine e_callV [.int _] dX6_clueLine_37 tm_6_146 rfl (Nat.le_of_ble_eq_true rfl) (congrArg Prod.fst (rd_s0 hk)) (Nat.le_of_ble_eq_true rfl) (Nat.le_refl _) (Nat.le_refl _) rfl (zp_X6_beginLine hk HT HP HF True (fun  h53 f54 p55 p56 p57 => ?_))
        have k58 := lk_q (frm_s f54) hk
        have H59 := rdT_c f54 (fun a k q => by omega) HT
        have H60 := rwY_c f54 (fun a k q1 q2 => by omega) HG
        have FR61 := frm_t FR0 (frm_m (S' := (fun a k => (a = y ∧ (k = 3 ∨ k = 4 ∨ (8 ≤ k ∧ k ≤ 11))) ∨ (y + 17 ≤ a ∧ a < y + 25) ∨ a = y + 26)) f54 (fun a k q => by omega))
        have F62 : rdF h53 y (ntF (8 ≤ Y 0) 3 f) (ntQ (8 ≤ Y 0) (tkS T L p) f q) := by rw [(nt_iff (c := 8 ≤ Y 0) (c' := True) (k := 3) (s := tkS T L p) (f := f) (q := q) ⟨fun _ => trivial, fun _ => by omega⟩).1, (nt_iff (c := 8 ≤ Y 0) (c' := True) (k := 3) (s := tkS T L p) (f := f) (q := q) ⟨fun _ => trivial, fun _ => by omega⟩).2]; exact p56
        refine e_aload_n dX6_clueLine_40 rfl ?_
        refine e_ldcS dX6_clueLine_41 tl_6_211 ?_
        refine e_callV [.ref _] dX6_clueLine_43 tm_6_123 rfl (Nat.le_of_ble_eq_true rfl) (congrArg Prod.fst (rd_s0 k58)) (Nat.le_of_ble_eq_true rfl) (Nat.le_refl _) (Nat.le_refl _) rfl (zp_X6_isWord_no k58 H59 p55 HA ?_)
        refine e_istore_n (L' := [_, _, _]) dX6_clueLine_46 (Nat.le_of_ble_eq_true rfl) rfl ?_
        refine e_iload_n dX6_clueLine_47 rfl ?_
        refine z_ifb_eq 55 dX6_clueLine_48 rfl (fun c63 => ?_) (fun c63 => ?_)
        · exfalso; omega
        · skip
          refine e_aload_n dX6_clueLine_51 rfl ?_
          have PA52 := p55.2.1
          have tb2 := tk_b (T := T) p55.1.1 p55.1.2
          refine e_callV [] dX6_clueLine_52 tm_6_118 rfl (Nat.le_of_ble_eq_true rfl) (congrArg Prod.fst (rd_s0 k58)) (Nat.le_of_ble_eq_true rfl) (Nat.le_refl _) (Nat.le_refl _) rfl (zp_X6_advance k58 H59 (tkE T L (tkE T L p)) PA52 (by omega) (fun  h64 f65 p66 => ?_))
          have k67 := lk_q (frm_s f65) k58
          have H68 := rdT_c f65 (fun a k q => by omega) H59
          have H69 := rwY_c f65 (fun a k q1 q2 => by omega) H60
          have H70 := rdF_c f65 (fun a k q => by omega) F62
          have FR71 := frm_t FR61 (frm_m (S' := (fun a k => (a = y ∧ (k = 3 ∨ k = 4 ∨ (8 ≤ k ∧ k ≤ 11))) ∨ (y + 17 ≤ a ∧ a < y + 25) ∨ a = y + 26)) f65 (fun a k q => by omega))
          skip
          refine e_aload_n dX6_clueLine_55 rfl ?_
          refine z_iconst (0) dX6_clueLine_56 rfl ?_
          refine z_iconst (0) dX6_clueLine_57 rfl ?_
          refine e_gets dX6_clueLine_58 ts_6_213 ?_
          refine e_iload_n dX6_clueLine_61 rfl ?_
          refine z_oldK 40 dX6_clueLine_62 (Or.inl (by decide)) (HA 4 (by decide)).1 (by decide) (by decide) (by decide) (by rw [(HA 4 (by decide)).2]; decide) ?_
          refine e_callV [.int _, .int _, .int _] dX6_clueLine_63 tm_6_156 rfl (Nat.le_of_ble_eq_true rfl) (congrArg Prod.fst (rd_s0 k67)) (Nat.le_of_ble_eq_true rfl) (Nat.le_refl _) (Nat.le_refl _) rfl (zp_X6_takeNumber k67 H68 p66 H70 0 ⟨by omega, by omega⟩ 0 ⟨by omega, by omega⟩ 40 ⟨by omega, by omega⟩ (by omega) (fun v72 p73 h74 f75 p76 => ?_))
          have k77 := lk_q (frm_s f75) k67
          have H78 := rdT_c f75 (fun a k q => by omega) H68
          have H79 := rwY_c f75 (fun a k q1 q2 => by omega) H69
          have FR80 := frm_t FR71 (frm_m (S' := (fun a k => (a = y ∧ (k = 3 ∨ k = 4 ∨ (8 ≤ k ∧ k ≤ 11))) ∨ (y + 17 ≤ a ∧ a < y + 25) ∨ a = y + 26)) f75 (fun a k q => by omega))
          skip
          refine z_if_ne 71 dX6_clueLine_66 rfl ⟨by omega, by omega⟩ (fun c81 => ?_) (fun c81 => ?_)
          · skip
            obtain ⟨K82, K82p, K82f, K82n⟩ := tn_1 p76 (by omega)
            refine e_aload_n dX6_clueLine_71 rfl ?_
            refine e_get (.ref (y + 21)) dX6_clueLine_72 tf_6_28 (congrArg Prod.fst (rd_s0 k77)) (congrArg va_rf (rd_r0_2 k77)) ?_
            refine e_iload_n dX6_clueLine_75 rfl ?_
            refine e_aload_n dX6_clueLine_76 rfl ?_
            refine e_get (.ref (y + 26)) dX6_clueLine_77 tf_6_43 (congrArg Prod.fst (rd_s0 k77)) (congrArg va_rf (rd_r0_6 k77)) ?_
            refine z_iconst (0) dX6_clueLine_80 rfl ?_
            refine z_ild (tkV T L (tkE T L (tkE T L p))) dX6_clueLine_81 (rd_s26 k77) (by decide) (by omega) (by omega) K82n ?_
            have y83 := tv_b K82
            refine e_iload_n dX6_clueLine_82 rfl ?_
            refine z_ifb_ne 90 dX6_clueLine_83 rfl (fun c84 => ?_) (fun c84 => ?_)
            · skip
              refine z_iconst (0) dX6_clueLine_90 rfl ?_
              have SZ : rI h74 (y + 21) 3 = Y 0 := H79.1
              refine e_callV [.int _, .int _, .int _] dX6_clueLine_91 tm_6_216 rfl (Nat.le_of_ble_eq_true rfl) (congrArg Prod.fst (rd_s21 k77)) (Nat.le_of_ble_eq_true rfl) (Nat.le_refl _) (Nat.le_refl _) rfl (zp_X1_add (rd_cu21 k77) (Y 0) 0 ⟨by omega, by omega⟩ (tkV T L (tkE T L (tkE T L p))) ⟨by omega, by omega⟩ False ⟨SZ, by omega, by omega⟩ (fun  h85 f86 p87 => ?_))
              have k88 := lk_q (frm_s f86) k77
              have H89 := rdT_c f86 (fun a k q => by omega) H78
              have H90 := rdP_c f86 (fun a k q => by omega) K82p
              have H91 := rdF_c f86 (fun a k q => by omega) K82f
              have FR92 := frm_t FR80 (frm_m (S' := (fun a k => (a = y ∧ (k = 3 ∨ k = 4 ∨ (8 ≤ k ∧ k ≤ 11))) ∨ (y + 17 ≤ a ∧ a < y + 25) ∨ a = y + 26)) f86 (fun a k q => by omega))
              have G1 : rwY h85 (y + 21) (adY 8 Y 0 (tkV T L (tkE T L (tkE T L p))) 0) := rwY_a py.1 H79 f86 p87
              refine e_aload_n dX6_clueLine_94 rfl ?_
              refine e_callV [] dX6_clueLine_95 tm_6_164 rfl (Nat.le_of_ble_eq_true rfl) (congrArg Prod.fst (rd_s0 k88)) (Nat.le_of_ble_eq_true rfl) (Nat.le_refl _) (Nat.le_refl _) rfl (zp_X6_takeStop k88 H89 H90 H91 (fun v93 p94 h95 f96 p97 => ?_))
              have k98 := lk_q (frm_s f96) k88
              have H99 := rdT_c f96 (fun a k q => by omega) H89
              have H100 := rwY_c f96 (fun a k q1 q2 => by omega) G1
              have FR101 := frm_t FR92 (frm_m (S' := (fun a k => (a = y ∧ (k = 3 ∨ k = 4 ∨ (8 ≤ k ∧ k ≤ 11))) ∨ (y + 17 ≤ a ∧ a < y + 25) ∨ a = y + 26)) f96 (fun a k q => by omega))
              skip
              refine z_bret dX6_clueLine_98 rfl (by omega) ⟨rfl, ?_⟩
              rcases p97 with ⟨w, k5, P5, F5⟩ | ⟨w, k5, F5⟩
              · exact kq _ (Or.inr w) _ FR101 (Or.inl ⟨w, ⟨K82, k5⟩, P5, F5, H100⟩)
              · exact kq _ (Or.inl w) _ FR101 (Or.inr ⟨w, fun z => k5 z.2, by rw [xp_y K82]; exact F5⟩)
            · exfalso; omega
          · skip
            obtain ⟨k0, f0⟩ := tn_0 p76 (by omega)
            refine z_iconst (0) dX6_clueLine_69 rfl ?_
            refine z_bret dX6_clueLine_70 rfl (Or.inl rfl) ⟨rfl, ?_⟩
            exact kq 0 (Or.inl rfl) _ FR80 (Or.inr ⟨rfl, fun z => k0 z.1, by rw [xp_n k0]; exact f0⟩)
    · exfalso; omega
set_option maxHeartbeats 4000000 in
theorem zp_X6_clueLine_long_so {ad : mA} {dd : Nat} {h : mH} {Q : mQ} {y : Nat} {T Y : Int → Int} {L p f q : Int} (hk : rdk h y) (HT : rdT h y T L) (HP : rdP h y T L p) (HF : rdF h y f q) (HG : rwY h (y + 21) Y) (HA : adK ad)  (py : 0 ≤ Y 0 ∧ Y 0 ≤ 8) (pu : tkW T L p = 1819242087) (pn : tkW T L (tkE T L p) ≠ 28271) (kq : ∀ v : Int, (v = 0 ∨ v = 1) → ∀ h1, frm (fun a k => (a = y ∧ (k = 3 ∨ k = 4 ∨ (8 ≤ k ∧ k ≤ 11))) ∨ (y + 17 ≤ a ∧ a < y + 25) ∨ a = y + 26) h h1 → (lnO h1 y T L [(0, 40)] (tkE T L p) (ntF (8 ≤ Y 0) 3 f) (ntQ (8 ≤ Y 0) (tkS T L p) f q) v (rwY h1 (y + 21) (adY 8 Y 0 (tkV T L (tkE T L p)) 1))) → Q (some (.int (zI v))) h1) : mCal TB0 ad (dd + 8) M_X6_clueLine [.ref y] h 0 0 Q := by
  refine ⟨Nat.le_of_ble_eq_true rfl, ?_⟩
  show mEv TB0 ad M_X6_clueLine (dd + 8) (0, 0) (mCal TB0 ad (dd + 7)) (fun v h' z => z.1 = 0 ∧ Q v h') 0 [some (.ref y), none, none] [] h (0, 0)
  have FR0 : frm (fun a k => (a = y ∧ (k = 3 ∨ k = 4 ∨ (8 ≤ k ∧ k ≤ 11))) ∨ (y + 17 ≤ a ∧ a < y + 25) ∨ a = y + 26) h h := frm_0 h
  have w1 := HT.1
  have tb := tk_b (T := T) HP.1.1 HP.1.2
  have p0 := HP.1
  refine e_aload_n dX6_clueLine_0 rfl ?_
  refine e_callV [] dX6_clueLine_1 tm_6_208 rfl (Nat.le_of_ble_eq_true rfl) (congrArg Prod.fst (rd_s0 hk)) (Nat.le_of_ble_eq_true rfl) (Nat.le_refl _) (Nat.le_refl _) rfl (zp_X6_clueSort_long hk HT HP HA (by omega) ?_)
  refine e_istore_n (L' := [_, _, _]) dX6_clueLine_4 (Nat.le_of_ble_eq_true rfl) rfl ?_
  refine e_iload_n dX6_clueLine_5 rfl ?_
  refine z_if_lt 14 dX6_clueLine_6 rfl ⟨by omega, by omega⟩ (fun c1 => ?_) (fun c1 => ?_)
  · exfalso; omega
  · skip
    refine e_iload_n dX6_clueLine_9 rfl ?_
    refine z_iconst (4) dX6_clueLine_10 rfl ?_
    refine z_icmp_lt 19 dX6_clueLine_11 rfl ⟨by omega, by omega⟩ ⟨by omega, by omega⟩ (fun c2 => ?_) (fun c2 => ?_)
    · skip
      refine e_aload_n dX6_clueLine_19 rfl ?_
      refine e_aload_n dX6_clueLine_20 rfl ?_
      refine e_get (.ref (y + 21)) dX6_clueLine_21 tf_6_28 (congrArg Prod.fst (rd_s0 hk)) (congrArg va_rf (rd_r0_2 hk)) ?_
      refine z_get (Y 0) dX6_clueLine_24 tf_6_117 (congrArg Prod.fst (rd_s21 hk)) (Or.inl rfl) HG.1 ?_
      refine z_bipush (8) dX6_clueLine_27 rfl ?_
      refine z_icmp_lt 36 dX6_clueLine_29 rfl ⟨by omega, by omega⟩ ⟨by omega, by omega⟩ (fun c3 => ?_) (fun c3 => ?_)
      · skip
        refine z_iconst (0) dX6_clueLine_36 rfl ?_
        refine e_callV [.int _] dX6_clueLine_37 tm_6_146 rfl (Nat.le_of_ble_eq_true rfl) (congrArg Prod.fst (rd_s0 hk)) (Nat.le_of_ble_eq_true rfl) (Nat.le_refl _) (Nat.le_refl _) rfl (zp_X6_beginLine hk HT HP HF False (fun  h4 f5 p6 p7 p8 => ?_))
        have k9 := lk_q (frm_s f5) hk
        have H10 := rdT_c f5 (fun a k q => by omega) HT
        have H11 := rwY_c f5 (fun a k q1 q2 => by omega) HG
        have FR12 := frm_t FR0 (frm_m (S' := (fun a k => (a = y ∧ (k = 3 ∨ k = 4 ∨ (8 ≤ k ∧ k ≤ 11))) ∨ (y + 17 ≤ a ∧ a < y + 25) ∨ a = y + 26)) f5 (fun a k q => by omega))
        have F13 : rdF h4 y (ntF (8 ≤ Y 0) 3 f) (ntQ (8 ≤ Y 0) (tkS T L p) f q) := by rw [(nt_iff (c := 8 ≤ Y 0) (c' := False) (k := 3) (s := tkS T L p) (f := f) (q := q) ⟨fun z => absurd z (by omega), fun z => z.elim⟩).1, (nt_iff (c := 8 ≤ Y 0) (c' := False) (k := 3) (s := tkS T L p) (f := f) (q := q) ⟨fun z => absurd z (by omega), fun z => z.elim⟩).2]; exact p7
        refine e_aload_n dX6_clueLine_40 rfl ?_
        refine e_ldcS dX6_clueLine_41 tl_6_211 ?_
        refine e_callV [.ref _] dX6_clueLine_43 tm_6_123 rfl (Nat.le_of_ble_eq_true rfl) (congrArg Prod.fst (rd_s0 k9)) (Nat.le_of_ble_eq_true rfl) (Nat.le_refl _) (Nat.le_refl _) rfl (zp_X6_isWord_no k9 H10 p6 HA ?_)
        refine e_istore_n (L' := [_, _, _]) dX6_clueLine_46 (Nat.le_of_ble_eq_true rfl) rfl ?_
        refine e_iload_n dX6_clueLine_47 rfl ?_
        refine z_ifb_eq 55 dX6_clueLine_48 rfl (fun c14 => ?_) (fun c14 => ?_)
        · skip
          refine e_aload_n dX6_clueLine_55 rfl ?_
          refine z_iconst (0) dX6_clueLine_56 rfl ?_
          refine z_iconst (0) dX6_clueLine_57 rfl ?_
          refine e_gets dX6_clueLine_58 ts_6_213 ?_
          refine e_iload_n dX6_clueLine_61 rfl ?_
          refine z_oldK 40 dX6_clueLine_62 (Or.inl (by decide)) (HA 4 (by decide)).1 (by decide) (by decide) (by decide) (by rw [(HA 4 (by decide)).2]; decide) ?_
          refine e_callV [.int _, .int _, .int _] dX6_clueLine_63 tm_6_156 rfl (Nat.le_of_ble_eq_true rfl) (congrArg Prod.fst (rd_s0 k9)) (Nat.le_of_ble_eq_true rfl) (Nat.le_refl _) (Nat.le_refl _) rfl (zp_X6_takeNumber k9 H10 p6 F13 0 ⟨by omega, by omega⟩ 0 ⟨by omega, by omega⟩ 40 ⟨by omega, by omega⟩ (by omega) (fun v15 p16 h17 f18 p19 => ?_))
          have k20 := lk_q (frm_s f18) k9
          have H21 := rdT_c f18 (fun a k q => by omega) H10
          have H22 := rwY_c f18 (fun a k q1 q2 => by omega) H11
          have FR23 := frm_t FR12 (frm_m (S' := (fun a k => (a = y ∧ (k = 3 ∨ k = 4 ∨ (8 ≤ k ∧ k ≤ 11))) ∨ (y + 17 ≤ a ∧ a < y + 25) ∨ a = y + 26)) f18 (fun a k q => by omega))
          skip
          refine z_if_ne 71 dX6_clueLine_66 rfl ⟨by omega, by omega⟩ (fun c24 => ?_) (fun c24 => ?_)
          · skip
            obtain ⟨K25, K25p, K25f, K25n⟩ := tn_1 p19 (by omega)
            refine e_aload_n dX6_clueLine_71 rfl ?_
            refine e_get (.ref (y + 21)) dX6_clueLine_72 tf_6_28 (congrArg Prod.fst (rd_s0 k20)) (congrArg va_rf (rd_r0_2 k20)) ?_
            refine e_iload_n dX6_clueLine_75 rfl ?_
            refine e_aload_n dX6_clueLine_76 rfl ?_
            refine e_get (.ref (y + 26)) dX6_clueLine_77 tf_6_43 (congrArg Prod.fst (rd_s0 k20)) (congrArg va_rf (rd_r0_6 k20)) ?_
            refine z_iconst (0) dX6_clueLine_80 rfl ?_
            refine z_ild (tkV T L (tkE T L p)) dX6_clueLine_81 (rd_s26 k20) (by decide) (by omega) (by omega) K25n ?_
            have y26 := tv_b K25
            refine e_iload_n dX6_clueLine_82 rfl ?_
            refine z_ifb_ne 90 dX6_clueLine_83 rfl (fun c27 => ?_) (fun c27 => ?_)
            · exfalso; omega
            · skip
              refine z_iconst (1) dX6_clueLine_86 rfl ?_
              refine e_goto 91 dX6_clueLine_87 rfl ?_
              have SZ : rI h17 (y + 21) 3 = Y 0 := H22.1
              refine e_callV [.int _, .int _, .int _] dX6_clueLine_91 tm_6_216 rfl (Nat.le_of_ble_eq_true rfl) (congrArg Prod.fst (rd_s21 k20)) (Nat.le_of_ble_eq_true rfl) (Nat.le_refl _) (Nat.le_refl _) rfl (zp_X1_add (rd_cu21 k20) (Y 0) 0 ⟨by omega, by omega⟩ (tkV T L (tkE T L p)) ⟨by omega, by omega⟩ True ⟨SZ, by omega, by omega⟩ (fun  h28 f29 p30 => ?_))
              have k31 := lk_q (frm_s f29) k20
              have H32 := rdT_c f29 (fun a k q => by omega) H21
              have H33 := rdP_c f29 (fun a k q => by omega) K25p
              have H34 := rdF_c f29 (fun a k q => by omega) K25f
              have FR35 := frm_t FR23 (frm_m (S' := (fun a k => (a = y ∧ (k = 3 ∨ k = 4 ∨ (8 ≤ k ∧ k ≤ 11))) ∨ (y + 17 ≤ a ∧ a < y + 25) ∨ a = y + 26)) f29 (fun a k q => by omega))
              have G1 : rwY h28 (y + 21) (adY 8 Y 0 (tkV T L (tkE T L p)) 1) := rwY_a py.1 H22 f29 p30
              refine e_aload_n dX6_clueLine_94 rfl ?_
              refine e_callV [] dX6_clueLine_95 tm_6_164 rfl (Nat.le_of_ble_eq_true rfl) (congrArg Prod.fst (rd_s0 k31)) (Nat.le_of_ble_eq_true rfl) (Nat.le_refl _) (Nat.le_refl _) rfl (zp_X6_takeStop k31 H32 H33 H34 (fun v36 p37 h38 f39 p40 => ?_))
              have k41 := lk_q (frm_s f39) k31
              have H42 := rdT_c f39 (fun a k q => by omega) H32
              have H43 := rwY_c f39 (fun a k q1 q2 => by omega) G1
              have FR44 := frm_t FR35 (frm_m (S' := (fun a k => (a = y ∧ (k = 3 ∨ k = 4 ∨ (8 ≤ k ∧ k ≤ 11))) ∨ (y + 17 ≤ a ∧ a < y + 25) ∨ a = y + 26)) f39 (fun a k q => by omega))
              skip
              refine z_bret dX6_clueLine_98 rfl (by omega) ⟨rfl, ?_⟩
              rcases p40 with ⟨w, k5, P5, F5⟩ | ⟨w, k5, F5⟩
              · exact kq _ (Or.inr w) _ FR44 (Or.inl ⟨w, ⟨K25, k5⟩, P5, F5, H43⟩)
              · exact kq _ (Or.inl w) _ FR44 (Or.inr ⟨w, fun z => k5 z.2, by rw [xp_y K25]; exact F5⟩)
          · skip
            obtain ⟨k0, f0⟩ := tn_0 p19 (by omega)
            refine z_iconst (0) dX6_clueLine_69 rfl ?_
            refine z_bret dX6_clueLine_70 rfl (Or.inl rfl) ⟨rfl, ?_⟩
            exact kq 0 (Or.inl rfl) _ FR23 (Or.inr ⟨rfl, fun z => k0 z.1, by rw [xp_n k0]; exact f0⟩)
        · exfalso; omega
      · skip
        refine z_iconst (1) dX6_clueLine_32 rfl ?_
        refine e_goto 37 dX6_clueLine_33 rfl ?_
        refine e_callV [.int _] dX6_clueLine_37 tm_6_146 rfl (Nat.le_of_ble_eq_true rfl) (congrArg Prod.fst (rd_s0 hk)) (Nat.le_of_ble_eq_true rfl) (Nat.le_refl _) (Nat.le_refl _) rfl (zp_X6_beginLine hk HT HP HF True (fun  h45 f46 p47 p48 p49 => ?_))
        have k50 := lk_q (frm_s f46) hk
        have H51 := rdT_c f46 (fun a k q => by omega) HT
        have H52 := rwY_c f46 (fun a k q1 q2 => by omega) HG
        have FR53 := frm_t FR0 (frm_m (S' := (fun a k => (a = y ∧ (k = 3 ∨ k = 4 ∨ (8 ≤ k ∧ k ≤ 11))) ∨ (y + 17 ≤ a ∧ a < y + 25) ∨ a = y + 26)) f46 (fun a k q => by omega))
        have F54 : rdF h45 y (ntF (8 ≤ Y 0) 3 f) (ntQ (8 ≤ Y 0) (tkS T L p) f q) := by rw [(nt_iff (c := 8 ≤ Y 0) (c' := True) (k := 3) (s := tkS T L p) (f := f) (q := q) ⟨fun _ => trivial, fun _ => by omega⟩).1, (nt_iff (c := 8 ≤ Y 0) (c' := True) (k := 3) (s := tkS T L p) (f := f) (q := q) ⟨fun _ => trivial, fun _ => by omega⟩).2]; exact p48
        refine e_aload_n dX6_clueLine_40 rfl ?_
        refine e_ldcS dX6_clueLine_41 tl_6_211 ?_
        refine e_callV [.ref _] dX6_clueLine_43 tm_6_123 rfl (Nat.le_of_ble_eq_true rfl) (congrArg Prod.fst (rd_s0 k50)) (Nat.le_of_ble_eq_true rfl) (Nat.le_refl _) (Nat.le_refl _) rfl (zp_X6_isWord_no k50 H51 p47 HA ?_)
        refine e_istore_n (L' := [_, _, _]) dX6_clueLine_46 (Nat.le_of_ble_eq_true rfl) rfl ?_
        refine e_iload_n dX6_clueLine_47 rfl ?_
        refine z_ifb_eq 55 dX6_clueLine_48 rfl (fun c55 => ?_) (fun c55 => ?_)
        · skip
          refine e_aload_n dX6_clueLine_55 rfl ?_
          refine z_iconst (0) dX6_clueLine_56 rfl ?_
          refine z_iconst (0) dX6_clueLine_57 rfl ?_
          refine e_gets dX6_clueLine_58 ts_6_213 ?_
          refine e_iload_n dX6_clueLine_61 rfl ?_
          refine z_oldK 40 dX6_clueLine_62 (Or.inl (by decide)) (HA 4 (by decide)).1 (by decide) (by decide) (by decide) (by rw [(HA 4 (by decide)).2]; decide) ?_
          refine e_callV [.int _, .int _, .int _] dX6_clueLine_63 tm_6_156 rfl (Nat.le_of_ble_eq_true rfl) (congrArg Prod.fst (rd_s0 k50)) (Nat.le_of_ble_eq_true rfl) (Nat.le_refl _) (Nat.le_refl _) rfl (zp_X6_takeNumber k50 H51 p47 F54 0 ⟨by omega, by omega⟩ 0 ⟨by omega, by omega⟩ 40 ⟨by omega, by omega⟩ (by omega) (fun v56 p57 h58 f59 p60 => ?_))
          have k61 := lk_q (frm_s f59) k50
          have H62 := rdT_c f59 (fun a k q => by omega) H51
          have H63 := rwY_c f59 (fun a k q1 q2 => by omega) H52
          have FR64 := frm_t FR53 (frm_m (S' := (fun a k => (a = y ∧ (k = 3 ∨ k = 4 ∨ (8 ≤ k ∧ k ≤ 11))) ∨ (y + 17 ≤ a ∧ a < y + 25) ∨ a = y + 26)) f59 (fun a k q => by omega))
          skip
          refine z_if_ne 71 dX6_clueLine_66 rfl ⟨by omega, by omega⟩ (fun c65 => ?_) (fun c65 => ?_)
          · skip
            obtain ⟨K66, K66p, K66f, K66n⟩ := tn_1 p60 (by omega)
            refine e_aload_n dX6_clueLine_71 rfl ?_
            refine e_get (.ref (y + 21)) dX6_clueLine_72 tf_6_28 (congrArg Prod.fst (rd_s0 k61)) (congrArg va_rf (rd_r0_2 k61)) ?_
            refine e_iload_n dX6_clueLine_75 rfl ?_
            refine e_aload_n dX6_clueLine_76 rfl ?_
            refine e_get (.ref (y + 26)) dX6_clueLine_77 tf_6_43 (congrArg Prod.fst (rd_s0 k61)) (congrArg va_rf (rd_r0_6 k61)) ?_
            refine z_iconst (0) dX6_clueLine_80 rfl ?_
            refine z_ild (tkV T L (tkE T L p)) dX6_clueLine_81 (rd_s26 k61) (by decide) (by omega) (by omega) K66n ?_
            have y67 := tv_b K66
            refine e_iload_n dX6_clueLine_82 rfl ?_
            refine z_ifb_ne 90 dX6_clueLine_83 rfl (fun c68 => ?_) (fun c68 => ?_)
            · exfalso; omega
            · skip
              refine z_iconst (1) dX6_clueLine_86 rfl ?_
              refine e_goto 91 dX6_clueLine_87 rfl ?_
              have SZ : rI h58 (y + 21) 3 = Y 0 := H63.1
              refine e_callV [.int _, .int _, .int _] dX6_clueLine_91 tm_6_216 rfl (Nat.le_of_ble_eq_true rfl) (congrArg Prod.fst (rd_s21 k61)) (Nat.le_of_ble_eq_true rfl) (Nat.le_refl _) (Nat.le_refl _) rfl (zp_X1_add (rd_cu21 k61) (Y 0) 0 ⟨by omega, by omega⟩ (tkV T L (tkE T L p)) ⟨by omega, by omega⟩ True ⟨SZ, by omega, by omega⟩ (fun  h69 f70 p71 => ?_))
              have k72 := lk_q (frm_s f70) k61
              have H73 := rdT_c f70 (fun a k q => by omega) H62
              have H74 := rdP_c f70 (fun a k q => by omega) K66p
              have H75 := rdF_c f70 (fun a k q => by omega) K66f
              have FR76 := frm_t FR64 (frm_m (S' := (fun a k => (a = y ∧ (k = 3 ∨ k = 4 ∨ (8 ≤ k ∧ k ≤ 11))) ∨ (y + 17 ≤ a ∧ a < y + 25) ∨ a = y + 26)) f70 (fun a k q => by omega))
              have G1 : rwY h69 (y + 21) (adY 8 Y 0 (tkV T L (tkE T L p)) 1) := rwY_a py.1 H63 f70 p71
              refine e_aload_n dX6_clueLine_94 rfl ?_
              refine e_callV [] dX6_clueLine_95 tm_6_164 rfl (Nat.le_of_ble_eq_true rfl) (congrArg Prod.fst (rd_s0 k72)) (Nat.le_of_ble_eq_true rfl) (Nat.le_refl _) (Nat.le_refl _) rfl (zp_X6_takeStop k72 H73 H74 H75 (fun v77 p78 h79 f80 p81 => ?_))
              have k82 := lk_q (frm_s f80) k72
              have H83 := rdT_c f80 (fun a k q => by omega) H73
              have H84 := rwY_c f80 (fun a k q1 q2 => by omega) G1
              have FR85 := frm_t FR76 (frm_m (S' := (fun a k => (a = y ∧ (k = 3 ∨ k = 4 ∨ (8 ≤ k ∧ k ≤ 11))) ∨ (y + 17 ≤ a ∧ a < y + 25) ∨ a = y + 26)) f80 (fun a k q => by omega))
              skip
              refine z_bret dX6_clueLine_98 rfl (by omega) ⟨rfl, ?_⟩
              rcases p81 with ⟨w, k5, P5, F5⟩ | ⟨w, k5, F5⟩
              · exact kq _ (Or.inr w) _ FR85 (Or.inl ⟨w, ⟨K66, k5⟩, P5, F5, H84⟩)
              · exact kq _ (Or.inl w) _ FR85 (Or.inr ⟨w, fun z => k5 z.2, by rw [xp_y K66]; exact F5⟩)
          · skip
            obtain ⟨k0, f0⟩ := tn_0 p60 (by omega)
            refine z_iconst (0) dX6_clueLine_69 rfl ?_
            refine z_bret dX6_clueLine_70 rfl (Or.inl rfl) ⟨rfl, ?_⟩
            exact kq 0 (Or.inl rfl) _ FR64 (Or.inr ⟨rfl, fun z => k0 z.1, by rw [xp_n k0]; exact f0⟩)
        · exfalso; omega
    · exfalso; omega
set_option maxHeartbeats 4000000 in
theorem zp_X6_clueLine_apart_no {ad : mA} {dd : Nat} {h : mH} {Q : mQ} {y : Nat} {T Y : Int → Int} {L p f q : Int} (hk : rdk h y) (HT : rdT h y T L) (HP : rdP h y T L p) (HF : rdF h y f q) (HG : rwY h (y + 21) Y) (HA : adK ad)  (py : 0 ≤ Y 0 ∧ Y 0 ≤ 8) (pu : tkW T L p = 418497262196) (pn : tkW T L (tkE T L p) = 28271) (kq : ∀ v : Int, (v = 0 ∨ v = 1) → ∀ h1, frm (fun a k => (a = y ∧ (k = 3 ∨ k = 4 ∨ (8 ≤ k ∧ k ≤ 11))) ∨ (y + 17 ≤ a ∧ a < y + 25) ∨ a = y + 26) h h1 → (lnO h1 y T L [(0, 20)] (tkE T L (tkE T L p)) (ntF (8 ≤ Y 0) 3 f) (ntQ (8 ≤ Y 0) (tkS T L p) f q) v (rwY h1 (y + 21) (adY 8 Y 1 (tkV T L (tkE T L (tkE T L p))) 0))) → Q (some (.int (zI v))) h1) : mCal TB0 ad (dd + 8) M_X6_clueLine [.ref y] h 0 0 Q := by
  refine ⟨Nat.le_of_ble_eq_true rfl, ?_⟩
  show mEv TB0 ad M_X6_clueLine (dd + 8) (0, 0) (mCal TB0 ad (dd + 7)) (fun v h' z => z.1 = 0 ∧ Q v h') 0 [some (.ref y), none, none] [] h (0, 0)
  have FR0 : frm (fun a k => (a = y ∧ (k = 3 ∨ k = 4 ∨ (8 ≤ k ∧ k ≤ 11))) ∨ (y + 17 ≤ a ∧ a < y + 25) ∨ a = y + 26) h h := frm_0 h
  have w1 := HT.1
  have tb := tk_b (T := T) HP.1.1 HP.1.2
  have p0 := HP.1
  refine e_aload_n dX6_clueLine_0 rfl ?_
  refine e_callV [] dX6_clueLine_1 tm_6_208 rfl (Nat.le_of_ble_eq_true rfl) (congrArg Prod.fst (rd_s0 hk)) (Nat.le_of_ble_eq_true rfl) (Nat.le_refl _) (Nat.le_refl _) rfl (zp_X6_clueSort_apart hk HT HP HA (by omega) ?_)
  refine e_istore_n (L' := [_, _, _]) dX6_clueLine_4 (Nat.le_of_ble_eq_true rfl) rfl ?_
  refine e_iload_n dX6_clueLine_5 rfl ?_
  refine z_if_lt 14 dX6_clueLine_6 rfl ⟨by omega, by omega⟩ (fun c1 => ?_) (fun c1 => ?_)
  · exfalso; omega
  · skip
    refine e_iload_n dX6_clueLine_9 rfl ?_
    refine z_iconst (4) dX6_clueLine_10 rfl ?_
    refine z_icmp_lt 19 dX6_clueLine_11 rfl ⟨by omega, by omega⟩ ⟨by omega, by omega⟩ (fun c2 => ?_) (fun c2 => ?_)
    · skip
      refine e_aload_n dX6_clueLine_19 rfl ?_
      refine e_aload_n dX6_clueLine_20 rfl ?_
      refine e_get (.ref (y + 21)) dX6_clueLine_21 tf_6_28 (congrArg Prod.fst (rd_s0 hk)) (congrArg va_rf (rd_r0_2 hk)) ?_
      refine z_get (Y 0) dX6_clueLine_24 tf_6_117 (congrArg Prod.fst (rd_s21 hk)) (Or.inl rfl) HG.1 ?_
      refine z_bipush (8) dX6_clueLine_27 rfl ?_
      refine z_icmp_lt 36 dX6_clueLine_29 rfl ⟨by omega, by omega⟩ ⟨by omega, by omega⟩ (fun c3 => ?_) (fun c3 => ?_)
      · skip
        refine z_iconst (0) dX6_clueLine_36 rfl ?_
        refine e_callV [.int _] dX6_clueLine_37 tm_6_146 rfl (Nat.le_of_ble_eq_true rfl) (congrArg Prod.fst (rd_s0 hk)) (Nat.le_of_ble_eq_true rfl) (Nat.le_refl _) (Nat.le_refl _) rfl (zp_X6_beginLine hk HT HP HF False (fun  h4 f5 p6 p7 p8 => ?_))
        have k9 := lk_q (frm_s f5) hk
        have H10 := rdT_c f5 (fun a k q => by omega) HT
        have H11 := rwY_c f5 (fun a k q1 q2 => by omega) HG
        have FR12 := frm_t FR0 (frm_m (S' := (fun a k => (a = y ∧ (k = 3 ∨ k = 4 ∨ (8 ≤ k ∧ k ≤ 11))) ∨ (y + 17 ≤ a ∧ a < y + 25) ∨ a = y + 26)) f5 (fun a k q => by omega))
        have F13 : rdF h4 y (ntF (8 ≤ Y 0) 3 f) (ntQ (8 ≤ Y 0) (tkS T L p) f q) := by rw [(nt_iff (c := 8 ≤ Y 0) (c' := False) (k := 3) (s := tkS T L p) (f := f) (q := q) ⟨fun z => absurd z (by omega), fun z => z.elim⟩).1, (nt_iff (c := 8 ≤ Y 0) (c' := False) (k := 3) (s := tkS T L p) (f := f) (q := q) ⟨fun z => absurd z (by omega), fun z => z.elim⟩).2]; exact p7
        refine e_aload_n dX6_clueLine_40 rfl ?_
        refine e_ldcS dX6_clueLine_41 tl_6_211 ?_
        refine e_callV [.ref _] dX6_clueLine_43 tm_6_123 rfl (Nat.le_of_ble_eq_true rfl) (congrArg Prod.fst (rd_s0 k9)) (Nat.le_of_ble_eq_true rfl) (Nat.le_refl _) (Nat.le_refl _) rfl (zp_X6_isWord_no k9 H10 p6 HA ?_)
        refine e_istore_n (L' := [_, _, _]) dX6_clueLine_46 (Nat.le_of_ble_eq_true rfl) rfl ?_
        refine e_iload_n dX6_clueLine_47 rfl ?_
        refine z_ifb_eq 55 dX6_clueLine_48 rfl (fun c14 => ?_) (fun c14 => ?_)
        · exfalso; omega
        · skip
          refine e_aload_n dX6_clueLine_51 rfl ?_
          have PA52 := p6.2.1
          have tb2 := tk_b (T := T) p6.1.1 p6.1.2
          refine e_callV [] dX6_clueLine_52 tm_6_118 rfl (Nat.le_of_ble_eq_true rfl) (congrArg Prod.fst (rd_s0 k9)) (Nat.le_of_ble_eq_true rfl) (Nat.le_refl _) (Nat.le_refl _) rfl (zp_X6_advance k9 H10 (tkE T L (tkE T L p)) PA52 (by omega) (fun  h15 f16 p17 => ?_))
          have k18 := lk_q (frm_s f16) k9
          have H19 := rdT_c f16 (fun a k q => by omega) H10
          have H20 := rwY_c f16 (fun a k q1 q2 => by omega) H11
          have H21 := rdF_c f16 (fun a k q => by omega) F13
          have FR22 := frm_t FR12 (frm_m (S' := (fun a k => (a = y ∧ (k = 3 ∨ k = 4 ∨ (8 ≤ k ∧ k ≤ 11))) ∨ (y + 17 ≤ a ∧ a < y + 25) ∨ a = y + 26)) f16 (fun a k q => by omega))
          skip
          refine e_aload_n dX6_clueLine_55 rfl ?_
          refine z_iconst (0) dX6_clueLine_56 rfl ?_
          refine z_iconst (0) dX6_clueLine_57 rfl ?_
          refine e_gets dX6_clueLine_58 ts_6_213 ?_
          refine e_iload_n dX6_clueLine_61 rfl ?_
          refine z_oldK 20 dX6_clueLine_62 (Or.inl (by decide)) (HA 4 (by decide)).1 (by decide) (by decide) (by decide) (by rw [(HA 4 (by decide)).2]; decide) ?_
          refine e_callV [.int _, .int _, .int _] dX6_clueLine_63 tm_6_156 rfl (Nat.le_of_ble_eq_true rfl) (congrArg Prod.fst (rd_s0 k18)) (Nat.le_of_ble_eq_true rfl) (Nat.le_refl _) (Nat.le_refl _) rfl (zp_X6_takeNumber k18 H19 p17 H21 0 ⟨by omega, by omega⟩ 0 ⟨by omega, by omega⟩ 20 ⟨by omega, by omega⟩ (by omega) (fun v23 p24 h25 f26 p27 => ?_))
          have k28 := lk_q (frm_s f26) k18
          have H29 := rdT_c f26 (fun a k q => by omega) H19
          have H30 := rwY_c f26 (fun a k q1 q2 => by omega) H20
          have FR31 := frm_t FR22 (frm_m (S' := (fun a k => (a = y ∧ (k = 3 ∨ k = 4 ∨ (8 ≤ k ∧ k ≤ 11))) ∨ (y + 17 ≤ a ∧ a < y + 25) ∨ a = y + 26)) f26 (fun a k q => by omega))
          skip
          refine z_if_ne 71 dX6_clueLine_66 rfl ⟨by omega, by omega⟩ (fun c32 => ?_) (fun c32 => ?_)
          · skip
            obtain ⟨K33, K33p, K33f, K33n⟩ := tn_1 p27 (by omega)
            refine e_aload_n dX6_clueLine_71 rfl ?_
            refine e_get (.ref (y + 21)) dX6_clueLine_72 tf_6_28 (congrArg Prod.fst (rd_s0 k28)) (congrArg va_rf (rd_r0_2 k28)) ?_
            refine e_iload_n dX6_clueLine_75 rfl ?_
            refine e_aload_n dX6_clueLine_76 rfl ?_
            refine e_get (.ref (y + 26)) dX6_clueLine_77 tf_6_43 (congrArg Prod.fst (rd_s0 k28)) (congrArg va_rf (rd_r0_6 k28)) ?_
            refine z_iconst (0) dX6_clueLine_80 rfl ?_
            refine z_ild (tkV T L (tkE T L (tkE T L p))) dX6_clueLine_81 (rd_s26 k28) (by decide) (by omega) (by omega) K33n ?_
            have y34 := tv_b K33
            refine e_iload_n dX6_clueLine_82 rfl ?_
            refine z_ifb_ne 90 dX6_clueLine_83 rfl (fun c35 => ?_) (fun c35 => ?_)
            · skip
              refine z_iconst (0) dX6_clueLine_90 rfl ?_
              have SZ : rI h25 (y + 21) 3 = Y 0 := H30.1
              refine e_callV [.int _, .int _, .int _] dX6_clueLine_91 tm_6_216 rfl (Nat.le_of_ble_eq_true rfl) (congrArg Prod.fst (rd_s21 k28)) (Nat.le_of_ble_eq_true rfl) (Nat.le_refl _) (Nat.le_refl _) rfl (zp_X1_add (rd_cu21 k28) (Y 0) 1 ⟨by omega, by omega⟩ (tkV T L (tkE T L (tkE T L p))) ⟨by omega, by omega⟩ False ⟨SZ, by omega, by omega⟩ (fun  h36 f37 p38 => ?_))
              have k39 := lk_q (frm_s f37) k28
              have H40 := rdT_c f37 (fun a k q => by omega) H29
              have H41 := rdP_c f37 (fun a k q => by omega) K33p
              have H42 := rdF_c f37 (fun a k q => by omega) K33f
              have FR43 := frm_t FR31 (frm_m (S' := (fun a k => (a = y ∧ (k = 3 ∨ k = 4 ∨ (8 ≤ k ∧ k ≤ 11))) ∨ (y + 17 ≤ a ∧ a < y + 25) ∨ a = y + 26)) f37 (fun a k q => by omega))
              have G1 : rwY h36 (y + 21) (adY 8 Y 1 (tkV T L (tkE T L (tkE T L p))) 0) := rwY_a py.1 H30 f37 p38
              refine e_aload_n dX6_clueLine_94 rfl ?_
              refine e_callV [] dX6_clueLine_95 tm_6_164 rfl (Nat.le_of_ble_eq_true rfl) (congrArg Prod.fst (rd_s0 k39)) (Nat.le_of_ble_eq_true rfl) (Nat.le_refl _) (Nat.le_refl _) rfl (zp_X6_takeStop k39 H40 H41 H42 (fun v44 p45 h46 f47 p48 => ?_))
              have k49 := lk_q (frm_s f47) k39
              have H50 := rdT_c f47 (fun a k q => by omega) H40
              have H51 := rwY_c f47 (fun a k q1 q2 => by omega) G1
              have FR52 := frm_t FR43 (frm_m (S' := (fun a k => (a = y ∧ (k = 3 ∨ k = 4 ∨ (8 ≤ k ∧ k ≤ 11))) ∨ (y + 17 ≤ a ∧ a < y + 25) ∨ a = y + 26)) f47 (fun a k q => by omega))
              skip
              refine z_bret dX6_clueLine_98 rfl (by omega) ⟨rfl, ?_⟩
              rcases p48 with ⟨w, k5, P5, F5⟩ | ⟨w, k5, F5⟩
              · exact kq _ (Or.inr w) _ FR52 (Or.inl ⟨w, ⟨K33, k5⟩, P5, F5, H51⟩)
              · exact kq _ (Or.inl w) _ FR52 (Or.inr ⟨w, fun z => k5 z.2, by rw [xp_y K33]; exact F5⟩)
            · exfalso; omega
          · skip
            obtain ⟨k0, f0⟩ := tn_0 p27 (by omega)
            refine z_iconst (0) dX6_clueLine_69 rfl ?_
            refine z_bret dX6_clueLine_70 rfl (Or.inl rfl) ⟨rfl, ?_⟩
            exact kq 0 (Or.inl rfl) _ FR31 (Or.inr ⟨rfl, fun z => k0 z.1, by rw [xp_n k0]; exact f0⟩)
      · skip
        refine z_iconst (1) dX6_clueLine_32 rfl ?_
        refine e_goto 37 dX6_clueLine_33 rfl ?_
        refine e_callV [.int _] dX6_clueLine_37 tm_6_146 rfl (Nat.le_of_ble_eq_true rfl) (congrArg Prod.fst (rd_s0 hk)) (Nat.le_of_ble_eq_true rfl) (Nat.le_refl _) (Nat.le_refl _) rfl (zp_X6_beginLine hk HT HP HF True (fun  h53 f54 p55 p56 p57 => ?_))
        have k58 := lk_q (frm_s f54) hk
        have H59 := rdT_c f54 (fun a k q => by omega) HT
        have H60 := rwY_c f54 (fun a k q1 q2 => by omega) HG
        have FR61 := frm_t FR0 (frm_m (S' := (fun a k => (a = y ∧ (k = 3 ∨ k = 4 ∨ (8 ≤ k ∧ k ≤ 11))) ∨ (y + 17 ≤ a ∧ a < y + 25) ∨ a = y + 26)) f54 (fun a k q => by omega))
        have F62 : rdF h53 y (ntF (8 ≤ Y 0) 3 f) (ntQ (8 ≤ Y 0) (tkS T L p) f q) := by rw [(nt_iff (c := 8 ≤ Y 0) (c' := True) (k := 3) (s := tkS T L p) (f := f) (q := q) ⟨fun _ => trivial, fun _ => by omega⟩).1, (nt_iff (c := 8 ≤ Y 0) (c' := True) (k := 3) (s := tkS T L p) (f := f) (q := q) ⟨fun _ => trivial, fun _ => by omega⟩).2]; exact p56
        refine e_aload_n dX6_clueLine_40 rfl ?_
        refine e_ldcS dX6_clueLine_41 tl_6_211 ?_
        refine e_callV [.ref _] dX6_clueLine_43 tm_6_123 rfl (Nat.le_of_ble_eq_true rfl) (congrArg Prod.fst (rd_s0 k58)) (Nat.le_of_ble_eq_true rfl) (Nat.le_refl _) (Nat.le_refl _) rfl (zp_X6_isWord_no k58 H59 p55 HA ?_)
        refine e_istore_n (L' := [_, _, _]) dX6_clueLine_46 (Nat.le_of_ble_eq_true rfl) rfl ?_
        refine e_iload_n dX6_clueLine_47 rfl ?_
        refine z_ifb_eq 55 dX6_clueLine_48 rfl (fun c63 => ?_) (fun c63 => ?_)
        · exfalso; omega
        · skip
          refine e_aload_n dX6_clueLine_51 rfl ?_
          have PA52 := p55.2.1
          have tb2 := tk_b (T := T) p55.1.1 p55.1.2
          refine e_callV [] dX6_clueLine_52 tm_6_118 rfl (Nat.le_of_ble_eq_true rfl) (congrArg Prod.fst (rd_s0 k58)) (Nat.le_of_ble_eq_true rfl) (Nat.le_refl _) (Nat.le_refl _) rfl (zp_X6_advance k58 H59 (tkE T L (tkE T L p)) PA52 (by omega) (fun  h64 f65 p66 => ?_))
          have k67 := lk_q (frm_s f65) k58
          have H68 := rdT_c f65 (fun a k q => by omega) H59
          have H69 := rwY_c f65 (fun a k q1 q2 => by omega) H60
          have H70 := rdF_c f65 (fun a k q => by omega) F62
          have FR71 := frm_t FR61 (frm_m (S' := (fun a k => (a = y ∧ (k = 3 ∨ k = 4 ∨ (8 ≤ k ∧ k ≤ 11))) ∨ (y + 17 ≤ a ∧ a < y + 25) ∨ a = y + 26)) f65 (fun a k q => by omega))
          skip
          refine e_aload_n dX6_clueLine_55 rfl ?_
          refine z_iconst (0) dX6_clueLine_56 rfl ?_
          refine z_iconst (0) dX6_clueLine_57 rfl ?_
          refine e_gets dX6_clueLine_58 ts_6_213 ?_
          refine e_iload_n dX6_clueLine_61 rfl ?_
          refine z_oldK 20 dX6_clueLine_62 (Or.inl (by decide)) (HA 4 (by decide)).1 (by decide) (by decide) (by decide) (by rw [(HA 4 (by decide)).2]; decide) ?_
          refine e_callV [.int _, .int _, .int _] dX6_clueLine_63 tm_6_156 rfl (Nat.le_of_ble_eq_true rfl) (congrArg Prod.fst (rd_s0 k67)) (Nat.le_of_ble_eq_true rfl) (Nat.le_refl _) (Nat.le_refl _) rfl (zp_X6_takeNumber k67 H68 p66 H70 0 ⟨by omega, by omega⟩ 0 ⟨by omega, by omega⟩ 20 ⟨by omega, by omega⟩ (by omega) (fun v72 p73 h74 f75 p76 => ?_))
          have k77 := lk_q (frm_s f75) k67
          have H78 := rdT_c f75 (fun a k q => by omega) H68
          have H79 := rwY_c f75 (fun a k q1 q2 => by omega) H69
          have FR80 := frm_t FR71 (frm_m (S' := (fun a k => (a = y ∧ (k = 3 ∨ k = 4 ∨ (8 ≤ k ∧ k ≤ 11))) ∨ (y + 17 ≤ a ∧ a < y + 25) ∨ a = y + 26)) f75 (fun a k q => by omega))
          skip
          refine z_if_ne 71 dX6_clueLine_66 rfl ⟨by omega, by omega⟩ (fun c81 => ?_) (fun c81 => ?_)
          · skip
            obtain ⟨K82, K82p, K82f, K82n⟩ := tn_1 p76 (by omega)
            refine e_aload_n dX6_clueLine_71 rfl ?_
            refine e_get (.ref (y + 21)) dX6_clueLine_72 tf_6_28 (congrArg Prod.fst (rd_s0 k77)) (congrArg va_rf (rd_r0_2 k77)) ?_
            refine e_iload_n dX6_clueLine_75 rfl ?_
            refine e_aload_n dX6_clueLine_76 rfl ?_
            refine e_get (.ref (y + 26)) dX6_clueLine_77 tf_6_43 (congrArg Prod.fst (rd_s0 k77)) (congrArg va_rf (rd_r0_6 k77)) ?_
            refine z_iconst (0) dX6_clueLine_80 rfl ?_
            refine z_ild (tkV T L (tkE T L (tkE T L p))) dX6_clueLine_81 (rd_s26 k77) (by decide) (by omega) (by omega) K82n ?_
            have y83 := tv_b K82
            refine e_iload_n dX6_clueLine_82 rfl ?_
            refine z_ifb_ne 90 dX6_clueLine_83 rfl (fun c84 => ?_) (fun c84 => ?_)
            · skip
              refine z_iconst (0) dX6_clueLine_90 rfl ?_
              have SZ : rI h74 (y + 21) 3 = Y 0 := H79.1
              refine e_callV [.int _, .int _, .int _] dX6_clueLine_91 tm_6_216 rfl (Nat.le_of_ble_eq_true rfl) (congrArg Prod.fst (rd_s21 k77)) (Nat.le_of_ble_eq_true rfl) (Nat.le_refl _) (Nat.le_refl _) rfl (zp_X1_add (rd_cu21 k77) (Y 0) 1 ⟨by omega, by omega⟩ (tkV T L (tkE T L (tkE T L p))) ⟨by omega, by omega⟩ False ⟨SZ, by omega, by omega⟩ (fun  h85 f86 p87 => ?_))
              have k88 := lk_q (frm_s f86) k77
              have H89 := rdT_c f86 (fun a k q => by omega) H78
              have H90 := rdP_c f86 (fun a k q => by omega) K82p
              have H91 := rdF_c f86 (fun a k q => by omega) K82f
              have FR92 := frm_t FR80 (frm_m (S' := (fun a k => (a = y ∧ (k = 3 ∨ k = 4 ∨ (8 ≤ k ∧ k ≤ 11))) ∨ (y + 17 ≤ a ∧ a < y + 25) ∨ a = y + 26)) f86 (fun a k q => by omega))
              have G1 : rwY h85 (y + 21) (adY 8 Y 1 (tkV T L (tkE T L (tkE T L p))) 0) := rwY_a py.1 H79 f86 p87
              refine e_aload_n dX6_clueLine_94 rfl ?_
              refine e_callV [] dX6_clueLine_95 tm_6_164 rfl (Nat.le_of_ble_eq_true rfl) (congrArg Prod.fst (rd_s0 k88)) (Nat.le_of_ble_eq_true rfl) (Nat.le_refl _) (Nat.le_refl _) rfl (zp_X6_takeStop k88 H89 H90 H91 (fun v93 p94 h95 f96 p97 => ?_))
              have k98 := lk_q (frm_s f96) k88
              have H99 := rdT_c f96 (fun a k q => by omega) H89
              have H100 := rwY_c f96 (fun a k q1 q2 => by omega) G1
              have FR101 := frm_t FR92 (frm_m (S' := (fun a k => (a = y ∧ (k = 3 ∨ k = 4 ∨ (8 ≤ k ∧ k ≤ 11))) ∨ (y + 17 ≤ a ∧ a < y + 25) ∨ a = y + 26)) f96 (fun a k q => by omega))
              skip
              refine z_bret dX6_clueLine_98 rfl (by omega) ⟨rfl, ?_⟩
              rcases p97 with ⟨w, k5, P5, F5⟩ | ⟨w, k5, F5⟩
              · exact kq _ (Or.inr w) _ FR101 (Or.inl ⟨w, ⟨K82, k5⟩, P5, F5, H100⟩)
              · exact kq _ (Or.inl w) _ FR101 (Or.inr ⟨w, fun z => k5 z.2, by rw [xp_y K82]; exact F5⟩)
            · exfalso; omega
          · skip
            obtain ⟨k0, f0⟩ := tn_0 p76 (by omega)
            refine z_iconst (0) dX6_clueLine_69 rfl ?_
            refine z_bret dX6_clueLine_70 rfl (Or.inl rfl) ⟨rfl, ?_⟩
            exact kq 0 (Or.inl rfl) _ FR80 (Or.inr ⟨rfl, fun z => k0 z.1, by rw [xp_n k0]; exact f0⟩)
    · exfalso; omega
set_option maxHeartbeats 4000000 in
theorem zp_X6_clueLine_apart_so {ad : mA} {dd : Nat} {h : mH} {Q : mQ} {y : Nat} {T Y : Int → Int} {L p f q : Int} (hk : rdk h y) (HT : rdT h y T L) (HP : rdP h y T L p) (HF : rdF h y f q) (HG : rwY h (y + 21) Y) (HA : adK ad)  (py : 0 ≤ Y 0 ∧ Y 0 ≤ 8) (pu : tkW T L p = 418497262196) (pn : tkW T L (tkE T L p) ≠ 28271) (kq : ∀ v : Int, (v = 0 ∨ v = 1) → ∀ h1, frm (fun a k => (a = y ∧ (k = 3 ∨ k = 4 ∨ (8 ≤ k ∧ k ≤ 11))) ∨ (y + 17 ≤ a ∧ a < y + 25) ∨ a = y + 26) h h1 → (lnO h1 y T L [(0, 20)] (tkE T L p) (ntF (8 ≤ Y 0) 3 f) (ntQ (8 ≤ Y 0) (tkS T L p) f q) v (rwY h1 (y + 21) (adY 8 Y 1 (tkV T L (tkE T L p)) 1))) → Q (some (.int (zI v))) h1) : mCal TB0 ad (dd + 8) M_X6_clueLine [.ref y] h 0 0 Q := by
  refine ⟨Nat.le_of_ble_eq_true rfl, ?_⟩
  show mEv TB0 ad M_X6_clueLine (dd + 8) (0, 0) (mCal TB0 ad (dd + 7)) (fun v h' z => z.1 = 0 ∧ Q v h') 0 [some (.ref y), none, none] [] h (0, 0)
  have FR0 : frm (fun a k => (a = y ∧ (k = 3 ∨ k = 4 ∨ (8 ≤ k ∧ k ≤ 11))) ∨ (y + 17 ≤ a ∧ a < y + 25) ∨ a = y + 26) h h := frm_0 h
  have w1 := HT.1
  have tb := tk_b (T := T) HP.1.1 HP.1.2
  have p0 := HP.1
  refine e_aload_n dX6_clueLine_0 rfl ?_
  refine e_callV [] dX6_clueLine_1 tm_6_208 rfl (Nat.le_of_ble_eq_true rfl) (congrArg Prod.fst (rd_s0 hk)) (Nat.le_of_ble_eq_true rfl) (Nat.le_refl _) (Nat.le_refl _) rfl (zp_X6_clueSort_apart hk HT HP HA (by omega) ?_)
  refine e_istore_n (L' := [_, _, _]) dX6_clueLine_4 (Nat.le_of_ble_eq_true rfl) rfl ?_
  refine e_iload_n dX6_clueLine_5 rfl ?_
  refine z_if_lt 14 dX6_clueLine_6 rfl ⟨by omega, by omega⟩ (fun c1 => ?_) (fun c1 => ?_)
  · exfalso; omega
  · skip
    refine e_iload_n dX6_clueLine_9 rfl ?_
    refine z_iconst (4) dX6_clueLine_10 rfl ?_
    refine z_icmp_lt 19 dX6_clueLine_11 rfl ⟨by omega, by omega⟩ ⟨by omega, by omega⟩ (fun c2 => ?_) (fun c2 => ?_)
    · skip
      refine e_aload_n dX6_clueLine_19 rfl ?_
      refine e_aload_n dX6_clueLine_20 rfl ?_
      refine e_get (.ref (y + 21)) dX6_clueLine_21 tf_6_28 (congrArg Prod.fst (rd_s0 hk)) (congrArg va_rf (rd_r0_2 hk)) ?_
      refine z_get (Y 0) dX6_clueLine_24 tf_6_117 (congrArg Prod.fst (rd_s21 hk)) (Or.inl rfl) HG.1 ?_
      refine z_bipush (8) dX6_clueLine_27 rfl ?_
      refine z_icmp_lt 36 dX6_clueLine_29 rfl ⟨by omega, by omega⟩ ⟨by omega, by omega⟩ (fun c3 => ?_) (fun c3 => ?_)
      · skip
        refine z_iconst (0) dX6_clueLine_36 rfl ?_
        refine e_callV [.int _] dX6_clueLine_37 tm_6_146 rfl (Nat.le_of_ble_eq_true rfl) (congrArg Prod.fst (rd_s0 hk)) (Nat.le_of_ble_eq_true rfl) (Nat.le_refl _) (Nat.le_refl _) rfl (zp_X6_beginLine hk HT HP HF False (fun  h4 f5 p6 p7 p8 => ?_))
        have k9 := lk_q (frm_s f5) hk
        have H10 := rdT_c f5 (fun a k q => by omega) HT
        have H11 := rwY_c f5 (fun a k q1 q2 => by omega) HG
        have FR12 := frm_t FR0 (frm_m (S' := (fun a k => (a = y ∧ (k = 3 ∨ k = 4 ∨ (8 ≤ k ∧ k ≤ 11))) ∨ (y + 17 ≤ a ∧ a < y + 25) ∨ a = y + 26)) f5 (fun a k q => by omega))
        have F13 : rdF h4 y (ntF (8 ≤ Y 0) 3 f) (ntQ (8 ≤ Y 0) (tkS T L p) f q) := by rw [(nt_iff (c := 8 ≤ Y 0) (c' := False) (k := 3) (s := tkS T L p) (f := f) (q := q) ⟨fun z => absurd z (by omega), fun z => z.elim⟩).1, (nt_iff (c := 8 ≤ Y 0) (c' := False) (k := 3) (s := tkS T L p) (f := f) (q := q) ⟨fun z => absurd z (by omega), fun z => z.elim⟩).2]; exact p7
        refine e_aload_n dX6_clueLine_40 rfl ?_
        refine e_ldcS dX6_clueLine_41 tl_6_211 ?_
        refine e_callV [.ref _] dX6_clueLine_43 tm_6_123 rfl (Nat.le_of_ble_eq_true rfl) (congrArg Prod.fst (rd_s0 k9)) (Nat.le_of_ble_eq_true rfl) (Nat.le_refl _) (Nat.le_refl _) rfl (zp_X6_isWord_no k9 H10 p6 HA ?_)
        refine e_istore_n (L' := [_, _, _]) dX6_clueLine_46 (Nat.le_of_ble_eq_true rfl) rfl ?_
        refine e_iload_n dX6_clueLine_47 rfl ?_
        refine z_ifb_eq 55 dX6_clueLine_48 rfl (fun c14 => ?_) (fun c14 => ?_)
        · skip
          refine e_aload_n dX6_clueLine_55 rfl ?_
          refine z_iconst (0) dX6_clueLine_56 rfl ?_
          refine z_iconst (0) dX6_clueLine_57 rfl ?_
          refine e_gets dX6_clueLine_58 ts_6_213 ?_
          refine e_iload_n dX6_clueLine_61 rfl ?_
          refine z_oldK 20 dX6_clueLine_62 (Or.inl (by decide)) (HA 4 (by decide)).1 (by decide) (by decide) (by decide) (by rw [(HA 4 (by decide)).2]; decide) ?_
          refine e_callV [.int _, .int _, .int _] dX6_clueLine_63 tm_6_156 rfl (Nat.le_of_ble_eq_true rfl) (congrArg Prod.fst (rd_s0 k9)) (Nat.le_of_ble_eq_true rfl) (Nat.le_refl _) (Nat.le_refl _) rfl (zp_X6_takeNumber k9 H10 p6 F13 0 ⟨by omega, by omega⟩ 0 ⟨by omega, by omega⟩ 20 ⟨by omega, by omega⟩ (by omega) (fun v15 p16 h17 f18 p19 => ?_))
          have k20 := lk_q (frm_s f18) k9
          have H21 := rdT_c f18 (fun a k q => by omega) H10
          have H22 := rwY_c f18 (fun a k q1 q2 => by omega) H11
          have FR23 := frm_t FR12 (frm_m (S' := (fun a k => (a = y ∧ (k = 3 ∨ k = 4 ∨ (8 ≤ k ∧ k ≤ 11))) ∨ (y + 17 ≤ a ∧ a < y + 25) ∨ a = y + 26)) f18 (fun a k q => by omega))
          skip
          refine z_if_ne 71 dX6_clueLine_66 rfl ⟨by omega, by omega⟩ (fun c24 => ?_) (fun c24 => ?_)
          · skip
            obtain ⟨K25, K25p, K25f, K25n⟩ := tn_1 p19 (by omega)
            refine e_aload_n dX6_clueLine_71 rfl ?_
            refine e_get (.ref (y + 21)) dX6_clueLine_72 tf_6_28 (congrArg Prod.fst (rd_s0 k20)) (congrArg va_rf (rd_r0_2 k20)) ?_
            refine e_iload_n dX6_clueLine_75 rfl ?_
            refine e_aload_n dX6_clueLine_76 rfl ?_
            refine e_get (.ref (y + 26)) dX6_clueLine_77 tf_6_43 (congrArg Prod.fst (rd_s0 k20)) (congrArg va_rf (rd_r0_6 k20)) ?_
            refine z_iconst (0) dX6_clueLine_80 rfl ?_
            refine z_ild (tkV T L (tkE T L p)) dX6_clueLine_81 (rd_s26 k20) (by decide) (by omega) (by omega) K25n ?_
            have y26 := tv_b K25
            refine e_iload_n dX6_clueLine_82 rfl ?_
            refine z_ifb_ne 90 dX6_clueLine_83 rfl (fun c27 => ?_) (fun c27 => ?_)
            · exfalso; omega
            · skip
              refine z_iconst (1) dX6_clueLine_86 rfl ?_
              refine e_goto 91 dX6_clueLine_87 rfl ?_
              have SZ : rI h17 (y + 21) 3 = Y 0 := H22.1
              refine e_callV [.int _, .int _, .int _] dX6_clueLine_91 tm_6_216 rfl (Nat.le_of_ble_eq_true rfl) (congrArg Prod.fst (rd_s21 k20)) (Nat.le_of_ble_eq_true rfl) (Nat.le_refl _) (Nat.le_refl _) rfl (zp_X1_add (rd_cu21 k20) (Y 0) 1 ⟨by omega, by omega⟩ (tkV T L (tkE T L p)) ⟨by omega, by omega⟩ True ⟨SZ, by omega, by omega⟩ (fun  h28 f29 p30 => ?_))
              have k31 := lk_q (frm_s f29) k20
              have H32 := rdT_c f29 (fun a k q => by omega) H21
              have H33 := rdP_c f29 (fun a k q => by omega) K25p
              have H34 := rdF_c f29 (fun a k q => by omega) K25f
              have FR35 := frm_t FR23 (frm_m (S' := (fun a k => (a = y ∧ (k = 3 ∨ k = 4 ∨ (8 ≤ k ∧ k ≤ 11))) ∨ (y + 17 ≤ a ∧ a < y + 25) ∨ a = y + 26)) f29 (fun a k q => by omega))
              have G1 : rwY h28 (y + 21) (adY 8 Y 1 (tkV T L (tkE T L p)) 1) := rwY_a py.1 H22 f29 p30
              refine e_aload_n dX6_clueLine_94 rfl ?_
              refine e_callV [] dX6_clueLine_95 tm_6_164 rfl (Nat.le_of_ble_eq_true rfl) (congrArg Prod.fst (rd_s0 k31)) (Nat.le_of_ble_eq_true rfl) (Nat.le_refl _) (Nat.le_refl _) rfl (zp_X6_takeStop k31 H32 H33 H34 (fun v36 p37 h38 f39 p40 => ?_))
              have k41 := lk_q (frm_s f39) k31
              have H42 := rdT_c f39 (fun a k q => by omega) H32
              have H43 := rwY_c f39 (fun a k q1 q2 => by omega) G1
              have FR44 := frm_t FR35 (frm_m (S' := (fun a k => (a = y ∧ (k = 3 ∨ k = 4 ∨ (8 ≤ k ∧ k ≤ 11))) ∨ (y + 17 ≤ a ∧ a < y + 25) ∨ a = y + 26)) f39 (fun a k q => by omega))
              skip
              refine z_bret dX6_clueLine_98 rfl (by omega) ⟨rfl, ?_⟩
              rcases p40 with ⟨w, k5, P5, F5⟩ | ⟨w, k5, F5⟩
              · exact kq _ (Or.inr w) _ FR44 (Or.inl ⟨w, ⟨K25, k5⟩, P5, F5, H43⟩)
              · exact kq _ (Or.inl w) _ FR44 (Or.inr ⟨w, fun z => k5 z.2, by rw [xp_y K25]; exact F5⟩)
          · skip
            obtain ⟨k0, f0⟩ := tn_0 p19 (by omega)
            refine z_iconst (0) dX6_clueLine_69 rfl ?_
            refine z_bret dX6_clueLine_70 rfl (Or.inl rfl) ⟨rfl, ?_⟩
            exact kq 0 (Or.inl rfl) _ FR23 (Or.inr ⟨rfl, fun z => k0 z.1, by rw [xp_n k0]; exact f0⟩)
        · exfalso; omega
      · skip
        refine z_iconst (1) dX6_clueLine_32 rfl ?_
        refine e_goto 37 dX6_clueLine_33 rfl ?_
        refine e_callV [.int _] dX6_clueLine_37 tm_6_146 rfl (Nat.le_of_ble_eq_true rfl) (congrArg Prod.fst (rd_s0 hk)) (Nat.le_of_ble_eq_true rfl) (Nat.le_refl _) (Nat.le_refl _) rfl (zp_X6_beginLine hk HT HP HF True (fun  h45 f46 p47 p48 p49 => ?_))
        have k50 := lk_q (frm_s f46) hk
        have H51 := rdT_c f46 (fun a k q => by omega) HT
        have H52 := rwY_c f46 (fun a k q1 q2 => by omega) HG
        have FR53 := frm_t FR0 (frm_m (S' := (fun a k => (a = y ∧ (k = 3 ∨ k = 4 ∨ (8 ≤ k ∧ k ≤ 11))) ∨ (y + 17 ≤ a ∧ a < y + 25) ∨ a = y + 26)) f46 (fun a k q => by omega))
        have F54 : rdF h45 y (ntF (8 ≤ Y 0) 3 f) (ntQ (8 ≤ Y 0) (tkS T L p) f q) := by rw [(nt_iff (c := 8 ≤ Y 0) (c' := True) (k := 3) (s := tkS T L p) (f := f) (q := q) ⟨fun _ => trivial, fun _ => by omega⟩).1, (nt_iff (c := 8 ≤ Y 0) (c' := True) (k := 3) (s := tkS T L p) (f := f) (q := q) ⟨fun _ => trivial, fun _ => by omega⟩).2]; exact p48
        refine e_aload_n dX6_clueLine_40 rfl ?_
        refine e_ldcS dX6_clueLine_41 tl_6_211 ?_
        refine e_callV [.ref _] dX6_clueLine_43 tm_6_123 rfl (Nat.le_of_ble_eq_true rfl) (congrArg Prod.fst (rd_s0 k50)) (Nat.le_of_ble_eq_true rfl) (Nat.le_refl _) (Nat.le_refl _) rfl (zp_X6_isWord_no k50 H51 p47 HA ?_)
        refine e_istore_n (L' := [_, _, _]) dX6_clueLine_46 (Nat.le_of_ble_eq_true rfl) rfl ?_
        refine e_iload_n dX6_clueLine_47 rfl ?_
        refine z_ifb_eq 55 dX6_clueLine_48 rfl (fun c55 => ?_) (fun c55 => ?_)
        · skip
          refine e_aload_n dX6_clueLine_55 rfl ?_
          refine z_iconst (0) dX6_clueLine_56 rfl ?_
          refine z_iconst (0) dX6_clueLine_57 rfl ?_
          refine e_gets dX6_clueLine_58 ts_6_213 ?_
          refine e_iload_n dX6_clueLine_61 rfl ?_
          refine z_oldK 20 dX6_clueLine_62 (Or.inl (by decide)) (HA 4 (by decide)).1 (by decide) (by decide) (by decide) (by rw [(HA 4 (by decide)).2]; decide) ?_
          refine e_callV [.int _, .int _, .int _] dX6_clueLine_63 tm_6_156 rfl (Nat.le_of_ble_eq_true rfl) (congrArg Prod.fst (rd_s0 k50)) (Nat.le_of_ble_eq_true rfl) (Nat.le_refl _) (Nat.le_refl _) rfl (zp_X6_takeNumber k50 H51 p47 F54 0 ⟨by omega, by omega⟩ 0 ⟨by omega, by omega⟩ 20 ⟨by omega, by omega⟩ (by omega) (fun v56 p57 h58 f59 p60 => ?_))
          have k61 := lk_q (frm_s f59) k50
          have H62 := rdT_c f59 (fun a k q => by omega) H51
          have H63 := rwY_c f59 (fun a k q1 q2 => by omega) H52
          have FR64 := frm_t FR53 (frm_m (S' := (fun a k => (a = y ∧ (k = 3 ∨ k = 4 ∨ (8 ≤ k ∧ k ≤ 11))) ∨ (y + 17 ≤ a ∧ a < y + 25) ∨ a = y + 26)) f59 (fun a k q => by omega))
          skip
          refine z_if_ne 71 dX6_clueLine_66 rfl ⟨by omega, by omega⟩ (fun c65 => ?_) (fun c65 => ?_)
          · skip
            obtain ⟨K66, K66p, K66f, K66n⟩ := tn_1 p60 (by omega)
            refine e_aload_n dX6_clueLine_71 rfl ?_
            refine e_get (.ref (y + 21)) dX6_clueLine_72 tf_6_28 (congrArg Prod.fst (rd_s0 k61)) (congrArg va_rf (rd_r0_2 k61)) ?_
            refine e_iload_n dX6_clueLine_75 rfl ?_
            refine e_aload_n dX6_clueLine_76 rfl ?_
            refine e_get (.ref (y + 26)) dX6_clueLine_77 tf_6_43 (congrArg Prod.fst (rd_s0 k61)) (congrArg va_rf (rd_r0_6 k61)) ?_
            refine z_iconst (0) dX6_clueLine_80 rfl ?_
            refine z_ild (tkV T L (tkE T L p)) dX6_clueLine_81 (rd_s26 k61) (by decide) (by omega) (by omega) K66n ?_
            have y67 := tv_b K66
            refine e_iload_n dX6_clueLine_82 rfl ?_
            refine z_ifb_ne 90 dX6_clueLine_83 rfl (fun c68 => ?_) (fun c68 => ?_)
            · exfalso; omega
            · skip
              refine z_iconst (1) dX6_clueLine_86 rfl ?_
              refine e_goto 91 dX6_clueLine_87 rfl ?_
              have SZ : rI h58 (y + 21) 3 = Y 0 := H63.1
              refine e_callV [.int _, .int _, .int _] dX6_clueLine_91 tm_6_216 rfl (Nat.le_of_ble_eq_true rfl) (congrArg Prod.fst (rd_s21 k61)) (Nat.le_of_ble_eq_true rfl) (Nat.le_refl _) (Nat.le_refl _) rfl (zp_X1_add (rd_cu21 k61) (Y 0) 1 ⟨by omega, by omega⟩ (tkV T L (tkE T L p)) ⟨by omega, by omega⟩ True ⟨SZ, by omega, by omega⟩ (fun  h69 f70 p71 => ?_))
              have k72 := lk_q (frm_s f70) k61
              have H73 := rdT_c f70 (fun a k q => by omega) H62
              have H74 := rdP_c f70 (fun a k q => by omega) K66p
              have H75 := rdF_c f70 (fun a k q => by omega) K66f
              have FR76 := frm_t FR64 (frm_m (S' := (fun a k => (a = y ∧ (k = 3 ∨ k = 4 ∨ (8 ≤ k ∧ k ≤ 11))) ∨ (y + 17 ≤ a ∧ a < y + 25) ∨ a = y + 26)) f70 (fun a k q => by omega))
              have G1 : rwY h69 (y + 21) (adY 8 Y 1 (tkV T L (tkE T L p)) 1) := rwY_a py.1 H63 f70 p71
              refine e_aload_n dX6_clueLine_94 rfl ?_
              refine e_callV [] dX6_clueLine_95 tm_6_164 rfl (Nat.le_of_ble_eq_true rfl) (congrArg Prod.fst (rd_s0 k72)) (Nat.le_of_ble_eq_true rfl) (Nat.le_refl _) (Nat.le_refl _) rfl (zp_X6_takeStop k72 H73 H74 H75 (fun v77 p78 h79 f80 p81 => ?_))
              have k82 := lk_q (frm_s f80) k72
              have H83 := rdT_c f80 (fun a k q => by omega) H73
              have H84 := rwY_c f80 (fun a k q1 q2 => by omega) G1
              have FR85 := frm_t FR76 (frm_m (S' := (fun a k => (a = y ∧ (k = 3 ∨ k = 4 ∨ (8 ≤ k ∧ k ≤ 11))) ∨ (y + 17 ≤ a ∧ a < y + 25) ∨ a = y + 26)) f80 (fun a k q => by omega))
              skip
              refine z_bret dX6_clueLine_98 rfl (by omega) ⟨rfl, ?_⟩
              rcases p81 with ⟨w, k5, P5, F5⟩ | ⟨w, k5, F5⟩
              · exact kq _ (Or.inr w) _ FR85 (Or.inl ⟨w, ⟨K66, k5⟩, P5, F5, H84⟩)
              · exact kq _ (Or.inl w) _ FR85 (Or.inr ⟨w, fun z => k5 z.2, by rw [xp_y K66]; exact F5⟩)
          · skip
            obtain ⟨k0, f0⟩ := tn_0 p60 (by omega)
            refine z_iconst (0) dX6_clueLine_69 rfl ?_
            refine z_bret dX6_clueLine_70 rfl (Or.inl rfl) ⟨rfl, ?_⟩
            exact kq 0 (Or.inl rfl) _ FR64 (Or.inr ⟨rfl, fun z => k0 z.1, by rw [xp_n k0]; exact f0⟩)
        · exfalso; omega
    · exfalso; omega
set_option maxHeartbeats 4000000 in
theorem zp_X6_clueLine_rough_no {ad : mA} {dd : Nat} {h : mH} {Q : mQ} {y : Nat} {T Y : Int → Int} {L p f q : Int} (hk : rdk h y) (HT : rdT h y T L) (HP : rdP h y T L p) (HF : rdF h y f q) (HG : rwY h (y + 21) Y) (HA : adK ad)  (py : 0 ≤ Y 0 ∧ Y 0 ≤ 8) (pu : tkW T L p = 491496236904) (pn : tkW T L (tkE T L p) = 28271) (kq : ∀ v : Int, (v = 0 ∨ v = 1) → ∀ h1, frm (fun a k => (a = y ∧ (k = 3 ∨ k = 4 ∨ (8 ≤ k ∧ k ≤ 11))) ∨ (y + 17 ≤ a ∧ a < y + 25) ∨ a = y + 26) h h1 → (lnO h1 y T L [(0, 40)] (tkE T L (tkE T L p)) (ntF (8 ≤ Y 0) 3 f) (ntQ (8 ≤ Y 0) (tkS T L p) f q) v (rwY h1 (y + 21) (adY 8 Y 2 (tkV T L (tkE T L (tkE T L p))) 0))) → Q (some (.int (zI v))) h1) : mCal TB0 ad (dd + 8) M_X6_clueLine [.ref y] h 0 0 Q := by
  refine ⟨Nat.le_of_ble_eq_true rfl, ?_⟩
  show mEv TB0 ad M_X6_clueLine (dd + 8) (0, 0) (mCal TB0 ad (dd + 7)) (fun v h' z => z.1 = 0 ∧ Q v h') 0 [some (.ref y), none, none] [] h (0, 0)
  have FR0 : frm (fun a k => (a = y ∧ (k = 3 ∨ k = 4 ∨ (8 ≤ k ∧ k ≤ 11))) ∨ (y + 17 ≤ a ∧ a < y + 25) ∨ a = y + 26) h h := frm_0 h
  have w1 := HT.1
  have tb := tk_b (T := T) HP.1.1 HP.1.2
  have p0 := HP.1
  refine e_aload_n dX6_clueLine_0 rfl ?_
  refine e_callV [] dX6_clueLine_1 tm_6_208 rfl (Nat.le_of_ble_eq_true rfl) (congrArg Prod.fst (rd_s0 hk)) (Nat.le_of_ble_eq_true rfl) (Nat.le_refl _) (Nat.le_refl _) rfl (zp_X6_clueSort_rough hk HT HP HA (by omega) ?_)
  refine e_istore_n (L' := [_, _, _]) dX6_clueLine_4 (Nat.le_of_ble_eq_true rfl) rfl ?_
  refine e_iload_n dX6_clueLine_5 rfl ?_
  refine z_if_lt 14 dX6_clueLine_6 rfl ⟨by omega, by omega⟩ (fun c1 => ?_) (fun c1 => ?_)
  · exfalso; omega
  · skip
    refine e_iload_n dX6_clueLine_9 rfl ?_
    refine z_iconst (4) dX6_clueLine_10 rfl ?_
    refine z_icmp_lt 19 dX6_clueLine_11 rfl ⟨by omega, by omega⟩ ⟨by omega, by omega⟩ (fun c2 => ?_) (fun c2 => ?_)
    · skip
      refine e_aload_n dX6_clueLine_19 rfl ?_
      refine e_aload_n dX6_clueLine_20 rfl ?_
      refine e_get (.ref (y + 21)) dX6_clueLine_21 tf_6_28 (congrArg Prod.fst (rd_s0 hk)) (congrArg va_rf (rd_r0_2 hk)) ?_
      refine z_get (Y 0) dX6_clueLine_24 tf_6_117 (congrArg Prod.fst (rd_s21 hk)) (Or.inl rfl) HG.1 ?_
      refine z_bipush (8) dX6_clueLine_27 rfl ?_
      refine z_icmp_lt 36 dX6_clueLine_29 rfl ⟨by omega, by omega⟩ ⟨by omega, by omega⟩ (fun c3 => ?_) (fun c3 => ?_)
      · skip
        refine z_iconst (0) dX6_clueLine_36 rfl ?_
        refine e_callV [.int _] dX6_clueLine_37 tm_6_146 rfl (Nat.le_of_ble_eq_true rfl) (congrArg Prod.fst (rd_s0 hk)) (Nat.le_of_ble_eq_true rfl) (Nat.le_refl _) (Nat.le_refl _) rfl (zp_X6_beginLine hk HT HP HF False (fun  h4 f5 p6 p7 p8 => ?_))
        have k9 := lk_q (frm_s f5) hk
        have H10 := rdT_c f5 (fun a k q => by omega) HT
        have H11 := rwY_c f5 (fun a k q1 q2 => by omega) HG
        have FR12 := frm_t FR0 (frm_m (S' := (fun a k => (a = y ∧ (k = 3 ∨ k = 4 ∨ (8 ≤ k ∧ k ≤ 11))) ∨ (y + 17 ≤ a ∧ a < y + 25) ∨ a = y + 26)) f5 (fun a k q => by omega))
        have F13 : rdF h4 y (ntF (8 ≤ Y 0) 3 f) (ntQ (8 ≤ Y 0) (tkS T L p) f q) := by rw [(nt_iff (c := 8 ≤ Y 0) (c' := False) (k := 3) (s := tkS T L p) (f := f) (q := q) ⟨fun z => absurd z (by omega), fun z => z.elim⟩).1, (nt_iff (c := 8 ≤ Y 0) (c' := False) (k := 3) (s := tkS T L p) (f := f) (q := q) ⟨fun z => absurd z (by omega), fun z => z.elim⟩).2]; exact p7
        refine e_aload_n dX6_clueLine_40 rfl ?_
        refine e_ldcS dX6_clueLine_41 tl_6_211 ?_
        refine e_callV [.ref _] dX6_clueLine_43 tm_6_123 rfl (Nat.le_of_ble_eq_true rfl) (congrArg Prod.fst (rd_s0 k9)) (Nat.le_of_ble_eq_true rfl) (Nat.le_refl _) (Nat.le_refl _) rfl (zp_X6_isWord_no k9 H10 p6 HA ?_)
        refine e_istore_n (L' := [_, _, _]) dX6_clueLine_46 (Nat.le_of_ble_eq_true rfl) rfl ?_
        refine e_iload_n dX6_clueLine_47 rfl ?_
        refine z_ifb_eq 55 dX6_clueLine_48 rfl (fun c14 => ?_) (fun c14 => ?_)
        · exfalso; omega
        · skip
          refine e_aload_n dX6_clueLine_51 rfl ?_
          have PA52 := p6.2.1
          have tb2 := tk_b (T := T) p6.1.1 p6.1.2
          refine e_callV [] dX6_clueLine_52 tm_6_118 rfl (Nat.le_of_ble_eq_true rfl) (congrArg Prod.fst (rd_s0 k9)) (Nat.le_of_ble_eq_true rfl) (Nat.le_refl _) (Nat.le_refl _) rfl (zp_X6_advance k9 H10 (tkE T L (tkE T L p)) PA52 (by omega) (fun  h15 f16 p17 => ?_))
          have k18 := lk_q (frm_s f16) k9
          have H19 := rdT_c f16 (fun a k q => by omega) H10
          have H20 := rwY_c f16 (fun a k q1 q2 => by omega) H11
          have H21 := rdF_c f16 (fun a k q => by omega) F13
          have FR22 := frm_t FR12 (frm_m (S' := (fun a k => (a = y ∧ (k = 3 ∨ k = 4 ∨ (8 ≤ k ∧ k ≤ 11))) ∨ (y + 17 ≤ a ∧ a < y + 25) ∨ a = y + 26)) f16 (fun a k q => by omega))
          skip
          refine e_aload_n dX6_clueLine_55 rfl ?_
          refine z_iconst (0) dX6_clueLine_56 rfl ?_
          refine z_iconst (0) dX6_clueLine_57 rfl ?_
          refine e_gets dX6_clueLine_58 ts_6_213 ?_
          refine e_iload_n dX6_clueLine_61 rfl ?_
          refine z_oldK 40 dX6_clueLine_62 (Or.inl (by decide)) (HA 4 (by decide)).1 (by decide) (by decide) (by decide) (by rw [(HA 4 (by decide)).2]; decide) ?_
          refine e_callV [.int _, .int _, .int _] dX6_clueLine_63 tm_6_156 rfl (Nat.le_of_ble_eq_true rfl) (congrArg Prod.fst (rd_s0 k18)) (Nat.le_of_ble_eq_true rfl) (Nat.le_refl _) (Nat.le_refl _) rfl (zp_X6_takeNumber k18 H19 p17 H21 0 ⟨by omega, by omega⟩ 0 ⟨by omega, by omega⟩ 40 ⟨by omega, by omega⟩ (by omega) (fun v23 p24 h25 f26 p27 => ?_))
          have k28 := lk_q (frm_s f26) k18
          have H29 := rdT_c f26 (fun a k q => by omega) H19
          have H30 := rwY_c f26 (fun a k q1 q2 => by omega) H20
          have FR31 := frm_t FR22 (frm_m (S' := (fun a k => (a = y ∧ (k = 3 ∨ k = 4 ∨ (8 ≤ k ∧ k ≤ 11))) ∨ (y + 17 ≤ a ∧ a < y + 25) ∨ a = y + 26)) f26 (fun a k q => by omega))
          skip
          refine z_if_ne 71 dX6_clueLine_66 rfl ⟨by omega, by omega⟩ (fun c32 => ?_) (fun c32 => ?_)
          · skip
            obtain ⟨K33, K33p, K33f, K33n⟩ := tn_1 p27 (by omega)
            refine e_aload_n dX6_clueLine_71 rfl ?_
            refine e_get (.ref (y + 21)) dX6_clueLine_72 tf_6_28 (congrArg Prod.fst (rd_s0 k28)) (congrArg va_rf (rd_r0_2 k28)) ?_
            refine e_iload_n dX6_clueLine_75 rfl ?_
            refine e_aload_n dX6_clueLine_76 rfl ?_
            refine e_get (.ref (y + 26)) dX6_clueLine_77 tf_6_43 (congrArg Prod.fst (rd_s0 k28)) (congrArg va_rf (rd_r0_6 k28)) ?_
            refine z_iconst (0) dX6_clueLine_80 rfl ?_
            refine z_ild (tkV T L (tkE T L (tkE T L p))) dX6_clueLine_81 (rd_s26 k28) (by decide) (by omega) (by omega) K33n ?_
            have y34 := tv_b K33
            refine e_iload_n dX6_clueLine_82 rfl ?_
            refine z_ifb_ne 90 dX6_clueLine_83 rfl (fun c35 => ?_) (fun c35 => ?_)
            · skip
              refine z_iconst (0) dX6_clueLine_90 rfl ?_
              have SZ : rI h25 (y + 21) 3 = Y 0 := H30.1
              refine e_callV [.int _, .int _, .int _] dX6_clueLine_91 tm_6_216 rfl (Nat.le_of_ble_eq_true rfl) (congrArg Prod.fst (rd_s21 k28)) (Nat.le_of_ble_eq_true rfl) (Nat.le_refl _) (Nat.le_refl _) rfl (zp_X1_add (rd_cu21 k28) (Y 0) 2 ⟨by omega, by omega⟩ (tkV T L (tkE T L (tkE T L p))) ⟨by omega, by omega⟩ False ⟨SZ, by omega, by omega⟩ (fun  h36 f37 p38 => ?_))
              have k39 := lk_q (frm_s f37) k28
              have H40 := rdT_c f37 (fun a k q => by omega) H29
              have H41 := rdP_c f37 (fun a k q => by omega) K33p
              have H42 := rdF_c f37 (fun a k q => by omega) K33f
              have FR43 := frm_t FR31 (frm_m (S' := (fun a k => (a = y ∧ (k = 3 ∨ k = 4 ∨ (8 ≤ k ∧ k ≤ 11))) ∨ (y + 17 ≤ a ∧ a < y + 25) ∨ a = y + 26)) f37 (fun a k q => by omega))
              have G1 : rwY h36 (y + 21) (adY 8 Y 2 (tkV T L (tkE T L (tkE T L p))) 0) := rwY_a py.1 H30 f37 p38
              refine e_aload_n dX6_clueLine_94 rfl ?_
              refine e_callV [] dX6_clueLine_95 tm_6_164 rfl (Nat.le_of_ble_eq_true rfl) (congrArg Prod.fst (rd_s0 k39)) (Nat.le_of_ble_eq_true rfl) (Nat.le_refl _) (Nat.le_refl _) rfl (zp_X6_takeStop k39 H40 H41 H42 (fun v44 p45 h46 f47 p48 => ?_))
              have k49 := lk_q (frm_s f47) k39
              have H50 := rdT_c f47 (fun a k q => by omega) H40
              have H51 := rwY_c f47 (fun a k q1 q2 => by omega) G1
              have FR52 := frm_t FR43 (frm_m (S' := (fun a k => (a = y ∧ (k = 3 ∨ k = 4 ∨ (8 ≤ k ∧ k ≤ 11))) ∨ (y + 17 ≤ a ∧ a < y + 25) ∨ a = y + 26)) f47 (fun a k q => by omega))
              skip
              refine z_bret dX6_clueLine_98 rfl (by omega) ⟨rfl, ?_⟩
              rcases p48 with ⟨w, k5, P5, F5⟩ | ⟨w, k5, F5⟩
              · exact kq _ (Or.inr w) _ FR52 (Or.inl ⟨w, ⟨K33, k5⟩, P5, F5, H51⟩)
              · exact kq _ (Or.inl w) _ FR52 (Or.inr ⟨w, fun z => k5 z.2, by rw [xp_y K33]; exact F5⟩)
            · exfalso; omega
          · skip
            obtain ⟨k0, f0⟩ := tn_0 p27 (by omega)
            refine z_iconst (0) dX6_clueLine_69 rfl ?_
            refine z_bret dX6_clueLine_70 rfl (Or.inl rfl) ⟨rfl, ?_⟩
            exact kq 0 (Or.inl rfl) _ FR31 (Or.inr ⟨rfl, fun z => k0 z.1, by rw [xp_n k0]; exact f0⟩)
      · skip
        refine z_iconst (1) dX6_clueLine_32 rfl ?_
        refine e_goto 37 dX6_clueLine_33 rfl ?_
        refine e_callV [.int _] dX6_clueLine_37 tm_6_146 rfl (Nat.le_of_ble_eq_true rfl) (congrArg Prod.fst (rd_s0 hk)) (Nat.le_of_ble_eq_true rfl) (Nat.le_refl _) (Nat.le_refl _) rfl (zp_X6_beginLine hk HT HP HF True (fun  h53 f54 p55 p56 p57 => ?_))
        have k58 := lk_q (frm_s f54) hk
        have H59 := rdT_c f54 (fun a k q => by omega) HT
        have H60 := rwY_c f54 (fun a k q1 q2 => by omega) HG
        have FR61 := frm_t FR0 (frm_m (S' := (fun a k => (a = y ∧ (k = 3 ∨ k = 4 ∨ (8 ≤ k ∧ k ≤ 11))) ∨ (y + 17 ≤ a ∧ a < y + 25) ∨ a = y + 26)) f54 (fun a k q => by omega))
        have F62 : rdF h53 y (ntF (8 ≤ Y 0) 3 f) (ntQ (8 ≤ Y 0) (tkS T L p) f q) := by rw [(nt_iff (c := 8 ≤ Y 0) (c' := True) (k := 3) (s := tkS T L p) (f := f) (q := q) ⟨fun _ => trivial, fun _ => by omega⟩).1, (nt_iff (c := 8 ≤ Y 0) (c' := True) (k := 3) (s := tkS T L p) (f := f) (q := q) ⟨fun _ => trivial, fun _ => by omega⟩).2]; exact p56
        refine e_aload_n dX6_clueLine_40 rfl ?_
        refine e_ldcS dX6_clueLine_41 tl_6_211 ?_
        refine e_callV [.ref _] dX6_clueLine_43 tm_6_123 rfl (Nat.le_of_ble_eq_true rfl) (congrArg Prod.fst (rd_s0 k58)) (Nat.le_of_ble_eq_true rfl) (Nat.le_refl _) (Nat.le_refl _) rfl (zp_X6_isWord_no k58 H59 p55 HA ?_)
        refine e_istore_n (L' := [_, _, _]) dX6_clueLine_46 (Nat.le_of_ble_eq_true rfl) rfl ?_
        refine e_iload_n dX6_clueLine_47 rfl ?_
        refine z_ifb_eq 55 dX6_clueLine_48 rfl (fun c63 => ?_) (fun c63 => ?_)
        · exfalso; omega
        · skip
          refine e_aload_n dX6_clueLine_51 rfl ?_
          have PA52 := p55.2.1
          have tb2 := tk_b (T := T) p55.1.1 p55.1.2
          refine e_callV [] dX6_clueLine_52 tm_6_118 rfl (Nat.le_of_ble_eq_true rfl) (congrArg Prod.fst (rd_s0 k58)) (Nat.le_of_ble_eq_true rfl) (Nat.le_refl _) (Nat.le_refl _) rfl (zp_X6_advance k58 H59 (tkE T L (tkE T L p)) PA52 (by omega) (fun  h64 f65 p66 => ?_))
          have k67 := lk_q (frm_s f65) k58
          have H68 := rdT_c f65 (fun a k q => by omega) H59
          have H69 := rwY_c f65 (fun a k q1 q2 => by omega) H60
          have H70 := rdF_c f65 (fun a k q => by omega) F62
          have FR71 := frm_t FR61 (frm_m (S' := (fun a k => (a = y ∧ (k = 3 ∨ k = 4 ∨ (8 ≤ k ∧ k ≤ 11))) ∨ (y + 17 ≤ a ∧ a < y + 25) ∨ a = y + 26)) f65 (fun a k q => by omega))
          skip
          refine e_aload_n dX6_clueLine_55 rfl ?_
          refine z_iconst (0) dX6_clueLine_56 rfl ?_
          refine z_iconst (0) dX6_clueLine_57 rfl ?_
          refine e_gets dX6_clueLine_58 ts_6_213 ?_
          refine e_iload_n dX6_clueLine_61 rfl ?_
          refine z_oldK 40 dX6_clueLine_62 (Or.inl (by decide)) (HA 4 (by decide)).1 (by decide) (by decide) (by decide) (by rw [(HA 4 (by decide)).2]; decide) ?_
          refine e_callV [.int _, .int _, .int _] dX6_clueLine_63 tm_6_156 rfl (Nat.le_of_ble_eq_true rfl) (congrArg Prod.fst (rd_s0 k67)) (Nat.le_of_ble_eq_true rfl) (Nat.le_refl _) (Nat.le_refl _) rfl (zp_X6_takeNumber k67 H68 p66 H70 0 ⟨by omega, by omega⟩ 0 ⟨by omega, by omega⟩ 40 ⟨by omega, by omega⟩ (by omega) (fun v72 p73 h74 f75 p76 => ?_))
          have k77 := lk_q (frm_s f75) k67
          have H78 := rdT_c f75 (fun a k q => by omega) H68
          have H79 := rwY_c f75 (fun a k q1 q2 => by omega) H69
          have FR80 := frm_t FR71 (frm_m (S' := (fun a k => (a = y ∧ (k = 3 ∨ k = 4 ∨ (8 ≤ k ∧ k ≤ 11))) ∨ (y + 17 ≤ a ∧ a < y + 25) ∨ a = y + 26)) f75 (fun a k q => by omega))
          skip
          refine z_if_ne 71 dX6_clueLine_66 rfl ⟨by omega, by omega⟩ (fun c81 => ?_) (fun c81 => ?_)
          · skip
            obtain ⟨K82, K82p, K82f, K82n⟩ := tn_1 p76 (by omega)
            refine e_aload_n dX6_clueLine_71 rfl ?_
            refine e_get (.ref (y + 21)) dX6_clueLine_72 tf_6_28 (congrArg Prod.fst (rd_s0 k77)) (congrArg va_rf (rd_r0_2 k77)) ?_
            refine e_iload_n dX6_clueLine_75 rfl ?_
            refine e_aload_n dX6_clueLine_76 rfl ?_
            refine e_get (.ref (y + 26)) dX6_clueLine_77 tf_6_43 (congrArg Prod.fst (rd_s0 k77)) (congrArg va_rf (rd_r0_6 k77)) ?_
            refine z_iconst (0) dX6_clueLine_80 rfl ?_
            refine z_ild (tkV T L (tkE T L (tkE T L p))) dX6_clueLine_81 (rd_s26 k77) (by decide) (by omega) (by omega) K82n ?_
            have y83 := tv_b K82
            refine e_iload_n dX6_clueLine_82 rfl ?_
            refine z_ifb_ne 90 dX6_clueLine_83 rfl (fun c84 => ?_) (fun c84 => ?_)
            · skip
              refine z_iconst (0) dX6_clueLine_90 rfl ?_
              have SZ : rI h74 (y + 21) 3 = Y 0 := H79.1
              refine e_callV [.int _, .int _, .int _] dX6_clueLine_91 tm_6_216 rfl (Nat.le_of_ble_eq_true rfl) (congrArg Prod.fst (rd_s21 k77)) (Nat.le_of_ble_eq_true rfl) (Nat.le_refl _) (Nat.le_refl _) rfl (zp_X1_add (rd_cu21 k77) (Y 0) 2 ⟨by omega, by omega⟩ (tkV T L (tkE T L (tkE T L p))) ⟨by omega, by omega⟩ False ⟨SZ, by omega, by omega⟩ (fun  h85 f86 p87 => ?_))
              have k88 := lk_q (frm_s f86) k77
              have H89 := rdT_c f86 (fun a k q => by omega) H78
              have H90 := rdP_c f86 (fun a k q => by omega) K82p
              have H91 := rdF_c f86 (fun a k q => by omega) K82f
              have FR92 := frm_t FR80 (frm_m (S' := (fun a k => (a = y ∧ (k = 3 ∨ k = 4 ∨ (8 ≤ k ∧ k ≤ 11))) ∨ (y + 17 ≤ a ∧ a < y + 25) ∨ a = y + 26)) f86 (fun a k q => by omega))
              have G1 : rwY h85 (y + 21) (adY 8 Y 2 (tkV T L (tkE T L (tkE T L p))) 0) := rwY_a py.1 H79 f86 p87
              refine e_aload_n dX6_clueLine_94 rfl ?_
              refine e_callV [] dX6_clueLine_95 tm_6_164 rfl (Nat.le_of_ble_eq_true rfl) (congrArg Prod.fst (rd_s0 k88)) (Nat.le_of_ble_eq_true rfl) (Nat.le_refl _) (Nat.le_refl _) rfl (zp_X6_takeStop k88 H89 H90 H91 (fun v93 p94 h95 f96 p97 => ?_))
              have k98 := lk_q (frm_s f96) k88
              have H99 := rdT_c f96 (fun a k q => by omega) H89
              have H100 := rwY_c f96 (fun a k q1 q2 => by omega) G1
              have FR101 := frm_t FR92 (frm_m (S' := (fun a k => (a = y ∧ (k = 3 ∨ k = 4 ∨ (8 ≤ k ∧ k ≤ 11))) ∨ (y + 17 ≤ a ∧ a < y + 25) ∨ a = y + 26)) f96 (fun a k q => by omega))
              skip
              refine z_bret dX6_clueLine_98 rfl (by omega) ⟨rfl, ?_⟩
              rcases p97 with ⟨w, k5, P5, F5⟩ | ⟨w, k5, F5⟩
              · exact kq _ (Or.inr w) _ FR101 (Or.inl ⟨w, ⟨K82, k5⟩, P5, F5, H100⟩)
              · exact kq _ (Or.inl w) _ FR101 (Or.inr ⟨w, fun z => k5 z.2, by rw [xp_y K82]; exact F5⟩)
            · exfalso; omega
          · skip
            obtain ⟨k0, f0⟩ := tn_0 p76 (by omega)
            refine z_iconst (0) dX6_clueLine_69 rfl ?_
            refine z_bret dX6_clueLine_70 rfl (Or.inl rfl) ⟨rfl, ?_⟩
            exact kq 0 (Or.inl rfl) _ FR80 (Or.inr ⟨rfl, fun z => k0 z.1, by rw [xp_n k0]; exact f0⟩)
    · exfalso; omega
set_option maxHeartbeats 4000000 in
theorem zp_X6_clueLine_rough_so {ad : mA} {dd : Nat} {h : mH} {Q : mQ} {y : Nat} {T Y : Int → Int} {L p f q : Int} (hk : rdk h y) (HT : rdT h y T L) (HP : rdP h y T L p) (HF : rdF h y f q) (HG : rwY h (y + 21) Y) (HA : adK ad)  (py : 0 ≤ Y 0 ∧ Y 0 ≤ 8) (pu : tkW T L p = 491496236904) (pn : tkW T L (tkE T L p) ≠ 28271) (kq : ∀ v : Int, (v = 0 ∨ v = 1) → ∀ h1, frm (fun a k => (a = y ∧ (k = 3 ∨ k = 4 ∨ (8 ≤ k ∧ k ≤ 11))) ∨ (y + 17 ≤ a ∧ a < y + 25) ∨ a = y + 26) h h1 → (lnO h1 y T L [(0, 40)] (tkE T L p) (ntF (8 ≤ Y 0) 3 f) (ntQ (8 ≤ Y 0) (tkS T L p) f q) v (rwY h1 (y + 21) (adY 8 Y 2 (tkV T L (tkE T L p)) 1))) → Q (some (.int (zI v))) h1) : mCal TB0 ad (dd + 8) M_X6_clueLine [.ref y] h 0 0 Q := by
  refine ⟨Nat.le_of_ble_eq_true rfl, ?_⟩
  show mEv TB0 ad M_X6_clueLine (dd + 8) (0, 0) (mCal TB0 ad (dd + 7)) (fun v h' z => z.1 = 0 ∧ Q v h') 0 [some (.ref y), none, none] [] h (0, 0)
  have FR0 : frm (fun a k => (a = y ∧ (k = 3 ∨ k = 4 ∨ (8 ≤ k ∧ k ≤ 11))) ∨ (y + 17 ≤ a ∧ a < y + 25) ∨ a = y + 26) h h := frm_0 h
  have w1 := HT.1
  have tb := tk_b (T := T) HP.1.1 HP.1.2
  have p0 := HP.1
  refine e_aload_n dX6_clueLine_0 rfl ?_
  refine e_callV [] dX6_clueLine_1 tm_6_208 rfl (Nat.le_of_ble_eq_true rfl) (congrArg Prod.fst (rd_s0 hk)) (Nat.le_of_ble_eq_true rfl) (Nat.le_refl _) (Nat.le_refl _) rfl (zp_X6_clueSort_rough hk HT HP HA (by omega) ?_)
  refine e_istore_n (L' := [_, _, _]) dX6_clueLine_4 (Nat.le_of_ble_eq_true rfl) rfl ?_
  refine e_iload_n dX6_clueLine_5 rfl ?_
  refine z_if_lt 14 dX6_clueLine_6 rfl ⟨by omega, by omega⟩ (fun c1 => ?_) (fun c1 => ?_)
  · exfalso; omega
  · skip
    refine e_iload_n dX6_clueLine_9 rfl ?_
    refine z_iconst (4) dX6_clueLine_10 rfl ?_
    refine z_icmp_lt 19 dX6_clueLine_11 rfl ⟨by omega, by omega⟩ ⟨by omega, by omega⟩ (fun c2 => ?_) (fun c2 => ?_)
    · skip
      refine e_aload_n dX6_clueLine_19 rfl ?_
      refine e_aload_n dX6_clueLine_20 rfl ?_
      refine e_get (.ref (y + 21)) dX6_clueLine_21 tf_6_28 (congrArg Prod.fst (rd_s0 hk)) (congrArg va_rf (rd_r0_2 hk)) ?_
      refine z_get (Y 0) dX6_clueLine_24 tf_6_117 (congrArg Prod.fst (rd_s21 hk)) (Or.inl rfl) HG.1 ?_
      refine z_bipush (8) dX6_clueLine_27 rfl ?_
      refine z_icmp_lt 36 dX6_clueLine_29 rfl ⟨by omega, by omega⟩ ⟨by omega, by omega⟩ (fun c3 => ?_) (fun c3 => ?_)
      · skip
        refine z_iconst (0) dX6_clueLine_36 rfl ?_
        refine e_callV [.int _] dX6_clueLine_37 tm_6_146 rfl (Nat.le_of_ble_eq_true rfl) (congrArg Prod.fst (rd_s0 hk)) (Nat.le_of_ble_eq_true rfl) (Nat.le_refl _) (Nat.le_refl _) rfl (zp_X6_beginLine hk HT HP HF False (fun  h4 f5 p6 p7 p8 => ?_))
        have k9 := lk_q (frm_s f5) hk
        have H10 := rdT_c f5 (fun a k q => by omega) HT
        have H11 := rwY_c f5 (fun a k q1 q2 => by omega) HG
        have FR12 := frm_t FR0 (frm_m (S' := (fun a k => (a = y ∧ (k = 3 ∨ k = 4 ∨ (8 ≤ k ∧ k ≤ 11))) ∨ (y + 17 ≤ a ∧ a < y + 25) ∨ a = y + 26)) f5 (fun a k q => by omega))
        have F13 : rdF h4 y (ntF (8 ≤ Y 0) 3 f) (ntQ (8 ≤ Y 0) (tkS T L p) f q) := by rw [(nt_iff (c := 8 ≤ Y 0) (c' := False) (k := 3) (s := tkS T L p) (f := f) (q := q) ⟨fun z => absurd z (by omega), fun z => z.elim⟩).1, (nt_iff (c := 8 ≤ Y 0) (c' := False) (k := 3) (s := tkS T L p) (f := f) (q := q) ⟨fun z => absurd z (by omega), fun z => z.elim⟩).2]; exact p7
        refine e_aload_n dX6_clueLine_40 rfl ?_
        refine e_ldcS dX6_clueLine_41 tl_6_211 ?_
        refine e_callV [.ref _] dX6_clueLine_43 tm_6_123 rfl (Nat.le_of_ble_eq_true rfl) (congrArg Prod.fst (rd_s0 k9)) (Nat.le_of_ble_eq_true rfl) (Nat.le_refl _) (Nat.le_refl _) rfl (zp_X6_isWord_no k9 H10 p6 HA ?_)
        refine e_istore_n (L' := [_, _, _]) dX6_clueLine_46 (Nat.le_of_ble_eq_true rfl) rfl ?_
        refine e_iload_n dX6_clueLine_47 rfl ?_
        refine z_ifb_eq 55 dX6_clueLine_48 rfl (fun c14 => ?_) (fun c14 => ?_)
        · skip
          refine e_aload_n dX6_clueLine_55 rfl ?_
          refine z_iconst (0) dX6_clueLine_56 rfl ?_
          refine z_iconst (0) dX6_clueLine_57 rfl ?_
          refine e_gets dX6_clueLine_58 ts_6_213 ?_
          refine e_iload_n dX6_clueLine_61 rfl ?_
          refine z_oldK 40 dX6_clueLine_62 (Or.inl (by decide)) (HA 4 (by decide)).1 (by decide) (by decide) (by decide) (by rw [(HA 4 (by decide)).2]; decide) ?_
          refine e_callV [.int _, .int _, .int _] dX6_clueLine_63 tm_6_156 rfl (Nat.le_of_ble_eq_true rfl) (congrArg Prod.fst (rd_s0 k9)) (Nat.le_of_ble_eq_true rfl) (Nat.le_refl _) (Nat.le_refl _) rfl (zp_X6_takeNumber k9 H10 p6 F13 0 ⟨by omega, by omega⟩ 0 ⟨by omega, by omega⟩ 40 ⟨by omega, by omega⟩ (by omega) (fun v15 p16 h17 f18 p19 => ?_))
          have k20 := lk_q (frm_s f18) k9
          have H21 := rdT_c f18 (fun a k q => by omega) H10
          have H22 := rwY_c f18 (fun a k q1 q2 => by omega) H11
          have FR23 := frm_t FR12 (frm_m (S' := (fun a k => (a = y ∧ (k = 3 ∨ k = 4 ∨ (8 ≤ k ∧ k ≤ 11))) ∨ (y + 17 ≤ a ∧ a < y + 25) ∨ a = y + 26)) f18 (fun a k q => by omega))
          skip
          refine z_if_ne 71 dX6_clueLine_66 rfl ⟨by omega, by omega⟩ (fun c24 => ?_) (fun c24 => ?_)
          · skip
            obtain ⟨K25, K25p, K25f, K25n⟩ := tn_1 p19 (by omega)
            refine e_aload_n dX6_clueLine_71 rfl ?_
            refine e_get (.ref (y + 21)) dX6_clueLine_72 tf_6_28 (congrArg Prod.fst (rd_s0 k20)) (congrArg va_rf (rd_r0_2 k20)) ?_
            refine e_iload_n dX6_clueLine_75 rfl ?_
            refine e_aload_n dX6_clueLine_76 rfl ?_
            refine e_get (.ref (y + 26)) dX6_clueLine_77 tf_6_43 (congrArg Prod.fst (rd_s0 k20)) (congrArg va_rf (rd_r0_6 k20)) ?_
            refine z_iconst (0) dX6_clueLine_80 rfl ?_
            refine z_ild (tkV T L (tkE T L p)) dX6_clueLine_81 (rd_s26 k20) (by decide) (by omega) (by omega) K25n ?_
            have y26 := tv_b K25
            refine e_iload_n dX6_clueLine_82 rfl ?_
            refine z_ifb_ne 90 dX6_clueLine_83 rfl (fun c27 => ?_) (fun c27 => ?_)
            · exfalso; omega
            · skip
              refine z_iconst (1) dX6_clueLine_86 rfl ?_
              refine e_goto 91 dX6_clueLine_87 rfl ?_
              have SZ : rI h17 (y + 21) 3 = Y 0 := H22.1
              refine e_callV [.int _, .int _, .int _] dX6_clueLine_91 tm_6_216 rfl (Nat.le_of_ble_eq_true rfl) (congrArg Prod.fst (rd_s21 k20)) (Nat.le_of_ble_eq_true rfl) (Nat.le_refl _) (Nat.le_refl _) rfl (zp_X1_add (rd_cu21 k20) (Y 0) 2 ⟨by omega, by omega⟩ (tkV T L (tkE T L p)) ⟨by omega, by omega⟩ True ⟨SZ, by omega, by omega⟩ (fun  h28 f29 p30 => ?_))
              have k31 := lk_q (frm_s f29) k20
              have H32 := rdT_c f29 (fun a k q => by omega) H21
              have H33 := rdP_c f29 (fun a k q => by omega) K25p
              have H34 := rdF_c f29 (fun a k q => by omega) K25f
              have FR35 := frm_t FR23 (frm_m (S' := (fun a k => (a = y ∧ (k = 3 ∨ k = 4 ∨ (8 ≤ k ∧ k ≤ 11))) ∨ (y + 17 ≤ a ∧ a < y + 25) ∨ a = y + 26)) f29 (fun a k q => by omega))
              have G1 : rwY h28 (y + 21) (adY 8 Y 2 (tkV T L (tkE T L p)) 1) := rwY_a py.1 H22 f29 p30
              refine e_aload_n dX6_clueLine_94 rfl ?_
              refine e_callV [] dX6_clueLine_95 tm_6_164 rfl (Nat.le_of_ble_eq_true rfl) (congrArg Prod.fst (rd_s0 k31)) (Nat.le_of_ble_eq_true rfl) (Nat.le_refl _) (Nat.le_refl _) rfl (zp_X6_takeStop k31 H32 H33 H34 (fun v36 p37 h38 f39 p40 => ?_))
              have k41 := lk_q (frm_s f39) k31
              have H42 := rdT_c f39 (fun a k q => by omega) H32
              have H43 := rwY_c f39 (fun a k q1 q2 => by omega) G1
              have FR44 := frm_t FR35 (frm_m (S' := (fun a k => (a = y ∧ (k = 3 ∨ k = 4 ∨ (8 ≤ k ∧ k ≤ 11))) ∨ (y + 17 ≤ a ∧ a < y + 25) ∨ a = y + 26)) f39 (fun a k q => by omega))
              skip
              refine z_bret dX6_clueLine_98 rfl (by omega) ⟨rfl, ?_⟩
              rcases p40 with ⟨w, k5, P5, F5⟩ | ⟨w, k5, F5⟩
              · exact kq _ (Or.inr w) _ FR44 (Or.inl ⟨w, ⟨K25, k5⟩, P5, F5, H43⟩)
              · exact kq _ (Or.inl w) _ FR44 (Or.inr ⟨w, fun z => k5 z.2, by rw [xp_y K25]; exact F5⟩)
          · skip
            obtain ⟨k0, f0⟩ := tn_0 p19 (by omega)
            refine z_iconst (0) dX6_clueLine_69 rfl ?_
            refine z_bret dX6_clueLine_70 rfl (Or.inl rfl) ⟨rfl, ?_⟩
            exact kq 0 (Or.inl rfl) _ FR23 (Or.inr ⟨rfl, fun z => k0 z.1, by rw [xp_n k0]; exact f0⟩)
        · exfalso; omega
      · skip
        refine z_iconst (1) dX6_clueLine_32 rfl ?_
        refine e_goto 37 dX6_clueLine_33 rfl ?_
        refine e_callV [.int _] dX6_clueLine_37 tm_6_146 rfl (Nat.le_of_ble_eq_true rfl) (congrArg Prod.fst (rd_s0 hk)) (Nat.le_of_ble_eq_true rfl) (Nat.le_refl _) (Nat.le_refl _) rfl (zp_X6_beginLine hk HT HP HF True (fun  h45 f46 p47 p48 p49 => ?_))
        have k50 := lk_q (frm_s f46) hk
        have H51 := rdT_c f46 (fun a k q => by omega) HT
        have H52 := rwY_c f46 (fun a k q1 q2 => by omega) HG
        have FR53 := frm_t FR0 (frm_m (S' := (fun a k => (a = y ∧ (k = 3 ∨ k = 4 ∨ (8 ≤ k ∧ k ≤ 11))) ∨ (y + 17 ≤ a ∧ a < y + 25) ∨ a = y + 26)) f46 (fun a k q => by omega))
        have F54 : rdF h45 y (ntF (8 ≤ Y 0) 3 f) (ntQ (8 ≤ Y 0) (tkS T L p) f q) := by rw [(nt_iff (c := 8 ≤ Y 0) (c' := True) (k := 3) (s := tkS T L p) (f := f) (q := q) ⟨fun _ => trivial, fun _ => by omega⟩).1, (nt_iff (c := 8 ≤ Y 0) (c' := True) (k := 3) (s := tkS T L p) (f := f) (q := q) ⟨fun _ => trivial, fun _ => by omega⟩).2]; exact p48
        refine e_aload_n dX6_clueLine_40 rfl ?_
        refine e_ldcS dX6_clueLine_41 tl_6_211 ?_
        refine e_callV [.ref _] dX6_clueLine_43 tm_6_123 rfl (Nat.le_of_ble_eq_true rfl) (congrArg Prod.fst (rd_s0 k50)) (Nat.le_of_ble_eq_true rfl) (Nat.le_refl _) (Nat.le_refl _) rfl (zp_X6_isWord_no k50 H51 p47 HA ?_)
        refine e_istore_n (L' := [_, _, _]) dX6_clueLine_46 (Nat.le_of_ble_eq_true rfl) rfl ?_
        refine e_iload_n dX6_clueLine_47 rfl ?_
        refine z_ifb_eq 55 dX6_clueLine_48 rfl (fun c55 => ?_) (fun c55 => ?_)
        · skip
          refine e_aload_n dX6_clueLine_55 rfl ?_
          refine z_iconst (0) dX6_clueLine_56 rfl ?_
          refine z_iconst (0) dX6_clueLine_57 rfl ?_
          refine e_gets dX6_clueLine_58 ts_6_213 ?_
          refine e_iload_n dX6_clueLine_61 rfl ?_
          refine z_oldK 40 dX6_clueLine_62 (Or.inl (by decide)) (HA 4 (by decide)).1 (by decide) (by decide) (by decide) (by rw [(HA 4 (by decide)).2]; decide) ?_
          refine e_callV [.int _, .int _, .int _] dX6_clueLine_63 tm_6_156 rfl (Nat.le_of_ble_eq_true rfl) (congrArg Prod.fst (rd_s0 k50)) (Nat.le_of_ble_eq_true rfl) (Nat.le_refl _) (Nat.le_refl _) rfl (zp_X6_takeNumber k50 H51 p47 F54 0 ⟨by omega, by omega⟩ 0 ⟨by omega, by omega⟩ 40 ⟨by omega, by omega⟩ (by omega) (fun v56 p57 h58 f59 p60 => ?_))
          have k61 := lk_q (frm_s f59) k50
          have H62 := rdT_c f59 (fun a k q => by omega) H51
          have H63 := rwY_c f59 (fun a k q1 q2 => by omega) H52
          have FR64 := frm_t FR53 (frm_m (S' := (fun a k => (a = y ∧ (k = 3 ∨ k = 4 ∨ (8 ≤ k ∧ k ≤ 11))) ∨ (y + 17 ≤ a ∧ a < y + 25) ∨ a = y + 26)) f59 (fun a k q => by omega))
          skip
          refine z_if_ne 71 dX6_clueLine_66 rfl ⟨by omega, by omega⟩ (fun c65 => ?_) (fun c65 => ?_)
          · skip
            obtain ⟨K66, K66p, K66f, K66n⟩ := tn_1 p60 (by omega)
            refine e_aload_n dX6_clueLine_71 rfl ?_
            refine e_get (.ref (y + 21)) dX6_clueLine_72 tf_6_28 (congrArg Prod.fst (rd_s0 k61)) (congrArg va_rf (rd_r0_2 k61)) ?_
            refine e_iload_n dX6_clueLine_75 rfl ?_
            refine e_aload_n dX6_clueLine_76 rfl ?_
            refine e_get (.ref (y + 26)) dX6_clueLine_77 tf_6_43 (congrArg Prod.fst (rd_s0 k61)) (congrArg va_rf (rd_r0_6 k61)) ?_
            refine z_iconst (0) dX6_clueLine_80 rfl ?_
            refine z_ild (tkV T L (tkE T L p)) dX6_clueLine_81 (rd_s26 k61) (by decide) (by omega) (by omega) K66n ?_
            have y67 := tv_b K66
            refine e_iload_n dX6_clueLine_82 rfl ?_
            refine z_ifb_ne 90 dX6_clueLine_83 rfl (fun c68 => ?_) (fun c68 => ?_)
            · exfalso; omega
            · skip
              refine z_iconst (1) dX6_clueLine_86 rfl ?_
              refine e_goto 91 dX6_clueLine_87 rfl ?_
              have SZ : rI h58 (y + 21) 3 = Y 0 := H63.1
              refine e_callV [.int _, .int _, .int _] dX6_clueLine_91 tm_6_216 rfl (Nat.le_of_ble_eq_true rfl) (congrArg Prod.fst (rd_s21 k61)) (Nat.le_of_ble_eq_true rfl) (Nat.le_refl _) (Nat.le_refl _) rfl (zp_X1_add (rd_cu21 k61) (Y 0) 2 ⟨by omega, by omega⟩ (tkV T L (tkE T L p)) ⟨by omega, by omega⟩ True ⟨SZ, by omega, by omega⟩ (fun  h69 f70 p71 => ?_))
              have k72 := lk_q (frm_s f70) k61
              have H73 := rdT_c f70 (fun a k q => by omega) H62
              have H74 := rdP_c f70 (fun a k q => by omega) K66p
              have H75 := rdF_c f70 (fun a k q => by omega) K66f
              have FR76 := frm_t FR64 (frm_m (S' := (fun a k => (a = y ∧ (k = 3 ∨ k = 4 ∨ (8 ≤ k ∧ k ≤ 11))) ∨ (y + 17 ≤ a ∧ a < y + 25) ∨ a = y + 26)) f70 (fun a k q => by omega))
              have G1 : rwY h69 (y + 21) (adY 8 Y 2 (tkV T L (tkE T L p)) 1) := rwY_a py.1 H63 f70 p71
              refine e_aload_n dX6_clueLine_94 rfl ?_
              refine e_callV [] dX6_clueLine_95 tm_6_164 rfl (Nat.le_of_ble_eq_true rfl) (congrArg Prod.fst (rd_s0 k72)) (Nat.le_of_ble_eq_true rfl) (Nat.le_refl _) (Nat.le_refl _) rfl (zp_X6_takeStop k72 H73 H74 H75 (fun v77 p78 h79 f80 p81 => ?_))
              have k82 := lk_q (frm_s f80) k72
              have H83 := rdT_c f80 (fun a k q => by omega) H73
              have H84 := rwY_c f80 (fun a k q1 q2 => by omega) G1
              have FR85 := frm_t FR76 (frm_m (S' := (fun a k => (a = y ∧ (k = 3 ∨ k = 4 ∨ (8 ≤ k ∧ k ≤ 11))) ∨ (y + 17 ≤ a ∧ a < y + 25) ∨ a = y + 26)) f80 (fun a k q => by omega))
              skip
              refine z_bret dX6_clueLine_98 rfl (by omega) ⟨rfl, ?_⟩
              rcases p81 with ⟨w, k5, P5, F5⟩ | ⟨w, k5, F5⟩
              · exact kq _ (Or.inr w) _ FR85 (Or.inl ⟨w, ⟨K66, k5⟩, P5, F5, H84⟩)
              · exact kq _ (Or.inl w) _ FR85 (Or.inr ⟨w, fun z => k5 z.2, by rw [xp_y K66]; exact F5⟩)
          · skip
            obtain ⟨k0, f0⟩ := tn_0 p60 (by omega)
            refine z_iconst (0) dX6_clueLine_69 rfl ?_
            refine z_bret dX6_clueLine_70 rfl (Or.inl rfl) ⟨rfl, ?_⟩
            exact kq 0 (Or.inl rfl) _ FR64 (Or.inr ⟨rfl, fun z => k0 z.1, by rw [xp_n k0]; exact f0⟩)
        · exfalso; omega
    · exfalso; omega
set_option maxHeartbeats 4000000 in
theorem zp_X6_clueLine_left_no {ad : mA} {dd : Nat} {h : mH} {Q : mQ} {y : Nat} {T Y : Int → Int} {L p f q : Int} (hk : rdk h y) (HT : rdT h y T L) (HP : rdP h y T L p) (HF : rdF h y f q) (HG : rwY h (y + 21) Y) (HA : adK ad)  (py : 0 ≤ Y 0 ∧ Y 0 ≤ 8) (pu : tkW T L p = 1818584692) (pn : tkW T L (tkE T L p) = 28271) (kq : ∀ v : Int, (v = 0 ∨ v = 1) → ∀ h1, frm (fun a k => (a = y ∧ (k = 3 ∨ k = 4 ∨ (8 ≤ k ∧ k ≤ 11))) ∨ (y + 17 ≤ a ∧ a < y + 25) ∨ a = y + 26) h h1 → (lnO h1 y T L [(0, 2)] (tkE T L (tkE T L p)) (ntF (8 ≤ Y 0) 3 f) (ntQ (8 ≤ Y 0) (tkS T L p) f q) v (rwY h1 (y + 21) (adY 8 Y 3 (tkV T L (tkE T L (tkE T L p))) 0))) → Q (some (.int (zI v))) h1) : mCal TB0 ad (dd + 8) M_X6_clueLine [.ref y] h 0 0 Q := by
  refine ⟨Nat.le_of_ble_eq_true rfl, ?_⟩
  show mEv TB0 ad M_X6_clueLine (dd + 8) (0, 0) (mCal TB0 ad (dd + 7)) (fun v h' z => z.1 = 0 ∧ Q v h') 0 [some (.ref y), none, none] [] h (0, 0)
  have FR0 : frm (fun a k => (a = y ∧ (k = 3 ∨ k = 4 ∨ (8 ≤ k ∧ k ≤ 11))) ∨ (y + 17 ≤ a ∧ a < y + 25) ∨ a = y + 26) h h := frm_0 h
  have w1 := HT.1
  have tb := tk_b (T := T) HP.1.1 HP.1.2
  have p0 := HP.1
  refine e_aload_n dX6_clueLine_0 rfl ?_
  refine e_callV [] dX6_clueLine_1 tm_6_208 rfl (Nat.le_of_ble_eq_true rfl) (congrArg Prod.fst (rd_s0 hk)) (Nat.le_of_ble_eq_true rfl) (Nat.le_refl _) (Nat.le_refl _) rfl (zp_X6_clueSort_left hk HT HP HA (by omega) ?_)
  refine e_istore_n (L' := [_, _, _]) dX6_clueLine_4 (Nat.le_of_ble_eq_true rfl) rfl ?_
  refine e_iload_n dX6_clueLine_5 rfl ?_
  refine z_if_lt 14 dX6_clueLine_6 rfl ⟨by omega, by omega⟩ (fun c1 => ?_) (fun c1 => ?_)
  · exfalso; omega
  · skip
    refine e_iload_n dX6_clueLine_9 rfl ?_
    refine z_iconst (4) dX6_clueLine_10 rfl ?_
    refine z_icmp_lt 19 dX6_clueLine_11 rfl ⟨by omega, by omega⟩ ⟨by omega, by omega⟩ (fun c2 => ?_) (fun c2 => ?_)
    · skip
      refine e_aload_n dX6_clueLine_19 rfl ?_
      refine e_aload_n dX6_clueLine_20 rfl ?_
      refine e_get (.ref (y + 21)) dX6_clueLine_21 tf_6_28 (congrArg Prod.fst (rd_s0 hk)) (congrArg va_rf (rd_r0_2 hk)) ?_
      refine z_get (Y 0) dX6_clueLine_24 tf_6_117 (congrArg Prod.fst (rd_s21 hk)) (Or.inl rfl) HG.1 ?_
      refine z_bipush (8) dX6_clueLine_27 rfl ?_
      refine z_icmp_lt 36 dX6_clueLine_29 rfl ⟨by omega, by omega⟩ ⟨by omega, by omega⟩ (fun c3 => ?_) (fun c3 => ?_)
      · skip
        refine z_iconst (0) dX6_clueLine_36 rfl ?_
        refine e_callV [.int _] dX6_clueLine_37 tm_6_146 rfl (Nat.le_of_ble_eq_true rfl) (congrArg Prod.fst (rd_s0 hk)) (Nat.le_of_ble_eq_true rfl) (Nat.le_refl _) (Nat.le_refl _) rfl (zp_X6_beginLine hk HT HP HF False (fun  h4 f5 p6 p7 p8 => ?_))
        have k9 := lk_q (frm_s f5) hk
        have H10 := rdT_c f5 (fun a k q => by omega) HT
        have H11 := rwY_c f5 (fun a k q1 q2 => by omega) HG
        have FR12 := frm_t FR0 (frm_m (S' := (fun a k => (a = y ∧ (k = 3 ∨ k = 4 ∨ (8 ≤ k ∧ k ≤ 11))) ∨ (y + 17 ≤ a ∧ a < y + 25) ∨ a = y + 26)) f5 (fun a k q => by omega))
        have F13 : rdF h4 y (ntF (8 ≤ Y 0) 3 f) (ntQ (8 ≤ Y 0) (tkS T L p) f q) := by rw [(nt_iff (c := 8 ≤ Y 0) (c' := False) (k := 3) (s := tkS T L p) (f := f) (q := q) ⟨fun z => absurd z (by omega), fun z => z.elim⟩).1, (nt_iff (c := 8 ≤ Y 0) (c' := False) (k := 3) (s := tkS T L p) (f := f) (q := q) ⟨fun z => absurd z (by omega), fun z => z.elim⟩).2]; exact p7
        refine e_aload_n dX6_clueLine_40 rfl ?_
        refine e_ldcS dX6_clueLine_41 tl_6_211 ?_
        refine e_callV [.ref _] dX6_clueLine_43 tm_6_123 rfl (Nat.le_of_ble_eq_true rfl) (congrArg Prod.fst (rd_s0 k9)) (Nat.le_of_ble_eq_true rfl) (Nat.le_refl _) (Nat.le_refl _) rfl (zp_X6_isWord_no k9 H10 p6 HA ?_)
        refine e_istore_n (L' := [_, _, _]) dX6_clueLine_46 (Nat.le_of_ble_eq_true rfl) rfl ?_
        refine e_iload_n dX6_clueLine_47 rfl ?_
        refine z_ifb_eq 55 dX6_clueLine_48 rfl (fun c14 => ?_) (fun c14 => ?_)
        · exfalso; omega
        · skip
          refine e_aload_n dX6_clueLine_51 rfl ?_
          have PA52 := p6.2.1
          have tb2 := tk_b (T := T) p6.1.1 p6.1.2
          refine e_callV [] dX6_clueLine_52 tm_6_118 rfl (Nat.le_of_ble_eq_true rfl) (congrArg Prod.fst (rd_s0 k9)) (Nat.le_of_ble_eq_true rfl) (Nat.le_refl _) (Nat.le_refl _) rfl (zp_X6_advance k9 H10 (tkE T L (tkE T L p)) PA52 (by omega) (fun  h15 f16 p17 => ?_))
          have k18 := lk_q (frm_s f16) k9
          have H19 := rdT_c f16 (fun a k q => by omega) H10
          have H20 := rwY_c f16 (fun a k q1 q2 => by omega) H11
          have H21 := rdF_c f16 (fun a k q => by omega) F13
          have FR22 := frm_t FR12 (frm_m (S' := (fun a k => (a = y ∧ (k = 3 ∨ k = 4 ∨ (8 ≤ k ∧ k ≤ 11))) ∨ (y + 17 ≤ a ∧ a < y + 25) ∨ a = y + 26)) f16 (fun a k q => by omega))
          skip
          refine e_aload_n dX6_clueLine_55 rfl ?_
          refine z_iconst (0) dX6_clueLine_56 rfl ?_
          refine z_iconst (0) dX6_clueLine_57 rfl ?_
          refine e_gets dX6_clueLine_58 ts_6_213 ?_
          refine e_iload_n dX6_clueLine_61 rfl ?_
          refine z_oldK 2 dX6_clueLine_62 (Or.inl (by decide)) (HA 4 (by decide)).1 (by decide) (by decide) (by decide) (by rw [(HA 4 (by decide)).2]; decide) ?_
          refine e_callV [.int _, .int _, .int _] dX6_clueLine_63 tm_6_156 rfl (Nat.le_of_ble_eq_true rfl) (congrArg Prod.fst (rd_s0 k18)) (Nat.le_of_ble_eq_true rfl) (Nat.le_refl _) (Nat.le_refl _) rfl (zp_X6_takeNumber k18 H19 p17 H21 0 ⟨by omega, by omega⟩ 0 ⟨by omega, by omega⟩ 2 ⟨by omega, by omega⟩ (by omega) (fun v23 p24 h25 f26 p27 => ?_))
          have k28 := lk_q (frm_s f26) k18
          have H29 := rdT_c f26 (fun a k q => by omega) H19
          have H30 := rwY_c f26 (fun a k q1 q2 => by omega) H20
          have FR31 := frm_t FR22 (frm_m (S' := (fun a k => (a = y ∧ (k = 3 ∨ k = 4 ∨ (8 ≤ k ∧ k ≤ 11))) ∨ (y + 17 ≤ a ∧ a < y + 25) ∨ a = y + 26)) f26 (fun a k q => by omega))
          skip
          refine z_if_ne 71 dX6_clueLine_66 rfl ⟨by omega, by omega⟩ (fun c32 => ?_) (fun c32 => ?_)
          · skip
            obtain ⟨K33, K33p, K33f, K33n⟩ := tn_1 p27 (by omega)
            refine e_aload_n dX6_clueLine_71 rfl ?_
            refine e_get (.ref (y + 21)) dX6_clueLine_72 tf_6_28 (congrArg Prod.fst (rd_s0 k28)) (congrArg va_rf (rd_r0_2 k28)) ?_
            refine e_iload_n dX6_clueLine_75 rfl ?_
            refine e_aload_n dX6_clueLine_76 rfl ?_
            refine e_get (.ref (y + 26)) dX6_clueLine_77 tf_6_43 (congrArg Prod.fst (rd_s0 k28)) (congrArg va_rf (rd_r0_6 k28)) ?_
            refine z_iconst (0) dX6_clueLine_80 rfl ?_
            refine z_ild (tkV T L (tkE T L (tkE T L p))) dX6_clueLine_81 (rd_s26 k28) (by decide) (by omega) (by omega) K33n ?_
            have y34 := tv_b K33
            refine e_iload_n dX6_clueLine_82 rfl ?_
            refine z_ifb_ne 90 dX6_clueLine_83 rfl (fun c35 => ?_) (fun c35 => ?_)
            · skip
              refine z_iconst (0) dX6_clueLine_90 rfl ?_
              have SZ : rI h25 (y + 21) 3 = Y 0 := H30.1
              refine e_callV [.int _, .int _, .int _] dX6_clueLine_91 tm_6_216 rfl (Nat.le_of_ble_eq_true rfl) (congrArg Prod.fst (rd_s21 k28)) (Nat.le_of_ble_eq_true rfl) (Nat.le_refl _) (Nat.le_refl _) rfl (zp_X1_add (rd_cu21 k28) (Y 0) 3 ⟨by omega, by omega⟩ (tkV T L (tkE T L (tkE T L p))) ⟨by omega, by omega⟩ False ⟨SZ, by omega, by omega⟩ (fun  h36 f37 p38 => ?_))
              have k39 := lk_q (frm_s f37) k28
              have H40 := rdT_c f37 (fun a k q => by omega) H29
              have H41 := rdP_c f37 (fun a k q => by omega) K33p
              have H42 := rdF_c f37 (fun a k q => by omega) K33f
              have FR43 := frm_t FR31 (frm_m (S' := (fun a k => (a = y ∧ (k = 3 ∨ k = 4 ∨ (8 ≤ k ∧ k ≤ 11))) ∨ (y + 17 ≤ a ∧ a < y + 25) ∨ a = y + 26)) f37 (fun a k q => by omega))
              have G1 : rwY h36 (y + 21) (adY 8 Y 3 (tkV T L (tkE T L (tkE T L p))) 0) := rwY_a py.1 H30 f37 p38
              refine e_aload_n dX6_clueLine_94 rfl ?_
              refine e_callV [] dX6_clueLine_95 tm_6_164 rfl (Nat.le_of_ble_eq_true rfl) (congrArg Prod.fst (rd_s0 k39)) (Nat.le_of_ble_eq_true rfl) (Nat.le_refl _) (Nat.le_refl _) rfl (zp_X6_takeStop k39 H40 H41 H42 (fun v44 p45 h46 f47 p48 => ?_))
              have k49 := lk_q (frm_s f47) k39
              have H50 := rdT_c f47 (fun a k q => by omega) H40
              have H51 := rwY_c f47 (fun a k q1 q2 => by omega) G1
              have FR52 := frm_t FR43 (frm_m (S' := (fun a k => (a = y ∧ (k = 3 ∨ k = 4 ∨ (8 ≤ k ∧ k ≤ 11))) ∨ (y + 17 ≤ a ∧ a < y + 25) ∨ a = y + 26)) f47 (fun a k q => by omega))
              skip
              refine z_bret dX6_clueLine_98 rfl (by omega) ⟨rfl, ?_⟩
              rcases p48 with ⟨w, k5, P5, F5⟩ | ⟨w, k5, F5⟩
              · exact kq _ (Or.inr w) _ FR52 (Or.inl ⟨w, ⟨K33, k5⟩, P5, F5, H51⟩)
              · exact kq _ (Or.inl w) _ FR52 (Or.inr ⟨w, fun z => k5 z.2, by rw [xp_y K33]; exact F5⟩)
            · exfalso; omega
          · skip
            obtain ⟨k0, f0⟩ := tn_0 p27 (by omega)
            refine z_iconst (0) dX6_clueLine_69 rfl ?_
            refine z_bret dX6_clueLine_70 rfl (Or.inl rfl) ⟨rfl, ?_⟩
            exact kq 0 (Or.inl rfl) _ FR31 (Or.inr ⟨rfl, fun z => k0 z.1, by rw [xp_n k0]; exact f0⟩)
      · skip
        refine z_iconst (1) dX6_clueLine_32 rfl ?_
        refine e_goto 37 dX6_clueLine_33 rfl ?_
        refine e_callV [.int _] dX6_clueLine_37 tm_6_146 rfl (Nat.le_of_ble_eq_true rfl) (congrArg Prod.fst (rd_s0 hk)) (Nat.le_of_ble_eq_true rfl) (Nat.le_refl _) (Nat.le_refl _) rfl (zp_X6_beginLine hk HT HP HF True (fun  h53 f54 p55 p56 p57 => ?_))
        have k58 := lk_q (frm_s f54) hk
        have H59 := rdT_c f54 (fun a k q => by omega) HT
        have H60 := rwY_c f54 (fun a k q1 q2 => by omega) HG
        have FR61 := frm_t FR0 (frm_m (S' := (fun a k => (a = y ∧ (k = 3 ∨ k = 4 ∨ (8 ≤ k ∧ k ≤ 11))) ∨ (y + 17 ≤ a ∧ a < y + 25) ∨ a = y + 26)) f54 (fun a k q => by omega))
        have F62 : rdF h53 y (ntF (8 ≤ Y 0) 3 f) (ntQ (8 ≤ Y 0) (tkS T L p) f q) := by rw [(nt_iff (c := 8 ≤ Y 0) (c' := True) (k := 3) (s := tkS T L p) (f := f) (q := q) ⟨fun _ => trivial, fun _ => by omega⟩).1, (nt_iff (c := 8 ≤ Y 0) (c' := True) (k := 3) (s := tkS T L p) (f := f) (q := q) ⟨fun _ => trivial, fun _ => by omega⟩).2]; exact p56
        refine e_aload_n dX6_clueLine_40 rfl ?_
        refine e_ldcS dX6_clueLine_41 tl_6_211 ?_
        refine e_callV [.ref _] dX6_clueLine_43 tm_6_123 rfl (Nat.le_of_ble_eq_true rfl) (congrArg Prod.fst (rd_s0 k58)) (Nat.le_of_ble_eq_true rfl) (Nat.le_refl _) (Nat.le_refl _) rfl (zp_X6_isWord_no k58 H59 p55 HA ?_)
        refine e_istore_n (L' := [_, _, _]) dX6_clueLine_46 (Nat.le_of_ble_eq_true rfl) rfl ?_
        refine e_iload_n dX6_clueLine_47 rfl ?_
        refine z_ifb_eq 55 dX6_clueLine_48 rfl (fun c63 => ?_) (fun c63 => ?_)
        · exfalso; omega
        · skip
          refine e_aload_n dX6_clueLine_51 rfl ?_
          have PA52 := p55.2.1
          have tb2 := tk_b (T := T) p55.1.1 p55.1.2
          refine e_callV [] dX6_clueLine_52 tm_6_118 rfl (Nat.le_of_ble_eq_true rfl) (congrArg Prod.fst (rd_s0 k58)) (Nat.le_of_ble_eq_true rfl) (Nat.le_refl _) (Nat.le_refl _) rfl (zp_X6_advance k58 H59 (tkE T L (tkE T L p)) PA52 (by omega) (fun  h64 f65 p66 => ?_))
          have k67 := lk_q (frm_s f65) k58
          have H68 := rdT_c f65 (fun a k q => by omega) H59
          have H69 := rwY_c f65 (fun a k q1 q2 => by omega) H60
          have H70 := rdF_c f65 (fun a k q => by omega) F62
          have FR71 := frm_t FR61 (frm_m (S' := (fun a k => (a = y ∧ (k = 3 ∨ k = 4 ∨ (8 ≤ k ∧ k ≤ 11))) ∨ (y + 17 ≤ a ∧ a < y + 25) ∨ a = y + 26)) f65 (fun a k q => by omega))
          skip
          refine e_aload_n dX6_clueLine_55 rfl ?_
          refine z_iconst (0) dX6_clueLine_56 rfl ?_
          refine z_iconst (0) dX6_clueLine_57 rfl ?_
          refine e_gets dX6_clueLine_58 ts_6_213 ?_
          refine e_iload_n dX6_clueLine_61 rfl ?_
          refine z_oldK 2 dX6_clueLine_62 (Or.inl (by decide)) (HA 4 (by decide)).1 (by decide) (by decide) (by decide) (by rw [(HA 4 (by decide)).2]; decide) ?_
          refine e_callV [.int _, .int _, .int _] dX6_clueLine_63 tm_6_156 rfl (Nat.le_of_ble_eq_true rfl) (congrArg Prod.fst (rd_s0 k67)) (Nat.le_of_ble_eq_true rfl) (Nat.le_refl _) (Nat.le_refl _) rfl (zp_X6_takeNumber k67 H68 p66 H70 0 ⟨by omega, by omega⟩ 0 ⟨by omega, by omega⟩ 2 ⟨by omega, by omega⟩ (by omega) (fun v72 p73 h74 f75 p76 => ?_))
          have k77 := lk_q (frm_s f75) k67
          have H78 := rdT_c f75 (fun a k q => by omega) H68
          have H79 := rwY_c f75 (fun a k q1 q2 => by omega) H69
          have FR80 := frm_t FR71 (frm_m (S' := (fun a k => (a = y ∧ (k = 3 ∨ k = 4 ∨ (8 ≤ k ∧ k ≤ 11))) ∨ (y + 17 ≤ a ∧ a < y + 25) ∨ a = y + 26)) f75 (fun a k q => by omega))
          skip
          refine z_if_ne 71 dX6_clueLine_66 rfl ⟨by omega, by omega⟩ (fun c81 => ?_) (fun c81 => ?_)
          · skip
            obtain ⟨K82, K82p, K82f, K82n⟩ := tn_1 p76 (by omega)
            refine e_aload_n dX6_clueLine_71 rfl ?_
            refine e_get (.ref (y + 21)) dX6_clueLine_72 tf_6_28 (congrArg Prod.fst (rd_s0 k77)) (congrArg va_rf (rd_r0_2 k77)) ?_
            refine e_iload_n dX6_clueLine_75 rfl ?_
            refine e_aload_n dX6_clueLine_76 rfl ?_
            refine e_get (.ref (y + 26)) dX6_clueLine_77 tf_6_43 (congrArg Prod.fst (rd_s0 k77)) (congrArg va_rf (rd_r0_6 k77)) ?_
            refine z_iconst (0) dX6_clueLine_80 rfl ?_
            refine z_ild (tkV T L (tkE T L (tkE T L p))) dX6_clueLine_81 (rd_s26 k77) (by decide) (by omega) (by omega) K82n ?_
            have y83 := tv_b K82
            refine e_iload_n dX6_clueLine_82 rfl ?_
            refine z_ifb_ne 90 dX6_clueLine_83 rfl (fun c84 => ?_) (fun c84 => ?_)
            · skip
              refine z_iconst (0) dX6_clueLine_90 rfl ?_
              have SZ : rI h74 (y + 21) 3 = Y 0 := H79.1
              refine e_callV [.int _, .int _, .int _] dX6_clueLine_91 tm_6_216 rfl (Nat.le_of_ble_eq_true rfl) (congrArg Prod.fst (rd_s21 k77)) (Nat.le_of_ble_eq_true rfl) (Nat.le_refl _) (Nat.le_refl _) rfl (zp_X1_add (rd_cu21 k77) (Y 0) 3 ⟨by omega, by omega⟩ (tkV T L (tkE T L (tkE T L p))) ⟨by omega, by omega⟩ False ⟨SZ, by omega, by omega⟩ (fun  h85 f86 p87 => ?_))
              have k88 := lk_q (frm_s f86) k77
              have H89 := rdT_c f86 (fun a k q => by omega) H78
              have H90 := rdP_c f86 (fun a k q => by omega) K82p
              have H91 := rdF_c f86 (fun a k q => by omega) K82f
              have FR92 := frm_t FR80 (frm_m (S' := (fun a k => (a = y ∧ (k = 3 ∨ k = 4 ∨ (8 ≤ k ∧ k ≤ 11))) ∨ (y + 17 ≤ a ∧ a < y + 25) ∨ a = y + 26)) f86 (fun a k q => by omega))
              have G1 : rwY h85 (y + 21) (adY 8 Y 3 (tkV T L (tkE T L (tkE T L p))) 0) := rwY_a py.1 H79 f86 p87
              refine e_aload_n dX6_clueLine_94 rfl ?_
              refine e_callV [] dX6_clueLine_95 tm_6_164 rfl (Nat.le_of_ble_eq_true rfl) (congrArg Prod.fst (rd_s0 k88)) (Nat.le_of_ble_eq_true rfl) (Nat.le_refl _) (Nat.le_refl _) rfl (zp_X6_takeStop k88 H89 H90 H91 (fun v93 p94 h95 f96 p97 => ?_))
              have k98 := lk_q (frm_s f96) k88
              have H99 := rdT_c f96 (fun a k q => by omega) H89
              have H100 := rwY_c f96 (fun a k q1 q2 => by omega) G1
              have FR101 := frm_t FR92 (frm_m (S' := (fun a k => (a = y ∧ (k = 3 ∨ k = 4 ∨ (8 ≤ k ∧ k ≤ 11))) ∨ (y + 17 ≤ a ∧ a < y + 25) ∨ a = y + 26)) f96 (fun a k q => by omega))
              skip
              refine z_bret dX6_clueLine_98 rfl (by omega) ⟨rfl, ?_⟩
              rcases p97 with ⟨w, k5, P5, F5⟩ | ⟨w, k5, F5⟩
              · exact kq _ (Or.inr w) _ FR101 (Or.inl ⟨w, ⟨K82, k5⟩, P5, F5, H100⟩)
              · exact kq _ (Or.inl w) _ FR101 (Or.inr ⟨w, fun z => k5 z.2, by rw [xp_y K82]; exact F5⟩)
            · exfalso; omega
          · skip
            obtain ⟨k0, f0⟩ := tn_0 p76 (by omega)
            refine z_iconst (0) dX6_clueLine_69 rfl ?_
            refine z_bret dX6_clueLine_70 rfl (Or.inl rfl) ⟨rfl, ?_⟩
            exact kq 0 (Or.inl rfl) _ FR80 (Or.inr ⟨rfl, fun z => k0 z.1, by rw [xp_n k0]; exact f0⟩)
    · exfalso; omega
set_option maxHeartbeats 4000000 in
theorem zp_X6_clueLine_left_so {ad : mA} {dd : Nat} {h : mH} {Q : mQ} {y : Nat} {T Y : Int → Int} {L p f q : Int} (hk : rdk h y) (HT : rdT h y T L) (HP : rdP h y T L p) (HF : rdF h y f q) (HG : rwY h (y + 21) Y) (HA : adK ad)  (py : 0 ≤ Y 0 ∧ Y 0 ≤ 8) (pu : tkW T L p = 1818584692) (pn : tkW T L (tkE T L p) ≠ 28271) (kq : ∀ v : Int, (v = 0 ∨ v = 1) → ∀ h1, frm (fun a k => (a = y ∧ (k = 3 ∨ k = 4 ∨ (8 ≤ k ∧ k ≤ 11))) ∨ (y + 17 ≤ a ∧ a < y + 25) ∨ a = y + 26) h h1 → (lnO h1 y T L [(0, 2)] (tkE T L p) (ntF (8 ≤ Y 0) 3 f) (ntQ (8 ≤ Y 0) (tkS T L p) f q) v (rwY h1 (y + 21) (adY 8 Y 3 (tkV T L (tkE T L p)) 1))) → Q (some (.int (zI v))) h1) : mCal TB0 ad (dd + 8) M_X6_clueLine [.ref y] h 0 0 Q := by
  refine ⟨Nat.le_of_ble_eq_true rfl, ?_⟩
  show mEv TB0 ad M_X6_clueLine (dd + 8) (0, 0) (mCal TB0 ad (dd + 7)) (fun v h' z => z.1 = 0 ∧ Q v h') 0 [some (.ref y), none, none] [] h (0, 0)
  have FR0 : frm (fun a k => (a = y ∧ (k = 3 ∨ k = 4 ∨ (8 ≤ k ∧ k ≤ 11))) ∨ (y + 17 ≤ a ∧ a < y + 25) ∨ a = y + 26) h h := frm_0 h
  have w1 := HT.1
  have tb := tk_b (T := T) HP.1.1 HP.1.2
  have p0 := HP.1
  refine e_aload_n dX6_clueLine_0 rfl ?_
  refine e_callV [] dX6_clueLine_1 tm_6_208 rfl (Nat.le_of_ble_eq_true rfl) (congrArg Prod.fst (rd_s0 hk)) (Nat.le_of_ble_eq_true rfl) (Nat.le_refl _) (Nat.le_refl _) rfl (zp_X6_clueSort_left hk HT HP HA (by omega) ?_)
  refine e_istore_n (L' := [_, _, _]) dX6_clueLine_4 (Nat.le_of_ble_eq_true rfl) rfl ?_
  refine e_iload_n dX6_clueLine_5 rfl ?_
  refine z_if_lt 14 dX6_clueLine_6 rfl ⟨by omega, by omega⟩ (fun c1 => ?_) (fun c1 => ?_)
  · exfalso; omega
  · skip
    refine e_iload_n dX6_clueLine_9 rfl ?_
    refine z_iconst (4) dX6_clueLine_10 rfl ?_
    refine z_icmp_lt 19 dX6_clueLine_11 rfl ⟨by omega, by omega⟩ ⟨by omega, by omega⟩ (fun c2 => ?_) (fun c2 => ?_)
    · skip
      refine e_aload_n dX6_clueLine_19 rfl ?_
      refine e_aload_n dX6_clueLine_20 rfl ?_
      refine e_get (.ref (y + 21)) dX6_clueLine_21 tf_6_28 (congrArg Prod.fst (rd_s0 hk)) (congrArg va_rf (rd_r0_2 hk)) ?_
      refine z_get (Y 0) dX6_clueLine_24 tf_6_117 (congrArg Prod.fst (rd_s21 hk)) (Or.inl rfl) HG.1 ?_
      refine z_bipush (8) dX6_clueLine_27 rfl ?_
      refine z_icmp_lt 36 dX6_clueLine_29 rfl ⟨by omega, by omega⟩ ⟨by omega, by omega⟩ (fun c3 => ?_) (fun c3 => ?_)
      · skip
        refine z_iconst (0) dX6_clueLine_36 rfl ?_
        refine e_callV [.int _] dX6_clueLine_37 tm_6_146 rfl (Nat.le_of_ble_eq_true rfl) (congrArg Prod.fst (rd_s0 hk)) (Nat.le_of_ble_eq_true rfl) (Nat.le_refl _) (Nat.le_refl _) rfl (zp_X6_beginLine hk HT HP HF False (fun  h4 f5 p6 p7 p8 => ?_))
        have k9 := lk_q (frm_s f5) hk
        have H10 := rdT_c f5 (fun a k q => by omega) HT
        have H11 := rwY_c f5 (fun a k q1 q2 => by omega) HG
        have FR12 := frm_t FR0 (frm_m (S' := (fun a k => (a = y ∧ (k = 3 ∨ k = 4 ∨ (8 ≤ k ∧ k ≤ 11))) ∨ (y + 17 ≤ a ∧ a < y + 25) ∨ a = y + 26)) f5 (fun a k q => by omega))
        have F13 : rdF h4 y (ntF (8 ≤ Y 0) 3 f) (ntQ (8 ≤ Y 0) (tkS T L p) f q) := by rw [(nt_iff (c := 8 ≤ Y 0) (c' := False) (k := 3) (s := tkS T L p) (f := f) (q := q) ⟨fun z => absurd z (by omega), fun z => z.elim⟩).1, (nt_iff (c := 8 ≤ Y 0) (c' := False) (k := 3) (s := tkS T L p) (f := f) (q := q) ⟨fun z => absurd z (by omega), fun z => z.elim⟩).2]; exact p7
        refine e_aload_n dX6_clueLine_40 rfl ?_
        refine e_ldcS dX6_clueLine_41 tl_6_211 ?_
        refine e_callV [.ref _] dX6_clueLine_43 tm_6_123 rfl (Nat.le_of_ble_eq_true rfl) (congrArg Prod.fst (rd_s0 k9)) (Nat.le_of_ble_eq_true rfl) (Nat.le_refl _) (Nat.le_refl _) rfl (zp_X6_isWord_no k9 H10 p6 HA ?_)
        refine e_istore_n (L' := [_, _, _]) dX6_clueLine_46 (Nat.le_of_ble_eq_true rfl) rfl ?_
        refine e_iload_n dX6_clueLine_47 rfl ?_
        refine z_ifb_eq 55 dX6_clueLine_48 rfl (fun c14 => ?_) (fun c14 => ?_)
        · skip
          refine e_aload_n dX6_clueLine_55 rfl ?_
          refine z_iconst (0) dX6_clueLine_56 rfl ?_
          refine z_iconst (0) dX6_clueLine_57 rfl ?_
          refine e_gets dX6_clueLine_58 ts_6_213 ?_
          refine e_iload_n dX6_clueLine_61 rfl ?_
          refine z_oldK 2 dX6_clueLine_62 (Or.inl (by decide)) (HA 4 (by decide)).1 (by decide) (by decide) (by decide) (by rw [(HA 4 (by decide)).2]; decide) ?_
          refine e_callV [.int _, .int _, .int _] dX6_clueLine_63 tm_6_156 rfl (Nat.le_of_ble_eq_true rfl) (congrArg Prod.fst (rd_s0 k9)) (Nat.le_of_ble_eq_true rfl) (Nat.le_refl _) (Nat.le_refl _) rfl (zp_X6_takeNumber k9 H10 p6 F13 0 ⟨by omega, by omega⟩ 0 ⟨by omega, by omega⟩ 2 ⟨by omega, by omega⟩ (by omega) (fun v15 p16 h17 f18 p19 => ?_))
          have k20 := lk_q (frm_s f18) k9
          have H21 := rdT_c f18 (fun a k q => by omega) H10
          have H22 := rwY_c f18 (fun a k q1 q2 => by omega) H11
          have FR23 := frm_t FR12 (frm_m (S' := (fun a k => (a = y ∧ (k = 3 ∨ k = 4 ∨ (8 ≤ k ∧ k ≤ 11))) ∨ (y + 17 ≤ a ∧ a < y + 25) ∨ a = y + 26)) f18 (fun a k q => by omega))
          skip
          refine z_if_ne 71 dX6_clueLine_66 rfl ⟨by omega, by omega⟩ (fun c24 => ?_) (fun c24 => ?_)
          · skip
            obtain ⟨K25, K25p, K25f, K25n⟩ := tn_1 p19 (by omega)
            refine e_aload_n dX6_clueLine_71 rfl ?_
            refine e_get (.ref (y + 21)) dX6_clueLine_72 tf_6_28 (congrArg Prod.fst (rd_s0 k20)) (congrArg va_rf (rd_r0_2 k20)) ?_
            refine e_iload_n dX6_clueLine_75 rfl ?_
            refine e_aload_n dX6_clueLine_76 rfl ?_
            refine e_get (.ref (y + 26)) dX6_clueLine_77 tf_6_43 (congrArg Prod.fst (rd_s0 k20)) (congrArg va_rf (rd_r0_6 k20)) ?_
            refine z_iconst (0) dX6_clueLine_80 rfl ?_
            refine z_ild (tkV T L (tkE T L p)) dX6_clueLine_81 (rd_s26 k20) (by decide) (by omega) (by omega) K25n ?_
            have y26 := tv_b K25
            refine e_iload_n dX6_clueLine_82 rfl ?_
            refine z_ifb_ne 90 dX6_clueLine_83 rfl (fun c27 => ?_) (fun c27 => ?_)
            · exfalso; omega
            · skip
              refine z_iconst (1) dX6_clueLine_86 rfl ?_
              refine e_goto 91 dX6_clueLine_87 rfl ?_
              have SZ : rI h17 (y + 21) 3 = Y 0 := H22.1
              refine e_callV [.int _, .int _, .int _] dX6_clueLine_91 tm_6_216 rfl (Nat.le_of_ble_eq_true rfl) (congrArg Prod.fst (rd_s21 k20)) (Nat.le_of_ble_eq_true rfl) (Nat.le_refl _) (Nat.le_refl _) rfl (zp_X1_add (rd_cu21 k20) (Y 0) 3 ⟨by omega, by omega⟩ (tkV T L (tkE T L p)) ⟨by omega, by omega⟩ True ⟨SZ, by omega, by omega⟩ (fun  h28 f29 p30 => ?_))
              have k31 := lk_q (frm_s f29) k20
              have H32 := rdT_c f29 (fun a k q => by omega) H21
              have H33 := rdP_c f29 (fun a k q => by omega) K25p
              have H34 := rdF_c f29 (fun a k q => by omega) K25f
              have FR35 := frm_t FR23 (frm_m (S' := (fun a k => (a = y ∧ (k = 3 ∨ k = 4 ∨ (8 ≤ k ∧ k ≤ 11))) ∨ (y + 17 ≤ a ∧ a < y + 25) ∨ a = y + 26)) f29 (fun a k q => by omega))
              have G1 : rwY h28 (y + 21) (adY 8 Y 3 (tkV T L (tkE T L p)) 1) := rwY_a py.1 H22 f29 p30
              refine e_aload_n dX6_clueLine_94 rfl ?_
              refine e_callV [] dX6_clueLine_95 tm_6_164 rfl (Nat.le_of_ble_eq_true rfl) (congrArg Prod.fst (rd_s0 k31)) (Nat.le_of_ble_eq_true rfl) (Nat.le_refl _) (Nat.le_refl _) rfl (zp_X6_takeStop k31 H32 H33 H34 (fun v36 p37 h38 f39 p40 => ?_))
              have k41 := lk_q (frm_s f39) k31
              have H42 := rdT_c f39 (fun a k q => by omega) H32
              have H43 := rwY_c f39 (fun a k q1 q2 => by omega) G1
              have FR44 := frm_t FR35 (frm_m (S' := (fun a k => (a = y ∧ (k = 3 ∨ k = 4 ∨ (8 ≤ k ∧ k ≤ 11))) ∨ (y + 17 ≤ a ∧ a < y + 25) ∨ a = y + 26)) f39 (fun a k q => by omega))
              skip
              refine z_bret dX6_clueLine_98 rfl (by omega) ⟨rfl, ?_⟩
              rcases p40 with ⟨w, k5, P5, F5⟩ | ⟨w, k5, F5⟩
              · exact kq _ (Or.inr w) _ FR44 (Or.inl ⟨w, ⟨K25, k5⟩, P5, F5, H43⟩)
              · exact kq _ (Or.inl w) _ FR44 (Or.inr ⟨w, fun z => k5 z.2, by rw [xp_y K25]; exact F5⟩)
          · skip
            obtain ⟨k0, f0⟩ := tn_0 p19 (by omega)
            refine z_iconst (0) dX6_clueLine_69 rfl ?_
            refine z_bret dX6_clueLine_70 rfl (Or.inl rfl) ⟨rfl, ?_⟩
            exact kq 0 (Or.inl rfl) _ FR23 (Or.inr ⟨rfl, fun z => k0 z.1, by rw [xp_n k0]; exact f0⟩)
        · exfalso; omega
      · skip
        refine z_iconst (1) dX6_clueLine_32 rfl ?_
        refine e_goto 37 dX6_clueLine_33 rfl ?_
        refine e_callV [.int _] dX6_clueLine_37 tm_6_146 rfl (Nat.le_of_ble_eq_true rfl) (congrArg Prod.fst (rd_s0 hk)) (Nat.le_of_ble_eq_true rfl) (Nat.le_refl _) (Nat.le_refl _) rfl (zp_X6_beginLine hk HT HP HF True (fun  h45 f46 p47 p48 p49 => ?_))
        have k50 := lk_q (frm_s f46) hk
        have H51 := rdT_c f46 (fun a k q => by omega) HT
        have H52 := rwY_c f46 (fun a k q1 q2 => by omega) HG
        have FR53 := frm_t FR0 (frm_m (S' := (fun a k => (a = y ∧ (k = 3 ∨ k = 4 ∨ (8 ≤ k ∧ k ≤ 11))) ∨ (y + 17 ≤ a ∧ a < y + 25) ∨ a = y + 26)) f46 (fun a k q => by omega))
        have F54 : rdF h45 y (ntF (8 ≤ Y 0) 3 f) (ntQ (8 ≤ Y 0) (tkS T L p) f q) := by rw [(nt_iff (c := 8 ≤ Y 0) (c' := True) (k := 3) (s := tkS T L p) (f := f) (q := q) ⟨fun _ => trivial, fun _ => by omega⟩).1, (nt_iff (c := 8 ≤ Y 0) (c' := True) (k := 3) (s := tkS T L p) (f := f) (q := q) ⟨fun _ => trivial, fun _ => by omega⟩).2]; exact p48
        refine e_aload_n dX6_clueLine_40 rfl ?_
        refine e_ldcS dX6_clueLine_41 tl_6_211 ?_
        refine e_callV [.ref _] dX6_clueLine_43 tm_6_123 rfl (Nat.le_of_ble_eq_true rfl) (congrArg Prod.fst (rd_s0 k50)) (Nat.le_of_ble_eq_true rfl) (Nat.le_refl _) (Nat.le_refl _) rfl (zp_X6_isWord_no k50 H51 p47 HA ?_)
        refine e_istore_n (L' := [_, _, _]) dX6_clueLine_46 (Nat.le_of_ble_eq_true rfl) rfl ?_
        refine e_iload_n dX6_clueLine_47 rfl ?_
        refine z_ifb_eq 55 dX6_clueLine_48 rfl (fun c55 => ?_) (fun c55 => ?_)
        · skip
          refine e_aload_n dX6_clueLine_55 rfl ?_
          refine z_iconst (0) dX6_clueLine_56 rfl ?_
          refine z_iconst (0) dX6_clueLine_57 rfl ?_
          refine e_gets dX6_clueLine_58 ts_6_213 ?_
          refine e_iload_n dX6_clueLine_61 rfl ?_
          refine z_oldK 2 dX6_clueLine_62 (Or.inl (by decide)) (HA 4 (by decide)).1 (by decide) (by decide) (by decide) (by rw [(HA 4 (by decide)).2]; decide) ?_
          refine e_callV [.int _, .int _, .int _] dX6_clueLine_63 tm_6_156 rfl (Nat.le_of_ble_eq_true rfl) (congrArg Prod.fst (rd_s0 k50)) (Nat.le_of_ble_eq_true rfl) (Nat.le_refl _) (Nat.le_refl _) rfl (zp_X6_takeNumber k50 H51 p47 F54 0 ⟨by omega, by omega⟩ 0 ⟨by omega, by omega⟩ 2 ⟨by omega, by omega⟩ (by omega) (fun v56 p57 h58 f59 p60 => ?_))
          have k61 := lk_q (frm_s f59) k50
          have H62 := rdT_c f59 (fun a k q => by omega) H51
          have H63 := rwY_c f59 (fun a k q1 q2 => by omega) H52
          have FR64 := frm_t FR53 (frm_m (S' := (fun a k => (a = y ∧ (k = 3 ∨ k = 4 ∨ (8 ≤ k ∧ k ≤ 11))) ∨ (y + 17 ≤ a ∧ a < y + 25) ∨ a = y + 26)) f59 (fun a k q => by omega))
          skip
          refine z_if_ne 71 dX6_clueLine_66 rfl ⟨by omega, by omega⟩ (fun c65 => ?_) (fun c65 => ?_)
          · skip
            obtain ⟨K66, K66p, K66f, K66n⟩ := tn_1 p60 (by omega)
            refine e_aload_n dX6_clueLine_71 rfl ?_
            refine e_get (.ref (y + 21)) dX6_clueLine_72 tf_6_28 (congrArg Prod.fst (rd_s0 k61)) (congrArg va_rf (rd_r0_2 k61)) ?_
            refine e_iload_n dX6_clueLine_75 rfl ?_
            refine e_aload_n dX6_clueLine_76 rfl ?_
            refine e_get (.ref (y + 26)) dX6_clueLine_77 tf_6_43 (congrArg Prod.fst (rd_s0 k61)) (congrArg va_rf (rd_r0_6 k61)) ?_
            refine z_iconst (0) dX6_clueLine_80 rfl ?_
            refine z_ild (tkV T L (tkE T L p)) dX6_clueLine_81 (rd_s26 k61) (by decide) (by omega) (by omega) K66n ?_
            have y67 := tv_b K66
            refine e_iload_n dX6_clueLine_82 rfl ?_
            refine z_ifb_ne 90 dX6_clueLine_83 rfl (fun c68 => ?_) (fun c68 => ?_)
            · exfalso; omega
            · skip
              refine z_iconst (1) dX6_clueLine_86 rfl ?_
              refine e_goto 91 dX6_clueLine_87 rfl ?_
              have SZ : rI h58 (y + 21) 3 = Y 0 := H63.1
              refine e_callV [.int _, .int _, .int _] dX6_clueLine_91 tm_6_216 rfl (Nat.le_of_ble_eq_true rfl) (congrArg Prod.fst (rd_s21 k61)) (Nat.le_of_ble_eq_true rfl) (Nat.le_refl _) (Nat.le_refl _) rfl (zp_X1_add (rd_cu21 k61) (Y 0) 3 ⟨by omega, by omega⟩ (tkV T L (tkE T L p)) ⟨by omega, by omega⟩ True ⟨SZ, by omega, by omega⟩ (fun  h69 f70 p71 => ?_))
              have k72 := lk_q (frm_s f70) k61
              have H73 := rdT_c f70 (fun a k q => by omega) H62
              have H74 := rdP_c f70 (fun a k q => by omega) K66p
              have H75 := rdF_c f70 (fun a k q => by omega) K66f
              have FR76 := frm_t FR64 (frm_m (S' := (fun a k => (a = y ∧ (k = 3 ∨ k = 4 ∨ (8 ≤ k ∧ k ≤ 11))) ∨ (y + 17 ≤ a ∧ a < y + 25) ∨ a = y + 26)) f70 (fun a k q => by omega))
              have G1 : rwY h69 (y + 21) (adY 8 Y 3 (tkV T L (tkE T L p)) 1) := rwY_a py.1 H63 f70 p71
              refine e_aload_n dX6_clueLine_94 rfl ?_
              refine e_callV [] dX6_clueLine_95 tm_6_164 rfl (Nat.le_of_ble_eq_true rfl) (congrArg Prod.fst (rd_s0 k72)) (Nat.le_of_ble_eq_true rfl) (Nat.le_refl _) (Nat.le_refl _) rfl (zp_X6_takeStop k72 H73 H74 H75 (fun v77 p78 h79 f80 p81 => ?_))
              have k82 := lk_q (frm_s f80) k72
              have H83 := rdT_c f80 (fun a k q => by omega) H73
              have H84 := rwY_c f80 (fun a k q1 q2 => by omega) G1
              have FR85 := frm_t FR76 (frm_m (S' := (fun a k => (a = y ∧ (k = 3 ∨ k = 4 ∨ (8 ≤ k ∧ k ≤ 11))) ∨ (y + 17 ≤ a ∧ a < y + 25) ∨ a = y + 26)) f80 (fun a k q => by omega))
              skip
              refine z_bret dX6_clueLine_98 rfl (by omega) ⟨rfl, ?_⟩
              rcases p81 with ⟨w, k5, P5, F5⟩ | ⟨w, k5, F5⟩
              · exact kq _ (Or.inr w) _ FR85 (Or.inl ⟨w, ⟨K66, k5⟩, P5, F5, H84⟩)
              · exact kq _ (Or.inl w) _ FR85 (Or.inr ⟨w, fun z => k5 z.2, by rw [xp_y K66]; exact F5⟩)
          · skip
            obtain ⟨k0, f0⟩ := tn_0 p60 (by omega)
            refine z_iconst (0) dX6_clueLine_69 rfl ?_
            refine z_bret dX6_clueLine_70 rfl (Or.inl rfl) ⟨rfl, ?_⟩
            exact kq 0 (Or.inl rfl) _ FR64 (Or.inr ⟨rfl, fun z => k0 z.1, by rw [xp_n k0]; exact f0⟩)
        · exfalso; omega
    · exfalso; omega
set_option maxHeartbeats 400000 in
theorem zp_X6_clueLine_bad {ad : mA} {dd : Nat} {h : mH} {Q : mQ} {y : Nat} {T Y : Int → Int} {L p f q : Int} (hk : rdk h y) (HT : rdT h y T L) (HP : rdP h y T L p) (HF : rdF h y f q) (HA : adK ad)  (pu : tkW T L p ≠ 1819242087 ∧ tkW T L p ≠ 418497262196 ∧ tkW T L p ≠ 491496236904 ∧ tkW T L p ≠ 1818584692) (kq : ∀ h1, frm (fun a k => (a = y ∧ (k = 3 ∨ k = 4 ∨ (8 ≤ k ∧ k ≤ 11))) ∨ (y + 17 ≤ a ∧ a < y + 25) ∨ a = y + 26) h h1 → (rdF h1 y 1 (tkS T L p)) → Q (some (.int (zI (bZ False)))) h1) : mCal TB0 ad (dd + 8) M_X6_clueLine [.ref y] h 0 0 Q := by
  refine ⟨Nat.le_of_ble_eq_true rfl, ?_⟩
  show mEv TB0 ad M_X6_clueLine (dd + 8) (0, 0) (mCal TB0 ad (dd + 7)) (fun v h' z => z.1 = 0 ∧ Q v h') 0 [some (.ref y), none, none] [] h (0, 0)
  have FR0 : frm (fun a k => (a = y ∧ (k = 3 ∨ k = 4 ∨ (8 ≤ k ∧ k ≤ 11))) ∨ (y + 17 ≤ a ∧ a < y + 25) ∨ a = y + 26) h h := frm_0 h
  have w1 := HT.1
  have tb := tk_b (T := T) HP.1.1 HP.1.2
  have p0 := HP.1
  refine e_aload_n dX6_clueLine_0 rfl ?_
  refine e_callV [] dX6_clueLine_1 tm_6_208 rfl (Nat.le_of_ble_eq_true rfl) (congrArg Prod.fst (rd_s0 hk)) (Nat.le_of_ble_eq_true rfl) (Nat.le_refl _) (Nat.le_refl _) rfl (zp_X6_clueSort_bad hk HT HP HA (by omega) ?_)
  refine e_istore_n (L' := [_, _, _]) dX6_clueLine_4 (Nat.le_of_ble_eq_true rfl) rfl ?_
  refine e_iload_n dX6_clueLine_5 rfl ?_
  refine z_if_lt 14 dX6_clueLine_6 rfl ⟨by omega, by omega⟩ (fun c1 => ?_) (fun c1 => ?_)
  · skip
    refine e_aload_n dX6_clueLine_14 rfl ?_
    refine e_callV [] dX6_clueLine_15 tm_6_143 rfl (Nat.le_of_ble_eq_true rfl) (congrArg Prod.fst (rd_s0 hk)) (Nat.le_of_ble_eq_true rfl) (Nat.le_refl _) (Nat.le_refl _) rfl (zp_X6_refuse hk HP (by omega) (fun  h2 f3 p4 => ?_))
    have k5 := lk_q (frm_s f3) hk
    have H6 := rdT_c f3 (fun a k q => by omega) HT
    have H7 := rdP_c f3 (fun a k q => by omega) HP
    have FR8 := frm_t FR0 (frm_m (S' := (fun a k => (a = y ∧ (k = 3 ∨ k = 4 ∨ (8 ≤ k ∧ k ≤ 11))) ∨ (y + 17 ≤ a ∧ a < y + 25) ∨ a = y + 26)) f3 (fun a k q => by omega))
    refine z_bret dX6_clueLine_18 rfl (bZ_01 _) ⟨rfl, ?_⟩
    exact kq _ FR8 p4
  · exfalso; omega
