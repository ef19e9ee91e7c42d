/-! ROWS of the class: the search -/
theorem dX5_search_0 : decode cX5_search 0 = .ok (.sipush 1000, 3) := by decide +kernel
theorem dX5_search_3 : decode cX5_search 3 = .ok (.istore_n 2, 1) := by decide +kernel
theorem dX5_search_4 : decode cX5_search 4 = .ok (.aload_n 0, 1) := by decide +kernel
theorem dX5_search_5 : decode cX5_search 5 = .ok (.getfield 31, 3) := by decide +kernel
theorem dX5_search_8 : decode cX5_search 8 = .ok (.bipush 6, 2) := by decide +kernel
theorem dX5_search_10 : decode cX5_search 10 = .ok (.invokestatic 74, 3) := by decide +kernel
theorem dX5_search_13 : decode cX5_search 13 = .ok (.aload_n 0, 1) := by decide +kernel
theorem dX5_search_14 : decode cX5_search 14 = .ok (.invokevirtual 111, 3) := by decide +kernel
theorem dX5_search_17 : decode cX5_search 17 = .ok (.iconst 1, 1) := by decide +kernel
theorem dX5_search_18 : decode cX5_search 18 = .ok (.istore_n 3, 1) := by decide +kernel
theorem dX5_search_19 : decode cX5_search 19 = .ok (.iconst 0, 1) := by decide +kernel
theorem dX5_search_20 : decode cX5_search 20 = .ok (.istore 4, 2) := by decide +kernel
theorem dX5_search_22 : decode cX5_search 22 = .ok (.iload 4, 2) := by decide +kernel
theorem dX5_search_24 : decode cX5_search 24 = .ok (.sipush 720, 3) := by decide +kernel
theorem dX5_search_27 : decode cX5_search 27 = .ok (.if_icmp .ge 65, 3) := by decide +kernel
theorem dX5_search_30 : decode cX5_search 30 = .ok (.iload_n 3, 1) := by decide +kernel
theorem dX5_search_31 : decode cX5_search 31 = .ok (.ifCond .eq 61, 3) := by decide +kernel
theorem dX5_search_34 : decode cX5_search 34 = .ok (.aload_n 0, 1) := by decide +kernel
theorem dX5_search_35 : decode cX5_search 35 = .ok (.invokevirtual 114, 3) := by decide +kernel
theorem dX5_search_38 : decode cX5_search 38 = .ok (.aload_n 0, 1) := by decide +kernel
theorem dX5_search_39 : decode cX5_search 39 = .ok (.iload_n 1, 1) := by decide +kernel
theorem dX5_search_40 : decode cX5_search 40 = .ok (.invokevirtual 117, 3) := by decide +kernel
theorem dX5_search_43 : decode cX5_search 43 = .ok (.istore 5, 2) := by decide +kernel
theorem dX5_search_45 : decode cX5_search 45 = .ok (.iload 5, 2) := by decide +kernel
theorem dX5_search_47 : decode cX5_search 47 = .ok (.iload_n 2, 1) := by decide +kernel
theorem dX5_search_48 : decode cX5_search 48 = .ok (.if_icmp .ge 33, 3) := by decide +kernel
theorem dX5_search_51 : decode cX5_search 51 = .ok (.iload_n 1, 1) := by decide +kernel
theorem dX5_search_52 : decode cX5_search 52 = .ok (.iconst 3, 1) := by decide +kernel
theorem dX5_search_53 : decode cX5_search 53 = .ok (.if_icmp .ne 10, 3) := by decide +kernel
theorem dX5_search_56 : decode cX5_search 56 = .ok (.aload_n 0, 1) := by decide +kernel
theorem dX5_search_57 : decode cX5_search 57 = .ok (.invokevirtual 120, 3) := by decide +kernel
theorem dX5_search_60 : decode cX5_search 60 = .ok (.ifCond .eq 21, 3) := by decide +kernel
theorem dX5_search_63 : decode cX5_search 63 = .ok (.iload 5, 2) := by decide +kernel
theorem dX5_search_65 : decode cX5_search 65 = .ok (.istore_n 2, 1) := by decide +kernel
theorem dX5_search_66 : decode cX5_search 66 = .ok (.aload_n 0, 1) := by decide +kernel
theorem dX5_search_67 : decode cX5_search 67 = .ok (.getfield 21, 3) := by decide +kernel
theorem dX5_search_70 : decode cX5_search 70 = .ok (.iconst 0, 1) := by decide +kernel
theorem dX5_search_71 : decode cX5_search 71 = .ok (.aload_n 0, 1) := by decide +kernel
theorem dX5_search_72 : decode cX5_search 72 = .ok (.getfield 31, 3) := by decide +kernel
theorem dX5_search_75 : decode cX5_search 75 = .ok (.iconst 0, 1) := by decide +kernel
theorem dX5_search_76 : decode cX5_search 76 = .ok (.bipush 6, 2) := by decide +kernel
theorem dX5_search_78 : decode cX5_search 78 = .ok (.invokestatic 124, 3) := by decide +kernel
theorem dX5_search_81 : decode cX5_search 81 = .ok (.aload_n 0, 1) := by decide +kernel
theorem dX5_search_82 : decode cX5_search 82 = .ok (.invokevirtual 130, 3) := by decide +kernel
theorem dX5_search_85 : decode cX5_search 85 = .ok (.istore_n 3, 1) := by decide +kernel
theorem dX5_search_86 : decode cX5_search 86 = .ok (.iinc 4 1, 3) := by decide +kernel
theorem dX5_search_89 : decode cX5_search 89 = .ok (.goto (-67), 3) := by decide +kernel
theorem dX5_search_92 : decode cX5_search 92 = .ok (.aload_n 0, 1) := by decide +kernel
theorem dX5_search_93 : decode cX5_search 93 = .ok (.getfield 31, 3) := by decide +kernel
theorem dX5_search_96 : decode cX5_search 96 = .ok (.iconst 0, 1) := by decide +kernel
theorem dX5_search_97 : decode cX5_search 97 = .ok (.aload_n 0, 1) := by decide +kernel
theorem dX5_search_98 : decode cX5_search 98 = .ok (.getfield 34, 3) := by decide +kernel
theorem dX5_search_101 : decode cX5_search 101 = .ok (.iconst 0, 1) := by decide +kernel
theorem dX5_search_102 : decode cX5_search 102 = .ok (.bipush 6, 2) := by decide +kernel
theorem dX5_search_104 : decode cX5_search 104 = .ok (.invokestatic 124, 3) := by decide +kernel
theorem dX5_search_107 : decode cX5_search 107 = .ok (.aload_n 0, 1) := by decide +kernel
theorem dX5_search_108 : decode cX5_search 108 = .ok (.invokevirtual 114, 3) := by decide +kernel
theorem dX5_search_111 : decode cX5_search 111 = .ok (.iload_n 2, 1) := by decide +kernel
theorem dX5_search_112 : decode cX5_search 112 = .ok (.ireturn, 1) := by decide +kernel
theorem dX5_score_0 : decode cX5_score 0 = .ok (.iload_n 1, 1) := by decide +kernel
theorem dX5_score_1 : decode cX5_score 1 = .ok (.lookupswitch 38 #[(3, 27), (4, 32)], 27) := by decide +kernel
theorem dX5_score_28 : decode cX5_score 28 = .ok (.aload_n 0, 1) := by decide +kernel
theorem dX5_score_29 : decode cX5_score 29 = .ok (.invokevirtual 133, 3) := by decide +kernel
theorem dX5_score_32 : decode cX5_score 32 = .ok (.ireturn, 1) := by decide +kernel
theorem dX5_score_33 : decode cX5_score 33 = .ok (.aload_n 0, 1) := by decide +kernel
theorem dX5_score_34 : decode cX5_score 34 = .ok (.invokevirtual 137, 3) := by decide +kernel
theorem dX5_score_37 : decode cX5_score 37 = .ok (.ineg, 1) := by decide +kernel
theorem dX5_score_38 : decode cX5_score 38 = .ok (.ireturn, 1) := by decide +kernel
theorem dX5_score_39 : decode cX5_score 39 = .ok (.aload_n 0, 1) := by decide +kernel
theorem dX5_score_40 : decode cX5_score 40 = .ok (.invokevirtual 140, 3) := by decide +kernel
theorem dX5_score_43 : decode cX5_score 43 = .ok (.ineg, 1) := by decide +kernel
theorem dX5_score_44 : decode cX5_score 44 = .ok (.ireturn, 1) := by decide +kernel
set_option maxRecDepth 20000 in
theorem tm_5_111 : tMet TB0 5 111 = some (0, M_X5_beginRows) := rfl
set_option maxRecDepth 20000 in
theorem tm_5_114 : tMet TB0 5 114 = some (0, M_X5_takeRow) := rfl
set_option maxRecDepth 20000 in
theorem tm_5_117 : tMet TB0 5 117 = some (0, M_X5_score) := rfl
set_option maxRecDepth 20000 in
theorem tm_5_120 : tMet TB0 5 120 = some (0, M_X5_stands) := rfl
set_option maxRecDepth 20000 in
theorem tm_5_124 : tMet TB0 5 124 = some (5, M_none) := rfl
set_option maxRecDepth 20000 in
theorem tm_5_130 : tMet TB0 5 130 = some (0, M_X5_nextRow) := rfl
set_option maxRecDepth 20000 in
theorem tm_5_133 : tMet TB0 5 133 = some (0, M_X5_changes) := rfl
set_option maxRecDepth 20000 in
theorem tm_5_137 : tMet TB0 5 137 = some (0, M_X5_sumOfFits) := rfl
set_option maxRecDepth 20000 in
theorem tm_5_140 : tMet TB0 5 140 = some (0, M_X5_leastFit) := rfl
set_option maxHeartbeats 400000 in
theorem zp_X5_score_3 {ad : mA} {dd : Nat} {h : mH} {Q : mQ} {y : Nat} {g r : Int → Int} (hk : mak h y) (HF : isF h (y + 1) g) (HD : bdC h y g) (HW : mrC h y g r)    (kq : Q (some (.int (zI (-(wRr g 3 r))))) h) : mCal TB0 ad (dd + 2) M_X5_score [.ref y, .int (zI 3)] h 0 0 Q := by
  refine ⟨Nat.le_of_ble_eq_true rfl, ?_⟩
  show mEv TB0 ad M_X5_score (dd + 2) (0, 0) (mCal TB0 ad (dd + 1)) (fun v h' z => z.1 = 0 ∧ Q v h') 0 [some (.ref y), some (.int (zI 3))] [] h (0, 0)
  have w1 := isF_n HF
  have W := isF_w HF
  refine e_iload_n dX5_score_0 rfl ?_
  refine z_lookupV (3) 28 dX5_score_1 rfl (by decide) (by decide +kernel) ?_
  refine e_aload_n dX5_score_28 rfl ?_
  refine e_callV [] dX5_score_29 tm_5_133 rfl (Nat.le_of_ble_eq_true rfl) (congrArg Prod.fst (ma_s0 hk)) (Nat.le_of_ble_eq_true rfl) (Nat.le_refl _) (Nat.le_refl _) rfl (zp_X5_changes hk HF HD HW ?_)
  have y1 := chR_b (show 0 ≤ nd g ∧ nd g ≤ 6 by omega) r
  refine z_iret dX5_score_32 rfl ⟨rfl, ?_⟩
  refine z_q kq ?_
  exact (WR_3 g r).symm
set_option maxHeartbeats 400000 in
theorem zp_X5_score_4 {ad : mA} {dd : Nat} {h : mH} {Q : mQ} {y : Nat} {g r : Int → Int} (hk : mak h y) (HF : isF h (y + 1) g) (HD : bdC h y g) (HW : mrC h y g r)    (kq : Q (some (.int (zI (-(wRr g 4 r))))) h) : mCal TB0 ad (dd + 2) M_X5_score [.ref y, .int (zI 4)] h 0 0 Q := by
  refine ⟨Nat.le_of_ble_eq_true rfl, ?_⟩
  show mEv TB0 ad M_X5_score (dd + 2) (0, 0) (mCal TB0 ad (dd + 1)) (fun v h' z => z.1 = 0 ∧ Q v h') 0 [some (.ref y), some (.int (zI 4))] [] h (0, 0)
  have w1 := isF_n HF
  have W := isF_w HF
  refine e_iload_n dX5_score_0 rfl ?_
  refine z_lookupV (4) 33 dX5_score_1 rfl (by decide) (by decide +kernel) ?_
  refine e_aload_n dX5_score_33 rfl ?_
  refine e_callV [] dX5_score_34 tm_5_137 rfl (Nat.le_of_ble_eq_true rfl) (congrArg Prod.fst (ma_s0 hk)) (Nat.le_of_ble_eq_true rfl) (Nat.le_refl _) (Nat.le_refl _) rfl (zp_X5_sumOfFits hk HF HD HW ?_)
  have y1 := sfR_b g r
  refine z_ineg dX5_score_37 ?_
  refine z_iret dX5_score_38 rfl ⟨rfl, ?_⟩
  refine z_q kq ?_
  rw [WR_4 g r]
set_option maxHeartbeats 400000 in
theorem zp_X5_score_5 {ad : mA} {dd : Nat} {h : mH} {Q : mQ} {y : Nat} {g r : Int → Int} (hk : mak h y) (HF : isF h (y + 1) g) (HD : bdC h y g) (HW : mrC h y g r)    (kq : Q (some (.int (zI (-(wRr g 5 r))))) h) : mCal TB0 ad (dd + 2) M_X5_score [.ref y, .int (zI 5)] h 0 0 Q := by
  refine ⟨Nat.le_of_ble_eq_true rfl, ?_⟩
  show mEv TB0 ad M_X5_score (dd + 2) (0, 0) (mCal TB0 ad (dd + 1)) (fun v h' z => z.1 = 0 ∧ Q v h') 0 [some (.ref y), some (.int (zI 5))] [] h (0, 0)
  have w1 := isF_n HF
  have W := isF_w HF
  refine e_iload_n dX5_score_0 rfl ?_
  refine z_lookupD 39 dX5_score_1 ⟨by omega, by omega⟩ (by decide +kernel) (by show Op.lookupswitch.offset [(3, 27), (4, 32)] 38 5 = 38; rw [Op.lookupswitch.offset_cons, if_neg (by omega), Op.lookupswitch.offset_cons, if_neg (by omega)]; rfl) rfl ?_
  refine e_aload_n dX5_score_39 rfl ?_
  refine e_callV [] dX5_score_40 tm_5_140 rfl (Nat.le_of_ble_eq_true rfl) (congrArg Prod.fst (ma_s0 hk)) (Nat.le_of_ble_eq_true rfl) (Nat.le_refl _) (Nat.le_refl _) rfl (zp_X5_leastFit hk HF HD HW ?_)
  have y1 := lm_b g r 6
  refine z_ineg dX5_score_43 ?_
  refine z_iret dX5_score_44 rfl ⟨rfl, ?_⟩
  refine z_q kq ?_
  rw [WR_5 g r]
set_option maxHeartbeats 4000000 in
theorem zp_X5_search_3 {ad : mA} {dd : Nat} {h : mH} {Q : mQ} {y : Nat} {g : Int → Int} (hk : mak h y) (HF : isF h (y + 1) g) (HD : bdC h y g)    (kq : ∀ v : Int, (∃ k, srP g 3 k ∧ v = -(wSr g 3 k)) → ∀ h1, frm (fun a k => a = y + 33 ∨ a = y + 34 ∨ a = y + 36 ∨ a = y + 37) h h1 → (∃ k, srP g 3 k ∧ mrC h1 y g (dgZ k)) → Q (some (.int (zI v))) h1) : mCal TB0 ad (dd + 4) M_X5_search [.ref y, .int (zI 3)] h 0 0 Q := by
  refine ⟨Nat.le_of_ble_eq_true rfl, ?_⟩
  show mEv TB0 ad M_X5_search (dd + 4) (0, 0) (mCal TB0 ad (dd + 3)) (fun v h' z => z.1 = 0 ∧ Q v h') 0 [some (.ref y), some (.int (zI 3)), none, none, none, none] [] h (0, 0)
  have FR0 : frm (fun a k => a = y + 33 ∨ a = y + 34 ∨ a = y + 36 ∨ a = y + 37) h h := frm_0 h
  have w1 := isF_n HF
  have W := isF_w HF
  refine z_sipush (1000) dX5_search_0 rfl ?_
  refine e_istore_n (L' := [_, _, _, _, _, _]) dX5_search_3 (Nat.le_of_ble_eq_true rfl) rfl ?_
  refine e_aload_n dX5_search_4 rfl ?_
  refine e_get (.ref (y + 36)) dX5_search_5 tf_5_31 (congrArg Prod.fst (ma_s0 hk)) (congrArg va_rf (ma_r0_5 hk)) ?_
  refine z_bipush (6) dX5_search_8 rfl ?_
  refine e_callS [.ref _, .int _] dX5_search_10 tm_5_74 rfl (Nat.le_of_ble_eq_true rfl) (Nat.le_refl _) (Nat.le_refl _) rfl (zp_fill (ma_s36 hk) (by decide) ⟨by omega, by omega⟩ (fun h1 f2 e3 => ?_))
  have k4 := lk_q (frm_s f2) hk
  have H5 := isF_c f2 (fun a k q1 q2 => by omega) HF
  have H6 := bdC_c f2 (fun a k q => by omega) HD
  have FR7 := frm_t FR0 (frm_m (S' := (fun a k => a = y + 33 ∨ a = y + 34 ∨ a = y + 36 ∨ a = y + 37)) f2 (fun a k q => by omega))
  refine e_aload_n dX5_search_13 rfl ?_
  refine e_callV [] dX5_search_14 tm_5_111 rfl (Nat.le_of_ble_eq_true rfl) (congrArg Prod.fst (ma_s0 k4)) (Nat.le_of_ble_eq_true rfl) (Nat.le_refl _) (Nat.le_refl _) rfl (zp_X5_beginRows k4 H5 (fun  h8 f9 p10 => ?_))
  have k11 := lk_q (frm_s f9) k4
  have H12 := isF_c f9 (fun a k q1 q2 => by omega) H5
  have H13 := bdC_c f9 (fun a k q => by omega) H6
  have FR14 := frm_t FR7 (frm_m (S' := (fun a k => a = y + 33 ∨ a = y + 34 ∨ a = y + 36 ∨ a = y + 37)) f9 (fun a k q => by omega))
  obtain ⟨N0, C0, Z0⟩ := ckP_0 (g := g) (by omega)
  have OB := p10
  refine z_iconst (1) dX5_search_17 rfl ?_
  refine e_istore_n (L' := [_, _, _, _, _, _]) dX5_search_18 (Nat.le_of_ble_eq_true rfl) rfl ?_
  refine z_iconst (0) dX5_search_19 rfl ?_
  refine e_istore (L' := [_, _, _, _, _, _]) dX5_search_20 (Nat.le_of_ble_eq_true rfl) rfl ?_
  have lp15 : ∀ (n15 : Nat) (l b i c N v : Int) (h15 : mH), (720 - i).toNat = n15 → (mak h15 y) → (isF h15 (y + 1) g) → (bdC h15 y g) → (frm (fun a k => a = y + 33 ∨ a = y + 34 ∨ a = y + 36 ∨ a = y + 37) h h15) → (0 ≤ i ∧ i ≤ 720) → (ckP g i c N b) → (odC h15 y (oI c.toNat)) → (fmax (pSr g 3) (wSr g 3) N v) → (l = if v = -1 then 1000 else -(wSr g 3 v)) → (v ≠ -1 → ∀ d : Int, 0 ≤ d → d < 6 → rI h15 (y + 36) d = dgZ v d) → mEv TB0 ad M_X5_search (dd + 4) (0, 0) (mCal TB0 ad (dd + 3)) (fun v h' z => z.1 = 0 ∧ Q v h') 22 [some (.ref y), some (.int (zI 3)), some (.int (zI l)), some (.int (zI b)), some (.int (zI i)), none] [] h15 (0, 0) := by
    intro n15
    induction n15 using Nat.strongRecOn with
    | ind n15 ih15 =>
    intro l b i c N v h15 hn15 k16 H17 H18 FR19 I1 I2 I3 I4 I5 I6
    refine e_iload dX5_search_22 rfl ?_
    have KB := ckP_b I2
    have vb := fmax_b I4
    have WB := WR_b (show 0 ≤ nd g ∧ nd g ≤ 6 by omega) 3 (dgZ v)
    have WB : -999 ≤ wSr g 3 v ∧ wSr g 3 v ≤ 1000000 := WB
    have LB : -1000000 ≤ l ∧ l ≤ 1000 := by
      by_cases q : v = -1
      · rw [if_pos q] at I5; omega
      · rw [if_neg q] at I5; omega
    refine z_sipush (720) dX5_search_24 rfl ?_
    refine z_icmp_ge 92 dX5_search_27 rfl ⟨by omega, by omega⟩ ⟨by omega, by omega⟩ (fun c20 => ?_) (fun c20 => ?_)
    · skip
      have FF : fmax (pSr g 3) (wSr g 3) 117649 v := by rw [show (117649 : Int) = N by omega]; exact I4
      have vx : v ≠ -1 := fun q => by
        obtain ⟨k, k1, k2⟩ := pSr_ex (g := g) (by omega) 3
        rcases FF with z | z
        · exact z.2 k k1.1 k1.2 k2
        · omega
      have PV := fmax_p FF vx
      refine e_aload_n dX5_search_92 rfl ?_
      refine e_get (.ref (y + 36)) dX5_search_93 tf_5_31 (congrArg Prod.fst (ma_s0 k16)) (congrArg va_rf (ma_r0_5 k16)) ?_
      refine z_iconst (0) dX5_search_96 rfl ?_
      refine e_aload_n dX5_search_97 rfl ?_
      refine e_get (.ref (y + 37)) dX5_search_98 tf_5_34 (congrArg Prod.fst (ma_s0 k16)) (congrArg va_rf (ma_r0_6 k16)) ?_
      refine z_iconst (0) dX5_search_101 rfl ?_
      refine z_bipush (6) dX5_search_102 rfl ?_
      refine z_cpy dX5_search_104 tm_5_124 (Nat.le_of_ble_eq_true rfl) (ma_s37 k16) (ma_s36 k16) (by decide) (by decide) (by omega) (by omega) (by omega) (by omega) (by omega) (fun h21 f22 e23 => ?_)
      have k24 := lk_q (frm_s f22) k16
      have H25 := isF_c f22 (fun a k q1 q2 => by omega) H17
      have H26 := bdC_c f22 (fun a k q => by omega) H18
      have FR27 := frm_t FR19 (frm_m (S' := (fun a k => a = y + 33 ∨ a = y + 34 ∨ a = y + 36 ∨ a = y + 37)) f22 (fun a k q => by omega))
      have OR : ∀ d : Int, 0 ≤ d → d < 6 → rI h21 (y + 37) d = dgZ v d := fun d a c => by
        rw [e23 d a, if_pos (by omega), show d - 0 + 0 = d by omega]
        exact I6 vx d a c
      refine e_aload_n dX5_search_107 rfl ?_
      have OC2 : orC h21 y g (dgZ v) := ⟨PV.1.1, fun d a e => OR d a (by omega)⟩
      refine e_callV [] dX5_search_108 tm_5_114 rfl (Nat.le_of_ble_eq_true rfl) (congrArg Prod.fst (ma_s0 k24)) (Nat.le_of_ble_eq_true rfl) (Nat.le_refl _) (Nat.le_refl _) rfl (zp_X5_takeRow k24 H25 OC2 (fun  h28 f29 p30 => ?_))
      have k31 := lk_q (frm_s f29) k24
      have H32 := isF_c f29 (fun a k q1 q2 => by omega) H25
      have H33 := bdC_c f29 (fun a k q => by omega) H26
      have H34 := orC_c f29 (fun a k q => by omega) OC2
      have FR35 := frm_t FR27 (frm_m (S' := (fun a k => a = y + 33 ∨ a = y + 34 ∨ a = y + 36 ∨ a = y + 37)) f29 (fun a k q => by omega))
      refine e_iload_n dX5_search_111 rfl ?_
      refine z_iret dX5_search_112 rfl ⟨rfl, ?_⟩
      exact kq _ ⟨v, ⟨vx, FF⟩, by rw [I5, if_neg vx]⟩ _ FR35 ⟨v, ⟨vx, FF⟩, p30⟩
    · skip
      refine e_iload_n dX5_search_30 rfl ?_
      refine z_if_eq 92 dX5_search_31 rfl ⟨by omega, by omega⟩ (fun c36 => ?_) (fun c36 => ?_)
      · skip
        have FF : fmax (pSr g 3) (wSr g 3) 117649 v := by rw [show (117649 : Int) = N by omega]; exact I4
        have vx : v ≠ -1 := fun q => by
          obtain ⟨k, k1, k2⟩ := pSr_ex (g := g) (by omega) 3
          rcases FF with z | z
          · exact z.2 k k1.1 k1.2 k2
          · omega
        have PV := fmax_p FF vx
        refine e_aload_n dX5_search_92 rfl ?_
        refine e_get (.ref (y + 36)) dX5_search_93 tf_5_31 (congrArg Prod.fst (ma_s0 k16)) (congrArg va_rf (ma_r0_5 k16)) ?_
        refine z_iconst (0) dX5_search_96 rfl ?_
        refine e_aload_n dX5_search_97 rfl ?_
        refine e_get (.ref (y + 37)) dX5_search_98 tf_5_34 (congrArg Prod.fst (ma_s0 k16)) (congrArg va_rf (ma_r0_6 k16)) ?_
        refine z_iconst (0) dX5_search_101 rfl ?_
        refine z_bipush (6) dX5_search_102 rfl ?_
        refine z_cpy dX5_search_104 tm_5_124 (Nat.le_of_ble_eq_true rfl) (ma_s37 k16) (ma_s36 k16) (by decide) (by decide) (by omega) (by omega) (by omega) (by omega) (by omega) (fun h37 f38 e39 => ?_)
        have k40 := lk_q (frm_s f38) k16
        have H41 := isF_c f38 (fun a k q1 q2 => by omega) H17
        have H42 := bdC_c f38 (fun a k q => by omega) H18
        have FR43 := frm_t FR19 (frm_m (S' := (fun a k => a = y + 33 ∨ a = y + 34 ∨ a = y + 36 ∨ a = y + 37)) f38 (fun a k q => by omega))
        have OR : ∀ d : Int, 0 ≤ d → d < 6 → rI h37 (y + 37) d = dgZ v d := fun d a c => by
          rw [e39 d a, if_pos (by omega), show d - 0 + 0 = d by omega]
          exact I6 vx d a c
        refine e_aload_n dX5_search_107 rfl ?_
        have OC2 : orC h37 y g (dgZ v) := ⟨PV.1.1, fun d a e => OR d a (by omega)⟩
        refine e_callV [] dX5_search_108 tm_5_114 rfl (Nat.le_of_ble_eq_true rfl) (congrArg Prod.fst (ma_s0 k40)) (Nat.le_of_ble_eq_true rfl) (Nat.le_refl _) (Nat.le_refl _) rfl (zp_X5_takeRow k40 H41 OC2 (fun  h44 f45 p46 => ?_))
        have k47 := lk_q (frm_s f45) k40
        have H48 := isF_c f45 (fun a k q1 q2 => by omega) H41
        have H49 := bdC_c f45 (fun a k q => by omega) H42
        have H50 := orC_c f45 (fun a k q => by omega) OC2
        have FR51 := frm_t FR43 (frm_m (S' := (fun a k => a = y + 33 ∨ a = y + 34 ∨ a = y + 36 ∨ a = y + 37)) f45 (fun a k q => by omega))
        refine e_iload_n dX5_search_111 rfl ?_
        refine z_iret dX5_search_112 rfl ⟨rfl, ?_⟩
        exact kq _ ⟨v, ⟨vx, FF⟩, by rw [I5, if_neg vx]⟩ _ FR51 ⟨v, ⟨vx, FF⟩, p46⟩
      · skip
        refine e_aload_n dX5_search_34 rfl ?_
        have RK := ckP_r (by omega) I2 (by omega)
        have OC : orC h15 y g (dgZ N) := ⟨RK.1.1, fun d a e => (I3.1 d a (by omega)).trans (RK.2 d a e)⟩
        refine e_callV [] dX5_search_35 tm_5_114 rfl (Nat.le_of_ble_eq_true rfl) (congrArg Prod.fst (ma_s0 k16)) (Nat.le_of_ble_eq_true rfl) (Nat.le_refl _) (Nat.le_refl _) rfl (zp_X5_takeRow k16 H17 OC (fun  h52 f53 p54 => ?_))
        have k55 := lk_q (frm_s f53) k16
        have H56 := isF_c f53 (fun a k q1 q2 => by omega) H17
        have H57 := bdC_c f53 (fun a k q => by omega) H18
        have H58 := orC_c f53 (fun a k q => by omega) OC
        have FR59 := frm_t FR19 (frm_m (S' := (fun a k => a = y + 33 ∨ a = y + 34 ∨ a = y + 36 ∨ a = y + 37)) f53 (fun a k q => by omega))
        skip
        refine e_aload_n dX5_search_38 rfl ?_
        refine e_iload_n dX5_search_39 rfl ?_
        refine e_callV [.int _] dX5_search_40 tm_5_117 rfl (Nat.le_of_ble_eq_true rfl) (congrArg Prod.fst (ma_s0 k55)) (Nat.le_of_ble_eq_true rfl) (Nat.le_refl _) (Nat.le_refl _) rfl (zp_X5_score_3 k55 H56 H57 p54 ?_)
        have y60 := WR_b (show 0 ≤ nd g ∧ nd g ≤ 6 by omega) 3 (dgZ N)
        refine e_istore (L' := [_, _, _, _, _, _]) dX5_search_43 (Nat.le_of_ble_eq_true rfl) rfl ?_
        refine e_iload dX5_search_45 rfl ?_
        refine e_iload_n dX5_search_47 rfl ?_
        refine z_icmp_ge 81 dX5_search_48 rfl ⟨by omega, by omega⟩ ⟨by omega, by omega⟩ (fun c61 => ?_) (fun c61 => ?_)
        · skip
          skip
          have OD : odC h52 y (oI c.toNat) := ⟨fun k a e => ((frm_r f53 (by omega))).trans (I3.1 k a e), I3.2⟩
          refine e_aload_n dX5_search_81 rfl ?_
          refine e_callV [] dX5_search_82 tm_5_130 rfl (Nat.le_of_ble_eq_true rfl) (congrArg Prod.fst (ma_s0 k55)) (Nat.le_of_ble_eq_true rfl) (Nat.le_refl _) (Nat.le_refl _) rfl (zp_X5_nextRow k55 H56 OD (fun v62 p63 h64 f65 p66 => ?_))
          have k67 := lk_q (frm_s f65) k55
          have H68 := isF_c f65 (fun a k q1 q2 => by omega) H56
          have H69 := bdC_c f65 (fun a k q => by omega) H57
          have H70 := mrC_c f65 (fun a k q => by omega) p54
          have FR71 := frm_t FR59 (frm_m (S' := (fun a k => a = y + 33 ∨ a = y + 34 ∨ a = y + 36 ∨ a = y + 37)) f65 (fun a k q => by omega))
          skip
          have NX : nxV (nd g) (nu g) (oI c.toNat) v62 := by assumption
          have nb := nxV_b NX
          obtain ⟨N', CK, NB, NF⟩ := ckP_n (by omega) I2 (by omega) NX
          refine e_istore_n (L' := [_, _, _, _, _, _]) dX5_search_85 (Nat.le_of_ble_eq_true rfl) rfl ?_
          refine z_iinc (L' := [_, _, _, _, _, _]) dX5_search_86 rfl rfl ?_
          refine e_goto 22 dX5_search_89 rfl ?_
          exact mEv_wk (by exact ⟨Or.inr rfl, Or.inr rfl, Or.inr rfl, Or.inr rfl, Or.inr rfl, Or.inl rfl, trivial⟩) (ih15 _ (by omega) l v62 (i + 1) ((cO (nxF (nd g) (nu g) (oI c.toNat)) : Nat) : Int) N' v h64 rfl k67 H68 H69 FR71 (by omega) CK (by rw [Int.toNat_natCast]; exact odC_e (oI_cO p66.2) p66) (fmax_skip (fmax_keep I4 (fun q => by rw [if_pos q] at I5; omega) (show wRr g 3 (dgZ N) ≤ wSr g 3 v by
                    have q : v ≠ -1 := fun q => by rw [if_pos q] at I5; omega
                    rw [if_neg q] at I5; omega)) (by omega) (fun k a e z => NF k (by omega) e z.1)) I5 (fun z d a e => (((frm_r f65 (by omega)).trans (frm_r f53 (by omega)))).trans (I6 z d a e)))
        · skip
          skip
          refine e_iload_n dX5_search_51 rfl ?_
          refine z_iconst (3) dX5_search_52 rfl ?_
          refine z_icmp_ne 63 dX5_search_53 rfl ⟨by omega, by omega⟩ ⟨by omega, by omega⟩ (fun c72 => ?_) (fun c72 => ?_)
          · exfalso; omega
          · skip
            refine e_aload_n dX5_search_56 rfl ?_
            refine e_callV [] dX5_search_57 tm_5_120 rfl (Nat.le_of_ble_eq_true rfl) (congrArg Prod.fst (ma_s0 k55)) (Nat.le_of_ble_eq_true rfl) (Nat.le_refl _) (Nat.le_refl _) rfl (zp_X5_stands k55 H56 H57 p54 (fun v73 p74 => ?_))
            have SV : stV g (dgZ N) v73 := by assumption
            have SB : v73 = 0 ∨ v73 = 1 := by rcases SV with q | q; exact Or.inr q.1; exact Or.inl q.1
            refine z_if_eq 81 dX5_search_60 rfl ⟨by omega, by omega⟩ (fun c75 => ?_) (fun c75 => ?_)
            · skip
              skip
              have SN : ¬ stn g (dgZ N) := by rcases SV with q | q; exact absurd q.1 (by omega); exact q.2
              have OD : odC h52 y (oI c.toNat) := ⟨fun k a e => ((frm_r f53 (by omega))).trans (I3.1 k a e), I3.2⟩
              refine e_aload_n dX5_search_81 rfl ?_
              refine e_callV [] dX5_search_82 tm_5_130 rfl (Nat.le_of_ble_eq_true rfl) (congrArg Prod.fst (ma_s0 k55)) (Nat.le_of_ble_eq_true rfl) (Nat.le_refl _) (Nat.le_refl _) rfl (zp_X5_nextRow k55 H56 OD (fun v76 p77 h78 f79 p80 => ?_))
              have k81 := lk_q (frm_s f79) k55
              have H82 := isF_c f79 (fun a k q1 q2 => by omega) H56
              have H83 := bdC_c f79 (fun a k q => by omega) H57
              have H84 := mrC_c f79 (fun a k q => by omega) p54
              have FR85 := frm_t FR59 (frm_m (S' := (fun a k => a = y + 33 ∨ a = y + 34 ∨ a = y + 36 ∨ a = y + 37)) f79 (fun a k q => by omega))
              skip
              have NX : nxV (nd g) (nu g) (oI c.toNat) v76 := by assumption
              have nb := nxV_b NX
              obtain ⟨N', CK, NB, NF⟩ := ckP_n (by omega) I2 (by omega) NX
              refine e_istore_n (L' := [_, _, _, _, _, _]) dX5_search_85 (Nat.le_of_ble_eq_true rfl) rfl ?_
              refine z_iinc (L' := [_, _, _, _, _, _]) dX5_search_86 rfl rfl ?_
              refine e_goto 22 dX5_search_89 rfl ?_
              exact mEv_wk (by exact ⟨Or.inr rfl, Or.inr rfl, Or.inr rfl, Or.inr rfl, Or.inr rfl, Or.inl rfl, trivial⟩) (ih15 _ (by omega) l v76 (i + 1) ((cO (nxF (nd g) (nu g) (oI c.toNat)) : Nat) : Int) N' v h78 rfl k81 H82 H83 FR85 (by omega) CK (by rw [Int.toNat_natCast]; exact odC_e (oI_cO p80.2) p80) (fmax_skip (fmax_no I4 (fun z => SN (z.2 rfl))) (by omega) (fun k a e z => NF k (by omega) e z.1)) I5 (fun z d a e => (((frm_r f79 (by omega)).trans (frm_r f53 (by omega)))).trans (I6 z d a e)))
            · skip
              skip
              have SN : stn g (dgZ N) := by rcases SV with q | q; exact q.2; exact absurd q.1 (by omega)
              refine e_iload dX5_search_63 rfl ?_
              refine e_istore_n (L' := [_, _, _, _, _, _]) dX5_search_65 (Nat.le_of_ble_eq_true rfl) rfl ?_
              have MR0 := p54
              refine e_aload_n dX5_search_66 rfl ?_
              refine e_get (.ref (y + 33)) dX5_search_67 tf_5_21 (congrArg Prod.fst (ma_s0 k55)) (congrArg va_rf (ma_r0_2 k55)) ?_
              refine z_iconst (0) dX5_search_70 rfl ?_
              refine e_aload_n dX5_search_71 rfl ?_
              refine e_get (.ref (y + 36)) dX5_search_72 tf_5_31 (congrArg Prod.fst (ma_s0 k55)) (congrArg va_rf (ma_r0_5 k55)) ?_
              refine z_iconst (0) dX5_search_75 rfl ?_
              refine z_bipush (6) dX5_search_76 rfl ?_
              refine z_cpy dX5_search_78 tm_5_124 (Nat.le_of_ble_eq_true rfl) (ma_s36 k55) (ma_s33 k55) (by decide) (by decide) (by omega) (by omega) (by omega) (by omega) (by omega) (fun h86 f87 e88 => ?_)
              have k89 := lk_q (frm_s f87) k55
              have H90 := isF_c f87 (fun a k q1 q2 => by omega) H56
              have H91 := bdC_c f87 (fun a k q => by omega) H57
              have H92 := mrC_c f87 (fun a k q => by omega) p54
              have FR93 := frm_t FR59 (frm_m (S' := (fun a k => a = y + 33 ∨ a = y + 34 ∨ a = y + 36 ∨ a = y + 37)) f87 (fun a k q => by omega))
              have CH : ∀ d : Int, 0 ≤ d → d < 6 → rI h86 (y + 36) d = dgZ N d := fun d a c => by
                rw [e88 d a, if_pos (by omega), show d - 0 + 0 = d by omega]
                exact MR0.2.1 d a c
              have OD : odC h86 y (oI c.toNat) := ⟨fun k a e => (((frm_r f87 (by omega)).trans (frm_r f53 (by omega)))).trans (I3.1 k a e), I3.2⟩
              refine e_aload_n dX5_search_81 rfl ?_
              refine e_callV [] dX5_search_82 tm_5_130 rfl (Nat.le_of_ble_eq_true rfl) (congrArg Prod.fst (ma_s0 k89)) (Nat.le_of_ble_eq_true rfl) (Nat.le_refl _) (Nat.le_refl _) rfl (zp_X5_nextRow k89 H90 OD (fun v94 p95 h96 f97 p98 => ?_))
              have k99 := lk_q (frm_s f97) k89
              have H100 := isF_c f97 (fun a k q1 q2 => by omega) H90
              have H101 := bdC_c f97 (fun a k q => by omega) H91
              have H102 := mrC_c f97 (fun a k q => by omega) H92
              have FR103 := frm_t FR93 (frm_m (S' := (fun a k => a = y + 33 ∨ a = y + 34 ∨ a = y + 36 ∨ a = y + 37)) f97 (fun a k q => by omega))
              skip
              have NX : nxV (nd g) (nu g) (oI c.toNat) v94 := by assumption
              have nb := nxV_b NX
              obtain ⟨N', CK, NB, NF⟩ := ckP_n (by omega) I2 (by omega) NX
              refine e_istore_n (L' := [_, _, _, _, _, _]) dX5_search_85 (Nat.le_of_ble_eq_true rfl) rfl ?_
              refine z_iinc (L' := [_, _, _, _, _, _]) dX5_search_86 rfl rfl ?_
              refine e_goto 22 dX5_search_89 rfl ?_
              exact mEv_wk (by exact ⟨Or.inr rfl, Or.inr rfl, Or.inr rfl, Or.inr rfl, Or.inr rfl, Or.inl rfl, trivial⟩) (ih15 _ (by omega) (-(wRr g 3 (dgZ N))) v94 (i + 1) ((cO (nxF (nd g) (nu g) (oI c.toNat)) : Nat) : Int) N' N h96 rfl k99 H100 H101 FR103 (by omega) CK (by rw [Int.toNat_natCast]; exact odC_e (oI_cO p98.2) p98) (fmax_skip (fmax_new I4 (by omega) ⟨RK.1, (fun _ => SN)⟩ (by
                        by_cases q : v = -1
                        · exact Or.inl q
                        · rw [if_neg q] at I5; exact Or.inr (show wSr g 3 v < wRr g 3 (dgZ N) by omega))) (by omega) (fun k a e z => NF k (by omega) e z.1)) (by rw [if_neg (by omega)]; rfl) (fun _ d a e => ((frm_r f97 (by omega))).trans (CH d a e)))
  exact lp15 _ 1000 1 0 ((cO (bgF (nu g)) : Nat) : Int) N0 (-1) h8 rfl k11 H12 H13 FR14 (by omega) C0 (by rw [Int.toNat_natCast]; exact odC_e (oI_cO OB.2) OB) (Or.inl ⟨rfl, fun k a e z => Z0 k a e z.1⟩) (by rw [if_pos rfl]) (fun z => absurd rfl z)
set_option maxHeartbeats 4000000 in
theorem zp_X5_search_4 {ad : mA} {dd : Nat} {h : mH} {Q : mQ} {y : Nat} {g : Int → Int} (hk : mak h y) (HF : isF h (y + 1) g) (HD : bdC h y g)    (kq : ∀ v : Int, (∃ k, srP g 4 k ∧ v = -(wSr g 4 k)) → ∀ h1, frm (fun a k => a = y + 33 ∨ a = y + 34 ∨ a = y + 36 ∨ a = y + 37) h h1 → (∃ k, srP g 4 k ∧ mrC h1 y g (dgZ k)) → Q (some (.int (zI v))) h1) : mCal TB0 ad (dd + 4) M_X5_search [.ref y, .int (zI 4)] h 0 0 Q := by
  refine ⟨Nat.le_of_ble_eq_true rfl, ?_⟩
  show mEv TB0 ad M_X5_search (dd + 4) (0, 0) (mCal TB0 ad (dd + 3)) (fun v h' z => z.1 = 0 ∧ Q v h') 0 [some (.ref y), some (.int (zI 4)), none, none, none, none] [] h (0, 0)
  have FR0 : frm (fun a k => a = y + 33 ∨ a = y + 34 ∨ a = y + 36 ∨ a = y + 37) h h := frm_0 h
  have w1 := isF_n HF
  have W := isF_w HF
  refine z_sipush (1000) dX5_search_0 rfl ?_
  refine e_istore_n (L' := [_, _, _, _, _, _]) dX5_search_3 (Nat.le_of_ble_eq_true rfl) rfl ?_
  refine e_aload_n dX5_search_4 rfl ?_
  refine e_get (.ref (y + 36)) dX5_search_5 tf_5_31 (congrArg Prod.fst (ma_s0 hk)) (congrArg va_rf (ma_r0_5 hk)) ?_
  refine z_bipush (6) dX5_search_8 rfl ?_
  refine e_callS [.ref _, .int _] dX5_search_10 tm_5_74 rfl (Nat.le_of_ble_eq_true rfl) (Nat.le_refl _) (Nat.le_refl _) rfl (zp_fill (ma_s36 hk) (by decide) ⟨by omega, by omega⟩ (fun h1 f2 e3 => ?_))
  have k4 := lk_q (frm_s f2) hk
  have H5 := isF_c f2 (fun a k q1 q2 => by omega) HF
  have H6 := bdC_c f2 (fun a k q => by omega) HD
  have FR7 := frm_t FR0 (frm_m (S' := (fun a k => a = y + 33 ∨ a = y + 34 ∨ a = y + 36 ∨ a = y + 37)) f2 (fun a k q => by omega))
  refine e_aload_n dX5_search_13 rfl ?_
  refine e_callV [] dX5_search_14 tm_5_111 rfl (Nat.le_of_ble_eq_true rfl) (congrArg Prod.fst (ma_s0 k4)) (Nat.le_of_ble_eq_true rfl) (Nat.le_refl _) (Nat.le_refl _) rfl (zp_X5_beginRows k4 H5 (fun  h8 f9 p10 => ?_))
  have k11 := lk_q (frm_s f9) k4
  have H12 := isF_c f9 (fun a k q1 q2 => by omega) H5
  have H13 := bdC_c f9 (fun a k q => by omega) H6
  have FR14 := frm_t FR7 (frm_m (S' := (fun a k => a = y + 33 ∨ a = y + 34 ∨ a = y + 36 ∨ a = y + 37)) f9 (fun a k q => by omega))
  obtain ⟨N0, C0, Z0⟩ := ckP_0 (g := g) (by omega)
  have OB := p10
  refine z_iconst (1) dX5_search_17 rfl ?_
  refine e_istore_n (L' := [_, _, _, _, _, _]) dX5_search_18 (Nat.le_of_ble_eq_true rfl) rfl ?_
  refine z_iconst (0) dX5_search_19 rfl ?_
  refine e_istore (L' := [_, _, _, _, _, _]) dX5_search_20 (Nat.le_of_ble_eq_true rfl) rfl ?_
  have lp15 : ∀ (n15 : Nat) (l b i c N v : Int) (h15 : mH), (720 - i).toNat = n15 → (mak h15 y) → (isF h15 (y + 1) g) → (bdC h15 y g) → (frm (fun a k => a = y + 33 ∨ a = y + 34 ∨ a = y + 36 ∨ a = y + 37) h h15) → (0 ≤ i ∧ i ≤ 720) → (ckP g i c N b) → (odC h15 y (oI c.toNat)) → (fmax (pSr g 4) (wSr g 4) N v) → (l = if v = -1 then 1000 else -(wSr g 4 v)) → (v ≠ -1 → ∀ d : Int, 0 ≤ d → d < 6 → rI h15 (y + 36) d = dgZ v d) → mEv TB0 ad M_X5_search (dd + 4) (0, 0) (mCal TB0 ad (dd + 3)) (fun v h' z => z.1 = 0 ∧ Q v h') 22 [some (.ref y), some (.int (zI 4)), some (.int (zI l)), some (.int (zI b)), some (.int (zI i)), none] [] h15 (0, 0) := by
    intro n15
    induction n15 using Nat.strongRecOn with
    | ind n15 ih15 =>
    intro l b i c N v h15 hn15 k16 H17 H18 FR19 I1 I2 I3 I4 I5 I6
    refine e_iload dX5_search_22 rfl ?_
    have KB := ckP_b I2
    have vb := fmax_b I4
    have WB := WR_b (show 0 ≤ nd g ∧ nd g ≤ 6 by omega) 4 (dgZ v)
    have WB : -999 ≤ wSr g 4 v ∧ wSr g 4 v ≤ 1000000 := WB
    have LB : -1000000 ≤ l ∧ l ≤ 1000 := by
      by_cases q : v = -1
      · rw [if_pos q] at I5; omega
      · rw [if_neg q] at I5; omega
    refine z_sipush (720) dX5_search_24 rfl ?_
    refine z_icmp_ge 92 dX5_search_27 rfl ⟨by omega, by omega⟩ ⟨by omega, by omega⟩ (fun c20 => ?_) (fun c20 => ?_)
    · skip
      have FF : fmax (pSr g 4) (wSr g 4) 117649 v := by rw [show (117649 : Int) = N by omega]; exact I4
      have vx : v ≠ -1 := fun q => by
        obtain ⟨k, k1, k2⟩ := pSr_ex (g := g) (by omega) 4
        rcases FF with z | z
        · exact z.2 k k1.1 k1.2 k2
        · omega
      have PV := fmax_p FF vx
      refine e_aload_n dX5_search_92 rfl ?_
      refine e_get (.ref (y + 36)) dX5_search_93 tf_5_31 (congrArg Prod.fst (ma_s0 k16)) (congrArg va_rf (ma_r0_5 k16)) ?_
      refine z_iconst (0) dX5_search_96 rfl ?_
      refine e_aload_n dX5_search_97 rfl ?_
      refine e_get (.ref (y + 37)) dX5_search_98 tf_5_34 (congrArg Prod.fst (ma_s0 k16)) (congrArg va_rf (ma_r0_6 k16)) ?_
      refine z_iconst (0) dX5_search_101 rfl ?_
      refine z_bipush (6) dX5_search_102 rfl ?_
      refine z_cpy dX5_search_104 tm_5_124 (Nat.le_of_ble_eq_true rfl) (ma_s37 k16) (ma_s36 k16) (by decide) (by decide) (by omega) (by omega) (by omega) (by omega) (by omega) (fun h21 f22 e23 => ?_)
      have k24 := lk_q (frm_s f22) k16
      have H25 := isF_c f22 (fun a k q1 q2 => by omega) H17
      have H26 := bdC_c f22 (fun a k q => by omega) H18
      have FR27 := frm_t FR19 (frm_m (S' := (fun a k => a = y + 33 ∨ a = y + 34 ∨ a = y + 36 ∨ a = y + 37)) f22 (fun a k q => by omega))
      have OR : ∀ d : Int, 0 ≤ d → d < 6 → rI h21 (y + 37) d = dgZ v d := fun d a c => by
        rw [e23 d a, if_pos (by omega), show d - 0 + 0 = d by omega]
        exact I6 vx d a c
      refine e_aload_n dX5_search_107 rfl ?_
      have OC2 : orC h21 y g (dgZ v) := ⟨PV.1.1, fun d a e => OR d a (by omega)⟩
      refine e_callV [] dX5_search_108 tm_5_114 rfl (Nat.le_of_ble_eq_true rfl) (congrArg Prod.fst (ma_s0 k24)) (Nat.le_of_ble_eq_true rfl) (Nat.le_refl _) (Nat.le_refl _) rfl (zp_X5_takeRow k24 H25 OC2 (fun  h28 f29 p30 => ?_))
      have k31 := lk_q (frm_s f29) k24
      have H32 := isF_c f29 (fun a k q1 q2 => by omega) H25
      have H33 := bdC_c f29 (fun a k q => by omega) H26
      have H34 := orC_c f29 (fun a k q => by omega) OC2
      have FR35 := frm_t FR27 (frm_m (S' := (fun a k => a = y + 33 ∨ a = y + 34 ∨ a = y + 36 ∨ a = y + 37)) f29 (fun a k q => by omega))
      refine e_iload_n dX5_search_111 rfl ?_
      refine z_iret dX5_search_112 rfl ⟨rfl, ?_⟩
      exact kq _ ⟨v, ⟨vx, FF⟩, by rw [I5, if_neg vx]⟩ _ FR35 ⟨v, ⟨vx, FF⟩, p30⟩
    · skip
      refine e_iload_n dX5_search_30 rfl ?_
      refine z_if_eq 92 dX5_search_31 rfl ⟨by omega, by omega⟩ (fun c36 => ?_) (fun c36 => ?_)
      · skip
        have FF : fmax (pSr g 4) (wSr g 4) 117649 v := by rw [show (117649 : Int) = N by omega]; exact I4
        have vx : v ≠ -1 := fun q => by
          obtain ⟨k, k1, k2⟩ := pSr_ex (g := g) (by omega) 4
          rcases FF with z | z
          · exact z.2 k k1.1 k1.2 k2
          · omega
        have PV := fmax_p FF vx
        refine e_aload_n dX5_search_92 rfl ?_
        refine e_get (.ref (y + 36)) dX5_search_93 tf_5_31 (congrArg Prod.fst (ma_s0 k16)) (congrArg va_rf (ma_r0_5 k16)) ?_
        refine z_iconst (0) dX5_search_96 rfl ?_
        refine e_aload_n dX5_search_97 rfl ?_
        refine e_get (.ref (y + 37)) dX5_search_98 tf_5_34 (congrArg Prod.fst (ma_s0 k16)) (congrArg va_rf (ma_r0_6 k16)) ?_
        refine z_iconst (0) dX5_search_101 rfl ?_
        refine z_bipush (6) dX5_search_102 rfl ?_
        refine z_cpy dX5_search_104 tm_5_124 (Nat.le_of_ble_eq_true rfl) (ma_s37 k16) (ma_s36 k16) (by decide) (by decide) (by omega) (by omega) (by omega) (by omega) (by omega) (fun h37 f38 e39 => ?_)
        have k40 := lk_q (frm_s f38) k16
        have H41 := isF_c f38 (fun a k q1 q2 => by omega) H17
        have H42 := bdC_c f38 (fun a k q => by omega) H18
        have FR43 := frm_t FR19 (frm_m (S' := (fun a k => a = y + 33 ∨ a = y + 34 ∨ a = y + 36 ∨ a = y + 37)) f38 (fun a k q => by omega))
        have OR : ∀ d : Int, 0 ≤ d → d < 6 → rI h37 (y + 37) d = dgZ v d := fun d a c => by
          rw [e39 d a, if_pos (by omega), show d - 0 + 0 = d by omega]
          exact I6 vx d a c
        refine e_aload_n dX5_search_107 rfl ?_
        have OC2 : orC h37 y g (dgZ v) := ⟨PV.1.1, fun d a e => OR d a (by omega)⟩
        refine e_callV [] dX5_search_108 tm_5_114 rfl (Nat.le_of_ble_eq_true rfl) (congrArg Prod.fst (ma_s0 k40)) (Nat.le_of_ble_eq_true rfl) (Nat.le_refl _) (Nat.le_refl _) rfl (zp_X5_takeRow k40 H41 OC2 (fun  h44 f45 p46 => ?_))
        have k47 := lk_q (frm_s f45) k40
        have H48 := isF_c f45 (fun a k q1 q2 => by omega) H41
        have H49 := bdC_c f45 (fun a k q => by omega) H42
        have H50 := orC_c f45 (fun a k q => by omega) OC2
        have FR51 := frm_t FR43 (frm_m (S' := (fun a k => a = y + 33 ∨ a = y + 34 ∨ a = y + 36 ∨ a = y + 37)) f45 (fun a k q => by omega))
        refine e_iload_n dX5_search_111 rfl ?_
        refine z_iret dX5_search_112 rfl ⟨rfl, ?_⟩
        exact kq _ ⟨v, ⟨vx, FF⟩, by rw [I5, if_neg vx]⟩ _ FR51 ⟨v, ⟨vx, FF⟩, p46⟩
      · skip
        refine e_aload_n dX5_search_34 rfl ?_
        have RK := ckP_r (by omega) I2 (by omega)
        have OC : orC h15 y g (dgZ N) := ⟨RK.1.1, fun d a e => (I3.1 d a (by omega)).trans (RK.2 d a e)⟩
        refine e_callV [] dX5_search_35 tm_5_114 rfl (Nat.le_of_ble_eq_true rfl) (congrArg Prod.fst (ma_s0 k16)) (Nat.le_of_ble_eq_true rfl) (Nat.le_refl _) (Nat.le_refl _) rfl (zp_X5_takeRow k16 H17 OC (fun  h52 f53 p54 => ?_))
        have k55 := lk_q (frm_s f53) k16
        have H56 := isF_c f53 (fun a k q1 q2 => by omega) H17
        have H57 := bdC_c f53 (fun a k q => by omega) H18
        have H58 := orC_c f53 (fun a k q => by omega) OC
        have FR59 := frm_t FR19 (frm_m (S' := (fun a k => a = y + 33 ∨ a = y + 34 ∨ a = y + 36 ∨ a = y + 37)) f53 (fun a k q => by omega))
        skip
        refine e_aload_n dX5_search_38 rfl ?_
        refine e_iload_n dX5_search_39 rfl ?_
        refine e_callV [.int _] dX5_search_40 tm_5_117 rfl (Nat.le_of_ble_eq_true rfl) (congrArg Prod.fst (ma_s0 k55)) (Nat.le_of_ble_eq_true rfl) (Nat.le_refl _) (Nat.le_refl _) rfl (zp_X5_score_4 k55 H56 H57 p54 ?_)
        have y60 := WR_b (show 0 ≤ nd g ∧ nd g ≤ 6 by omega) 4 (dgZ N)
        refine e_istore (L' := [_, _, _, _, _, _]) dX5_search_43 (Nat.le_of_ble_eq_true rfl) rfl ?_
        refine e_iload dX5_search_45 rfl ?_
        refine e_iload_n dX5_search_47 rfl ?_
        refine z_icmp_ge 81 dX5_search_48 rfl ⟨by omega, by omega⟩ ⟨by omega, by omega⟩ (fun c61 => ?_) (fun c61 => ?_)
        · skip
          skip
          have OD : odC h52 y (oI c.toNat) := ⟨fun k a e => ((frm_r f53 (by omega))).trans (I3.1 k a e), I3.2⟩
          refine e_aload_n dX5_search_81 rfl ?_
          refine e_callV [] dX5_search_82 tm_5_130 rfl (Nat.le_of_ble_eq_true rfl) (congrArg Prod.fst (ma_s0 k55)) (Nat.le_of_ble_eq_true rfl) (Nat.le_refl _) (Nat.le_refl _) rfl (zp_X5_nextRow k55 H56 OD (fun v62 p63 h64 f65 p66 => ?_))
          have k67 := lk_q (frm_s f65) k55
          have H68 := isF_c f65 (fun a k q1 q2 => by omega) H56
          have H69 := bdC_c f65 (fun a k q => by omega) H57
          have H70 := mrC_c f65 (fun a k q => by omega) p54
          have FR71 := frm_t FR59 (frm_m (S' := (fun a k => a = y + 33 ∨ a = y + 34 ∨ a = y + 36 ∨ a = y + 37)) f65 (fun a k q => by omega))
          skip
          have NX : nxV (nd g) (nu g) (oI c.toNat) v62 := by assumption
          have nb := nxV_b NX
          obtain ⟨N', CK, NB, NF⟩ := ckP_n (by omega) I2 (by omega) NX
          refine e_istore_n (L' := [_, _, _, _, _, _]) dX5_search_85 (Nat.le_of_ble_eq_true rfl) rfl ?_
          refine z_iinc (L' := [_, _, _, _, _, _]) dX5_search_86 rfl rfl ?_
          refine e_goto 22 dX5_search_89 rfl ?_
          exact mEv_wk (by exact ⟨Or.inr rfl, Or.inr rfl, Or.inr rfl, Or.inr rfl, Or.inr rfl, Or.inl rfl, trivial⟩) (ih15 _ (by omega) l v62 (i + 1) ((cO (nxF (nd g) (nu g) (oI c.toNat)) : Nat) : Int) N' v h64 rfl k67 H68 H69 FR71 (by omega) CK (by rw [Int.toNat_natCast]; exact odC_e (oI_cO p66.2) p66) (fmax_skip (fmax_keep I4 (fun q => by rw [if_pos q] at I5; omega) (show wRr g 4 (dgZ N) ≤ wSr g 4 v by
                    have q : v ≠ -1 := fun q => by rw [if_pos q] at I5; omega
                    rw [if_neg q] at I5; omega)) (by omega) (fun k a e z => NF k (by omega) e z.1)) I5 (fun z d a e => (((frm_r f65 (by omega)).trans (frm_r f53 (by omega)))).trans (I6 z d a e)))
        · skip
          skip
          refine e_iload_n dX5_search_51 rfl ?_
          refine z_iconst (3) dX5_search_52 rfl ?_
          refine z_icmp_ne 63 dX5_search_53 rfl ⟨by omega, by omega⟩ ⟨by omega, by omega⟩ (fun c72 => ?_) (fun c72 => ?_)
          · skip
            refine e_iload dX5_search_63 rfl ?_
            refine e_istore_n (L' := [_, _, _, _, _, _]) dX5_search_65 (Nat.le_of_ble_eq_true rfl) rfl ?_
            have MR0 := p54
            refine e_aload_n dX5_search_66 rfl ?_
            refine e_get (.ref (y + 33)) dX5_search_67 tf_5_21 (congrArg Prod.fst (ma_s0 k55)) (congrArg va_rf (ma_r0_2 k55)) ?_
            refine z_iconst (0) dX5_search_70 rfl ?_
            refine e_aload_n dX5_search_71 rfl ?_
            refine e_get (.ref (y + 36)) dX5_search_72 tf_5_31 (congrArg Prod.fst (ma_s0 k55)) (congrArg va_rf (ma_r0_5 k55)) ?_
            refine z_iconst (0) dX5_search_75 rfl ?_
            refine z_bipush (6) dX5_search_76 rfl ?_
            refine z_cpy dX5_search_78 tm_5_124 (Nat.le_of_ble_eq_true rfl) (ma_s36 k55) (ma_s33 k55) (by decide) (by decide) (by omega) (by omega) (by omega) (by omega) (by omega) (fun h73 f74 e75 => ?_)
            have k76 := lk_q (frm_s f74) k55
            have H77 := isF_c f74 (fun a k q1 q2 => by omega) H56
            have H78 := bdC_c f74 (fun a k q => by omega) H57
            have H79 := mrC_c f74 (fun a k q => by omega) p54
            have FR80 := frm_t FR59 (frm_m (S' := (fun a k => a = y + 33 ∨ a = y + 34 ∨ a = y + 36 ∨ a = y + 37)) f74 (fun a k q => by omega))
            have CH : ∀ d : Int, 0 ≤ d → d < 6 → rI h73 (y + 36) d = dgZ N d := fun d a c => by
              rw [e75 d a, if_pos (by omega), show d - 0 + 0 = d by omega]
              exact MR0.2.1 d a c
            have OD : odC h73 y (oI c.toNat) := ⟨fun k a e => (((frm_r f74 (by omega)).trans (frm_r f53 (by omega)))).trans (I3.1 k a e), I3.2⟩
            refine e_aload_n dX5_search_81 rfl ?_
            refine e_callV [] dX5_search_82 tm_5_130 rfl (Nat.le_of_ble_eq_true rfl) (congrArg Prod.fst (ma_s0 k76)) (Nat.le_of_ble_eq_true rfl) (Nat.le_refl _) (Nat.le_refl _) rfl (zp_X5_nextRow k76 H77 OD (fun v81 p82 h83 f84 p85 => ?_))
            have k86 := lk_q (frm_s f84) k76
            have H87 := isF_c f84 (fun a k q1 q2 => by omega) H77
            have H88 := bdC_c f84 (fun a k q => by omega) H78
            have H89 := mrC_c f84 (fun a k q => by omega) H79
            have FR90 := frm_t FR80 (frm_m (S' := (fun a k => a = y + 33 ∨ a = y + 34 ∨ a = y + 36 ∨ a = y + 37)) f84 (fun a k q => by omega))
            skip
            have NX : nxV (nd g) (nu g) (oI c.toNat) v81 := by assumption
            have nb := nxV_b NX
            obtain ⟨N', CK, NB, NF⟩ := ckP_n (by omega) I2 (by omega) NX
            refine e_istore_n (L' := [_, _, _, _, _, _]) dX5_search_85 (Nat.le_of_ble_eq_true rfl) rfl ?_
            refine z_iinc (L' := [_, _, _, _, _, _]) dX5_search_86 rfl rfl ?_
            refine e_goto 22 dX5_search_89 rfl ?_
            exact mEv_wk (by exact ⟨Or.inr rfl, Or.inr rfl, Or.inr rfl, Or.inr rfl, Or.inr rfl, Or.inl rfl, trivial⟩) (ih15 _ (by omega) (-(wRr g 4 (dgZ N))) v81 (i + 1) ((cO (nxF (nd g) (nu g) (oI c.toNat)) : Nat) : Int) N' N h83 rfl k86 H87 H88 FR90 (by omega) CK (by rw [Int.toNat_natCast]; exact odC_e (oI_cO p85.2) p85) (fmax_skip (fmax_new I4 (by omega) ⟨RK.1, (fun z => absurd z (by omega))⟩ (by
                      by_cases q : v = -1
                      · exact Or.inl q
                      · rw [if_neg q] at I5; exact Or.inr (show wSr g 4 v < wRr g 4 (dgZ N) by omega))) (by omega) (fun k a e z => NF k (by omega) e z.1)) (by rw [if_neg (by omega)]; rfl) (fun _ d a e => ((frm_r f84 (by omega))).trans (CH d a e)))
          · exfalso; omega
  exact lp15 _ 1000 1 0 ((cO (bgF (nu g)) : Nat) : Int) N0 (-1) h8 rfl k11 H12 H13 FR14 (by omega) C0 (by rw [Int.toNat_natCast]; exact odC_e (oI_cO OB.2) OB) (Or.inl ⟨rfl, fun k a e z => Z0 k a e z.1⟩) (by rw [if_pos rfl]) (fun z => absurd rfl z)
set_option maxHeartbeats 4000000 in
theorem zp_X5_search_5 {ad : mA} {dd : Nat} {h : mH} {Q : mQ} {y : Nat} {g : Int → Int} (hk : mak h y) (HF : isF h (y + 1) g) (HD : bdC h y g)    (kq : ∀ v : Int, (∃ k, srP g 5 k ∧ v = -(wSr g 5 k)) → ∀ h1, frm (fun a k => a = y + 33 ∨ a = y + 34 ∨ a = y + 36 ∨ a = y + 37) h h1 → (∃ k, srP g 5 k ∧ mrC h1 y g (dgZ k)) → Q (some (.int (zI v))) h1) : mCal TB0 ad (dd + 4) M_X5_search [.ref y, .int (zI 5)] h 0 0 Q := by
  refine ⟨Nat.le_of_ble_eq_true rfl, ?_⟩
  show mEv TB0 ad M_X5_search (dd + 4) (0, 0) (mCal TB0 ad (dd + 3)) (fun v h' z => z.1 = 0 ∧ Q v h') 0 [some (.ref y), some (.int (zI 5)), none, none, none, none] [] h (0, 0)
  have FR0 : frm (fun a k => a = y + 33 ∨ a = y + 34 ∨ a = y + 36 ∨ a = y + 37) h h := frm_0 h
  have w1 := isF_n HF
  have W := isF_w HF
  refine z_sipush (1000) dX5_search_0 rfl ?_
  refine e_istore_n (L' := [_, _, _, _, _, _]) dX5_search_3 (Nat.le_of_ble_eq_true rfl) rfl ?_
  refine e_aload_n dX5_search_4 rfl ?_
  refine e_get (.ref (y + 36)) dX5_search_5 tf_5_31 (congrArg Prod.fst (ma_s0 hk)) (congrArg va_rf (ma_r0_5 hk)) ?_
  refine z_bipush (6) dX5_search_8 rfl ?_
  refine e_callS [.ref _, .int _] dX5_search_10 tm_5_74 rfl (Nat.le_of_ble_eq_true rfl) (Nat.le_refl _) (Nat.le_refl _) rfl (zp_fill (ma_s36 hk) (by decide) ⟨by omega, by omega⟩ (fun h1 f2 e3 => ?_))
  have k4 := lk_q (frm_s f2) hk
  have H5 := isF_c f2 (fun a k q1 q2 => by omega) HF
  have H6 := bdC_c f2 (fun a k q => by omega) HD
  have FR7 := frm_t FR0 (frm_m (S' := (fun a k => a = y + 33 ∨ a = y + 34 ∨ a = y + 36 ∨ a = y + 37)) f2 (fun a k q => by omega))
  refine e_aload_n dX5_search_13 rfl ?_
  refine e_callV [] dX5_search_14 tm_5_111 rfl (Nat.le_of_ble_eq_true rfl) (congrArg Prod.fst (ma_s0 k4)) (Nat.le_of_ble_eq_true rfl) (Nat.le_refl _) (Nat.le_refl _) rfl (zp_X5_beginRows k4 H5 (fun  h8 f9 p10 => ?_))
  have k11 := lk_q (frm_s f9) k4
  have H12 := isF_c f9 (fun a k q1 q2 => by omega) H5
  have H13 := bdC_c f9 (fun a k q => by omega) H6
  have FR14 := frm_t FR7 (frm_m (S' := (fun a k => a = y + 33 ∨ a = y + 34 ∨ a = y + 36 ∨ a = y + 37)) f9 (fun a k q => by omega))
  obtain ⟨N0, C0, Z0⟩ := ckP_0 (g := g) (by omega)
  have OB := p10
  refine z_iconst (1) dX5_search_17 rfl ?_
  refine e_istore_n (L' := [_, _, _, _, _, _]) dX5_search_18 (Nat.le_of_ble_eq_true rfl) rfl ?_
  refine z_iconst (0) dX5_search_19 rfl ?_
  refine e_istore (L' := [_, _, _, _, _, _]) dX5_search_20 (Nat.le_of_ble_eq_true rfl) rfl ?_
  have lp15 : ∀ (n15 : Nat) (l b i c N v : Int) (h15 : mH), (720 - i).toNat = n15 → (mak h15 y) → (isF h15 (y + 1) g) → (bdC h15 y g) → (frm (fun a k => a = y + 33 ∨ a = y + 34 ∨ a = y + 36 ∨ a = y + 37) h h15) → (0 ≤ i ∧ i ≤ 720) → (ckP g i c N b) → (odC h15 y (oI c.toNat)) → (fmax (pSr g 5) (wSr g 5) N v) → (l = if v = -1 then 1000 else -(wSr g 5 v)) → (v ≠ -1 → ∀ d : Int, 0 ≤ d → d < 6 → rI h15 (y + 36) d = dgZ v d) → mEv TB0 ad M_X5_search (dd + 4) (0, 0) (mCal TB0 ad (dd + 3)) (fun v h' z => z.1 = 0 ∧ Q v h') 22 [some (.ref y), some (.int (zI 5)), some (.int (zI l)), some (.int (zI b)), some (.int (zI i)), none] [] h15 (0, 0) := by
    intro n15
    induction n15 using Nat.strongRecOn with
    | ind n15 ih15 =>
    intro l b i c N v h15 hn15 k16 H17 H18 FR19 I1 I2 I3 I4 I5 I6
    refine e_iload dX5_search_22 rfl ?_
    have KB := ckP_b I2
    have vb := fmax_b I4
    have WB := WR_b (show 0 ≤ nd g ∧ nd g ≤ 6 by omega) 5 (dgZ v)
    have WB : -999 ≤ wSr g 5 v ∧ wSr g 5 v ≤ 1000000 := WB
    have LB : -1000000 ≤ l ∧ l ≤ 1000 := by
      by_cases q : v = -1
      · rw [if_pos q] at I5; omega
      · rw [if_neg q] at I5; omega
    refine z_sipush (720) dX5_search_24 rfl ?_
    refine z_icmp_ge 92 dX5_search_27 rfl ⟨by omega, by omega⟩ ⟨by omega, by omega⟩ (fun c20 => ?_) (fun c20 => ?_)
    · skip
      have FF : fmax (pSr g 5) (wSr g 5) 117649 v := by rw [show (117649 : Int) = N by omega]; exact I4
      have vx : v ≠ -1 := fun q => by
        obtain ⟨k, k1, k2⟩ := pSr_ex (g := g) (by omega) 5
        rcases FF with z | z
        · exact z.2 k k1.1 k1.2 k2
        · omega
      have PV := fmax_p FF vx
      refine e_aload_n dX5_search_92 rfl ?_
      refine e_get (.ref (y + 36)) dX5_search_93 tf_5_31 (congrArg Prod.fst (ma_s0 k16)) (congrArg va_rf (ma_r0_5 k16)) ?_
      refine z_iconst (0) dX5_search_96 rfl ?_
      refine e_aload_n dX5_search_97 rfl ?_
      refine e_get (.ref (y + 37)) dX5_search_98 tf_5_34 (congrArg Prod.fst (ma_s0 k16)) (congrArg va_rf (ma_r0_6 k16)) ?_
      refine z_iconst (0) dX5_search_101 rfl ?_
      refine z_bipush (6) dX5_search_102 rfl ?_
      refine z_cpy dX5_search_104 tm_5_124 (Nat.le_of_ble_eq_true rfl) (ma_s37 k16) (ma_s36 k16) (by decide) (by decide) (by omega) (by omega) (by omega) (by omega) (by omega) (fun h21 f22 e23 => ?_)
      have k24 := lk_q (frm_s f22) k16
      have H25 := isF_c f22 (fun a k q1 q2 => by omega) H17
      have H26 := bdC_c f22 (fun a k q => by omega) H18
      have FR27 := frm_t FR19 (frm_m (S' := (fun a k => a = y + 33 ∨ a = y + 34 ∨ a = y + 36 ∨ a = y + 37)) f22 (fun a k q => by omega))
      have OR : ∀ d : Int, 0 ≤ d → d < 6 → rI h21 (y + 37) d = dgZ v d := fun d a c => by
        rw [e23 d a, if_pos (by omega), show d - 0 + 0 = d by omega]
        exact I6 vx d a c
      refine e_aload_n dX5_search_107 rfl ?_
      have OC2 : orC h21 y g (dgZ v) := ⟨PV.1.1, fun d a e => OR d a (by omega)⟩
      refine e_callV [] dX5_search_108 tm_5_114 rfl (Nat.le_of_ble_eq_true rfl) (congrArg Prod.fst (ma_s0 k24)) (Nat.le_of_ble_eq_true rfl) (Nat.le_refl _) (Nat.le_refl _) rfl (zp_X5_takeRow k24 H25 OC2 (fun  h28 f29 p30 => ?_))
      have k31 := lk_q (frm_s f29) k24
      have H32 := isF_c f29 (fun a k q1 q2 => by omega) H25
      have H33 := bdC_c f29 (fun a k q => by omega) H26
      have H34 := orC_c f29 (fun a k q => by omega) OC2
      have FR35 := frm_t FR27 (frm_m (S' := (fun a k => a = y + 33 ∨ a = y + 34 ∨ a = y + 36 ∨ a = y + 37)) f29 (fun a k q => by omega))
      refine e_iload_n dX5_search_111 rfl ?_
      refine z_iret dX5_search_112 rfl ⟨rfl, ?_⟩
      exact kq _ ⟨v, ⟨vx, FF⟩, by rw [I5, if_neg vx]⟩ _ FR35 ⟨v, ⟨vx, FF⟩, p30⟩
    · skip
      refine e_iload_n dX5_search_30 rfl ?_
      refine z_if_eq 92 dX5_search_31 rfl ⟨by omega, by omega⟩ (fun c36 => ?_) (fun c36 => ?_)
      · skip
        have FF : fmax (pSr g 5) (wSr g 5) 117649 v := by rw [show (117649 : Int) = N by omega]; exact I4
        have vx : v ≠ -1 := fun q => by
          obtain ⟨k, k1, k2⟩ := pSr_ex (g := g) (by omega) 5
          rcases FF with z | z
          · exact z.2 k k1.1 k1.2 k2
          · omega
        have PV := fmax_p FF vx
        refine e_aload_n dX5_search_92 rfl ?_
        refine e_get (.ref (y + 36)) dX5_search_93 tf_5_31 (congrArg Prod.fst (ma_s0 k16)) (congrArg va_rf (ma_r0_5 k16)) ?_
        refine z_iconst (0) dX5_search_96 rfl ?_
        refine e_aload_n dX5_search_97 rfl ?_
        refine e_get (.ref (y + 37)) dX5_search_98 tf_5_34 (congrArg Prod.fst (ma_s0 k16)) (congrArg va_rf (ma_r0_6 k16)) ?_
        refine z_iconst (0) dX5_search_101 rfl ?_
        refine z_bipush (6) dX5_search_102 rfl ?_
        refine z_cpy dX5_search_104 tm_5_124 (Nat.le_of_ble_eq_true rfl) (ma_s37 k16) (ma_s36 k16) (by decide) (by decide) (by omega) (by omega) (by omega) (by omega) (by omega) (fun h37 f38 e39 => ?_)
        have k40 := lk_q (frm_s f38) k16
        have H41 := isF_c f38 (fun a k q1 q2 => by omega) H17
        have H42 := bdC_c f38 (fun a k q => by omega) H18
        have FR43 := frm_t FR19 (frm_m (S' := (fun a k => a = y + 33 ∨ a = y + 34 ∨ a = y + 36 ∨ a = y + 37)) f38 (fun a k q => by omega))
        have OR : ∀ d : Int, 0 ≤ d → d < 6 → rI h37 (y + 37) d = dgZ v d := fun d a c => by
          rw [e39 d a, if_pos (by omega), show d - 0 + 0 = d by omega]
          exact I6 vx d a c
        refine e_aload_n dX5_search_107 rfl ?_
        have OC2 : orC h37 y g (dgZ v) := ⟨PV.1.1, fun d a e => OR d a (by omega)⟩
        refine e_callV [] dX5_search_108 tm_5_114 rfl (Nat.le_of_ble_eq_true rfl) (congrArg Prod.fst (ma_s0 k40)) (Nat.le_of_ble_eq_true rfl) (Nat.le_refl _) (Nat.le_refl _) rfl (zp_X5_takeRow k40 H41 OC2 (fun  h44 f45 p46 => ?_))
        have k47 := lk_q (frm_s f45) k40
        have H48 := isF_c f45 (fun a k q1 q2 => by omega) H41
        have H49 := bdC_c f45 (fun a k q => by omega) H42
        have H50 := orC_c f45 (fun a k q => by omega) OC2
        have FR51 := frm_t FR43 (frm_m (S' := (fun a k => a = y + 33 ∨ a = y + 34 ∨ a = y + 36 ∨ a = y + 37)) f45 (fun a k q => by omega))
        refine e_iload_n dX5_search_111 rfl ?_
        refine z_iret dX5_search_112 rfl ⟨rfl, ?_⟩
        exact kq _ ⟨v, ⟨vx, FF⟩, by rw [I5, if_neg vx]⟩ _ FR51 ⟨v, ⟨vx, FF⟩, p46⟩
      · skip
        refine e_aload_n dX5_search_34 rfl ?_
        have RK := ckP_r (by omega) I2 (by omega)
        have OC : orC h15 y g (dgZ N) := ⟨RK.1.1, fun d a e => (I3.1 d a (by omega)).trans (RK.2 d a e)⟩
        refine e_callV [] dX5_search_35 tm_5_114 rfl (Nat.le_of_ble_eq_true rfl) (congrArg Prod.fst (ma_s0 k16)) (Nat.le_of_ble_eq_true rfl) (Nat.le_refl _) (Nat.le_refl _) rfl (zp_X5_takeRow k16 H17 OC (fun  h52 f53 p54 => ?_))
        have k55 := lk_q (frm_s f53) k16
        have H56 := isF_c f53 (fun a k q1 q2 => by omega) H17
        have H57 := bdC_c f53 (fun a k q => by omega) H18
        have H58 := orC_c f53 (fun a k q => by omega) OC
        have FR59 := frm_t FR19 (frm_m (S' := (fun a k => a = y + 33 ∨ a = y + 34 ∨ a = y + 36 ∨ a = y + 37)) f53 (fun a k q => by omega))
        skip
        refine e_aload_n dX5_search_38 rfl ?_
        refine e_iload_n dX5_search_39 rfl ?_
        refine e_callV [.int _] dX5_search_40 tm_5_117 rfl (Nat.le_of_ble_eq_true rfl) (congrArg Prod.fst (ma_s0 k55)) (Nat.le_of_ble_eq_true rfl) (Nat.le_refl _) (Nat.le_refl _) rfl (zp_X5_score_5 k55 H56 H57 p54 ?_)
        have y60 := WR_b (show 0 ≤ nd g ∧ nd g ≤ 6 by omega) 5 (dgZ N)
        refine e_istore (L' := [_, _, _, _, _, _]) dX5_search_43 (Nat.le_of_ble_eq_true rfl) rfl ?_
        refine e_iload dX5_search_45 rfl ?_
        refine e_iload_n dX5_search_47 rfl ?_
        refine z_icmp_ge 81 dX5_search_48 rfl ⟨by omega, by omega⟩ ⟨by omega, by omega⟩ (fun c61 => ?_) (fun c61 => ?_)
        · skip
          skip
          have OD : odC h52 y (oI c.toNat) := ⟨fun k a e => ((frm_r f53 (by omega))).trans (I3.1 k a e), I3.2⟩
          refine e_aload_n dX5_search_81 rfl ?_
          refine e_callV [] dX5_search_82 tm_5_130 rfl (Nat.le_of_ble_eq_true rfl) (congrArg Prod.fst (ma_s0 k55)) (Nat.le_of_ble_eq_true rfl) (Nat.le_refl _) (Nat.le_refl _) rfl (zp_X5_nextRow k55 H56 OD (fun v62 p63 h64 f65 p66 => ?_))
          have k67 := lk_q (frm_s f65) k55
          have H68 := isF_c f65 (fun a k q1 q2 => by omega) H56
          have H69 := bdC_c f65 (fun a k q => by omega) H57
          have H70 := mrC_c f65 (fun a k q => by omega) p54
          have FR71 := frm_t FR59 (frm_m (S' := (fun a k => a = y + 33 ∨ a = y + 34 ∨ a = y + 36 ∨ a = y + 37)) f65 (fun a k q => by omega))
          skip
          have NX : nxV (nd g) (nu g) (oI c.toNat) v62 := by assumption
          have nb := nxV_b NX
          obtain ⟨N', CK, NB, NF⟩ := ckP_n (by omega) I2 (by omega) NX
          refine e_istore_n (L' := [_, _, _, _, _, _]) dX5_search_85 (Nat.le_of_ble_eq_true rfl) rfl ?_
          refine z_iinc (L' := [_, _, _, _, _, _]) dX5_search_86 rfl rfl ?_
          refine e_goto 22 dX5_search_89 rfl ?_
          exact mEv_wk (by exact ⟨Or.inr rfl, Or.inr rfl, Or.inr rfl, Or.inr rfl, Or.inr rfl, Or.inl rfl, trivial⟩) (ih15 _ (by omega) l v62 (i + 1) ((cO (nxF (nd g) (nu g) (oI c.toNat)) : Nat) : Int) N' v h64 rfl k67 H68 H69 FR71 (by omega) CK (by rw [Int.toNat_natCast]; exact odC_e (oI_cO p66.2) p66) (fmax_skip (fmax_keep I4 (fun q => by rw [if_pos q] at I5; omega) (show wRr g 5 (dgZ N) ≤ wSr g 5 v by
                    have q : v ≠ -1 := fun q => by rw [if_pos q] at I5; omega
                    rw [if_neg q] at I5; omega)) (by omega) (fun k a e z => NF k (by omega) e z.1)) I5 (fun z d a e => (((frm_r f65 (by omega)).trans (frm_r f53 (by omega)))).trans (I6 z d a e)))
        · skip
          skip
          refine e_iload_n dX5_search_51 rfl ?_
          refine z_iconst (3) dX5_search_52 rfl ?_
          refine z_icmp_ne 63 dX5_search_53 rfl ⟨by omega, by omega⟩ ⟨by omega, by omega⟩ (fun c72 => ?_) (fun c72 => ?_)
          · skip
            refine e_iload dX5_search_63 rfl ?_
            refine e_istore_n (L' := [_, _, _, _, _, _]) dX5_search_65 (Nat.le_of_ble_eq_true rfl) rfl ?_
            have MR0 := p54
            refine e_aload_n dX5_search_66 rfl ?_
            refine e_get (.ref (y + 33)) dX5_search_67 tf_5_21 (congrArg Prod.fst (ma_s0 k55)) (congrArg va_rf (ma_r0_2 k55)) ?_
            refine z_iconst (0) dX5_search_70 rfl ?_
            refine e_aload_n dX5_search_71 rfl ?_
            refine e_get (.ref (y + 36)) dX5_search_72 tf_5_31 (congrArg Prod.fst (ma_s0 k55)) (congrArg va_rf (ma_r0_5 k55)) ?_
            refine z_iconst (0) dX5_search_75 rfl ?_
            refine z_bipush (6) dX5_search_76 rfl ?_
            refine z_cpy dX5_search_78 tm_5_124 (Nat.le_of_ble_eq_true rfl) (ma_s36 k55) (ma_s33 k55) (by decide) (by decide) (by omega) (by omega) (by omega) (by omega) (by omega) (fun h73 f74 e75 => ?_)
            have k76 := lk_q (frm_s f74) k55
            have H77 := isF_c f74 (fun a k q1 q2 => by omega) H56
            have H78 := bdC_c f74 (fun a k q => by omega) H57
            have H79 := mrC_c f74 (fun a k q => by omega) p54
            have FR80 := frm_t FR59 (frm_m (S' := (fun a k => a = y + 33 ∨ a = y + 34 ∨ a = y + 36 ∨ a = y + 37)) f74 (fun a k q => by omega))
            have CH : ∀ d : Int, 0 ≤ d → d < 6 → rI h73 (y + 36) d = dgZ N d := fun d a c => by
              rw [e75 d a, if_pos (by omega), show d - 0 + 0 = d by omega]
              exact MR0.2.1 d a c
            have OD : odC h73 y (oI c.toNat) := ⟨fun k a e => (((frm_r f74 (by omega)).trans (frm_r f53 (by omega)))).trans (I3.1 k a e), I3.2⟩
            refine e_aload_n dX5_search_81 rfl ?_
            refine e_callV [] dX5_search_82 tm_5_130 rfl (Nat.le_of_ble_eq_true rfl) (congrArg Prod.fst (ma_s0 k76)) (Nat.le_of_ble_eq_true rfl) (Nat.le_refl _) (Nat.le_refl _) rfl (zp_X5_nextRow k76 H77 OD (fun v81 p82 h83 f84 p85 => ?_))
            have k86 := lk_q (frm_s f84) k76
            have H87 := isF_c f84 (fun a k q1 q2 => by omega) H77
            have H88 := bdC_c f84 (fun a k q => by omega) H78
            have H89 := mrC_c f84 (fun a k q => by omega) H79
            have FR90 := frm_t FR80 (frm_m (S' := (fun a k => a = y + 33 ∨ a = y + 34 ∨ a = y + 36 ∨ a = y + 37)) f84 (fun a k q => by omega))
            skip
            have NX : nxV (nd g) (nu g) (oI c.toNat) v81 := by assumption
            have nb := nxV_b NX
            obtain ⟨N', CK, NB, NF⟩ := ckP_n (by omega) I2 (by omega) NX
            refine e_istore_n (L' := [_, _, _, _, _, _]) dX5_search_85 (Nat.le_of_ble_eq_true rfl) rfl ?_
            refine z_iinc (L' := [_, _, _, _, _, _]) dX5_search_86 rfl rfl ?_
            refine e_goto 22 dX5_search_89 rfl ?_
            exact mEv_wk (by exact ⟨Or.inr rfl, Or.inr rfl, Or.inr rfl, Or.inr rfl, Or.inr rfl, Or.inl rfl, trivial⟩) (ih15 _ (by omega) (-(wRr g 5 (dgZ N))) v81 (i + 1) ((cO (nxF (nd g) (nu g) (oI c.toNat)) : Nat) : Int) N' N h83 rfl k86 H87 H88 FR90 (by omega) CK (by rw [Int.toNat_natCast]; exact odC_e (oI_cO p85.2) p85) (fmax_skip (fmax_new I4 (by omega) ⟨RK.1, (fun z => absurd z (by omega))⟩ (by
                      by_cases q : v = -1
                      · exact Or.inl q
                      · rw [if_neg q] at I5; exact Or.inr (show wSr g 5 v < wRr g 5 (dgZ N) by omega))) (by omega) (fun k a e z => NF k (by omega) e z.1)) (by rw [if_neg (by omega)]; rfl) (fun _ d a e => ((frm_r f84 (by omega))).trans (CH d a e)))
          · exfalso; omega
  exact lp15 _ 1000 1 0 ((cO (bgF (nu g)) : Nat) : Int) N0 (-1) h8 rfl k11 H12 H13 FR14 (by omega) C0 (by rw [Int.toNat_natCast]; exact odC_e (oI_cO OB.2) OB) (Or.inl ⟨rfl, fun k a e z => Z0 k a e z.1⟩) (by rw [if_pos rfl]) (fun z => absurd rfl z)
