/-! WORKS: op 13 -/
theorem dX9_plan_0 : decode cX9_plan 0 = .ok (.aload_n 0, 1) := by decide +kernel
theorem dX9_plan_1 : decode cX9_plan 1 = .ok (.aload_n 1, 1) := by decide +kernel
theorem dX9_plan_2 : decode cX9_plan 2 = .ok (.invokevirtual 35, 3) := by decide +kernel
theorem dX9_plan_5 : decode cX9_plan 5 = .ok (.iconst 0, 1) := by decide +kernel
theorem dX9_plan_6 : decode cX9_plan 6 = .ok (.istore_n 2, 1) := by decide +kernel
theorem dX9_plan_7 : decode cX9_plan 7 = .ok (.iload_n 2, 1) := by decide +kernel
theorem dX9_plan_8 : decode cX9_plan 8 = .ok (.bipush 6, 2) := by decide +kernel
theorem dX9_plan_10 : decode cX9_plan 10 = .ok (.if_icmp .ge 41, 3) := by decide +kernel
theorem dX9_plan_13 : decode cX9_plan 13 = .ok (.iconst 0, 1) := by decide +kernel
theorem dX9_plan_14 : decode cX9_plan 14 = .ok (.istore_n 3, 1) := by decide +kernel
theorem dX9_plan_15 : decode cX9_plan 15 = .ok (.iload_n 3, 1) := by decide +kernel
theorem dX9_plan_16 : decode cX9_plan 16 = .ok (.bipush 64, 2) := by decide +kernel
theorem dX9_plan_18 : decode cX9_plan 18 = .ok (.if_icmp .ge 27, 3) := by decide +kernel
theorem dX9_plan_21 : decode cX9_plan 21 = .ok (.aload_n 0, 1) := by decide +kernel
theorem dX9_plan_22 : decode cX9_plan 22 = .ok (.getfield 25, 3) := by decide +kernel
theorem dX9_plan_25 : decode cX9_plan 25 = .ok (.iload_n 2, 1) := by decide +kernel
theorem dX9_plan_26 : decode cX9_plan 26 = .ok (.bipush 64, 2) := by decide +kernel
theorem dX9_plan_28 : decode cX9_plan 28 = .ok (.imul, 1) := by decide +kernel
theorem dX9_plan_29 : decode cX9_plan 29 = .ok (.iload_n 3, 1) := by decide +kernel
theorem dX9_plan_30 : decode cX9_plan 30 = .ok (.iadd, 1) := by decide +kernel
theorem dX9_plan_31 : decode cX9_plan 31 = .ok (.aload_n 0, 1) := by decide +kernel
theorem dX9_plan_32 : decode cX9_plan 32 = .ok (.aload_n 1, 1) := by decide +kernel
theorem dX9_plan_33 : decode cX9_plan 33 = .ok (.iload_n 2, 1) := by decide +kernel
theorem dX9_plan_34 : decode cX9_plan 34 = .ok (.iload_n 3, 1) := by decide +kernel
theorem dX9_plan_35 : decode cX9_plan 35 = .ok (.invokevirtual 39, 3) := by decide +kernel
theorem dX9_plan_38 : decode cX9_plan 38 = .ok (.bastore, 1) := by decide +kernel
theorem dX9_plan_39 : decode cX9_plan 39 = .ok (.iinc 3 1, 3) := by decide +kernel
theorem dX9_plan_42 : decode cX9_plan 42 = .ok (.goto (-27), 3) := by decide +kernel
theorem dX9_plan_45 : decode cX9_plan 45 = .ok (.iinc 2 1, 3) := by decide +kernel
theorem dX9_plan_48 : decode cX9_plan 48 = .ok (.goto (-41), 3) := by decide +kernel
theorem dX9_plan_51 : decode cX9_plan 51 = .ok (.aload_n 0, 1) := by decide +kernel
theorem dX9_plan_52 : decode cX9_plan 52 = .ok (.aload_n 1, 1) := by decide +kernel
theorem dX9_plan_53 : decode cX9_plan 53 = .ok (.invokevirtual 43, 3) := by decide +kernel
theorem dX9_plan_56 : decode cX9_plan 56 = .ok (.aload_n 0, 1) := by decide +kernel
theorem dX9_plan_57 : decode cX9_plan 57 = .ok (.getfield 29, 3) := by decide +kernel
theorem dX9_plan_60 : decode cX9_plan 60 = .ok (.iconst 0, 1) := by decide +kernel
theorem dX9_plan_61 : decode cX9_plan 61 = .ok (.invokestatic 46, 3) := by decide +kernel
theorem dX9_plan_64 : decode cX9_plan 64 = .ok (.aload_n 0, 1) := by decide +kernel
theorem dX9_plan_65 : decode cX9_plan 65 = .ok (.getfield 19, 3) := by decide +kernel
theorem dX9_plan_68 : decode cX9_plan 68 = .ok (.bipush 6, 2) := by decide +kernel
theorem dX9_plan_70 : decode cX9_plan 70 = .ok (.invokestatic 46, 3) := by decide +kernel
theorem dX9_plan_73 : decode cX9_plan 73 = .ok (.aload_n 0, 1) := by decide +kernel
theorem dX9_plan_74 : decode cX9_plan 74 = .ok (.getfield 9, 3) := by decide +kernel
theorem dX9_plan_77 : decode cX9_plan 77 = .ok (.bipush 6, 2) := by decide +kernel
theorem dX9_plan_79 : decode cX9_plan 79 = .ok (.invokestatic 46, 3) := by decide +kernel
theorem dX9_plan_82 : decode cX9_plan 82 = .ok (.aload_n 0, 1) := by decide +kernel
theorem dX9_plan_83 : decode cX9_plan 83 = .ok (.iconst (-1), 1) := by decide +kernel
theorem dX9_plan_84 : decode cX9_plan 84 = .ok (.putfield 15, 3) := by decide +kernel
theorem dX9_plan_87 : decode cX9_plan 87 = .ok (.aload_n 0, 1) := by decide +kernel
theorem dX9_plan_88 : decode cX9_plan 88 = .ok (.aload_n 1, 1) := by decide +kernel
theorem dX9_plan_89 : decode cX9_plan 89 = .ok (.iconst 0, 1) := by decide +kernel
theorem dX9_plan_90 : decode cX9_plan 90 = .ok (.iconst 0, 1) := by decide +kernel
theorem dX9_plan_91 : decode cX9_plan 91 = .ok (.invokestatic 52, 3) := by decide +kernel
theorem dX9_plan_94 : decode cX9_plan 94 = .ok (.return_, 1) := by decide +kernel
theorem dX11_works_0 : decode cX11_works 0 = .ok (.aload_n 0, 1) := by decide +kernel
theorem dX11_works_1 : decode cX11_works 1 = .ok (.getfield 10, 3) := by decide +kernel
theorem dX11_works_4 : decode cX11_works 4 = .ok (.iload_n 1, 1) := by decide +kernel
theorem dX11_works_5 : decode cX11_works 5 = .ok (.invokevirtual 94, 3) := by decide +kernel
theorem dX11_works_8 : decode cX11_works 8 = .ok (.astore_n 3, 1) := by decide +kernel
theorem dX11_works_9 : decode cX11_works 9 = .ok (.aload_n 3, 1) := by decide +kernel
theorem dX11_works_10 : decode cX11_works 10 = .ok (.ifnull 16, 3) := by decide +kernel
theorem dX11_works_13 : decode cX11_works 13 = .ok (.iload_n 2, 1) := by decide +kernel
theorem dX11_works_14 : decode cX11_works 14 = .ok (.iconst (-1), 1) := by decide +kernel
theorem dX11_works_15 : decode cX11_works 15 = .ok (.if_icmp .eq 13, 3) := by decide +kernel
theorem dX11_works_18 : decode cX11_works 18 = .ok (.aload_n 3, 1) := by decide +kernel
theorem dX11_works_19 : decode cX11_works 19 = .ok (.iload_n 2, 1) := by decide +kernel
theorem dX11_works_20 : decode cX11_works 20 = .ok (.invokevirtual 168, 3) := by decide +kernel
theorem dX11_works_23 : decode cX11_works 23 = .ok (.ifCond .ne 5, 3) := by decide +kernel
theorem dX11_works_26 : decode cX11_works 26 = .ok (.iconst (-1), 1) := by decide +kernel
theorem dX11_works_27 : decode cX11_works 27 = .ok (.ireturn, 1) := by decide +kernel
theorem dX11_works_28 : decode cX11_works 28 = .ok (.aload_n 0, 1) := by decide +kernel
theorem dX11_works_29 : decode cX11_works 29 = .ok (.getfield 51, 3) := by decide +kernel
theorem dX11_works_32 : decode cX11_works 32 = .ok (.aload_n 3, 1) := by decide +kernel
theorem dX11_works_33 : decode cX11_works 33 = .ok (.invokevirtual 171, 3) := by decide +kernel
theorem dX11_works_36 : decode cX11_works 36 = .ok (.iload_n 2, 1) := by decide +kernel
theorem dX11_works_37 : decode cX11_works 37 = .ok (.iconst (-1), 1) := by decide +kernel
theorem dX11_works_38 : decode cX11_works 38 = .ok (.if_icmp .ne 13, 3) := by decide +kernel
theorem dX11_works_41 : decode cX11_works 41 = .ok (.aload_n 0, 1) := by decide +kernel
theorem dX11_works_42 : decode cX11_works 42 = .ok (.getfield 51, 3) := by decide +kernel
theorem dX11_works_45 : decode cX11_works 45 = .ok (.getfield 174, 3) := by decide +kernel
theorem dX11_works_48 : decode cX11_works 48 = .ok (.goto 12, 3) := by decide +kernel
theorem dX11_works_51 : decode cX11_works 51 = .ok (.aload_n 0, 1) := by decide +kernel
theorem dX11_works_52 : decode cX11_works 52 = .ok (.getfield 51, 3) := by decide +kernel
theorem dX11_works_55 : decode cX11_works 55 = .ok (.getfield 177, 3) := by decide +kernel
theorem dX11_works_58 : decode cX11_works 58 = .ok (.iload_n 2, 1) := by decide +kernel
theorem dX11_works_59 : decode cX11_works 59 = .ok (.iaload, 1) := by decide +kernel
theorem dX11_works_60 : decode cX11_works 60 = .ok (.ireturn, 1) := by decide +kernel
theorem tf_11_174 : tFld TB0 11 174 = some (9, 1) := rfl
theorem tf_11_177 : tFld TB0 11 177 = some (9, 0) := rfl
set_option maxRecDepth 20000 in
theorem tm_9_35 : tMet TB0 9 35 = some (0, M_X9_orderByDay) := rfl
set_option maxRecDepth 20000 in
theorem tm_9_39 : tMet TB0 9 39 = some (0, M_X9_managesSet) := rfl
set_option maxRecDepth 20000 in
theorem tm_9_43 : tMet TB0 9 43 = some (0, M_X9_sumAhead) := rfl
set_option maxRecDepth 20000 in
theorem tm_11_168 : tMet TB0 11 168 = some (0, M_X2_hasCloth) := rfl
set_option maxRecDepth 20000 in
theorem tm_11_171 : tMet TB0 11 171 = some (0, M_X9_plan) := rfl
theorem wkE_of {g : Int → Int} {v : Int} (h6 : 0 ≤ nc g ∧ nc g ≤ 6) (f : fmax (vaW g) (suW g) 117649 v) : wkE g v := by
  refine ⟨f, fun e => ?_⟩
  rcases f with ⟨_, q⟩ | q
  · have l := va_leaf (g := g) (w := fun _ => 6) h6.1 h6.2 (fun c a b => ⟨by show (0 : Int) ≤ 6; omega, by show (6 : Int) ≤ 6; omega⟩) (fun c a b => Or.inl rfl)
    have b := cd_b (w := fun _ => 6) h6.1 h6.2 (fun c a b => ⟨by show (0 : Int) ≤ 6; omega, by show (6 : Int) ≤ 6; omega⟩)
    have s := sc_b h6.1 h6.2
    exact q _ b.1 (by omega) l.1
  · omega
theorem mgN_e {h : mH} {y : Nat} {g : Int → Int} {D : Int} (H : mgN h y g D 64) : mgN h y g (D + 1) 0 := fun d s a b c e q => H d s a b c e (by omega)
theorem mgN_T {h : mH} {y : Nat} {g : Int → Int} {D : Int} (H : mgN h y g D 0) (e : D = 6) : mgT h y g := fun d s a b c e => H d s a b c e (by omega)
set_option maxHeartbeats 4000000 in
theorem zp_X9_plan {ad : mA} {dd : Nat} {h : mH} {Q : mQ} {y f : Nat} {g : Int → Int} (hk : wkk h y) (hk1 : fgk h f) (HF : isF h f g)   (pf : y + 7 ≤ f ∨ f + 16 ≤ y) (kq : ∀ h1, frm (fun a k => (a = y ∧ k = 1) ∨ (y + 1 ≤ a ∧ a ≤ y + 6)) h h1 → (∃ v, wkE g v ∧ rI h1 y 1 = suW g v ∧ ∀ c : Int, 0 ≤ c → c < nc g → rI h1 (y + 1) c = dgZ v c) → Q none h1) : mCal TB0 ad (dd + 10) M_X9_plan [.ref y, .ref f] h 0 0 Q := by
  refine ⟨Nat.le_of_ble_eq_true rfl, ?_⟩
  show mEv TB0 ad M_X9_plan (dd + 10) (0, 0) (mCal TB0 ad (dd + 9)) (fun v h' z => z.1 = 0 ∧ Q v h') 0 [some (.ref y), some (.ref f), none, none] [] h (0, 0)
  have FR0 : frm (fun a k => (a = y ∧ k = 1) ∨ (y + 1 ≤ a ∧ a ≤ y + 6)) h h := frm_0 h
  have w1 := isF_n HF
  have w2 := isF_nd HF
  have w3 := isF_nu HF
  have w4 := isF_nc HF
  have W := isF_w HF
  refine e_aload_n dX9_plan_0 rfl ?_
  refine e_aload_n dX9_plan_1 rfl ?_
  refine e_callV [.ref _] dX9_plan_2 tm_9_35 rfl (Nat.le_of_ble_eq_true rfl) (congrArg Prod.fst (wk_s0 hk)) (Nat.le_of_ble_eq_true rfl) (Nat.le_refl _) (Nat.le_refl _) rfl (zp_X9_orderByDay hk hk1 HF (by omega) (fun  h1 f2 p3 => ?_))
  have k4 := lk_q (frm_s f2) hk
  have k5 := lk_q (frm_s f2) hk1
  have H6 := isF_c f2 (fun a k q1 q2 => by omega) HF
  have FR7 := frm_t FR0 (frm_m (S' := (fun a k => (a = y ∧ k = 1) ∨ (y + 1 ≤ a ∧ a ≤ y + 6))) f2 (fun a k q => by omega))
  obtain ⟨bd, HD⟩ := p3
  refine z_iconst (0) dX9_plan_5 rfl ?_
  refine e_istore_n (L' := [_, _, _, _]) dX9_plan_6 (Nat.le_of_ble_eq_true rfl) rfl ?_
  have lp8 : ∀ (n8 : Nat) (d : Int) (h8 : mH), (6 - d).toNat = n8 → (wkk h8 y) → (fgk h8 f) → (isF h8 f g) → (byC h8 y g bd) → (frm (fun a k => (a = y ∧ k = 1) ∨ (y + 1 ≤ a ∧ a ≤ y + 6)) h h8) → (0 ≤ d ∧ d ≤ 6) → (mgN h8 y g d 0) → mEv TB0 ad M_X9_plan (dd + 10) (0, 0) (mCal TB0 ad (dd + 9)) (fun v h' z => z.1 = 0 ∧ Q v h') 7 [some (.ref y), some (.ref f), some (.int (zI d)), none] [] h8 (0, 0) := by
    intro n8
    induction n8 using Nat.strongRecOn with
    | ind n8 ih8 =>
    intro d h8 hn8 k9 k10 H11 H12 FR13 I1 I3
    refine e_iload_n dX9_plan_7 rfl ?_
    refine z_bipush (6) dX9_plan_8 rfl ?_
    refine z_icmp_ge 51 dX9_plan_10 rfl ⟨by omega, by omega⟩ ⟨by omega, by omega⟩ (fun c14 => ?_) (fun c14 => ?_)
    · skip
      have MT : mgT h8 y g := mgN_T I3 (by omega)
      refine e_aload_n dX9_plan_51 rfl ?_
      refine e_aload_n dX9_plan_52 rfl ?_
      refine e_callV [.ref _] dX9_plan_53 tm_9_43 rfl (Nat.le_of_ble_eq_true rfl) (congrArg Prod.fst (wk_s0 k9)) (Nat.le_of_ble_eq_true rfl) (Nat.le_refl _) (Nat.le_refl _) rfl (zp_X9_sumAhead k9 k10 H11 MT (by omega) (fun  h15 f16 p17 => ?_))
      have k18 := lk_q (frm_s f16) k9
      have k19 := lk_q (frm_s f16) k10
      have H20 := isF_c f16 (fun a k q1 q2 => by omega) H11
      have H21 := byC_c f16 (fun a k q => by omega) H12
      have H22 := mgT_c f16 (fun a k q => by omega) MT
      have FR23 := frm_t FR13 (frm_m (S' := (fun a k => (a = y ∧ k = 1) ∨ (y + 1 ≤ a ∧ a ≤ y + 6))) f16 (fun a k q => by omega))
      refine e_aload_n dX9_plan_56 rfl ?_
      refine e_get (.ref (y + 5)) dX9_plan_57 tf_9_29 (congrArg Prod.fst (wk_s0 k18)) (congrArg va_rf (wk_r0_5 k18)) ?_
      refine z_iconst (0) dX9_plan_60 rfl ?_
      refine e_callS [.ref _, .int _] dX9_plan_61 tm_9_46 rfl (Nat.le_of_ble_eq_true rfl) (Nat.le_refl _) (Nat.le_refl _) rfl (zp_fill (wk_s5 k18) (by decide) ⟨by omega, by omega⟩ (fun h24 f25 e26 => ?_))
      have k27 := lk_q (frm_s f25) k18
      have k28 := lk_q (frm_s f25) k19
      have H29 := isF_c f25 (fun a k q1 q2 => by omega) H20
      have H30 := byC_c f25 (fun a k q => by omega) H21
      have H31 := mgT_c f25 (fun a k q => by omega) H22
      have H32 := abU_c f25 (fun a k q => by omega) p17
      have FR33 := frm_t FR23 (frm_m (S' := (fun a k => (a = y ∧ k = 1) ∨ (y + 1 ≤ a ∧ a ≤ y + 6))) f25 (fun a k q => by omega))
      refine e_aload_n dX9_plan_64 rfl ?_
      refine e_get (.ref (y + 2)) dX9_plan_65 tf_9_19 (congrArg Prod.fst (wk_s0 k27)) (congrArg va_rf (wk_r0_2 k27)) ?_
      refine z_bipush (6) dX9_plan_68 rfl ?_
      refine e_callS [.ref _, .int _] dX9_plan_70 tm_9_46 rfl (Nat.le_of_ble_eq_true rfl) (Nat.le_refl _) (Nat.le_refl _) rfl (zp_fill (wk_s2 k27) (by decide) ⟨by omega, by omega⟩ (fun h34 f35 e36 => ?_))
      have k37 := lk_q (frm_s f35) k27
      have k38 := lk_q (frm_s f35) k28
      have H39 := isF_c f35 (fun a k q1 q2 => by omega) H29
      have H40 := byC_c f35 (fun a k q => by omega) H30
      have H41 := mgT_c f35 (fun a k q => by omega) H31
      have H42 := abU_c f35 (fun a k q => by omega) H32
      have FR43 := frm_t FR33 (frm_m (S' := (fun a k => (a = y ∧ k = 1) ∨ (y + 1 ≤ a ∧ a ≤ y + 6))) f35 (fun a k q => by omega))
      refine e_aload_n dX9_plan_73 rfl ?_
      refine e_get (.ref (y + 1)) dX9_plan_74 tf_9_9 (congrArg Prod.fst (wk_s0 k37)) (congrArg va_rf (wk_r0_0 k37)) ?_
      refine z_bipush (6) dX9_plan_77 rfl ?_
      refine e_callS [.ref _, .int _] dX9_plan_79 tm_9_46 rfl (Nat.le_of_ble_eq_true rfl) (Nat.le_refl _) (Nat.le_refl _) rfl (zp_fill (wk_s1 k37) (by decide) ⟨by omega, by omega⟩ (fun h44 f45 e46 => ?_))
      have k47 := lk_q (frm_s f45) k37
      have k48 := lk_q (frm_s f45) k38
      have H49 := isF_c f45 (fun a k q1 q2 => by omega) H39
      have H50 := byC_c f45 (fun a k q => by omega) H40
      have H51 := mgT_c f45 (fun a k q => by omega) H41
      have H52 := abU_c f45 (fun a k q => by omega) H42
      have FR53 := frm_t FR43 (frm_m (S' := (fun a k => (a = y ∧ k = 1) ∨ (y + 1 ≤ a ∧ a ≤ y + 6))) f45 (fun a k q => by omega))
      refine e_aload_n dX9_plan_82 rfl ?_
      refine z_iconst (-1) dX9_plan_83 rfl ?_
      refine z_put dX9_plan_84 tf_9_15 (congrArg Prod.fst (wk_s0 k47)) rfl (Or.inl rfl) (fun h54 e55 => ?_)
      have f56 := frm_1 e55
      have k57 := lk_q (frm_s f56) k47
      have k58 := lk_q (frm_s f56) k48
      have H59 := isF_c f56 (fun a k q1 q2 => by omega) H49
      have H60 := byC_c f56 (fun a k q => by omega) H50
      have H61 := mgT_c f56 (fun a k q => by omega) H51
      have H62 := abU_c f56 (fun a k q => by omega) H52
      have FR63 := frm_t FR53 (frm_m (S' := (fun a k => (a = y ∧ k = 1) ∨ (y + 1 ≤ a ∧ a ≤ y + 6))) f56 (fun a k q => by omega))
      have A0 : asS h54 y (fun _ => 6) 0 := ⟨fun d a b => by
          rw [show rI h54 (y + 5) d = 0 from (((frm_r f56 (by omega)).trans ((frm_r f45 (by omega)).trans (frm_r f35 (by omega))))).trans (e26 d a (by omega))]
          exact ⟨by omega, fun o u v => ⟨fun z => absurd z (has_0 o), fun z => by omega⟩⟩, fun c a b => by omega⟩
      have B0 : bsS h54 y g (-1) := ⟨Or.inl ⟨rfl, (show rI h54 y 1 = (-1) from (rI_eq e55 ⟨by omega, by omega⟩))⟩, fun z => absurd rfl z⟩
      have P0 : asP g (fun _ => 6) 0 0 (-1) := ⟨fun x a b => by omega, rfl, fmax_0 _ _ (by rw [cd_0]; omega)⟩
      refine e_aload_n dX9_plan_87 rfl ?_
      refine e_aload_n dX9_plan_88 rfl ?_
      refine z_iconst (0) dX9_plan_89 rfl ?_
      refine z_iconst (0) dX9_plan_90 rfl ?_
      refine e_callS [.ref _, .ref _, .int _, .int _] dX9_plan_91 tm_9_52 rfl (Nat.le_of_ble_eq_true rfl) (Nat.le_refl _) (Nat.le_refl _) rfl (zp_X9_assign_0 k57 k58 H59 H61 H62 A0 B0 0 ⟨by omega, by omega⟩ (by omega) P0 (by omega) (fun  h64 f65 p66 p67 => ?_))
      have k68 := lk_q (frm_s f65) k57
      have k69 := lk_q (frm_s f65) k58
      have H70 := isF_c f65 (fun a k q1 q2 => by omega) H59
      have H71 := byC_c f65 (fun a k q => by omega) H60
      have H72 := mgT_c f65 (fun a k q => by omega) H61
      have H73 := abU_c f65 (fun a k q => by omega) H62
      have FR74 := frm_t FR63 (frm_m (S' := (fun a k => (a = y ∧ k = 1) ∨ (y + 1 ≤ a ∧ a ≤ y + 6))) f65 (fun a k q => by omega))
      obtain ⟨v, V1, V2⟩ := p66
      have ve : wkE g v := wkE_of (by omega) (by rw [cd_0, sc_0] at V1; exact V1)
      refine e_vret dX9_plan_94 rfl ⟨rfl, ?_⟩
      exact kq _ FR74 ⟨v, ve, by rcases V2.1 with q | q; exact absurd q.1 ve.2; exact q.2, V2.2 ve.2⟩
    · skip
      refine z_iconst (0) dX9_plan_13 rfl ?_
      refine e_istore_n (L' := [_, _, _, _]) dX9_plan_14 (Nat.le_of_ble_eq_true rfl) rfl ?_
      have lp75 : ∀ (n75 : Nat) (s : Int) (h75 : mH), (64 - s).toNat = n75 → (wkk h75 y) → (fgk h75 f) → (isF h75 f g) → (byC h75 y g bd) → (frm (fun a k => (a = y ∧ k = 1) ∨ (y + 1 ≤ a ∧ a ≤ y + 6)) h h75) → (0 ≤ s ∧ s ≤ 64) → (mgN h75 y g d s) → mEv TB0 ad M_X9_plan (dd + 10) (0, 0) (mCal TB0 ad (dd + 9)) (fun v h' z => z.1 = 0 ∧ Q v h') 15 [some (.ref y), some (.ref f), some (.int (zI d)), some (.int (zI s))] [] h75 (0, 0) := by
        intro n75
        induction n75 using Nat.strongRecOn with
        | ind n75 ih75 =>
        intro s h75 hn75 k76 k77 H78 H79 FR80 J1 J3
        refine e_iload_n dX9_plan_15 rfl ?_
        refine z_bipush (64) dX9_plan_16 rfl ?_
        refine z_icmp_ge 45 dX9_plan_18 rfl ⟨by omega, by omega⟩ ⟨by omega, by omega⟩ (fun c81 => ?_) (fun c81 => ?_)
        · skip
          refine z_iinc (L' := [_, _, _, _]) dX9_plan_45 rfl rfl ?_
          refine e_goto 7 dX9_plan_48 rfl ?_
          exact mEv_wk (by exact ⟨Or.inr rfl, Or.inr rfl, Or.inr rfl, Or.inl rfl, trivial⟩) (ih8 _ (by omega) (d + 1) h75 rfl k76 k77 H78 H79 FR80 (by omega) (mgN_e (by rw [show (64 : Int) = s by omega]; exact J3)))
        · skip
          refine e_aload_n dX9_plan_21 rfl ?_
          refine e_get (.ref (y + 4)) dX9_plan_22 tf_9_25 (congrArg Prod.fst (wk_s0 k76)) (congrArg va_rf (wk_r0_4 k76)) ?_
          refine e_iload_n dX9_plan_25 rfl ?_
          refine z_bipush (64) dX9_plan_26 rfl ?_
          refine z_imul dX9_plan_28 ?_
          refine e_iload_n dX9_plan_29 rfl ?_
          refine z_iadd dX9_plan_30 ?_
          refine e_aload_n dX9_plan_31 rfl ?_
          refine e_aload_n dX9_plan_32 rfl ?_
          refine e_iload_n dX9_plan_33 rfl ?_
          refine e_iload_n dX9_plan_34 rfl ?_
          refine e_callV [.ref _, .int _, .int _] dX9_plan_35 tm_9_39 rfl (Nat.le_of_ble_eq_true rfl) (congrArg Prod.fst (wk_s0 k76)) (Nat.le_of_ble_eq_true rfl) (Nat.le_refl _) (Nat.le_refl _) rfl (zp_X9_managesSet k76 k77 H78 H79 d ⟨by omega, by omega⟩ s ⟨by omega, by omega⟩ (by omega) (fun v82 p83 => ?_))
          have mv : (v82 = 1 ∧ mgP g d s) ∨ (v82 = 0 ∧ ¬ mgP g d s) := by assumption
          have mvb : v82 = 0 ∨ v82 = 1 := by rcases mv with q | q; exact Or.inr q.1; exact Or.inl q.1
          refine z_zst dX9_plan_38 (wk_s4 k76) (by decide) (by omega) (by omega) (by omega) (fun h84 e85 => ?_)
          have f86 := frm_1 e85
          have k87 := lk_q (frm_s f86) k76
          have k88 := lk_q (frm_s f86) k77
          have H89 := isF_c f86 (fun a k q1 q2 => by omega) H78
          have H90 := byC_c f86 (fun a k q => by omega) H79
          have FR91 := frm_t FR80 (frm_m (S' := (fun a k => (a = y ∧ k = 1) ∨ (y + 1 ≤ a ∧ a ≤ y + 6))) f86 (fun a k q => by omega))
          refine z_iinc (L' := [_, _, _, _]) dX9_plan_39 rfl rfl ?_
          refine e_goto 15 dX9_plan_42 rfl ?_
          exact ih75 _ (by omega) (s + 1) h84 rfl k87 k88 H89 H90 FR91 (by omega) (fun d2 s2 a b c e q => by
                    by_cases z : d2 = d ∧ s2 = s
                    · rw [z.1, z.2]
                      have ht := (rI_eq e85 ⟨by omega, by omega⟩)
                      rcases mv with w | w
                      · exact Or.inl ⟨ht.trans w.1, w.2⟩
                      · exact Or.inr ⟨ht.trans w.1, w.2⟩
                    · rw [show rI h84 (y + 4) (d2 * 64 + s2) = _ from (frm_r f86 (by omega))]
                      exact J3 d2 s2 a b c e (by omega))
      exact lp75 _ 0 h8 rfl k9 k10 H11 H12 FR13 (by omega) I3
  exact lp8 _ 0 h1 rfl k4 k5 H6 HD FR7 (by omega) (fun d s a b c e q => by omega)
set_option maxHeartbeats 1000000 in
theorem zp_X11_works_in {ad : mA} {dd : Nat} {h : mH} {Q : mQ} {x : Nat} {σ : Sg} (hk : bk h x) (HX : clsT h (x + 1) σ)  (f : Int) (f_r : -2147483648 ≤ f ∧ f < 2147483648) (k : Int) (k_r : -2147483648 ≤ k ∧ k < 2147483648) (p1 : 0 ≤ f) (p2 : f < cn σ 0) (kq : ∀ v : Int, (wkP (sG σ f) k v) → ∀ h1, frm (fun a i => x + 56 ≤ a ∧ a < x + 157) h h1 → Q (some (.int (zI v))) h1) : mCal TB0 ad (dd + 11) M_X11_works [.ref x, .int (zI f), .int (zI k)] h 0 0 Q := by
  refine ⟨Nat.le_of_ble_eq_true rfl, ?_⟩
  show mEv TB0 ad M_X11_works (dd + 11) (0, 0) (mCal TB0 ad (dd + 10)) (fun v h' z => z.1 = 0 ∧ Q v h') 0 [some (.ref x), some (.int (zI f)), some (.int (zI k)), none] [] h (0, 0)
  have FR0 : frm (fun a i => x + 56 ≤ a ∧ a < x + 157) h h := frm_0 h
  have w1 := wS_n (clsT_w HX)
  refine e_aload_n dX11_works_0 rfl ?_
  refine e_get (.ref (x + 1)) dX11_works_1 tf_11_10 (congrArg Prod.fst (bk_s0 hk)) (congrArg va_rf (bk_r0_0 hk)) ?_
  refine e_iload_n dX11_works_4 rfl ?_
  refine e_callV [.int _] dX11_works_5 tm_11_94 rfl (Nat.le_of_ble_eq_true rfl) (congrArg Prod.fst (bk_s1 hk)) (Nat.le_of_ble_eq_true rfl) (Nat.le_refl _) (Nat.le_refl _) rfl (zp_X8_forgeAt_in (bk_td1 hk) HX f ⟨by omega, by omega⟩ (by omega) (by omega) ?_)
  have k1 := fAt_k (bk_td1 hk) f
  have H2 := clsT_F HX (show 0 ≤ f by omega) (by omega)
  have y3 := fAt_b (x + 1) f
  refine e_astore_n (L' := [_, _, _, _]) dX11_works_8 (Nat.le_of_ble_eq_true rfl) rfl ?_
  refine e_aload_n dX11_works_9 rfl ?_
  refine e_ifnull 26 dX11_works_10 rfl ?_
  have v1 := isF_n H2
  have v2 := isF_nc H2
  have WF := isF_w H2
  refine e_iload_n dX11_works_13 rfl ?_
  refine z_iconst (-1) dX11_works_14 rfl ?_
  refine z_icmp_eq 28 dX11_works_15 rfl ⟨by omega, by omega⟩ ⟨by omega, by omega⟩ (fun c4 => ?_) (fun c4 => ?_)
  · skip
    refine e_aload_n dX11_works_28 rfl ?_
    refine e_get (.ref (x + 146)) dX11_works_29 tf_11_51 (congrArg Prod.fst (bk_s0 hk)) (congrArg va_rf (bk_r0_6 hk)) ?_
    refine e_aload_n dX11_works_32 rfl ?_
    refine e_callV [.ref _] dX11_works_33 tm_11_171 rfl (Nat.le_of_ble_eq_true rfl) (congrArg Prod.fst (bk_s146 hk)) (Nat.le_of_ble_eq_true rfl) (Nat.le_refl _) (Nat.le_refl _) rfl (zp_X9_plan (bk_wk146 hk) k1 H2 (by omega) (fun  h5 f6 p7 => ?_))
    have k8 := bk_q (frm_s f6) hk
    have k9 := lk_q (frm_s f6) k1
    have H10 := clsT_c f6 (fun a k q1 q2 => by omega) HX
    have H11 := isF_c f6 (fun a k q1 q2 => by omega) H2
    have FR12 := frm_t FR0 (frm_m (S' := (fun a i => x + 56 ≤ a ∧ a < x + 157)) f6 (fun a k q => by omega))
    obtain ⟨bv, b1, b2, b3⟩ := p7
    have b4 := suW_b WF.2.2 bv
    refine e_iload_n dX11_works_36 rfl ?_
    refine z_iconst (-1) dX11_works_37 rfl ?_
    refine z_icmp_ne 51 dX11_works_38 rfl ⟨by omega, by omega⟩ ⟨by omega, by omega⟩ (fun c13 => ?_) (fun c13 => ?_)
    · skip
      refine e_aload_n dX11_works_51 rfl ?_
      refine e_get (.ref (x + 146)) dX11_works_52 tf_11_51 (congrArg Prod.fst (bk_s0 k8)) (congrArg va_rf (bk_r0_6 k8)) ?_
      refine e_get (.ref (x + 147)) dX11_works_55 tf_11_177 (congrArg Prod.fst (bk_s146 k8)) (congrArg va_rf (bk_r146_0 k8)) ?_
      refine e_iload_n dX11_works_58 rfl ?_
      refine z_ild (dgZ bv k) dX11_works_59 (bk_s147 k8) (by decide) (by omega) (by omega) (b3 k (by omega) (by omega)) ?_
      have y14 := dg_b bv k
      refine z_iret dX11_works_60 rfl ⟨rfl, ?_⟩
      refine kq _ ?_ _ FR12
      first | (exfalso; omega) | exact Or.inr ⟨by omega, rfl⟩ | exact Or.inl ⟨by omega, bv, b1, by rw [if_pos (by omega)]⟩ | exact Or.inl ⟨by omega, bv, b1, by rw [if_neg (by omega)]⟩
    · skip
      refine e_aload_n dX11_works_41 rfl ?_
      refine e_get (.ref (x + 146)) dX11_works_42 tf_11_51 (congrArg Prod.fst (bk_s0 k8)) (congrArg va_rf (bk_r0_6 k8)) ?_
      refine z_get (suW (sG σ f) bv) dX11_works_45 tf_11_174 (congrArg Prod.fst (bk_s146 k8)) (Or.inl rfl) b2 ?_
      refine e_goto 60 dX11_works_48 rfl ?_
      refine z_iret dX11_works_60 rfl ⟨rfl, ?_⟩
      refine kq _ ?_ _ FR12
      first | (exfalso; omega) | exact Or.inr ⟨by omega, rfl⟩ | exact Or.inl ⟨by omega, bv, b1, by rw [if_pos (by omega)]⟩ | exact Or.inl ⟨by omega, bv, b1, by rw [if_neg (by omega)]⟩
  · skip
    refine e_aload_n dX11_works_18 rfl ?_
    refine e_iload_n dX11_works_19 rfl ?_
    refine e_callV [.int _] dX11_works_20 tm_11_168 rfl (Nat.le_of_ble_eq_true rfl) (congrArg Prod.fst (fg_s0 k1)) (Nat.le_of_ble_eq_true rfl) (Nat.le_refl _) (Nat.le_refl _) rfl (zp_X2_hasCloth k1 H2 k ⟨by omega, by omega⟩ ?_)
    refine z_ifb_ne 28 dX11_works_23 rfl (fun c15 => ?_) (fun c15 => ?_)
    · skip
      refine e_aload_n dX11_works_28 rfl ?_
      refine e_get (.ref (x + 146)) dX11_works_29 tf_11_51 (congrArg Prod.fst (bk_s0 hk)) (congrArg va_rf (bk_r0_6 hk)) ?_
      refine e_aload_n dX11_works_32 rfl ?_
      refine e_callV [.ref _] dX11_works_33 tm_11_171 rfl (Nat.le_of_ble_eq_true rfl) (congrArg Prod.fst (bk_s146 hk)) (Nat.le_of_ble_eq_true rfl) (Nat.le_refl _) (Nat.le_refl _) rfl (zp_X9_plan (bk_wk146 hk) k1 H2 (by omega) (fun  h16 f17 p18 => ?_))
      have k19 := bk_q (frm_s f17) hk
      have k20 := lk_q (frm_s f17) k1
      have H21 := clsT_c f17 (fun a k q1 q2 => by omega) HX
      have H22 := isF_c f17 (fun a k q1 q2 => by omega) H2
      have FR23 := frm_t FR0 (frm_m (S' := (fun a i => x + 56 ≤ a ∧ a < x + 157)) f17 (fun a k q => by omega))
      obtain ⟨bv, b1, b2, b3⟩ := p18
      have b4 := suW_b WF.2.2 bv
      refine e_iload_n dX11_works_36 rfl ?_
      refine z_iconst (-1) dX11_works_37 rfl ?_
      refine z_icmp_ne 51 dX11_works_38 rfl ⟨by omega, by omega⟩ ⟨by omega, by omega⟩ (fun c24 => ?_) (fun c24 => ?_)
      · skip
        refine e_aload_n dX11_works_51 rfl ?_
        refine e_get (.ref (x + 146)) dX11_works_52 tf_11_51 (congrArg Prod.fst (bk_s0 k19)) (congrArg va_rf (bk_r0_6 k19)) ?_
        refine e_get (.ref (x + 147)) dX11_works_55 tf_11_177 (congrArg Prod.fst (bk_s146 k19)) (congrArg va_rf (bk_r146_0 k19)) ?_
        refine e_iload_n dX11_works_58 rfl ?_
        refine z_ild (dgZ bv k) dX11_works_59 (bk_s147 k19) (by decide) (by omega) (by omega) (b3 k (by omega) (by omega)) ?_
        have y25 := dg_b bv k
        refine z_iret dX11_works_60 rfl ⟨rfl, ?_⟩
        refine kq _ ?_ _ FR23
        first | (exfalso; omega) | exact Or.inr ⟨by omega, rfl⟩ | exact Or.inl ⟨by omega, bv, b1, by rw [if_pos (by omega)]⟩ | exact Or.inl ⟨by omega, bv, b1, by rw [if_neg (by omega)]⟩
      · skip
        refine e_aload_n dX11_works_41 rfl ?_
        refine e_get (.ref (x + 146)) dX11_works_42 tf_11_51 (congrArg Prod.fst (bk_s0 k19)) (congrArg va_rf (bk_r0_6 k19)) ?_
        refine z_get (suW (sG σ f) bv) dX11_works_45 tf_11_174 (congrArg Prod.fst (bk_s146 k19)) (Or.inl rfl) b2 ?_
        refine e_goto 60 dX11_works_48 rfl ?_
        refine z_iret dX11_works_60 rfl ⟨rfl, ?_⟩
        refine kq _ ?_ _ FR23
        first | (exfalso; omega) | exact Or.inr ⟨by omega, rfl⟩ | exact Or.inl ⟨by omega, bv, b1, by rw [if_pos (by omega)]⟩ | exact Or.inl ⟨by omega, bv, b1, by rw [if_neg (by omega)]⟩
    · skip
      refine z_iconst (-1) dX11_works_26 rfl ?_
      refine z_iret dX11_works_27 rfl ⟨rfl, ?_⟩
      refine kq _ ?_ _ FR0
      first | (exfalso; omega) | exact Or.inr ⟨by omega, rfl⟩ | exact Or.inl ⟨by omega, bv, b1, by rw [if_pos (by omega)]⟩ | exact Or.inl ⟨by omega, bv, b1, by rw [if_neg (by omega)]⟩
set_option maxHeartbeats 400000 in
theorem zp_X11_works_out {ad : mA} {dd : Nat} {h : mH} {Q : mQ} {x : Nat} {σ : Sg} (hk : bk h x) (HX : clsT h (x + 1) σ)  (f : Int) (f_r : -2147483648 ≤ f ∧ f < 2147483648) (k : Int) (k_r : -2147483648 ≤ k ∧ k < 2147483648) (p1 : ¬ (0 ≤ f ∧ f < cn σ 0)) (kq : Q (some (.int (zI (-1)))) h) : mCal TB0 ad (dd + 11) M_X11_works [.ref x, .int (zI f), .int (zI k)] h 0 0 Q := by
  refine ⟨Nat.le_of_ble_eq_true rfl, ?_⟩
  show mEv TB0 ad M_X11_works (dd + 11) (0, 0) (mCal TB0 ad (dd + 10)) (fun v h' z => z.1 = 0 ∧ Q v h') 0 [some (.ref x), some (.int (zI f)), some (.int (zI k)), none] [] h (0, 0)
  have w1 := wS_n (clsT_w HX)
  refine e_aload_n dX11_works_0 rfl ?_
  refine e_get (.ref (x + 1)) dX11_works_1 tf_11_10 (congrArg Prod.fst (bk_s0 hk)) (congrArg va_rf (bk_r0_0 hk)) ?_
  refine e_iload_n dX11_works_4 rfl ?_
  refine e_callV [.int _] dX11_works_5 tm_11_94 rfl (Nat.le_of_ble_eq_true rfl) (congrArg Prod.fst (bk_s1 hk)) (Nat.le_of_ble_eq_true rfl) (Nat.le_refl _) (Nat.le_refl _) rfl (zp_X8_forgeAt_out (bk_td1 hk) HX f ⟨by omega, by omega⟩ (by omega) ?_)
  refine e_astore_nN (L' := [_, _, _, _]) dX11_works_8 (Nat.le_of_ble_eq_true rfl) rfl ?_
  refine e_aload_nN dX11_works_9 rfl ?_
  refine e_ifnullN 26 dX11_works_10 rfl ?_
  refine z_iconst (-1) dX11_works_26 rfl ?_
  refine z_iret dX11_works_27 rfl ⟨rfl, ?_⟩
  refine z_q kq ?_
  rfl
theorem op13 {ad : mA} {B : Nat} : op_13 ad B (Inv B) := by
  intro a b 
  rw [← zI_toInt a]
  rw [← zI_toInt b]
  have ra := in_of a
  generalize a.toInt = a at *
  have rb := in_of b
  generalize b.toInt = b at *
  refine opq_I (ansF a (-1) (fun g r => wkP g b r)) (ansF_u (fun g r r' x y => wkP_u g r r' x y)) (fun h σ hk HX Q kq => ?_) (fun h σ hr HR Q kq => ?_)
  · by_cases q : 0 ≤ a ∧ a < cn σ 0
    · exact zp_X11_works_in hk HX a ra b rb q.1 q.2 (fun v p h1 f => kq v h1 f (Or.inl ⟨q.1, q.2, p⟩))
    · exact zp_X11_works_out hk HX a ra b rb q (kq _ _ (frm_0 h) (Or.inr ⟨q, rfl⟩))
  · by_cases q : 0 ≤ a ∧ a < cn σ 0
    · exact zp_X12_works_in hr HR a ra b rb q.1 q.2 (fun v p h1 f => kq v h1 f (Or.inl ⟨q.1, q.2, p⟩))
    · exact zp_X12_works_out hr HR a ra b rb q (fun h1 f => kq _ _ f (Or.inr ⟨q, rfl⟩))
