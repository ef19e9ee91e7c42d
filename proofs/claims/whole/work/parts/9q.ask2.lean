/-! ASKED of the class: the loop -/
theorem dX5_ask_0 : decode cX5_ask 0 = .ok (.aload_n 0, 1) := by decide +kernel
theorem dX5_ask_1 : decode cX5_ask 1 = .ok (.getfield 37, 3) := by decide +kernel
theorem dX5_ask_4 : decode cX5_ask 4 = .ok (.iconst 0, 1) := by decide +kernel
theorem dX5_ask_5 : decode cX5_ask 5 = .ok (.invokestatic 74, 3) := by decide +kernel
theorem dX5_ask_8 : decode cX5_ask 8 = .ok (.iconst 0, 1) := by decide +kernel
theorem dX5_ask_9 : decode cX5_ask 9 = .ok (.istore 7, 2) := by decide +kernel
theorem dX5_ask_11 : decode cX5_ask 11 = .ok (.iload 7, 2) := by decide +kernel
theorem dX5_ask_13 : decode cX5_ask 13 = .ok (.bipush 36, 2) := by decide +kernel
theorem dX5_ask_15 : decode cX5_ask 15 = .ok (.if_icmp .ge 131, 3) := by decide +kernel
theorem dX5_ask_18 : decode cX5_ask 18 = .ok (.aload_n 0, 1) := by decide +kernel
theorem dX5_ask_19 : decode cX5_ask 19 = .ok (.iload_n 1, 1) := by decide +kernel
theorem dX5_ask_20 : decode cX5_ask 20 = .ok (.iload_n 2, 1) := by decide +kernel
theorem dX5_ask_21 : decode cX5_ask 21 = .ok (.aload 5, 2) := by decide +kernel
theorem dX5_ask_23 : decode cX5_ask 23 = .ok (.invokevirtual 103, 3) := by decide +kernel
theorem dX5_ask_26 : decode cX5_ask 26 = .ok (.istore 8, 2) := by decide +kernel
theorem dX5_ask_28 : decode cX5_ask 28 = .ok (.iload 8, 2) := by decide +kernel
theorem dX5_ask_30 : decode cX5_ask 30 = .ok (.iconst (-1), 1) := by decide +kernel
theorem dX5_ask_31 : decode cX5_ask 31 = .ok (.if_icmp .ne 6, 3) := by decide +kernel
theorem dX5_ask_34 : decode cX5_ask 34 = .ok (.goto 112, 3) := by decide +kernel
theorem dX5_ask_37 : decode cX5_ask 37 = .ok (.aload_n 3, 1) := by decide +kernel
theorem dX5_ask_38 : decode cX5_ask 38 = .ok (.iload 8, 2) := by decide +kernel
theorem dX5_ask_40 : decode cX5_ask 40 = .ok (.aload_n 0, 1) := by decide +kernel
theorem dX5_ask_41 : decode cX5_ask 41 = .ok (.getfield 37, 3) := by decide +kernel
theorem dX5_ask_44 : decode cX5_ask 44 = .ok (.iload 8, 2) := by decide +kernel
theorem dX5_ask_46 : decode cX5_ask 46 = .ok (.iaload, 1) := by decide +kernel
theorem dX5_ask_47 : decode cX5_ask 47 = .ok (.iload_n 2, 1) := by decide +kernel
theorem dX5_ask_48 : decode cX5_ask 48 = .ok (.invokestatic 107, 3) := by decide +kernel
theorem dX5_ask_51 : decode cX5_ask 51 = .ok (.istore 9, 2) := by decide +kernel
theorem dX5_ask_53 : decode cX5_ask 53 = .ok (.aload_n 0, 1) := by decide +kernel
theorem dX5_ask_54 : decode cX5_ask 54 = .ok (.getfield 37, 3) := by decide +kernel
theorem dX5_ask_57 : decode cX5_ask 57 = .ok (.iload 8, 2) := by decide +kernel
theorem dX5_ask_59 : decode cX5_ask 59 = .ok (.dup2, 1) := by decide +kernel
theorem dX5_ask_60 : decode cX5_ask 60 = .ok (.iaload, 1) := by decide +kernel
theorem dX5_ask_61 : decode cX5_ask 61 = .ok (.iconst 1, 1) := by decide +kernel
theorem dX5_ask_62 : decode cX5_ask 62 = .ok (.iadd, 1) := by decide +kernel
theorem dX5_ask_63 : decode cX5_ask 63 = .ok (.iastore, 1) := by decide +kernel
theorem dX5_ask_64 : decode cX5_ask 64 = .ok (.iload 9, 2) := by decide +kernel
theorem dX5_ask_66 : decode cX5_ask 66 = .ok (.iconst (-1), 1) := by decide +kernel
theorem dX5_ask_67 : decode cX5_ask 67 = .ok (.if_icmp .ne 7, 3) := by decide +kernel
theorem dX5_ask_70 : decode cX5_ask 70 = .ok (.iconst (-1), 1) := by decide +kernel
theorem dX5_ask_71 : decode cX5_ask 71 = .ok (.goto 8, 3) := by decide +kernel
theorem dX5_ask_74 : decode cX5_ask 74 = .ok (.aload 6, 2) := by decide +kernel
theorem dX5_ask_76 : decode cX5_ask 76 = .ok (.iload 9, 2) := by decide +kernel
theorem dX5_ask_78 : decode cX5_ask 78 = .ok (.iaload, 1) := by decide +kernel
theorem dX5_ask_79 : decode cX5_ask 79 = .ok (.istore 10, 2) := by decide +kernel
theorem dX5_ask_81 : decode cX5_ask 81 = .ok (.iload 9, 2) := by decide +kernel
theorem dX5_ask_83 : decode cX5_ask 83 = .ok (.iconst (-1), 1) := by decide +kernel
theorem dX5_ask_84 : decode cX5_ask 84 = .ok (.if_icmp .eq 56, 3) := by decide +kernel
theorem dX5_ask_87 : decode cX5_ask 87 = .ok (.aload 4, 2) := by decide +kernel
theorem dX5_ask_89 : decode cX5_ask 89 = .ok (.iload 9, 2) := by decide +kernel
theorem dX5_ask_91 : decode cX5_ask 91 = .ok (.bipush 7, 2) := by decide +kernel
theorem dX5_ask_93 : decode cX5_ask 93 = .ok (.imul, 1) := by decide +kernel
theorem dX5_ask_94 : decode cX5_ask 94 = .ok (.iload 8, 2) := by decide +kernel
theorem dX5_ask_96 : decode cX5_ask 96 = .ok (.iadd, 1) := by decide +kernel
theorem dX5_ask_97 : decode cX5_ask 97 = .ok (.iaload, 1) := by decide +kernel
theorem dX5_ask_98 : decode cX5_ask 98 = .ok (.aload 4, 2) := by decide +kernel
theorem dX5_ask_100 : decode cX5_ask 100 = .ok (.iload 9, 2) := by decide +kernel
theorem dX5_ask_102 : decode cX5_ask 102 = .ok (.bipush 7, 2) := by decide +kernel
theorem dX5_ask_104 : decode cX5_ask 104 = .ok (.imul, 1) := by decide +kernel
theorem dX5_ask_105 : decode cX5_ask 105 = .ok (.iload 10, 2) := by decide +kernel
theorem dX5_ask_107 : decode cX5_ask 107 = .ok (.iadd, 1) := by decide +kernel
theorem dX5_ask_108 : decode cX5_ask 108 = .ok (.iaload, 1) := by decide +kernel
theorem dX5_ask_109 : decode cX5_ask 109 = .ok (.if_icmp .ge 31, 3) := by decide +kernel
theorem dX5_ask_112 : decode cX5_ask 112 = .ok (.iload 10, 2) := by decide +kernel
theorem dX5_ask_114 : decode cX5_ask 114 = .ok (.bipush 6, 2) := by decide +kernel
theorem dX5_ask_116 : decode cX5_ask 116 = .ok (.if_icmp .ge 10, 3) := by decide +kernel
theorem dX5_ask_119 : decode cX5_ask 119 = .ok (.aload 5, 2) := by decide +kernel
theorem dX5_ask_121 : decode cX5_ask 121 = .ok (.iload 10, 2) := by decide +kernel
theorem dX5_ask_123 : decode cX5_ask 123 = .ok (.bipush 6, 2) := by decide +kernel
theorem dX5_ask_125 : decode cX5_ask 125 = .ok (.iastore, 1) := by decide +kernel
theorem dX5_ask_126 : decode cX5_ask 126 = .ok (.aload 5, 2) := by decide +kernel
theorem dX5_ask_128 : decode cX5_ask 128 = .ok (.iload 8, 2) := by decide +kernel
theorem dX5_ask_130 : decode cX5_ask 130 = .ok (.iload 9, 2) := by decide +kernel
theorem dX5_ask_132 : decode cX5_ask 132 = .ok (.iastore, 1) := by decide +kernel
theorem dX5_ask_133 : decode cX5_ask 133 = .ok (.aload 6, 2) := by decide +kernel
theorem dX5_ask_135 : decode cX5_ask 135 = .ok (.iload 9, 2) := by decide +kernel
theorem dX5_ask_137 : decode cX5_ask 137 = .ok (.iload 8, 2) := by decide +kernel
theorem dX5_ask_139 : decode cX5_ask 139 = .ok (.iastore, 1) := by decide +kernel
theorem dX5_ask_140 : decode cX5_ask 140 = .ok (.iinc 7 1, 3) := by decide +kernel
theorem dX5_ask_143 : decode cX5_ask 143 = .ok (.goto (-132), 3) := by decide +kernel
theorem dX5_ask_146 : decode cX5_ask 146 = .ok (.return_, 1) := by decide +kernel
set_option maxRecDepth 20000 in
theorem tm_5_103 : tMet TB0 5 103 = some (0, M_X5_nextAsker) := rfl
set_option maxRecDepth 20000 in
theorem tm_5_107 : tMet TB0 5 107 = some (1, M_X5_ranked) := rfl
set_option maxHeartbeats 3000000 in
theorem zp_X5_ask_0 {ad : mA} {dd : Nat} {h : mH} {Q : mQ} {y : Nat} {g : Int → Int} (hk : mak h y) (HD : bdC h y g)  (na : Int) (na_r : -2147483648 ≤ na ∧ na < 2147483648) (no : Int) (no_r : -2147483648 ≤ no ∧ no < 2147483648) (n6 : (0 ≤ nd g ∧ nd g ≤ 6) ∧ (0 ≤ nu g ∧ nu g ≤ 6)) (pna : na = nd g) (pno : no = nu g) (p6 : ∀ k : Int, 0 ≤ k → k < 6 → rI h (y + 33) k = 6 ∧ rI h (y + 34) k = 6) (kq : ∀ h1, frm (fun a k => a = y + 33 ∨ a = y + 34 ∨ a = y + 38) h h1 → (∃ r, mrC h1 y g r ∧ stn g r) → Q none h1) : mCal TB0 ad (dd + 2) M_X5_ask [.ref y, .int (zI na), .int (zI no), .ref (y + 40), .ref (y + 41), .ref (y + 33), .ref (y + 34)] h 0 0 Q := by
  refine ⟨Nat.le_of_ble_eq_true rfl, ?_⟩
  show mEv TB0 ad M_X5_ask (dd + 2) (0, 0) (mCal TB0 ad (dd + 1)) (fun v h' z => z.1 = 0 ∧ Q v h') 0 [some (.ref y), some (.int (zI na)), some (.int (zI no)), some (.ref (y + 40)), some (.ref (y + 41)), some (.ref (y + 33)), some (.ref (y + 34)), none, none, none, none] [] h (0, 0)
  have FR0 : frm (fun a k => a = y + 33 ∨ a = y + 34 ∨ a = y + 38) h h := frm_0 h
  refine e_aload_n dX5_ask_0 rfl ?_
  refine e_get (.ref (y + 38)) dX5_ask_1 tf_5_37 (congrArg Prod.fst (ma_s0 hk)) (congrArg va_rf (ma_r0_7 hk)) ?_
  refine z_iconst (0) dX5_ask_4 rfl ?_
  refine e_callS [.ref _, .int _] dX5_ask_5 tm_5_74 rfl (Nat.le_of_ble_eq_true rfl) (Nat.le_refl _) (Nat.le_refl _) rfl (zp_fill (ma_s38 hk) (by decide) ⟨by omega, by omega⟩ (fun h1 f2 e3 => ?_))
  have k4 := lk_q (frm_s f2) hk
  have H5 := bdC_c f2 (fun a k q => by omega) HD
  have FR6 := frm_t FR0 (frm_m (S' := (fun a k => a = y + 33 ∨ a = y + 34 ∨ a = y + 38)) f2 (fun a k q => by omega))
  refine z_iconst (0) dX5_ask_8 rfl ?_
  refine e_istore (L' := [_, _, _, _, _, _, _, _, _, _, _]) dX5_ask_9 (Nat.le_of_ble_eq_true rfl) rfl ?_
  have lp7 : ∀ (n7 : Nat) (i : Int) (h7 : mH), (36 - i).toNat = n7 → (mak h7 y) → (bdC h7 y g) → (frm (fun a k => a = y + 33 ∨ a = y + 34 ∨ a = y + 38) h h7) → (0 ≤ i ∧ i ≤ 36) → (caI (fun a b => KY g a b) (dR g) (nd g) (nu g) (fun x => rI h7 (y + 38) x) (fun x => rI h7 (y + 33) x) (fun x => rI h7 (y + 34) x)) → (sm6 (fun x => rI h7 (y + 38) x) = i) → mEv TB0 ad M_X5_ask (dd + 2) (0, 0) (mCal TB0 ad (dd + 1)) (fun v h' z => z.1 = 0 ∧ Q v h') 11 [some (.ref y), some (.int (zI na)), some (.int (zI no)), some (.ref (y + 40)), some (.ref (y + 41)), some (.ref (y + 33)), some (.ref (y + 34)), some (.int (zI i)), none, none, none] [] h7 (0, 0) := by
    intro n7
    induction n7 using Nat.strongRecOn with
    | ind n7 ih7 =>
    intro i h7 hn7 k8 H9 FR10 I1 IC IS
    refine e_iload dX5_ask_11 rfl ?_
    refine z_bipush (36) dX5_ask_13 rfl ?_
    refine z_icmp_ge 146 dX5_ask_15 rfl ⟨by omega, by omega⟩ ⟨by omega, by omega⟩ (fun c11 => ?_) (fun c11 => ?_)
    · skip
      refine e_vret dX5_ask_146 rfl ⟨rfl, ?_⟩
      have cd : caD (nd g) (nu g) (fun x => rI h7 (y + 38) x) (fun x => rI h7 (y + 33) x) := by
        first
        | exact ca_36 IC (by omega) (by omega)
        | exact naP_n n1 (by omega) (by omega) (by omega)
      have cc := ca_down n6 (rkH_d n6) IC cd
      exact kq _ FR10 ⟨_, ⟨⟨cc.1.1, isRw_b (by omega) cc.1.1⟩, fun d a c => rfl, cc.2⟩, cc.1.2⟩
    · skip
      refine e_aload_n dX5_ask_18 rfl ?_
      refine e_iload_n dX5_ask_19 rfl ?_
      refine e_iload_n dX5_ask_20 rfl ?_
      refine e_aload dX5_ask_21 rfl ?_
      refine e_callV [.int _, .int _, .ref _] dX5_ask_23 tm_5_103 rfl (Nat.le_of_ble_eq_true rfl) (congrArg Prod.fst (ma_s0 k8)) (Nat.le_of_ble_eq_true rfl) (Nat.le_refl _) (Nat.le_refl _) rfl (zp_X5_nextAsker_0 k8 na ⟨by omega, by omega⟩ no ⟨by omega, by omega⟩ (by omega) (fun v12 p13 => ?_))
      have n1 : naP h7 y 33 na no v12 := by assumption
      have nb := naP_b n1
      refine e_istore (L' := [_, _, _, _, _, _, _, _, _, _, _]) dX5_ask_26 (Nat.le_of_ble_eq_true rfl) rfl ?_
      refine e_iload dX5_ask_28 rfl ?_
      refine z_iconst (-1) dX5_ask_30 rfl ?_
      refine z_icmp_ne 37 dX5_ask_31 rfl ⟨by omega, by omega⟩ ⟨by omega, by omega⟩ (fun c14 => ?_) (fun c14 => ?_)
      · skip
        have n2 := naP_y n1 (by omega)
        have a6 : 0 ≤ rI h7 (y + 38) v12 ∧ rI h7 (y + 38) v12 ≤ nu g := IC.1 v12 (by omega) (by omega)
        refine e_aload_n dX5_ask_37 rfl ?_
        refine e_iload dX5_ask_38 rfl ?_
        refine e_aload_n dX5_ask_40 rfl ?_
        refine e_get (.ref (y + 38)) dX5_ask_41 tf_5_37 (congrArg Prod.fst (ma_s0 k8)) (congrArg va_rf (ma_r0_7 k8)) ?_
        refine e_iload dX5_ask_44 rfl ?_
        refine z_ild (rI h7 (y + 38) v12) dX5_ask_46 (ma_s38 k8) (by decide) (by omega) (by omega) rfl ?_
        have y15 := rI_i h7 (y + 38) v12
        refine e_iload_n dX5_ask_47 rfl ?_
        refine e_callS [.ref _, .int _, .int _, .int _] dX5_ask_48 tm_5_107 rfl (Nat.le_of_ble_eq_true rfl) (Nat.le_refl _) (Nat.le_refl _) rfl (zp_X5_ranked_0 k8 H9 v12 ⟨by omega, by omega⟩ (rI h7 (y + 38) v12) ⟨by omega, by omega⟩ no ⟨by omega, by omega⟩ (by omega) (by omega) (by omega) (fun v16 p17 => ?_))
        have r1 : rnP (dR g) no v12 (rI h7 (y + 38) v12) v16 := by assumption
        have rb := rnP_b r1
        refine e_istore (L' := [_, _, _, _, _, _, _, _, _, _, _]) dX5_ask_51 (Nat.le_of_ble_eq_true rfl) rfl ?_
        refine e_aload_n dX5_ask_53 rfl ?_
        refine e_get (.ref (y + 38)) dX5_ask_54 tf_5_37 (congrArg Prod.fst (ma_s0 k8)) (congrArg va_rf (ma_r0_7 k8)) ?_
        refine e_iload dX5_ask_57 rfl ?_
        refine e_dup2 dX5_ask_59 rfl rfl ?_
        refine z_ild (rI h7 (y + 38) v12) dX5_ask_60 (ma_s38 k8) (by decide) (by omega) (by omega) rfl ?_
        have y18 := rI_i h7 (y + 38) v12
        refine z_iconst (1) dX5_ask_61 rfl ?_
        refine z_iadd dX5_ask_62 ?_
        refine z_ist dX5_ask_63 (ma_s38 k8) (by decide) (by omega) (by omega) (fun h19 e20 => ?_)
        have f21 := frm_1 e20
        have k22 := lk_q (frm_s f21) k8
        have H23 := bdC_c f21 (fun a k q => by omega) H9
        have FR24 := frm_t FR10 (frm_m (S' := (fun a k => a = y + 33 ∨ a = y + 34 ∨ a = y + 38)) f21 (fun a k q => by omega))
        refine e_iload dX5_ask_64 rfl ?_
        refine z_iconst (-1) dX5_ask_66 rfl ?_
        refine z_icmp_ne 74 dX5_ask_67 rfl ⟨by omega, by omega⟩ ⟨by omega, by omega⟩ (fun c25 => ?_) (fun c25 => ?_)
        · skip
          have r2 := rnP_y r1 (by omega)
          refine e_aload dX5_ask_74 rfl ?_
          refine e_iload dX5_ask_76 rfl ?_
          refine z_ild (rI h7 (y + 34) v16) dX5_ask_78 (ma_s34 k22) (by decide) (by omega) (by omega) (frm_r f21 (by omega)) ?_
          have y26 := (show rI h7 (y + 34) v16 = 6 ∨ (0 ≤ rI h7 (y + 34) v16 ∧ rI h7 (y + 34) v16 < nd g) from ca_Hb IC (by omega) (by omega))
          refine e_istore (L' := [_, _, _, _, _, _, _, _, _, _, _]) dX5_ask_79 (Nat.le_of_ble_eq_true rfl) rfl ?_
          refine e_iload dX5_ask_81 rfl ?_
          refine z_iconst (-1) dX5_ask_83 rfl ?_
          refine z_icmp_eq 140 dX5_ask_84 rfl ⟨by omega, by omega⟩ ⟨by omega, by omega⟩ (fun c27 => ?_) (fun c27 => ?_)
          · skip
            refine z_iinc (L' := [_, _, _, _, _, _, _, _, _, _, _]) dX5_ask_140 rfl rfl ?_
            refine e_goto 11 dX5_ask_143 rfl ?_
            exact mEv_wk (by exact ⟨Or.inr rfl, Or.inr rfl, Or.inr rfl, Or.inr rfl, Or.inr rfl, Or.inr rfl, Or.inr rfl, Or.inr rfl, Or.inl rfl, Or.inl rfl, Or.inl rfl, trivial⟩) (ih7 _ (by omega) (i + 1) h19 rfl k22 H23 FR24 (by omega) (by
                      refine ca_ask (a := v12) (by omega) (rkH_d n6) IC (by omega) (by omega) n2.2.1 (by have := n2.2.2; show rI h7 (y + 38) v12 < _; omega) (by exact (rI_eq e20 ⟨by omega, by omega⟩)) (fun x u v z => (frm_r f21 (by omega))) ?_
                      first
                      | exact Or.inl ⟨fun b u v => rnP_n r1 (by omega) b u (by omega), fun x u v => (frm_r f21 (by omega)), fun x u v => (frm_r f21 (by omega))⟩
                      | exact Or.inr ⟨v16, by omega, r2.2, Or.inr ⟨fun z => absurd (bt.mpr z) (by omega), fun x u v => (frm_r f21 (by omega)), fun x u v => (frm_r f21 (by omega))⟩⟩
                      | (exfalso; omega)) (by
                      have e1 : rI h19 (y + 38) v12 = rI h7 (y + 38) v12 + 1 := (rI_eq e20 ⟨by omega, by omega⟩)
                      have e2 : sm6 (fun x => rI h19 (y + 38) x) = sm6 (fun x => rI h7 (y + 38) x) - rI h7 (y + 38) v12 + rI h19 (y + 38) v12 := sm6_pt (by omega) (by omega) (fun k u v z => (frm_r f21 (by omega)))
                      omega))
          · skip
            have bt := uR_lt (g := g) (d := v12) (u := v16) (x := (rI h7 (y + 34) v16)) n6 (by omega) (by omega) (by omega)
            refine e_aload dX5_ask_87 rfl ?_
            refine e_iload dX5_ask_89 rfl ?_
            refine z_bipush (7) dX5_ask_91 rfl ?_
            refine z_imul dX5_ask_93 ?_
            refine e_iload dX5_ask_94 rfl ?_
            refine z_iadd dX5_ask_96 ?_
            refine z_ild (uR g v16 v12) dX5_ask_97 (ma_s41 k22) (by decide) (by omega) (by omega) (H23.2.2.2.2 v16 v12 (by omega) (by omega) (by omega) (by omega)) ?_
            have y28 := @uR_b g (by omega) v16 v12 (by omega)
            refine e_aload dX5_ask_98 rfl ?_
            refine e_iload dX5_ask_100 rfl ?_
            refine z_bipush (7) dX5_ask_102 rfl ?_
            refine z_imul dX5_ask_104 ?_
            refine e_iload dX5_ask_105 rfl ?_
            refine z_iadd dX5_ask_107 ?_
            refine z_ild (uR g v16 (rI h7 (y + 34) v16)) dX5_ask_108 (ma_s41 k22) (by decide) (by omega) (by omega) (H23.2.2.2.2 v16 (rI h7 (y + 34) v16) (by omega) (by omega) (by omega) (by omega)) ?_
            have y29 := @uR_b g (by omega) v16 (rI h7 (y + 34) v16) (by omega)
            refine z_icmp_ge 140 dX5_ask_109 rfl ⟨by omega, by omega⟩ ⟨by omega, by omega⟩ (fun c30 => ?_) (fun c30 => ?_)
            · skip
              refine z_iinc (L' := [_, _, _, _, _, _, _, _, _, _, _]) dX5_ask_140 rfl rfl ?_
              refine e_goto 11 dX5_ask_143 rfl ?_
              exact mEv_wk (by exact ⟨Or.inr rfl, Or.inr rfl, Or.inr rfl, Or.inr rfl, Or.inr rfl, Or.inr rfl, Or.inr rfl, Or.inr rfl, Or.inl rfl, Or.inl rfl, Or.inl rfl, trivial⟩) (ih7 _ (by omega) (i + 1) h19 rfl k22 H23 FR24 (by omega) (by
                        refine ca_ask (a := v12) (by omega) (rkH_d n6) IC (by omega) (by omega) n2.2.1 (by have := n2.2.2; show rI h7 (y + 38) v12 < _; omega) (by exact (rI_eq e20 ⟨by omega, by omega⟩)) (fun x u v z => (frm_r f21 (by omega))) ?_
                        first
                        | exact Or.inl ⟨fun b u v => rnP_n r1 (by omega) b u (by omega), fun x u v => (frm_r f21 (by omega)), fun x u v => (frm_r f21 (by omega))⟩
                        | exact Or.inr ⟨v16, by omega, r2.2, Or.inr ⟨fun z => absurd (bt.mpr z) (by omega), fun x u v => (frm_r f21 (by omega)), fun x u v => (frm_r f21 (by omega))⟩⟩
                        | (exfalso; omega)) (by
                        have e1 : rI h19 (y + 38) v12 = rI h7 (y + 38) v12 + 1 := (rI_eq e20 ⟨by omega, by omega⟩)
                        have e2 : sm6 (fun x => rI h19 (y + 38) x) = sm6 (fun x => rI h7 (y + 38) x) - rI h7 (y + 38) v12 + rI h19 (y + 38) v12 := sm6_pt (by omega) (by omega) (fun k u v z => (frm_r f21 (by omega)))
                        omega))
            · skip
              refine e_iload dX5_ask_112 rfl ?_
              refine z_bipush (6) dX5_ask_114 rfl ?_
              refine z_icmp_ge 126 dX5_ask_116 rfl ⟨by omega, by omega⟩ ⟨by omega, by omega⟩ (fun c31 => ?_) (fun c31 => ?_)
              · skip
                refine e_aload dX5_ask_126 rfl ?_
                refine e_iload dX5_ask_128 rfl ?_
                refine e_iload dX5_ask_130 rfl ?_
                refine z_ist dX5_ask_132 (ma_s33 k22) (by decide) (by omega) (by omega) (fun h32 e33 => ?_)
                have f34 := frm_1 e33
                have k35 := lk_q (frm_s f34) k22
                have H36 := bdC_c f34 (fun a k q => by omega) H23
                have FR37 := frm_t FR24 (frm_m (S' := (fun a k => a = y + 33 ∨ a = y + 34 ∨ a = y + 38)) f34 (fun a k q => by omega))
                refine e_aload dX5_ask_133 rfl ?_
                refine e_iload dX5_ask_135 rfl ?_
                refine e_iload dX5_ask_137 rfl ?_
                refine z_ist dX5_ask_139 (ma_s34 k35) (by decide) (by omega) (by omega) (fun h38 e39 => ?_)
                have f40 := frm_1 e39
                have k41 := lk_q (frm_s f40) k35
                have H42 := bdC_c f40 (fun a k q => by omega) H36
                have FR43 := frm_t FR37 (frm_m (S' := (fun a k => a = y + 33 ∨ a = y + 34 ∨ a = y + 38)) f40 (fun a k q => by omega))
                refine z_iinc (L' := [_, _, _, _, _, _, _, _, _, _, _]) dX5_ask_140 rfl rfl ?_
                refine e_goto 11 dX5_ask_143 rfl ?_
                exact mEv_wk (by exact ⟨Or.inr rfl, Or.inr rfl, Or.inr rfl, Or.inr rfl, Or.inr rfl, Or.inr rfl, Or.inr rfl, Or.inr rfl, Or.inl rfl, Or.inl rfl, Or.inl rfl, trivial⟩) (ih7 _ (by omega) (i + 1) h38 rfl k41 H42 FR43 (by omega) (by
                          refine ca_ask (a := v12) (by omega) (rkH_d n6) IC (by omega) (by omega) n2.2.1 (by have := n2.2.2; show rI h7 (y + 38) v12 < _; omega) (by exact (((frm_r f40 (by omega)).trans (frm_r f34 (by omega))).trans (rI_eq e20 ⟨by omega, by omega⟩))) (fun x u v z => ((frm_r f40 (by omega)).trans ((frm_r f34 (by omega)).trans (frm_r f21 (by omega))))) ?_
                          first
                          | exact Or.inr ⟨v16, by omega, r2.2, Or.inl ⟨bt.mp (by omega), ((frm_r f40 (by omega)).trans (rI_eq e33 ⟨by omega, by omega⟩)), (rI_eq e39 ⟨by omega, by omega⟩), fun x u v z w => by
                            have w : x = rI h7 (y + 34) v16 := w
                            omega, fun x u v z w => by
                            have w : x ≠ rI h7 (y + 34) v16 := w
                            exact ((frm_r f40 (by omega)).trans ((frm_r f34 (by omega)).trans (frm_r f21 (by omega)))), fun x u v z => ((frm_r f40 (by omega)).trans ((frm_r f34 (by omega)).trans (frm_r f21 (by omega))))⟩⟩
                          | (exfalso; omega)) (by
                          have e1 : rI h38 (y + 38) v12 = rI h7 (y + 38) v12 + 1 := (((frm_r f40 (by omega)).trans (frm_r f34 (by omega))).trans (rI_eq e20 ⟨by omega, by omega⟩))
                          have e2 : sm6 (fun x => rI h38 (y + 38) x) = sm6 (fun x => rI h7 (y + 38) x) - rI h7 (y + 38) v12 + rI h38 (y + 38) v12 := sm6_pt (by omega) (by omega) (fun k u v z => ((frm_r f40 (by omega)).trans ((frm_r f34 (by omega)).trans (frm_r f21 (by omega)))))
                          omega))
              · skip
                refine e_aload dX5_ask_119 rfl ?_
                refine e_iload dX5_ask_121 rfl ?_
                refine z_bipush (6) dX5_ask_123 rfl ?_
                refine z_ist dX5_ask_125 (ma_s33 k22) (by decide) (by omega) (by omega) (fun h44 e45 => ?_)
                have f46 := frm_1 e45
                have k47 := lk_q (frm_s f46) k22
                have H48 := bdC_c f46 (fun a k q => by omega) H23
                have FR49 := frm_t FR24 (frm_m (S' := (fun a k => a = y + 33 ∨ a = y + 34 ∨ a = y + 38)) f46 (fun a k q => by omega))
                refine e_aload dX5_ask_126 rfl ?_
                refine e_iload dX5_ask_128 rfl ?_
                refine e_iload dX5_ask_130 rfl ?_
                refine z_ist dX5_ask_132 (ma_s33 k47) (by decide) (by omega) (by omega) (fun h50 e51 => ?_)
                have f52 := frm_1 e51
                have k53 := lk_q (frm_s f52) k47
                have H54 := bdC_c f52 (fun a k q => by omega) H48
                have FR55 := frm_t FR49 (frm_m (S' := (fun a k => a = y + 33 ∨ a = y + 34 ∨ a = y + 38)) f52 (fun a k q => by omega))
                refine e_aload dX5_ask_133 rfl ?_
                refine e_iload dX5_ask_135 rfl ?_
                refine e_iload dX5_ask_137 rfl ?_
                refine z_ist dX5_ask_139 (ma_s34 k53) (by decide) (by omega) (by omega) (fun h56 e57 => ?_)
                have f58 := frm_1 e57
                have k59 := lk_q (frm_s f58) k53
                have H60 := bdC_c f58 (fun a k q => by omega) H54
                have FR61 := frm_t FR55 (frm_m (S' := (fun a k => a = y + 33 ∨ a = y + 34 ∨ a = y + 38)) f58 (fun a k q => by omega))
                refine z_iinc (L' := [_, _, _, _, _, _, _, _, _, _, _]) dX5_ask_140 rfl rfl ?_
                refine e_goto 11 dX5_ask_143 rfl ?_
                exact mEv_wk (by exact ⟨Or.inr rfl, Or.inr rfl, Or.inr rfl, Or.inr rfl, Or.inr rfl, Or.inr rfl, Or.inr rfl, Or.inr rfl, Or.inl rfl, Or.inl rfl, Or.inl rfl, trivial⟩) (ih7 _ (by omega) (i + 1) h56 rfl k59 H60 FR61 (by omega) (by
                          refine ca_ask (a := v12) (by omega) (rkH_d n6) IC (by omega) (by omega) n2.2.1 (by have := n2.2.2; show rI h7 (y + 38) v12 < _; omega) (by exact (((frm_r f58 (by omega)).trans ((frm_r f52 (by omega)).trans (frm_r f46 (by omega)))).trans (rI_eq e20 ⟨by omega, by omega⟩))) (fun x u v z => ((frm_r f58 (by omega)).trans ((frm_r f52 (by omega)).trans ((frm_r f46 (by omega)).trans (frm_r f21 (by omega)))))) ?_
                          first
                          | exact Or.inr ⟨v16, by omega, r2.2, Or.inl ⟨bt.mp (by omega), ((frm_r f58 (by omega)).trans (rI_eq e51 ⟨by omega, by omega⟩)), (rI_eq e57 ⟨by omega, by omega⟩), fun x u v z w => by
                            have w : x = rI h7 (y + 34) v16 := w
                            show rI h56 (y + 33) x = 6
                            rw [w]; exact (((frm_r f58 (by omega)).trans (frm_r f52 (by omega))).trans (rI_eq e45 ⟨by omega, by omega⟩)), fun x u v z w => by
                            have w : x ≠ rI h7 (y + 34) v16 := w
                            exact ((frm_r f58 (by omega)).trans ((frm_r f52 (by omega)).trans ((frm_r f46 (by omega)).trans (frm_r f21 (by omega))))), fun x u v z => ((frm_r f58 (by omega)).trans ((frm_r f52 (by omega)).trans ((frm_r f46 (by omega)).trans (frm_r f21 (by omega)))))⟩⟩
                          | (exfalso; omega)) (by
                          have e1 : rI h56 (y + 38) v12 = rI h7 (y + 38) v12 + 1 := (((frm_r f58 (by omega)).trans ((frm_r f52 (by omega)).trans (frm_r f46 (by omega)))).trans (rI_eq e20 ⟨by omega, by omega⟩))
                          have e2 : sm6 (fun x => rI h56 (y + 38) x) = sm6 (fun x => rI h7 (y + 38) x) - rI h7 (y + 38) v12 + rI h56 (y + 38) v12 := sm6_pt (by omega) (by omega) (fun k u v z => ((frm_r f58 (by omega)).trans ((frm_r f52 (by omega)).trans ((frm_r f46 (by omega)).trans (frm_r f21 (by omega))))))
                          omega))
        · skip
          refine z_iconst (-1) dX5_ask_70 rfl ?_
          refine e_goto 79 dX5_ask_71 rfl ?_
          refine e_istore (L' := [_, _, _, _, _, _, _, _, _, _, _]) dX5_ask_79 (Nat.le_of_ble_eq_true rfl) rfl ?_
          refine e_iload dX5_ask_81 rfl ?_
          refine z_iconst (-1) dX5_ask_83 rfl ?_
          refine z_icmp_eq 140 dX5_ask_84 rfl ⟨by omega, by omega⟩ ⟨by omega, by omega⟩ (fun c62 => ?_) (fun c62 => ?_)
          · skip
            refine z_iinc (L' := [_, _, _, _, _, _, _, _, _, _, _]) dX5_ask_140 rfl rfl ?_
            refine e_goto 11 dX5_ask_143 rfl ?_
            exact mEv_wk (by exact ⟨Or.inr rfl, Or.inr rfl, Or.inr rfl, Or.inr rfl, Or.inr rfl, Or.inr rfl, Or.inr rfl, Or.inr rfl, Or.inl rfl, Or.inl rfl, Or.inl rfl, trivial⟩) (ih7 _ (by omega) (i + 1) h19 rfl k22 H23 FR24 (by omega) (by
                      refine ca_ask (a := v12) (by omega) (rkH_d n6) IC (by omega) (by omega) n2.2.1 (by have := n2.2.2; show rI h7 (y + 38) v12 < _; omega) (by exact (rI_eq e20 ⟨by omega, by omega⟩)) (fun x u v z => (frm_r f21 (by omega))) ?_
                      first
                      | exact Or.inl ⟨fun b u v => rnP_n r1 (by omega) b u (by omega), fun x u v => (frm_r f21 (by omega)), fun x u v => (frm_r f21 (by omega))⟩
                      | exact Or.inr ⟨v16, by omega, r2.2, Or.inr ⟨fun z => absurd (bt.mpr z) (by omega), fun x u v => (frm_r f21 (by omega)), fun x u v => (frm_r f21 (by omega))⟩⟩
                      | (exfalso; omega)) (by
                      have e1 : rI h19 (y + 38) v12 = rI h7 (y + 38) v12 + 1 := (rI_eq e20 ⟨by omega, by omega⟩)
                      have e2 : sm6 (fun x => rI h19 (y + 38) x) = sm6 (fun x => rI h7 (y + 38) x) - rI h7 (y + 38) v12 + rI h19 (y + 38) v12 := sm6_pt (by omega) (by omega) (fun k u v z => (frm_r f21 (by omega)))
                      omega))
          · skip
            have bt := uR_lt (g := g) (d := v12) (u := v16) (x := (rI h7 (y + 34) v16)) n6 (by omega) (by omega) (by omega)
            refine e_aload dX5_ask_87 rfl ?_
            refine e_iload dX5_ask_89 rfl ?_
            refine z_bipush (7) dX5_ask_91 rfl ?_
            refine z_imul dX5_ask_93 ?_
            refine e_iload dX5_ask_94 rfl ?_
            refine z_iadd dX5_ask_96 ?_
            refine z_ild (uR g v16 v12) dX5_ask_97 (ma_s41 k22) (by decide) (by omega) (by omega) (H23.2.2.2.2 v16 v12 (by omega) (by omega) (by omega) (by omega)) ?_
            have y63 := @uR_b g (by omega) v16 v12 (by omega)
            refine e_aload dX5_ask_98 rfl ?_
            refine e_iload dX5_ask_100 rfl ?_
            refine z_bipush (7) dX5_ask_102 rfl ?_
            refine z_imul dX5_ask_104 ?_
            refine e_iload dX5_ask_105 rfl ?_
            refine z_iadd dX5_ask_107 ?_
            refine z_ild (uR g v16 (-1)) dX5_ask_108 (ma_s41 k22) (by decide) (by omega) (by omega) (H23.2.2.2.2 v16 (-1) (by omega) (by omega) (by omega) (by omega)) ?_
            have y64 := @uR_b g (by omega) v16 (-1) (by omega)
            refine z_icmp_ge 140 dX5_ask_109 rfl ⟨by omega, by omega⟩ ⟨by omega, by omega⟩ (fun c65 => ?_) (fun c65 => ?_)
            · skip
              refine z_iinc (L' := [_, _, _, _, _, _, _, _, _, _, _]) dX5_ask_140 rfl rfl ?_
              refine e_goto 11 dX5_ask_143 rfl ?_
              exact mEv_wk (by exact ⟨Or.inr rfl, Or.inr rfl, Or.inr rfl, Or.inr rfl, Or.inr rfl, Or.inr rfl, Or.inr rfl, Or.inr rfl, Or.inl rfl, Or.inl rfl, Or.inl rfl, trivial⟩) (ih7 _ (by omega) (i + 1) h19 rfl k22 H23 FR24 (by omega) (by
                        refine ca_ask (a := v12) (by omega) (rkH_d n6) IC (by omega) (by omega) n2.2.1 (by have := n2.2.2; show rI h7 (y + 38) v12 < _; omega) (by exact (rI_eq e20 ⟨by omega, by omega⟩)) (fun x u v z => (frm_r f21 (by omega))) ?_
                        first
                        | exact Or.inl ⟨fun b u v => rnP_n r1 (by omega) b u (by omega), fun x u v => (frm_r f21 (by omega)), fun x u v => (frm_r f21 (by omega))⟩
                        | exact Or.inr ⟨v16, by omega, r2.2, Or.inr ⟨fun z => absurd (bt.mpr z) (by omega), fun x u v => (frm_r f21 (by omega)), fun x u v => (frm_r f21 (by omega))⟩⟩
                        | (exfalso; omega)) (by
                        have e1 : rI h19 (y + 38) v12 = rI h7 (y + 38) v12 + 1 := (rI_eq e20 ⟨by omega, by omega⟩)
                        have e2 : sm6 (fun x => rI h19 (y + 38) x) = sm6 (fun x => rI h7 (y + 38) x) - rI h7 (y + 38) v12 + rI h19 (y + 38) v12 := sm6_pt (by omega) (by omega) (fun k u v z => (frm_r f21 (by omega)))
                        omega))
            · skip
              refine e_iload dX5_ask_112 rfl ?_
              refine z_bipush (6) dX5_ask_114 rfl ?_
              refine z_icmp_ge 126 dX5_ask_116 rfl ⟨by omega, by omega⟩ ⟨by omega, by omega⟩ (fun c66 => ?_) (fun c66 => ?_)
              · exfalso; omega
              · skip
                refine e_aload dX5_ask_119 rfl ?_
                refine e_iload dX5_ask_121 rfl ?_
                refine z_bipush (6) dX5_ask_123 rfl ?_
                refine z_ist dX5_ask_125 (ma_s33 k22) (by decide) (by omega) (by omega) (fun h67 e68 => ?_)
                have f69 := frm_1 e68
                have k70 := lk_q (frm_s f69) k22
                have H71 := bdC_c f69 (fun a k q => by omega) H23
                have FR72 := frm_t FR24 (frm_m (S' := (fun a k => a = y + 33 ∨ a = y + 34 ∨ a = y + 38)) f69 (fun a k q => by omega))
                refine e_aload dX5_ask_126 rfl ?_
                refine e_iload dX5_ask_128 rfl ?_
                refine e_iload dX5_ask_130 rfl ?_
                refine z_ist dX5_ask_132 (ma_s33 k70) (by decide) (by omega) (by omega) (fun h73 e74 => ?_)
                have f75 := frm_1 e74
                have k76 := lk_q (frm_s f75) k70
                have H77 := bdC_c f75 (fun a k q => by omega) H71
                have FR78 := frm_t FR72 (frm_m (S' := (fun a k => a = y + 33 ∨ a = y + 34 ∨ a = y + 38)) f75 (fun a k q => by omega))
                refine e_aload dX5_ask_133 rfl ?_
                refine e_iload dX5_ask_135 rfl ?_
                refine e_iload dX5_ask_137 rfl ?_
                refine z_ist dX5_ask_139 (ma_s34 k76) (by decide) (by omega) (by omega) (fun h79 e80 => ?_)
                have f81 := frm_1 e80
                have k82 := lk_q (frm_s f81) k76
                have H83 := bdC_c f81 (fun a k q => by omega) H77
                have FR84 := frm_t FR78 (frm_m (S' := (fun a k => a = y + 33 ∨ a = y + 34 ∨ a = y + 38)) f81 (fun a k q => by omega))
                refine z_iinc (L' := [_, _, _, _, _, _, _, _, _, _, _]) dX5_ask_140 rfl rfl ?_
                refine e_goto 11 dX5_ask_143 rfl ?_
                exact mEv_wk (by exact ⟨Or.inr rfl, Or.inr rfl, Or.inr rfl, Or.inr rfl, Or.inr rfl, Or.inr rfl, Or.inr rfl, Or.inr rfl, Or.inl rfl, Or.inl rfl, Or.inl rfl, trivial⟩) (ih7 _ (by omega) (i + 1) h79 rfl k82 H83 FR84 (by omega) (by
                          refine ca_ask (a := v12) (by omega) (rkH_d n6) IC (by omega) (by omega) n2.2.1 (by have := n2.2.2; show rI h7 (y + 38) v12 < _; omega) (by exact (((frm_r f81 (by omega)).trans ((frm_r f75 (by omega)).trans (frm_r f69 (by omega)))).trans (rI_eq e20 ⟨by omega, by omega⟩))) (fun x u v z => ((frm_r f81 (by omega)).trans ((frm_r f75 (by omega)).trans ((frm_r f69 (by omega)).trans (frm_r f21 (by omega)))))) ?_
                          first
                          | exact Or.inr ⟨v16, by omega, r2.2, Or.inl ⟨bt.mp (by omega), ((frm_r f81 (by omega)).trans (rI_eq e74 ⟨by omega, by omega⟩)), (rI_eq e80 ⟨by omega, by omega⟩), fun x u v z w => by
                            have w : x = rI h7 (y + 34) v16 := w
                            show rI h79 (y + 33) x = 6
                            rw [w]; exact (((frm_r f81 (by omega)).trans (frm_r f75 (by omega))).trans (rI_eq e68 ⟨by omega, by omega⟩)), fun x u v z w => by
                            have w : x ≠ rI h7 (y + 34) v16 := w
                            exact ((frm_r f81 (by omega)).trans ((frm_r f75 (by omega)).trans ((frm_r f69 (by omega)).trans (frm_r f21 (by omega))))), fun x u v z => ((frm_r f81 (by omega)).trans ((frm_r f75 (by omega)).trans ((frm_r f69 (by omega)).trans (frm_r f21 (by omega)))))⟩⟩
                          | (exfalso; omega)) (by
                          have e1 : rI h79 (y + 38) v12 = rI h7 (y + 38) v12 + 1 := (((frm_r f81 (by omega)).trans ((frm_r f75 (by omega)).trans (frm_r f69 (by omega)))).trans (rI_eq e20 ⟨by omega, by omega⟩))
                          have e2 : sm6 (fun x => rI h79 (y + 38) x) = sm6 (fun x => rI h7 (y + 38) x) - rI h7 (y + 38) v12 + rI h79 (y + 38) v12 := sm6_pt (by omega) (by omega) (fun k u v z => ((frm_r f81 (by omega)).trans ((frm_r f75 (by omega)).trans ((frm_r f69 (by omega)).trans (frm_r f21 (by omega))))))
                          omega))
      · skip
        refine e_goto 146 dX5_ask_34 rfl ?_
        refine e_vret dX5_ask_146 rfl ⟨rfl, ?_⟩
        have cd : caD (nd g) (nu g) (fun x => rI h7 (y + 38) x) (fun x => rI h7 (y + 33) x) := by
          first
          | exact ca_36 IC (by omega) (by omega)
          | exact naP_n n1 (by omega) (by omega) (by omega)
        have cc := ca_down n6 (rkH_d n6) IC cd
        exact kq _ FR10 ⟨_, ⟨⟨cc.1.1, isRw_b (by omega) cc.1.1⟩, fun d a c => rfl, cc.2⟩, cc.1.2⟩
  exact lp7 _ 0 h1 rfl k4 H5 FR6 (by omega) (ca_0 (by omega) (rkH_d n6) (fun x a c => ⟨e3 x a (by omega), ((frm_r f2 (by omega))).trans (p6 x a c).1, ((frm_r f2 (by omega))).trans (p6 x a c).2⟩)) (by
            have z0 := e3 0 (by omega) (by omega)
            have z1 := e3 1 (by omega) (by omega)
            have z2 := e3 2 (by omega) (by omega)
            have z3 := e3 3 (by omega) (by omega)
            have z4 := e3 4 (by omega) (by omega)
            have z5 := e3 5 (by omega) (by omega)
            show rI h1 (y + 38) 0 + rI h1 (y + 38) 1 + rI h1 (y + 38) 2 + rI h1 (y + 38) 3 + rI h1 (y + 38) 4 + rI h1 (y + 38) 5 = 0
            omega)
set_option maxHeartbeats 3000000 in
theorem zp_X5_ask_1 {ad : mA} {dd : Nat} {h : mH} {Q : mQ} {y : Nat} {g : Int → Int} (hk : mak h y) (HD : bdC h y g)  (na : Int) (na_r : -2147483648 ≤ na ∧ na < 2147483648) (no : Int) (no_r : -2147483648 ≤ no ∧ no < 2147483648) (n6 : (0 ≤ nd g ∧ nd g ≤ 6) ∧ (0 ≤ nu g ∧ nu g ≤ 6)) (pna : na = nu g) (pno : no = nd g) (p6 : ∀ k : Int, 0 ≤ k → k < 6 → rI h (y + 33) k = 6 ∧ rI h (y + 34) k = 6) (kq : ∀ h1, frm (fun a k => a = y + 33 ∨ a = y + 34 ∨ a = y + 38) h h1 → (∃ r, mrC h1 y g r ∧ stn g r) → Q none h1) : mCal TB0 ad (dd + 2) M_X5_ask [.ref y, .int (zI na), .int (zI no), .ref (y + 41), .ref (y + 40), .ref (y + 34), .ref (y + 33)] h 0 0 Q := by
  refine ⟨Nat.le_of_ble_eq_true rfl, ?_⟩
  show mEv TB0 ad M_X5_ask (dd + 2) (0, 0) (mCal TB0 ad (dd + 1)) (fun v h' z => z.1 = 0 ∧ Q v h') 0 [some (.ref y), some (.int (zI na)), some (.int (zI no)), some (.ref (y + 41)), some (.ref (y + 40)), some (.ref (y + 34)), some (.ref (y + 33)), none, none, none, none] [] h (0, 0)
  have FR0 : frm (fun a k => a = y + 33 ∨ a = y + 34 ∨ a = y + 38) h h := frm_0 h
  refine e_aload_n dX5_ask_0 rfl ?_
  refine e_get (.ref (y + 38)) dX5_ask_1 tf_5_37 (congrArg Prod.fst (ma_s0 hk)) (congrArg va_rf (ma_r0_7 hk)) ?_
  refine z_iconst (0) dX5_ask_4 rfl ?_
  refine e_callS [.ref _, .int _] dX5_ask_5 tm_5_74 rfl (Nat.le_of_ble_eq_true rfl) (Nat.le_refl _) (Nat.le_refl _) rfl (zp_fill (ma_s38 hk) (by decide) ⟨by omega, by omega⟩ (fun h1 f2 e3 => ?_))
  have k4 := lk_q (frm_s f2) hk
  have H5 := bdC_c f2 (fun a k q => by omega) HD
  have FR6 := frm_t FR0 (frm_m (S' := (fun a k => a = y + 33 ∨ a = y + 34 ∨ a = y + 38)) f2 (fun a k q => by omega))
  refine z_iconst (0) dX5_ask_8 rfl ?_
  refine e_istore (L' := [_, _, _, _, _, _, _, _, _, _, _]) dX5_ask_9 (Nat.le_of_ble_eq_true rfl) rfl ?_
  have lp7 : ∀ (n7 : Nat) (i : Int) (h7 : mH), (36 - i).toNat = n7 → (mak h7 y) → (bdC h7 y g) → (frm (fun a k => a = y + 33 ∨ a = y + 34 ∨ a = y + 38) h h7) → (0 ≤ i ∧ i ≤ 36) → (caI (fun a b => KY g b a) (uR g) (nu g) (nd g) (fun x => rI h7 (y + 38) x) (fun x => rI h7 (y + 34) x) (fun x => rI h7 (y + 33) x)) → (sm6 (fun x => rI h7 (y + 38) x) = i) → mEv TB0 ad M_X5_ask (dd + 2) (0, 0) (mCal TB0 ad (dd + 1)) (fun v h' z => z.1 = 0 ∧ Q v h') 11 [some (.ref y), some (.int (zI na)), some (.int (zI no)), some (.ref (y + 41)), some (.ref (y + 40)), some (.ref (y + 34)), some (.ref (y + 33)), some (.int (zI i)), none, none, none] [] h7 (0, 0) := by
    intro n7
    induction n7 using Nat.strongRecOn with
    | ind n7 ih7 =>
    intro i h7 hn7 k8 H9 FR10 I1 IC IS
    refine e_iload dX5_ask_11 rfl ?_
    refine z_bipush (36) dX5_ask_13 rfl ?_
    refine z_icmp_ge 146 dX5_ask_15 rfl ⟨by omega, by omega⟩ ⟨by omega, by omega⟩ (fun c11 => ?_) (fun c11 => ?_)
    · skip
      refine e_vret dX5_ask_146 rfl ⟨rfl, ?_⟩
      have cd : caD (nu g) (nd g) (fun x => rI h7 (y + 38) x) (fun x => rI h7 (y + 34) x) := by
        first
        | exact ca_36 IC (by omega) (by omega)
        | exact naP_n n1 (by omega) (by omega) (by omega)
      have cc := ca_up n6 (rkH_u n6) IC cd
      exact kq _ FR10 ⟨_, ⟨⟨cc.1.1, isRw_b (by omega) cc.1.1⟩, fun d a c => rfl, cc.2⟩, cc.1.2⟩
    · skip
      refine e_aload_n dX5_ask_18 rfl ?_
      refine e_iload_n dX5_ask_19 rfl ?_
      refine e_iload_n dX5_ask_20 rfl ?_
      refine e_aload dX5_ask_21 rfl ?_
      refine e_callV [.int _, .int _, .ref _] dX5_ask_23 tm_5_103 rfl (Nat.le_of_ble_eq_true rfl) (congrArg Prod.fst (ma_s0 k8)) (Nat.le_of_ble_eq_true rfl) (Nat.le_refl _) (Nat.le_refl _) rfl (zp_X5_nextAsker_1 k8 na ⟨by omega, by omega⟩ no ⟨by omega, by omega⟩ (by omega) (fun v12 p13 => ?_))
      have n1 : naP h7 y 34 na no v12 := by assumption
      have nb := naP_b n1
      refine e_istore (L' := [_, _, _, _, _, _, _, _, _, _, _]) dX5_ask_26 (Nat.le_of_ble_eq_true rfl) rfl ?_
      refine e_iload dX5_ask_28 rfl ?_
      refine z_iconst (-1) dX5_ask_30 rfl ?_
      refine z_icmp_ne 37 dX5_ask_31 rfl ⟨by omega, by omega⟩ ⟨by omega, by omega⟩ (fun c14 => ?_) (fun c14 => ?_)
      · skip
        have n2 := naP_y n1 (by omega)
        have a6 : 0 ≤ rI h7 (y + 38) v12 ∧ rI h7 (y + 38) v12 ≤ nd g := IC.1 v12 (by omega) (by omega)
        refine e_aload_n dX5_ask_37 rfl ?_
        refine e_iload dX5_ask_38 rfl ?_
        refine e_aload_n dX5_ask_40 rfl ?_
        refine e_get (.ref (y + 38)) dX5_ask_41 tf_5_37 (congrArg Prod.fst (ma_s0 k8)) (congrArg va_rf (ma_r0_7 k8)) ?_
        refine e_iload dX5_ask_44 rfl ?_
        refine z_ild (rI h7 (y + 38) v12) dX5_ask_46 (ma_s38 k8) (by decide) (by omega) (by omega) rfl ?_
        have y15 := rI_i h7 (y + 38) v12
        refine e_iload_n dX5_ask_47 rfl ?_
        refine e_callS [.ref _, .int _, .int _, .int _] dX5_ask_48 tm_5_107 rfl (Nat.le_of_ble_eq_true rfl) (Nat.le_refl _) (Nat.le_refl _) rfl (zp_X5_ranked_1 k8 H9 v12 ⟨by omega, by omega⟩ (rI h7 (y + 38) v12) ⟨by omega, by omega⟩ no ⟨by omega, by omega⟩ (by omega) (by omega) (by omega) (fun v16 p17 => ?_))
        have r1 : rnP (uR g) no v12 (rI h7 (y + 38) v12) v16 := by assumption
        have rb := rnP_b r1
        refine e_istore (L' := [_, _, _, _, _, _, _, _, _, _, _]) dX5_ask_51 (Nat.le_of_ble_eq_true rfl) rfl ?_
        refine e_aload_n dX5_ask_53 rfl ?_
        refine e_get (.ref (y + 38)) dX5_ask_54 tf_5_37 (congrArg Prod.fst (ma_s0 k8)) (congrArg va_rf (ma_r0_7 k8)) ?_
        refine e_iload dX5_ask_57 rfl ?_
        refine e_dup2 dX5_ask_59 rfl rfl ?_
        refine z_ild (rI h7 (y + 38) v12) dX5_ask_60 (ma_s38 k8) (by decide) (by omega) (by omega) rfl ?_
        have y18 := rI_i h7 (y + 38) v12
        refine z_iconst (1) dX5_ask_61 rfl ?_
        refine z_iadd dX5_ask_62 ?_
        refine z_ist dX5_ask_63 (ma_s38 k8) (by decide) (by omega) (by omega) (fun h19 e20 => ?_)
        have f21 := frm_1 e20
        have k22 := lk_q (frm_s f21) k8
        have H23 := bdC_c f21 (fun a k q => by omega) H9
        have FR24 := frm_t FR10 (frm_m (S' := (fun a k => a = y + 33 ∨ a = y + 34 ∨ a = y + 38)) f21 (fun a k q => by omega))
        refine e_iload dX5_ask_64 rfl ?_
        refine z_iconst (-1) dX5_ask_66 rfl ?_
        refine z_icmp_ne 74 dX5_ask_67 rfl ⟨by omega, by omega⟩ ⟨by omega, by omega⟩ (fun c25 => ?_) (fun c25 => ?_)
        · skip
          have r2 := rnP_y r1 (by omega)
          refine e_aload dX5_ask_74 rfl ?_
          refine e_iload dX5_ask_76 rfl ?_
          refine z_ild (rI h7 (y + 33) v16) dX5_ask_78 (ma_s33 k22) (by decide) (by omega) (by omega) (frm_r f21 (by omega)) ?_
          have y26 := (show rI h7 (y + 33) v16 = 6 ∨ (0 ≤ rI h7 (y + 33) v16 ∧ rI h7 (y + 33) v16 < nu g) from ca_Hb IC (by omega) (by omega))
          refine e_istore (L' := [_, _, _, _, _, _, _, _, _, _, _]) dX5_ask_79 (Nat.le_of_ble_eq_true rfl) rfl ?_
          refine e_iload dX5_ask_81 rfl ?_
          refine z_iconst (-1) dX5_ask_83 rfl ?_
          refine z_icmp_eq 140 dX5_ask_84 rfl ⟨by omega, by omega⟩ ⟨by omega, by omega⟩ (fun c27 => ?_) (fun c27 => ?_)
          · skip
            refine z_iinc (L' := [_, _, _, _, _, _, _, _, _, _, _]) dX5_ask_140 rfl rfl ?_
            refine e_goto 11 dX5_ask_143 rfl ?_
            exact mEv_wk (by exact ⟨Or.inr rfl, Or.inr rfl, Or.inr rfl, Or.inr rfl, Or.inr rfl, Or.inr rfl, Or.inr rfl, Or.inr rfl, Or.inl rfl, Or.inl rfl, Or.inl rfl, trivial⟩) (ih7 _ (by omega) (i + 1) h19 rfl k22 H23 FR24 (by omega) (by
                      refine ca_ask (a := v12) (by omega) (rkH_u n6) IC (by omega) (by omega) n2.2.1 (by have := n2.2.2; show rI h7 (y + 38) v12 < _; omega) (by exact (rI_eq e20 ⟨by omega, by omega⟩)) (fun x u v z => (frm_r f21 (by omega))) ?_
                      first
                      | exact Or.inl ⟨fun b u v => rnP_n r1 (by omega) b u (by omega), fun x u v => (frm_r f21 (by omega)), fun x u v => (frm_r f21 (by omega))⟩
                      | exact Or.inr ⟨v16, by omega, r2.2, Or.inr ⟨fun z => absurd (bt.mpr z) (by omega), fun x u v => (frm_r f21 (by omega)), fun x u v => (frm_r f21 (by omega))⟩⟩
                      | (exfalso; omega)) (by
                      have e1 : rI h19 (y + 38) v12 = rI h7 (y + 38) v12 + 1 := (rI_eq e20 ⟨by omega, by omega⟩)
                      have e2 : sm6 (fun x => rI h19 (y + 38) x) = sm6 (fun x => rI h7 (y + 38) x) - rI h7 (y + 38) v12 + rI h19 (y + 38) v12 := sm6_pt (by omega) (by omega) (fun k u v z => (frm_r f21 (by omega)))
                      omega))
          · skip
            have bt := dR_lt (g := g) (d := v16) (u := v12) (x := (rI h7 (y + 33) v16)) n6 (by omega) (by omega) (by omega)
            refine e_aload dX5_ask_87 rfl ?_
            refine e_iload dX5_ask_89 rfl ?_
            refine z_bipush (7) dX5_ask_91 rfl ?_
            refine z_imul dX5_ask_93 ?_
            refine e_iload dX5_ask_94 rfl ?_
            refine z_iadd dX5_ask_96 ?_
            refine z_ild (dR g v16 v12) dX5_ask_97 (ma_s40 k22) (by decide) (by omega) (by omega) (H23.2.2.2.1 v16 v12 (by omega) (by omega) (by omega) (by omega)) ?_
            have y28 := @dR_b g (by omega) v16 v12 (by omega)
            refine e_aload dX5_ask_98 rfl ?_
            refine e_iload dX5_ask_100 rfl ?_
            refine z_bipush (7) dX5_ask_102 rfl ?_
            refine z_imul dX5_ask_104 ?_
            refine e_iload dX5_ask_105 rfl ?_
            refine z_iadd dX5_ask_107 ?_
            refine z_ild (dR g v16 (rI h7 (y + 33) v16)) dX5_ask_108 (ma_s40 k22) (by decide) (by omega) (by omega) (H23.2.2.2.1 v16 (rI h7 (y + 33) v16) (by omega) (by omega) (by omega) (by omega)) ?_
            have y29 := @dR_b g (by omega) v16 (rI h7 (y + 33) v16) (by omega)
            refine z_icmp_ge 140 dX5_ask_109 rfl ⟨by omega, by omega⟩ ⟨by omega, by omega⟩ (fun c30 => ?_) (fun c30 => ?_)
            · skip
              refine z_iinc (L' := [_, _, _, _, _, _, _, _, _, _, _]) dX5_ask_140 rfl rfl ?_
              refine e_goto 11 dX5_ask_143 rfl ?_
              exact mEv_wk (by exact ⟨Or.inr rfl, Or.inr rfl, Or.inr rfl, Or.inr rfl, Or.inr rfl, Or.inr rfl, Or.inr rfl, Or.inr rfl, Or.inl rfl, Or.inl rfl, Or.inl rfl, trivial⟩) (ih7 _ (by omega) (i + 1) h19 rfl k22 H23 FR24 (by omega) (by
                        refine ca_ask (a := v12) (by omega) (rkH_u n6) IC (by omega) (by omega) n2.2.1 (by have := n2.2.2; show rI h7 (y + 38) v12 < _; omega) (by exact (rI_eq e20 ⟨by omega, by omega⟩)) (fun x u v z => (frm_r f21 (by omega))) ?_
                        first
                        | exact Or.inl ⟨fun b u v => rnP_n r1 (by omega) b u (by omega), fun x u v => (frm_r f21 (by omega)), fun x u v => (frm_r f21 (by omega))⟩
                        | exact Or.inr ⟨v16, by omega, r2.2, Or.inr ⟨fun z => absurd (bt.mpr z) (by omega), fun x u v => (frm_r f21 (by omega)), fun x u v => (frm_r f21 (by omega))⟩⟩
                        | (exfalso; omega)) (by
                        have e1 : rI h19 (y + 38) v12 = rI h7 (y + 38) v12 + 1 := (rI_eq e20 ⟨by omega, by omega⟩)
                        have e2 : sm6 (fun x => rI h19 (y + 38) x) = sm6 (fun x => rI h7 (y + 38) x) - rI h7 (y + 38) v12 + rI h19 (y + 38) v12 := sm6_pt (by omega) (by omega) (fun k u v z => (frm_r f21 (by omega)))
                        omega))
            · skip
              refine e_iload dX5_ask_112 rfl ?_
              refine z_bipush (6) dX5_ask_114 rfl ?_
              refine z_icmp_ge 126 dX5_ask_116 rfl ⟨by omega, by omega⟩ ⟨by omega, by omega⟩ (fun c31 => ?_) (fun c31 => ?_)
              · skip
                refine e_aload dX5_ask_126 rfl ?_
                refine e_iload dX5_ask_128 rfl ?_
                refine e_iload dX5_ask_130 rfl ?_
                refine z_ist dX5_ask_132 (ma_s34 k22) (by decide) (by omega) (by omega) (fun h32 e33 => ?_)
                have f34 := frm_1 e33
                have k35 := lk_q (frm_s f34) k22
                have H36 := bdC_c f34 (fun a k q => by omega) H23
                have FR37 := frm_t FR24 (frm_m (S' := (fun a k => a = y + 33 ∨ a = y + 34 ∨ a = y + 38)) f34 (fun a k q => by omega))
                refine e_aload dX5_ask_133 rfl ?_
                refine e_iload dX5_ask_135 rfl ?_
                refine e_iload dX5_ask_137 rfl ?_
                refine z_ist dX5_ask_139 (ma_s33 k35) (by decide) (by omega) (by omega) (fun h38 e39 => ?_)
                have f40 := frm_1 e39
                have k41 := lk_q (frm_s f40) k35
                have H42 := bdC_c f40 (fun a k q => by omega) H36
                have FR43 := frm_t FR37 (frm_m (S' := (fun a k => a = y + 33 ∨ a = y + 34 ∨ a = y + 38)) f40 (fun a k q => by omega))
                refine z_iinc (L' := [_, _, _, _, _, _, _, _, _, _, _]) dX5_ask_140 rfl rfl ?_
                refine e_goto 11 dX5_ask_143 rfl ?_
                exact mEv_wk (by exact ⟨Or.inr rfl, Or.inr rfl, Or.inr rfl, Or.inr rfl, Or.inr rfl, Or.inr rfl, Or.inr rfl, Or.inr rfl, Or.inl rfl, Or.inl rfl, Or.inl rfl, trivial⟩) (ih7 _ (by omega) (i + 1) h38 rfl k41 H42 FR43 (by omega) (by
                          refine ca_ask (a := v12) (by omega) (rkH_u n6) IC (by omega) (by omega) n2.2.1 (by have := n2.2.2; show rI h7 (y + 38) v12 < _; omega) (by exact (((frm_r f40 (by omega)).trans (frm_r f34 (by omega))).trans (rI_eq e20 ⟨by omega, by omega⟩))) (fun x u v z => ((frm_r f40 (by omega)).trans ((frm_r f34 (by omega)).trans (frm_r f21 (by omega))))) ?_
                          first
                          | exact Or.inr ⟨v16, by omega, r2.2, Or.inl ⟨bt.mp (by omega), ((frm_r f40 (by omega)).trans (rI_eq e33 ⟨by omega, by omega⟩)), (rI_eq e39 ⟨by omega, by omega⟩), fun x u v z w => by
                            have w : x = rI h7 (y + 33) v16 := w
                            omega, fun x u v z w => by
                            have w : x ≠ rI h7 (y + 33) v16 := w
                            exact ((frm_r f40 (by omega)).trans ((frm_r f34 (by omega)).trans (frm_r f21 (by omega)))), fun x u v z => ((frm_r f40 (by omega)).trans ((frm_r f34 (by omega)).trans (frm_r f21 (by omega))))⟩⟩
                          | (exfalso; omega)) (by
                          have e1 : rI h38 (y + 38) v12 = rI h7 (y + 38) v12 + 1 := (((frm_r f40 (by omega)).trans (frm_r f34 (by omega))).trans (rI_eq e20 ⟨by omega, by omega⟩))
                          have e2 : sm6 (fun x => rI h38 (y + 38) x) = sm6 (fun x => rI h7 (y + 38) x) - rI h7 (y + 38) v12 + rI h38 (y + 38) v12 := sm6_pt (by omega) (by omega) (fun k u v z => ((frm_r f40 (by omega)).trans ((frm_r f34 (by omega)).trans (frm_r f21 (by omega)))))
                          omega))
              · skip
                refine e_aload dX5_ask_119 rfl ?_
                refine e_iload dX5_ask_121 rfl ?_
                refine z_bipush (6) dX5_ask_123 rfl ?_
                refine z_ist dX5_ask_125 (ma_s34 k22) (by decide) (by omega) (by omega) (fun h44 e45 => ?_)
                have f46 := frm_1 e45
                have k47 := lk_q (frm_s f46) k22
                have H48 := bdC_c f46 (fun a k q => by omega) H23
                have FR49 := frm_t FR24 (frm_m (S' := (fun a k => a = y + 33 ∨ a = y + 34 ∨ a = y + 38)) f46 (fun a k q => by omega))
                refine e_aload dX5_ask_126 rfl ?_
                refine e_iload dX5_ask_128 rfl ?_
                refine e_iload dX5_ask_130 rfl ?_
                refine z_ist dX5_ask_132 (ma_s34 k47) (by decide) (by omega) (by omega) (fun h50 e51 => ?_)
                have f52 := frm_1 e51
                have k53 := lk_q (frm_s f52) k47
                have H54 := bdC_c f52 (fun a k q => by omega) H48
                have FR55 := frm_t FR49 (frm_m (S' := (fun a k => a = y + 33 ∨ a = y + 34 ∨ a = y + 38)) f52 (fun a k q => by omega))
                refine e_aload dX5_ask_133 rfl ?_
                refine e_iload dX5_ask_135 rfl ?_
                refine e_iload dX5_ask_137 rfl ?_
                refine z_ist dX5_ask_139 (ma_s33 k53) (by decide) (by omega) (by omega) (fun h56 e57 => ?_)
                have f58 := frm_1 e57
                have k59 := lk_q (frm_s f58) k53
                have H60 := bdC_c f58 (fun a k q => by omega) H54
                have FR61 := frm_t FR55 (frm_m (S' := (fun a k => a = y + 33 ∨ a = y + 34 ∨ a = y + 38)) f58 (fun a k q => by omega))
                refine z_iinc (L' := [_, _, _, _, _, _, _, _, _, _, _]) dX5_ask_140 rfl rfl ?_
                refine e_goto 11 dX5_ask_143 rfl ?_
                exact mEv_wk (by exact ⟨Or.inr rfl, Or.inr rfl, Or.inr rfl, Or.inr rfl, Or.inr rfl, Or.inr rfl, Or.inr rfl, Or.inr rfl, Or.inl rfl, Or.inl rfl, Or.inl rfl, trivial⟩) (ih7 _ (by omega) (i + 1) h56 rfl k59 H60 FR61 (by omega) (by
                          refine ca_ask (a := v12) (by omega) (rkH_u n6) IC (by omega) (by omega) n2.2.1 (by have := n2.2.2; show rI h7 (y + 38) v12 < _; omega) (by exact (((frm_r f58 (by omega)).trans ((frm_r f52 (by omega)).trans (frm_r f46 (by omega)))).trans (rI_eq e20 ⟨by omega, by omega⟩))) (fun x u v z => ((frm_r f58 (by omega)).trans ((frm_r f52 (by omega)).trans ((frm_r f46 (by omega)).trans (frm_r f21 (by omega)))))) ?_
                          first
                          | exact Or.inr ⟨v16, by omega, r2.2, Or.inl ⟨bt.mp (by omega), ((frm_r f58 (by omega)).trans (rI_eq e51 ⟨by omega, by omega⟩)), (rI_eq e57 ⟨by omega, by omega⟩), fun x u v z w => by
                            have w : x = rI h7 (y + 33) v16 := w
                            show rI h56 (y + 34) x = 6
                            rw [w]; exact (((frm_r f58 (by omega)).trans (frm_r f52 (by omega))).trans (rI_eq e45 ⟨by omega, by omega⟩)), fun x u v z w => by
                            have w : x ≠ rI h7 (y + 33) v16 := w
                            exact ((frm_r f58 (by omega)).trans ((frm_r f52 (by omega)).trans ((frm_r f46 (by omega)).trans (frm_r f21 (by omega))))), fun x u v z => ((frm_r f58 (by omega)).trans ((frm_r f52 (by omega)).trans ((frm_r f46 (by omega)).trans (frm_r f21 (by omega)))))⟩⟩
                          | (exfalso; omega)) (by
                          have e1 : rI h56 (y + 38) v12 = rI h7 (y + 38) v12 + 1 := (((frm_r f58 (by omega)).trans ((frm_r f52 (by omega)).trans (frm_r f46 (by omega)))).trans (rI_eq e20 ⟨by omega, by omega⟩))
                          have e2 : sm6 (fun x => rI h56 (y + 38) x) = sm6 (fun x => rI h7 (y + 38) x) - rI h7 (y + 38) v12 + rI h56 (y + 38) v12 := sm6_pt (by omega) (by omega) (fun k u v z => ((frm_r f58 (by omega)).trans ((frm_r f52 (by omega)).trans ((frm_r f46 (by omega)).trans (frm_r f21 (by omega))))))
                          omega))
        · skip
          refine z_iconst (-1) dX5_ask_70 rfl ?_
          refine e_goto 79 dX5_ask_71 rfl ?_
          refine e_istore (L' := [_, _, _, _, _, _, _, _, _, _, _]) dX5_ask_79 (Nat.le_of_ble_eq_true rfl) rfl ?_
          refine e_iload dX5_ask_81 rfl ?_
          refine z_iconst (-1) dX5_ask_83 rfl ?_
          refine z_icmp_eq 140 dX5_ask_84 rfl ⟨by omega, by omega⟩ ⟨by omega, by omega⟩ (fun c62 => ?_) (fun c62 => ?_)
          · skip
            refine z_iinc (L' := [_, _, _, _, _, _, _, _, _, _, _]) dX5_ask_140 rfl rfl ?_
            refine e_goto 11 dX5_ask_143 rfl ?_
            exact mEv_wk (by exact ⟨Or.inr rfl, Or.inr rfl, Or.inr rfl, Or.inr rfl, Or.inr rfl, Or.inr rfl, Or.inr rfl, Or.inr rfl, Or.inl rfl, Or.inl rfl, Or.inl rfl, trivial⟩) (ih7 _ (by omega) (i + 1) h19 rfl k22 H23 FR24 (by omega) (by
                      refine ca_ask (a := v12) (by omega) (rkH_u n6) IC (by omega) (by omega) n2.2.1 (by have := n2.2.2; show rI h7 (y + 38) v12 < _; omega) (by exact (rI_eq e20 ⟨by omega, by omega⟩)) (fun x u v z => (frm_r f21 (by omega))) ?_
                      first
                      | exact Or.inl ⟨fun b u v => rnP_n r1 (by omega) b u (by omega), fun x u v => (frm_r f21 (by omega)), fun x u v => (frm_r f21 (by omega))⟩
                      | exact Or.inr ⟨v16, by omega, r2.2, Or.inr ⟨fun z => absurd (bt.mpr z) (by omega), fun x u v => (frm_r f21 (by omega)), fun x u v => (frm_r f21 (by omega))⟩⟩
                      | (exfalso; omega)) (by
                      have e1 : rI h19 (y + 38) v12 = rI h7 (y + 38) v12 + 1 := (rI_eq e20 ⟨by omega, by omega⟩)
                      have e2 : sm6 (fun x => rI h19 (y + 38) x) = sm6 (fun x => rI h7 (y + 38) x) - rI h7 (y + 38) v12 + rI h19 (y + 38) v12 := sm6_pt (by omega) (by omega) (fun k u v z => (frm_r f21 (by omega)))
                      omega))
          · skip
            have bt := dR_lt (g := g) (d := v16) (u := v12) (x := (rI h7 (y + 33) v16)) n6 (by omega) (by omega) (by omega)
            refine e_aload dX5_ask_87 rfl ?_
            refine e_iload dX5_ask_89 rfl ?_
            refine z_bipush (7) dX5_ask_91 rfl ?_
            refine z_imul dX5_ask_93 ?_
            refine e_iload dX5_ask_94 rfl ?_
            refine z_iadd dX5_ask_96 ?_
            refine z_ild (dR g v16 v12) dX5_ask_97 (ma_s40 k22) (by decide) (by omega) (by omega) (H23.2.2.2.1 v16 v12 (by omega) (by omega) (by omega) (by omega)) ?_
            have y63 := @dR_b g (by omega) v16 v12 (by omega)
            refine e_aload dX5_ask_98 rfl ?_
            refine e_iload dX5_ask_100 rfl ?_
            refine z_bipush (7) dX5_ask_102 rfl ?_
            refine z_imul dX5_ask_104 ?_
            refine e_iload dX5_ask_105 rfl ?_
            refine z_iadd dX5_ask_107 ?_
            refine z_ild (dR g v16 (-1)) dX5_ask_108 (ma_s40 k22) (by decide) (by omega) (by omega) (H23.2.2.2.1 v16 (-1) (by omega) (by omega) (by omega) (by omega)) ?_
            have y64 := @dR_b g (by omega) v16 (-1) (by omega)
            refine z_icmp_ge 140 dX5_ask_109 rfl ⟨by omega, by omega⟩ ⟨by omega, by omega⟩ (fun c65 => ?_) (fun c65 => ?_)
            · skip
              refine z_iinc (L' := [_, _, _, _, _, _, _, _, _, _, _]) dX5_ask_140 rfl rfl ?_
              refine e_goto 11 dX5_ask_143 rfl ?_
              exact mEv_wk (by exact ⟨Or.inr rfl, Or.inr rfl, Or.inr rfl, Or.inr rfl, Or.inr rfl, Or.inr rfl, Or.inr rfl, Or.inr rfl, Or.inl rfl, Or.inl rfl, Or.inl rfl, trivial⟩) (ih7 _ (by omega) (i + 1) h19 rfl k22 H23 FR24 (by omega) (by
                        refine ca_ask (a := v12) (by omega) (rkH_u n6) IC (by omega) (by omega) n2.2.1 (by have := n2.2.2; show rI h7 (y + 38) v12 < _; omega) (by exact (rI_eq e20 ⟨by omega, by omega⟩)) (fun x u v z => (frm_r f21 (by omega))) ?_
                        first
                        | exact Or.inl ⟨fun b u v => rnP_n r1 (by omega) b u (by omega), fun x u v => (frm_r f21 (by omega)), fun x u v => (frm_r f21 (by omega))⟩
                        | exact Or.inr ⟨v16, by omega, r2.2, Or.inr ⟨fun z => absurd (bt.mpr z) (by omega), fun x u v => (frm_r f21 (by omega)), fun x u v => (frm_r f21 (by omega))⟩⟩
                        | (exfalso; omega)) (by
                        have e1 : rI h19 (y + 38) v12 = rI h7 (y + 38) v12 + 1 := (rI_eq e20 ⟨by omega, by omega⟩)
                        have e2 : sm6 (fun x => rI h19 (y + 38) x) = sm6 (fun x => rI h7 (y + 38) x) - rI h7 (y + 38) v12 + rI h19 (y + 38) v12 := sm6_pt (by omega) (by omega) (fun k u v z => (frm_r f21 (by omega)))
                        omega))
            · skip
              refine e_iload dX5_ask_112 rfl ?_
              refine z_bipush (6) dX5_ask_114 rfl ?_
              refine z_icmp_ge 126 dX5_ask_116 rfl ⟨by omega, by omega⟩ ⟨by omega, by omega⟩ (fun c66 => ?_) (fun c66 => ?_)
              · exfalso; omega
              · skip
                refine e_aload dX5_ask_119 rfl ?_
                refine e_iload dX5_ask_121 rfl ?_
                refine z_bipush (6) dX5_ask_123 rfl ?_
                refine z_ist dX5_ask_125 (ma_s34 k22) (by decide) (by omega) (by omega) (fun h67 e68 => ?_)
                have f69 := frm_1 e68
                have k70 := lk_q (frm_s f69) k22
                have H71 := bdC_c f69 (fun a k q => by omega) H23
                have FR72 := frm_t FR24 (frm_m (S' := (fun a k => a = y + 33 ∨ a = y + 34 ∨ a = y + 38)) f69 (fun a k q => by omega))
                refine e_aload dX5_ask_126 rfl ?_
                refine e_iload dX5_ask_128 rfl ?_
                refine e_iload dX5_ask_130 rfl ?_
                refine z_ist dX5_ask_132 (ma_s34 k70) (by decide) (by omega) (by omega) (fun h73 e74 => ?_)
                have f75 := frm_1 e74
                have k76 := lk_q (frm_s f75) k70
                have H77 := bdC_c f75 (fun a k q => by omega) H71
                have FR78 := frm_t FR72 (frm_m (S' := (fun a k => a = y + 33 ∨ a = y + 34 ∨ a = y + 38)) f75 (fun a k q => by omega))
                refine e_aload dX5_ask_133 rfl ?_
                refine e_iload dX5_ask_135 rfl ?_
                refine e_iload dX5_ask_137 rfl ?_
                refine z_ist dX5_ask_139 (ma_s33 k76) (by decide) (by omega) (by omega) (fun h79 e80 => ?_)
                have f81 := frm_1 e80
                have k82 := lk_q (frm_s f81) k76
                have H83 := bdC_c f81 (fun a k q => by omega) H77
                have FR84 := frm_t FR78 (frm_m (S' := (fun a k => a = y + 33 ∨ a = y + 34 ∨ a = y + 38)) f81 (fun a k q => by omega))
                refine z_iinc (L' := [_, _, _, _, _, _, _, _, _, _, _]) dX5_ask_140 rfl rfl ?_
                refine e_goto 11 dX5_ask_143 rfl ?_
                exact mEv_wk (by exact ⟨Or.inr rfl, Or.inr rfl, Or.inr rfl, Or.inr rfl, Or.inr rfl, Or.inr rfl, Or.inr rfl, Or.inr rfl, Or.inl rfl, Or.inl rfl, Or.inl rfl, trivial⟩) (ih7 _ (by omega) (i + 1) h79 rfl k82 H83 FR84 (by omega) (by
                          refine ca_ask (a := v12) (by omega) (rkH_u n6) IC (by omega) (by omega) n2.2.1 (by have := n2.2.2; show rI h7 (y + 38) v12 < _; omega) (by exact (((frm_r f81 (by omega)).trans ((frm_r f75 (by omega)).trans (frm_r f69 (by omega)))).trans (rI_eq e20 ⟨by omega, by omega⟩))) (fun x u v z => ((frm_r f81 (by omega)).trans ((frm_r f75 (by omega)).trans ((frm_r f69 (by omega)).trans (frm_r f21 (by omega)))))) ?_
                          first
                          | exact Or.inr ⟨v16, by omega, r2.2, Or.inl ⟨bt.mp (by omega), ((frm_r f81 (by omega)).trans (rI_eq e74 ⟨by omega, by omega⟩)), (rI_eq e80 ⟨by omega, by omega⟩), fun x u v z w => by
                            have w : x = rI h7 (y + 33) v16 := w
                            show rI h79 (y + 34) x = 6
                            rw [w]; exact (((frm_r f81 (by omega)).trans (frm_r f75 (by omega))).trans (rI_eq e68 ⟨by omega, by omega⟩)), fun x u v z w => by
                            have w : x ≠ rI h7 (y + 33) v16 := w
                            exact ((frm_r f81 (by omega)).trans ((frm_r f75 (by omega)).trans ((frm_r f69 (by omega)).trans (frm_r f21 (by omega))))), fun x u v z => ((frm_r f81 (by omega)).trans ((frm_r f75 (by omega)).trans ((frm_r f69 (by omega)).trans (frm_r f21 (by omega)))))⟩⟩
                          | (exfalso; omega)) (by
                          have e1 : rI h79 (y + 38) v12 = rI h7 (y + 38) v12 + 1 := (((frm_r f81 (by omega)).trans ((frm_r f75 (by omega)).trans (frm_r f69 (by omega)))).trans (rI_eq e20 ⟨by omega, by omega⟩))
                          have e2 : sm6 (fun x => rI h79 (y + 38) x) = sm6 (fun x => rI h7 (y + 38) x) - rI h7 (y + 38) v12 + rI h79 (y + 38) v12 := sm6_pt (by omega) (by omega) (fun k u v z => ((frm_r f81 (by omega)).trans ((frm_r f75 (by omega)).trans ((frm_r f69 (by omega)).trans (frm_r f21 (by omega))))))
                          omega))
      · skip
        refine e_goto 146 dX5_ask_34 rfl ?_
        refine e_vret dX5_ask_146 rfl ⟨rfl, ?_⟩
        have cd : caD (nu g) (nd g) (fun x => rI h7 (y + 38) x) (fun x => rI h7 (y + 34) x) := by
          first
          | exact ca_36 IC (by omega) (by omega)
          | exact naP_n n1 (by omega) (by omega) (by omega)
        have cc := ca_up n6 (rkH_u n6) IC cd
        exact kq _ FR10 ⟨_, ⟨⟨cc.1.1, isRw_b (by omega) cc.1.1⟩, fun d a c => rfl, cc.2⟩, cc.1.2⟩
  exact lp7 _ 0 h1 rfl k4 H5 FR6 (by omega) (ca_0 (by omega) (rkH_u n6) (fun x a c => ⟨e3 x a (by omega), ((frm_r f2 (by omega))).trans (p6 x a c).2, ((frm_r f2 (by omega))).trans (p6 x a c).1⟩)) (by
            have z0 := e3 0 (by omega) (by omega)
            have z1 := e3 1 (by omega) (by omega)
            have z2 := e3 2 (by omega) (by omega)
            have z3 := e3 3 (by omega) (by omega)
            have z4 := e3 4 (by omega) (by omega)
            have z5 := e3 5 (by omega) (by omega)
            show rI h1 (y + 38) 0 + rI h1 (y + 38) 1 + rI h1 (y + 38) 2 + rI h1 (y + 38) 3 + rI h1 (y + 38) 4 + rI h1 (y + 38) 5 = 0
            omega)
