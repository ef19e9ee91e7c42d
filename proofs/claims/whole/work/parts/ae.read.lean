/-! TEXT: the class reads a tape -/
theorem dX6_read_0 : decode cX6_read 0 = .ok (.aload_n 0, 1) := by decide +kernel
theorem dX6_read_1 : decode cX6_read 1 = .ok (.aload_n 1, 1) := by decide +kernel
theorem dX6_read_2 : decode cX6_read 2 = .ok (.iload_n 2, 1) := by decide +kernel
theorem dX6_read_3 : decode cX6_read 3 = .ok (.invokevirtual 68, 3) := by decide +kernel
theorem dX6_read_6 : decode cX6_read 6 = .ok (.iconst 1, 1) := by decide +kernel
theorem dX6_read_7 : decode cX6_read 7 = .ok (.istore 4, 2) := by decide +kernel
theorem dX6_read_9 : decode cX6_read 9 = .ok (.iconst 0, 1) := by decide +kernel
theorem dX6_read_10 : decode cX6_read 10 = .ok (.istore 5, 2) := by decide +kernel
theorem dX6_read_12 : decode cX6_read 12 = .ok (.iload 5, 2) := by decide +kernel
theorem dX6_read_14 : decode cX6_read 14 = .ok (.sipush 600, 3) := by decide +kernel
theorem dX6_read_17 : decode cX6_read 17 = .ok (.if_icmp .ge 53, 3) := by decide +kernel
theorem dX6_read_20 : decode cX6_read 20 = .ok (.iload 4, 2) := by decide +kernel
theorem dX6_read_22 : decode cX6_read 22 = .ok (.ifCond .eq 48, 3) := by decide +kernel
theorem dX6_read_25 : decode cX6_read 25 = .ok (.aload_n 0, 1) := by decide +kernel
theorem dX6_read_26 : decode cX6_read 26 = .ok (.getfield 53, 3) := by decide +kernel
theorem dX6_read_29 : decode cX6_read 29 = .ok (.iconst 3, 1) := by decide +kernel
theorem dX6_read_30 : decode cX6_read 30 = .ok (.if_icmp .eq 40, 3) := by decide +kernel
theorem dX6_read_33 : decode cX6_read 33 = .ok (.iload_n 3, 1) := by decide +kernel
theorem dX6_read_34 : decode cX6_read 34 = .ok (.ifCond .ne 12, 3) := by decide +kernel
theorem dX6_read_37 : decode cX6_read 37 = .ok (.aload_n 0, 1) := by decide +kernel
theorem dX6_read_38 : decode cX6_read 38 = .ok (.invokevirtual 72, 3) := by decide +kernel
theorem dX6_read_41 : decode cX6_read 41 = .ok (.istore 4, 2) := by decide +kernel
theorem dX6_read_43 : decode cX6_read 43 = .ok (.goto 21, 3) := by decide +kernel
theorem dX6_read_46 : decode cX6_read 46 = .ok (.iload_n 3, 1) := by decide +kernel
theorem dX6_read_47 : decode cX6_read 47 = .ok (.iconst 1, 1) := by decide +kernel
theorem dX6_read_48 : decode cX6_read 48 = .ok (.if_icmp .ne 10, 3) := by decide +kernel
theorem dX6_read_51 : decode cX6_read 51 = .ok (.aload_n 0, 1) := by decide +kernel
theorem dX6_read_52 : decode cX6_read 52 = .ok (.invokevirtual 76, 3) := by decide +kernel
theorem dX6_read_55 : decode cX6_read 55 = .ok (.goto 7, 3) := by decide +kernel
theorem dX6_read_58 : decode cX6_read 58 = .ok (.aload_n 0, 1) := by decide +kernel
theorem dX6_read_59 : decode cX6_read 59 = .ok (.invokevirtual 79, 3) := by decide +kernel
theorem dX6_read_62 : decode cX6_read 62 = .ok (.istore 4, 2) := by decide +kernel
theorem dX6_read_64 : decode cX6_read 64 = .ok (.iinc 5 1, 3) := by decide +kernel
theorem dX6_read_67 : decode cX6_read 67 = .ok (.goto (-55), 3) := by decide +kernel
theorem dX6_read_70 : decode cX6_read 70 = .ok (.aload_n 0, 1) := by decide +kernel
theorem dX6_read_71 : decode cX6_read 71 = .ok (.getfield 62, 3) := by decide +kernel
theorem dX6_read_74 : decode cX6_read 74 = .ok (.aload_n 0, 1) := by decide +kernel
theorem dX6_read_75 : decode cX6_read 75 = .ok (.getfield 12, 3) := by decide +kernel
theorem dX6_read_78 : decode cX6_read 78 = .ok (.getfield 82, 3) := by decide +kernel
theorem dX6_read_81 : decode cX6_read 81 = .ok (.getfield 86, 3) := by decide +kernel
theorem dX6_read_84 : decode cX6_read 84 = .ok (.ishr, 1) := by decide +kernel
theorem dX6_read_85 : decode cX6_read 85 = .ok (.ifCond .ne 21, 3) := by decide +kernel
theorem dX6_read_88 : decode cX6_read 88 = .ok (.aload_n 0, 1) := by decide +kernel
theorem dX6_read_89 : decode cX6_read 89 = .ok (.getfield 65, 3) := by decide +kernel
theorem dX6_read_92 : decode cX6_read 92 = .ok (.aload_n 0, 1) := by decide +kernel
theorem dX6_read_93 : decode cX6_read 93 = .ok (.getfield 12, 3) := by decide +kernel
theorem dX6_read_96 : decode cX6_read 96 = .ok (.getfield 91, 3) := by decide +kernel
theorem dX6_read_99 : decode cX6_read 99 = .ok (.getfield 86, 3) := by decide +kernel
theorem dX6_read_102 : decode cX6_read 102 = .ok (.ishr, 1) := by decide +kernel
theorem dX6_read_103 : decode cX6_read 103 = .ok (.ifCond .eq 7, 3) := by decide +kernel
theorem dX6_read_106 : decode cX6_read 106 = .ok (.iconst 1, 1) := by decide +kernel
theorem dX6_read_107 : decode cX6_read 107 = .ok (.goto 4, 3) := by decide +kernel
theorem dX6_read_110 : decode cX6_read 110 = .ok (.iconst 0, 1) := by decide +kernel
theorem dX6_read_111 : decode cX6_read 111 = .ok (.istore 5, 2) := by decide +kernel
theorem dX6_read_113 : decode cX6_read 113 = .ok (.aload_n 0, 1) := by decide +kernel
theorem dX6_read_114 : decode cX6_read 114 = .ok (.getfield 32, 3) := by decide +kernel
theorem dX6_read_117 : decode cX6_read 117 = .ok (.ifCond .ne 17, 3) := by decide +kernel
theorem dX6_read_120 : decode cX6_read 120 = .ok (.iload 5, 2) := by decide +kernel
theorem dX6_read_122 : decode cX6_read 122 = .ok (.ifCond .eq 12, 3) := by decide +kernel
theorem dX6_read_125 : decode cX6_read 125 = .ok (.aload_n 0, 1) := by decide +kernel
theorem dX6_read_126 : decode cX6_read 126 = .ok (.iconst 4, 1) := by decide +kernel
theorem dX6_read_127 : decode cX6_read 127 = .ok (.aload_n 0, 1) := by decide +kernel
theorem dX6_read_128 : decode cX6_read 128 = .ok (.getfield 47, 3) := by decide +kernel
theorem dX6_read_131 : decode cX6_read 131 = .ok (.invokevirtual 94, 3) := by decide +kernel
theorem dX6_read_134 : decode cX6_read 134 = .ok (.return_, 1) := by decide +kernel
set_option maxRecDepth 20000 in
theorem tm_6_68 : tMet TB0 6 68 = some (0, M_X6_begin) := rfl
set_option maxRecDepth 20000 in
theorem tm_6_72 : tMet TB0 6 72 = some (0, M_X6_forgeLine) := rfl
set_option maxRecDepth 20000 in
theorem tm_6_76 : tMet TB0 6 76 = some (0, M_X6_deedLine) := rfl
set_option maxRecDepth 20000 in
theorem tm_6_79 : tMet TB0 6 79 = some (0, M_X6_clueLine) := rfl
/-! TEXT: the class reads a tape -/
def ctC (h : mH) (y : Nat) (s : Int) (C : Int → Int) : Prop := (s = 0 → rwF h (y + 1) C) ∧ (s = 1 → rwY h (y + 17) C) ∧ (s = 2 → rwY h (y + 21) C)
def rlX (h : mH) (y : Nat) (s : Int) (T : Int → Int) (L : Int) : Prop := ∃ m, okN s T L m ∧ tkK T L (runP s T L m) ≠ 3 ∧ ¬ lnA s T L (runP s T L m) ∧ rdF h y 1 (lnX s T L (runP s T L m))
def rlS (h : mH) (y : Nat) (s : Int) (T : Int → Int) (L : Int) (i : Nat) (b : Int) : Prop := (b = 1 ∧ okN s T L i ∧ rdP h y T L (runP s T L i) ∧ rdF h y (runF s T L i) (runQ s T L i) ∧ ctC h y s (runC s T L i) ∧ rdB h y (runD s T L i) (runU s T L i)) ∨ (b = 0 ∧ rlX h y s T L)
theorem rl_b {h : mH} {y : Nat} {s : Int} {T : Int → Int} {L : Int} {i : Nat} {b : Int} (H : rlS h y s T L i b) : b = 0 ∨ b = 1 := by
  rcases H with z | z
  · exact Or.inr z.1
  · exact Or.inl z.1
theorem rl_1 {h : mH} {y : Nat} {s : Int} {T : Int → Int} {L : Int} {i : Nat} {b : Int} (H : rlS h y s T L i b) (n : b ≠ 0) : okN s T L i ∧ rdP h y T L (runP s T L i) ∧ rdF h y (runF s T L i) (runQ s T L i) ∧ ctC h y s (runC s T L i) ∧ rdB h y (runD s T L i) (runU s T L i) := by
  rcases H with z | z
  · exact z.2
  · exact absurd z.1 n
theorem rl_0 {h : mH} {y : Nat} {s : Int} {T : Int → Int} {L : Int} {i : Nat} {b : Int} (H : rlS h y s T L i b) (n : b = 0) : rlX h y s T L := by
  rcases H with z | z
  · exact absurd z.1 (by omega)
  · exact z.2
theorem rl_n {h : mH} {y : Nat} {s : Int} {T : Int → Int} {L : Int} {i : Nat} {v : Int} {X : Prop} (ok : okN s T L i) (k : tkK T L (runP s T L i) ≠ 3) (hx : X → ctC h y s (runC s T L (i + 1)) ∧ rdB h y (runD s T L (i + 1)) (runU s T L (i + 1))) (H : flO h y T L s (runP s T L i) (runF s T L i) (runQ s T L i) (runC s T L i) v X) : rlS h y s T L (i + 1) v := by
  rcases H with ⟨a, d, e, g, x⟩ | ⟨a, d, e⟩
  · exact Or.inl ⟨a, okN_s ok k d, e, g, hx x⟩
  · exact Or.inr ⟨a, i, ok, k, d, e⟩
/-- a blade told of that is not there -/
def msP (s : Int) (T : Int → Int) (L : Int) (n : Nat) : Prop := s = 0 ∧ (shrZ (runD s T L n) (nd (runC s T L n)) ≠ 0 ∨ shrZ (runU s T L n) (nu (runC s T L n)) ≠ 0)
noncomputable def feF (s : Int) (T : Int → Int) (L : Int) (n : Nat) : Int := @ntF (msP s T L n) (Classical.propDecidable _) 4 (runF s T L n)
noncomputable def feQ (s : Int) (T : Int → Int) (L : Int) (n : Nat) : Int := @ntQ (msP s T L n) (Classical.propDecidable _) L (runF s T L n) (runQ s T L n)
theorem fe_n {s : Int} {T : Int → Int} {L : Int} {n : Nat} (h : ¬ (msP s T L n ∧ runF s T L n = 0)) : feF s T L n = runF s T L n ∧ feQ s T L n = runQ s T L n := ⟨if_neg h, if_neg h⟩
theorem fe_y {s : Int} {T : Int → Int} {L : Int} {n : Nat} (h : msP s T L n) : feF s T L n = ntF True 4 (runF s T L n) ∧ feQ s T L n = ntQ True L (runF s T L n) (runQ s T L n) := @nt_iff _ _ (Classical.propDecidable _) _ 4 L (runF s T L n) (runQ s T L n) ⟨fun _ => trivial, fun _ => h⟩
/-- what a read text is -/
def rsO (h : mH) (y : Nat) (s : Int) (T : Int → Int) (L : Int) : Prop := (∃ n, okN s T L n ∧ tkK T L (runP s T L n) = 3 ∧ rdF h y (feF s T L n) (feQ s T L n) ∧ ctC h y s (runC s T L n)) ∨ rlX h y s T L
set_option maxHeartbeats 4000000 in
theorem zp_X6_read_0 {ad : mA} {dd : Nat} {h : mH} {Q : mQ} {y t : Nat} {T : Int → Int} (hk : rdk h y) (hk1 : mS h t = (13, 600)) (HA : adK ad) (n : Int) (n_r : -2147483648 ≤ n ∧ n < 2147483648) (pn : 0 ≤ n ∧ n ≤ 600) (pd : t + 1 ≤ y ∨ y + 27 ≤ t) (pt : ∀ j : Int, 0 ≤ j → j < 600 → rI h t j = T j) (pb : ∀ j : Int, 0 ≤ j → j < 600 → -128 ≤ T j ∧ T j < 128) (kq : ∀ h1, frm (fun a k => y ≤ a ∧ a < y + 27) h h1 → (rsO h1 y 0 T n) → Q none h1) : mCal TB0 ad (dd + 10) M_X6_read [.ref y, .ref t, .int (zI n), .int (zI 0)] h 0 0 Q := by
  refine ⟨Nat.le_of_ble_eq_true rfl, ?_⟩
  show mEv TB0 ad M_X6_read (dd + 10) (0, 0) (mCal TB0 ad (dd + 9)) (fun v h' z => z.1 = 0 ∧ Q v h') 0 [some (.ref y), some (.ref t), some (.int (zI n)), some (.int (zI 0)), none, none] [] h (0, 0)
  have FR0 : frm (fun a k => y ≤ a ∧ a < y + 27) h h := frm_0 h
  refine e_aload_n dX6_read_0 rfl ?_
  refine e_aload_n dX6_read_1 rfl ?_
  refine e_iload_n dX6_read_2 rfl ?_
  refine e_callV [.ref _, .int _] dX6_read_3 tm_6_68 rfl (Nat.le_of_ble_eq_true rfl) (congrArg Prod.fst (rd_s0 hk)) (Nat.le_of_ble_eq_true rfl) (Nat.le_refl _) (Nat.le_refl _) rfl (zp_X6_begin hk hk1 n ⟨by omega, by omega⟩ pn pd pt pb (fun  h1 f2 p3 p4 p5 p6 p7 p8 p9 => ?_))
  have k10 := lk_q (frm_s f2) hk
  have k11 := cgS (frm_s f2) hk1
  have FR12 := frm_t FR0 (frm_m (S' := (fun a k => y ≤ a ∧ a < y + 27)) f2 (fun a k q => by omega))
  refine z_iconst (1) dX6_read_6 rfl ?_
  refine e_istore (L' := [_, _, _, _, _, _]) dX6_read_7 (Nat.le_of_ble_eq_true rfl) rfl ?_
  refine z_iconst (0) dX6_read_9 rfl ?_
  refine e_istore (L' := [_, _, _, _, _, _]) dX6_read_10 (Nat.le_of_ble_eq_true rfl) rfl ?_
  have lp13 : ∀ (n13 : Nat) (b i : Int) (h13 : mH), (301 - i).toNat = n13 → (rdk h13 y) → (mS h13 t = (13, 600)) → (rdT h13 y T n) → (frm (fun a k => y ≤ a ∧ a < y + 27) h h13) → (0 ≤ i ∧ i ≤ 301) → (rlS h13 y 0 T n i.toNat b) → mEv TB0 ad M_X6_read (dd + 10) (0, 0) (mCal TB0 ad (dd + 9)) (fun v h' z => z.1 = 0 ∧ Q v h') 12 [some (.ref y), some (.ref t), some (.int (zI n)), some (.int (zI 0)), some (.int (zI b)), some (.int (zI i))] [] h13 (0, 0) := by
    intro n13
    induction n13 using Nat.strongRecOn with
    | ind n13 ih13 =>
    intro b i h13 hn13 k14 k15 H16 FR17 I1 I2
    refine e_iload dX6_read_12 rfl ?_
    have KB := rl_b I2
    refine z_sipush (600) dX6_read_14 rfl ?_
    refine z_icmp_ge 70 dX6_read_17 rfl ⟨by omega, by omega⟩ ⟨by omega, by omega⟩ (fun c18 => ?_) (fun c18 => ?_)
    · exfalso; omega
    · skip
      refine e_iload dX6_read_20 rfl ?_
      refine z_if_eq 70 dX6_read_22 rfl ⟨by omega, by omega⟩ (fun c19 => ?_) (fun c19 => ?_)
      · skip
        have RX := rl_0 I2 (by omega)
        obtain ⟨xm, X1, X2, X3, XF⟩ := RX
        refine e_aload_n dX6_read_70 rfl ?_
        refine z_get (rI h13 y 12) dX6_read_71 tf_6_62 (congrArg Prod.fst (rd_s0 k14)) (Or.inl rfl) rfl ?_
        have y20 := rI_i h13 y 12
        refine e_aload_n dX6_read_74 rfl ?_
        refine e_get (.ref (y + 1)) dX6_read_75 tf_6_12 (congrArg Prod.fst (rd_s0 k14)) (congrArg va_rf (rd_r0_0 k14)) ?_
        refine e_get (.ref (y + 2)) dX6_read_78 tf_6_82 (congrArg Prod.fst (rd_s1 k14)) (congrArg va_rf (rd_r1_0 k14)) ?_
        refine z_get (rI h13 (y + 2) 5) dX6_read_81 tf_6_86 (congrArg Prod.fst (rd_s2 k14)) (Or.inl rfl) rfl ?_
        have y21 := rI_i h13 (y + 2) 5
        refine z_ishrX dX6_read_84 (fun v22 v22b => ?_)
        refine z_if_ne 106 dX6_read_85 rfl ⟨by omega, by omega⟩ (fun c23 => ?_) (fun c23 => ?_)
        · skip
          refine z_iconst (1) dX6_read_106 rfl ?_
          refine e_goto 111 dX6_read_107 rfl ?_
          refine e_istore (L' := [_, _, _, _, _, _]) dX6_read_111 (Nat.le_of_ble_eq_true rfl) rfl ?_
          refine e_aload_n dX6_read_113 rfl ?_
          refine z_get 1 dX6_read_114 tf_6_32 (congrArg Prod.fst (rd_s0 k14)) (Or.inl rfl) XF.1 ?_
          have y24 := XF.2.2
          refine z_if_ne 134 dX6_read_117 rfl ⟨by omega, by omega⟩ (fun c25 => ?_) (fun c25 => ?_)
          · skip
            refine e_vret dX6_read_134 rfl ⟨rfl, ?_⟩
            exact kq _ FR17 (Or.inr ⟨xm, X1, X2, X3, XF⟩)
          · exfalso; omega
        · skip
          refine e_aload_n dX6_read_88 rfl ?_
          refine z_get (rI h13 y 13) dX6_read_89 tf_6_65 (congrArg Prod.fst (rd_s0 k14)) (Or.inl rfl) rfl ?_
          have y26 := rI_i h13 y 13
          refine e_aload_n dX6_read_92 rfl ?_
          refine e_get (.ref (y + 1)) dX6_read_93 tf_6_12 (congrArg Prod.fst (rd_s0 k14)) (congrArg va_rf (rd_r0_0 k14)) ?_
          refine e_get (.ref (y + 8)) dX6_read_96 tf_6_91 (congrArg Prod.fst (rd_s1 k14)) (congrArg va_rf (rd_r1_1 k14)) ?_
          refine z_get (rI h13 (y + 8) 5) dX6_read_99 tf_6_86 (congrArg Prod.fst (rd_s8 k14)) (Or.inl rfl) rfl ?_
          have y27 := rI_i h13 (y + 8) 5
          refine z_ishrX dX6_read_102 (fun v28 v28b => ?_)
          refine z_if_eq 110 dX6_read_103 rfl ⟨by omega, by omega⟩ (fun c29 => ?_) (fun c29 => ?_)
          · skip
            refine z_iconst (0) dX6_read_110 rfl ?_
            refine e_istore (L' := [_, _, _, _, _, _]) dX6_read_111 (Nat.le_of_ble_eq_true rfl) rfl ?_
            refine e_aload_n dX6_read_113 rfl ?_
            refine z_get 1 dX6_read_114 tf_6_32 (congrArg Prod.fst (rd_s0 k14)) (Or.inl rfl) XF.1 ?_
            have y30 := XF.2.2
            refine z_if_ne 134 dX6_read_117 rfl ⟨by omega, by omega⟩ (fun c31 => ?_) (fun c31 => ?_)
            · skip
              refine e_vret dX6_read_134 rfl ⟨rfl, ?_⟩
              exact kq _ FR17 (Or.inr ⟨xm, X1, X2, X3, XF⟩)
            · exfalso; omega
          · skip
            refine z_iconst (1) dX6_read_106 rfl ?_
            refine e_goto 111 dX6_read_107 rfl ?_
            refine e_istore (L' := [_, _, _, _, _, _]) dX6_read_111 (Nat.le_of_ble_eq_true rfl) rfl ?_
            refine e_aload_n dX6_read_113 rfl ?_
            refine z_get 1 dX6_read_114 tf_6_32 (congrArg Prod.fst (rd_s0 k14)) (Or.inl rfl) XF.1 ?_
            have y32 := XF.2.2
            refine z_if_ne 134 dX6_read_117 rfl ⟨by omega, by omega⟩ (fun c33 => ?_) (fun c33 => ?_)
            · skip
              refine e_vret dX6_read_134 rfl ⟨rfl, ?_⟩
              exact kq _ FR17 (Or.inr ⟨xm, X1, X2, X3, XF⟩)
            · exfalso; omega
      · skip
        obtain ⟨OK, P1, F1, C1, B1⟩ := rl_1 I2 (by omega)
        have C2 := C1.1 rfl
        have ob := okN_b pn.1 i.toNat OK
        have WF := rn_wf i.toNat OK
        have wn1 := WF.1
        have wn2 := WF.2.1
        refine e_aload_n dX6_read_25 rfl ?_
        refine z_get (tkK T n (runP 0 T n i.toNat)) dX6_read_26 tf_6_53 (congrArg Prod.fst (rd_s0 k14)) (Or.inl rfl) P1.2.2.1 ?_
        have y34 := tk_b (T := T) P1.1.1 P1.1.2
        have y35 := P1.1
        refine z_iconst (3) dX6_read_29 rfl ?_
        refine z_icmp_eq 70 dX6_read_30 rfl ⟨by omega, by omega⟩ ⟨by omega, by omega⟩ (fun c36 => ?_) (fun c36 => ?_)
        · skip
          skip
          refine e_aload_n dX6_read_70 rfl ?_
          refine z_get (runD 0 T n i.toNat) dX6_read_71 tf_6_62 (congrArg Prod.fst (rd_s0 k14)) (Or.inl rfl) B1.1 ?_
          have y37 := B1.2.2
          refine e_aload_n dX6_read_74 rfl ?_
          refine e_get (.ref (y + 1)) dX6_read_75 tf_6_12 (congrArg Prod.fst (rd_s0 k14)) (congrArg va_rf (rd_r0_0 k14)) ?_
          refine e_get (.ref (y + 2)) dX6_read_78 tf_6_82 (congrArg Prod.fst (rd_s1 k14)) (congrArg va_rf (rd_r1_0 k14)) ?_
          refine z_get (nd (runC 0 T n i.toNat)) dX6_read_81 tf_6_86 (congrArg Prod.fst (rd_s2 k14)) (Or.inl rfl) C2.1.1 ?_
          refine z_ishr dX6_read_84 (by omega) (by omega) (by omega) (by omega) ?_
          have y38 := shrZ_b (runD 0 T n i.toNat) (nd (runC 0 T n i.toNat))
          refine z_if_ne 106 dX6_read_85 rfl ⟨by omega, by omega⟩ (fun c39 => ?_) (fun c39 => ?_)
          · skip
            refine z_iconst (1) dX6_read_106 rfl ?_
            refine e_goto 111 dX6_read_107 rfl ?_
            refine e_istore (L' := [_, _, _, _, _, _]) dX6_read_111 (Nat.le_of_ble_eq_true rfl) rfl ?_
            refine e_aload_n dX6_read_113 rfl ?_
            refine z_get (runF 0 T n i.toNat) dX6_read_114 tf_6_32 (congrArg Prod.fst (rd_s0 k14)) (Or.inl rfl) F1.1 ?_
            have y40 := F1.2.2
            refine z_if_ne 134 dX6_read_117 rfl ⟨by omega, by omega⟩ (fun c41 => ?_) (fun c41 => ?_)
            · skip
              refine e_vret dX6_read_134 rfl ⟨rfl, ?_⟩
              exact kq _ FR17 (Or.inl ⟨i.toNat, OK, by omega, (by rw [(fe_n (s := 0) (T := T) (L := n) (n := i.toNat) (fun z => by unfold msP at z; omega)).1, (fe_n (s := 0) (T := T) (L := n) (n := i.toNat) (fun z => by unfold msP at z; omega)).2]; exact F1), ⟨fun _ => C2, fun z => absurd z (by omega), fun z => absurd z (by omega)⟩⟩)
            · skip
              refine e_iload dX6_read_120 rfl ?_
              refine z_if_eq 134 dX6_read_122 rfl ⟨by omega, by omega⟩ (fun c42 => ?_) (fun c42 => ?_)
              · exfalso; omega
              · skip
                refine e_aload_n dX6_read_125 rfl ?_
                refine z_iconst (4) dX6_read_126 rfl ?_
                refine e_aload_n dX6_read_127 rfl ?_
                refine z_get n dX6_read_128 tf_6_47 (congrArg Prod.fst (rd_s0 k14)) (Or.inl rfl) H16.2.1 ?_
                have y43 := H16.1
                refine e_callV [.int _, .int _] dX6_read_131 tm_6_94 rfl (Nat.le_of_ble_eq_true rfl) (congrArg Prod.fst (rd_s0 k14)) (Nat.le_of_ble_eq_true rfl) (Nat.le_refl _) (Nat.le_refl _) rfl (zp_X6_note k14 F1 4 ⟨by omega, by omega⟩ n ⟨by omega, by omega⟩ (by omega) (fun  h44 f45 p46 => ?_))
                have k47 := lk_q (frm_s f45) k14
                have k48 := cgS (frm_s f45) k15
                have H49 := rdT_c f45 (fun a k q => by omega) H16
                have H50 := rdP_c f45 (fun a k q => by omega) P1
                have H51 := rwF_c f45 (fun a k q1 q2 => by omega) C2
                have H52 := rdB_c f45 (fun a k q => by omega) B1
                have FR53 := frm_t FR17 (frm_m (S' := (fun a k => y ≤ a ∧ a < y + 27)) f45 (fun a k q => by omega))
                refine e_vret dX6_read_134 rfl ⟨rfl, ?_⟩
                exact kq _ FR53 (Or.inl ⟨i.toNat, OK, by omega, (by rw [(fe_y (s := 0) (T := T) (L := n) (n := i.toNat) ⟨rfl, by omega⟩).1, (fe_y (s := 0) (T := T) (L := n) (n := i.toNat) ⟨rfl, by omega⟩).2]; exact p46), ⟨fun _ => H51, fun z => absurd z (by omega), fun z => absurd z (by omega)⟩⟩)
          · skip
            refine e_aload_n dX6_read_88 rfl ?_
            refine z_get (runU 0 T n i.toNat) dX6_read_89 tf_6_65 (congrArg Prod.fst (rd_s0 k14)) (Or.inl rfl) B1.2.1 ?_
            have y54 := B1.2.2
            refine e_aload_n dX6_read_92 rfl ?_
            refine e_get (.ref (y + 1)) dX6_read_93 tf_6_12 (congrArg Prod.fst (rd_s0 k14)) (congrArg va_rf (rd_r0_0 k14)) ?_
            refine e_get (.ref (y + 8)) dX6_read_96 tf_6_91 (congrArg Prod.fst (rd_s1 k14)) (congrArg va_rf (rd_r1_1 k14)) ?_
            refine z_get (nu (runC 0 T n i.toNat)) dX6_read_99 tf_6_86 (congrArg Prod.fst (rd_s8 k14)) (Or.inl rfl) C2.1.2.1 ?_
            refine z_ishr dX6_read_102 (by omega) (by omega) (by omega) (by omega) ?_
            have y55 := shrZ_b (runU 0 T n i.toNat) (nu (runC 0 T n i.toNat))
            refine z_if_eq 110 dX6_read_103 rfl ⟨by omega, by omega⟩ (fun c56 => ?_) (fun c56 => ?_)
            · skip
              refine z_iconst (0) dX6_read_110 rfl ?_
              refine e_istore (L' := [_, _, _, _, _, _]) dX6_read_111 (Nat.le_of_ble_eq_true rfl) rfl ?_
              refine e_aload_n dX6_read_113 rfl ?_
              refine z_get (runF 0 T n i.toNat) dX6_read_114 tf_6_32 (congrArg Prod.fst (rd_s0 k14)) (Or.inl rfl) F1.1 ?_
              have y57 := F1.2.2
              refine z_if_ne 134 dX6_read_117 rfl ⟨by omega, by omega⟩ (fun c58 => ?_) (fun c58 => ?_)
              · skip
                refine e_vret dX6_read_134 rfl ⟨rfl, ?_⟩
                exact kq _ FR17 (Or.inl ⟨i.toNat, OK, by omega, (by rw [(fe_n (s := 0) (T := T) (L := n) (n := i.toNat) (fun z => by unfold msP at z; omega)).1, (fe_n (s := 0) (T := T) (L := n) (n := i.toNat) (fun z => by unfold msP at z; omega)).2]; exact F1), ⟨fun _ => C2, fun z => absurd z (by omega), fun z => absurd z (by omega)⟩⟩)
              · skip
                refine e_iload dX6_read_120 rfl ?_
                refine z_if_eq 134 dX6_read_122 rfl ⟨by omega, by omega⟩ (fun c59 => ?_) (fun c59 => ?_)
                · skip
                  refine e_vret dX6_read_134 rfl ⟨rfl, ?_⟩
                  exact kq _ FR17 (Or.inl ⟨i.toNat, OK, by omega, (by rw [(fe_n (s := 0) (T := T) (L := n) (n := i.toNat) (fun z => by unfold msP at z; omega)).1, (fe_n (s := 0) (T := T) (L := n) (n := i.toNat) (fun z => by unfold msP at z; omega)).2]; exact F1), ⟨fun _ => C2, fun z => absurd z (by omega), fun z => absurd z (by omega)⟩⟩)
                · exfalso; omega
            · skip
              refine z_iconst (1) dX6_read_106 rfl ?_
              refine e_goto 111 dX6_read_107 rfl ?_
              refine e_istore (L' := [_, _, _, _, _, _]) dX6_read_111 (Nat.le_of_ble_eq_true rfl) rfl ?_
              refine e_aload_n dX6_read_113 rfl ?_
              refine z_get (runF 0 T n i.toNat) dX6_read_114 tf_6_32 (congrArg Prod.fst (rd_s0 k14)) (Or.inl rfl) F1.1 ?_
              have y60 := F1.2.2
              refine z_if_ne 134 dX6_read_117 rfl ⟨by omega, by omega⟩ (fun c61 => ?_) (fun c61 => ?_)
              · skip
                refine e_vret dX6_read_134 rfl ⟨rfl, ?_⟩
                exact kq _ FR17 (Or.inl ⟨i.toNat, OK, by omega, (by rw [(fe_n (s := 0) (T := T) (L := n) (n := i.toNat) (fun z => by unfold msP at z; omega)).1, (fe_n (s := 0) (T := T) (L := n) (n := i.toNat) (fun z => by unfold msP at z; omega)).2]; exact F1), ⟨fun _ => C2, fun z => absurd z (by omega), fun z => absurd z (by omega)⟩⟩)
              · skip
                refine e_iload dX6_read_120 rfl ?_
                refine z_if_eq 134 dX6_read_122 rfl ⟨by omega, by omega⟩ (fun c62 => ?_) (fun c62 => ?_)
                · exfalso; omega
                · skip
                  refine e_aload_n dX6_read_125 rfl ?_
                  refine z_iconst (4) dX6_read_126 rfl ?_
                  refine e_aload_n dX6_read_127 rfl ?_
                  refine z_get n dX6_read_128 tf_6_47 (congrArg Prod.fst (rd_s0 k14)) (Or.inl rfl) H16.2.1 ?_
                  have y63 := H16.1
                  refine e_callV [.int _, .int _] dX6_read_131 tm_6_94 rfl (Nat.le_of_ble_eq_true rfl) (congrArg Prod.fst (rd_s0 k14)) (Nat.le_of_ble_eq_true rfl) (Nat.le_refl _) (Nat.le_refl _) rfl (zp_X6_note k14 F1 4 ⟨by omega, by omega⟩ n ⟨by omega, by omega⟩ (by omega) (fun  h64 f65 p66 => ?_))
                  have k67 := lk_q (frm_s f65) k14
                  have k68 := cgS (frm_s f65) k15
                  have H69 := rdT_c f65 (fun a k q => by omega) H16
                  have H70 := rdP_c f65 (fun a k q => by omega) P1
                  have H71 := rwF_c f65 (fun a k q1 q2 => by omega) C2
                  have H72 := rdB_c f65 (fun a k q => by omega) B1
                  have FR73 := frm_t FR17 (frm_m (S' := (fun a k => y ≤ a ∧ a < y + 27)) f65 (fun a k q => by omega))
                  refine e_vret dX6_read_134 rfl ⟨rfl, ?_⟩
                  exact kq _ FR73 (Or.inl ⟨i.toNat, OK, by omega, (by rw [(fe_y (s := 0) (T := T) (L := n) (n := i.toNat) ⟨rfl, by omega⟩).1, (fe_y (s := 0) (T := T) (L := n) (n := i.toNat) ⟨rfl, by omega⟩).2]; exact p66), ⟨fun _ => H71, fun z => absurd z (by omega), fun z => absurd z (by omega)⟩⟩)
        · skip
          refine e_iload_n dX6_read_33 rfl ?_
          refine z_if_ne 46 dX6_read_34 rfl ⟨by omega, by omega⟩ (fun c74 => ?_) (fun c74 => ?_)
          · exfalso; omega
          · skip
            refine e_aload_n dX6_read_37 rfl ?_
            refine e_callV [] dX6_read_38 tm_6_72 rfl (Nat.le_of_ble_eq_true rfl) (congrArg Prod.fst (rd_s0 k14)) (Nat.le_of_ble_eq_true rfl) (Nat.le_refl _) (Nat.le_refl _) rfl (zp_X6_forgeLine k14 H16 P1 F1 C2 B1 HA WF (fun v75 p76 h77 f78 p79 => ?_))
            have k80 := lk_q (frm_s f78) k14
            have k81 := cgS (frm_s f78) k15
            have H82 := rdT_c f78 (fun a k q => by omega) H16
            have FR83 := frm_t FR17 (frm_m (S' := (fun a k => y ≤ a ∧ a < y + 27)) f78 (fun a k q => by omega))
            skip
            refine e_istore (L' := [_, _, _, _, _, _]) dX6_read_41 (Nat.le_of_ble_eq_true rfl) rfl ?_
            refine e_goto 64 dX6_read_43 rfl ?_
            refine z_iinc (L' := [_, _, _, _, _, _]) dX6_read_64 rfl rfl ?_
            refine e_goto 12 dX6_read_67 rfl ?_
            exact ih13 _ (by omega) v75 (i + 1) h77 rfl k80 k81 H82 FR83 (by omega) (by rw [show (i + 1).toNat = i.toNat + 1 by omega]; exact rl_n OK (by omega) (fun x => ⟨⟨fun _ => x.1, fun z => absurd z (by omega), fun z => absurd z (by omega)⟩, by show rdB h77 y (if (0 : Int) = 0 then _ else _) (if (0 : Int) = 0 then _ else _); rw [if_pos rfl, if_pos rfl]; exact x.2⟩) p79)
  exact lp13 _ 1 0 h1 rfl k10 k11 p3 FR12 (by omega) (Or.inl ⟨rfl, fun j hj => by omega, p4, p5, ⟨fun z => p6, fun z => absurd z (by omega), fun z => absurd z (by omega)⟩, p9⟩)
set_option maxHeartbeats 4000000 in
theorem zp_X6_read_1 {ad : mA} {dd : Nat} {h : mH} {Q : mQ} {y t : Nat} {T : Int → Int} (hk : rdk h y) (hk1 : mS h t = (13, 600)) (HA : adK ad) (n : Int) (n_r : -2147483648 ≤ n ∧ n < 2147483648) (pn : 0 ≤ n ∧ n ≤ 600) (pd : t + 1 ≤ y ∨ y + 27 ≤ t) (pt : ∀ j : Int, 0 ≤ j → j < 600 → rI h t j = T j) (pb : ∀ j : Int, 0 ≤ j → j < 600 → -128 ≤ T j ∧ T j < 128) (kq : ∀ h1, frm (fun a k => y ≤ a ∧ a < y + 27) h h1 → (rsO h1 y 1 T n) → Q none h1) : mCal TB0 ad (dd + 10) M_X6_read [.ref y, .ref t, .int (zI n), .int (zI 1)] h 0 0 Q := by
  refine ⟨Nat.le_of_ble_eq_true rfl, ?_⟩
  show mEv TB0 ad M_X6_read (dd + 10) (0, 0) (mCal TB0 ad (dd + 9)) (fun v h' z => z.1 = 0 ∧ Q v h') 0 [some (.ref y), some (.ref t), some (.int (zI n)), some (.int (zI 1)), none, none] [] h (0, 0)
  have FR0 : frm (fun a k => y ≤ a ∧ a < y + 27) h h := frm_0 h
  refine e_aload_n dX6_read_0 rfl ?_
  refine e_aload_n dX6_read_1 rfl ?_
  refine e_iload_n dX6_read_2 rfl ?_
  refine e_callV [.ref _, .int _] dX6_read_3 tm_6_68 rfl (Nat.le_of_ble_eq_true rfl) (congrArg Prod.fst (rd_s0 hk)) (Nat.le_of_ble_eq_true rfl) (Nat.le_refl _) (Nat.le_refl _) rfl (zp_X6_begin hk hk1 n ⟨by omega, by omega⟩ pn pd pt pb (fun  h1 f2 p3 p4 p5 p6 p7 p8 p9 => ?_))
  have k10 := lk_q (frm_s f2) hk
  have k11 := cgS (frm_s f2) hk1
  have FR12 := frm_t FR0 (frm_m (S' := (fun a k => y ≤ a ∧ a < y + 27)) f2 (fun a k q => by omega))
  refine z_iconst (1) dX6_read_6 rfl ?_
  refine e_istore (L' := [_, _, _, _, _, _]) dX6_read_7 (Nat.le_of_ble_eq_true rfl) rfl ?_
  refine z_iconst (0) dX6_read_9 rfl ?_
  refine e_istore (L' := [_, _, _, _, _, _]) dX6_read_10 (Nat.le_of_ble_eq_true rfl) rfl ?_
  have lp13 : ∀ (n13 : Nat) (b i : Int) (h13 : mH), (301 - i).toNat = n13 → (rdk h13 y) → (mS h13 t = (13, 600)) → (rdT h13 y T n) → (rwF h13 (y + 1) (ini0 0)) → (frm (fun a k => y ≤ a ∧ a < y + 27) h h13) → (0 ≤ i ∧ i ≤ 301) → (rlS h13 y 1 T n i.toNat b) → mEv TB0 ad M_X6_read (dd + 10) (0, 0) (mCal TB0 ad (dd + 9)) (fun v h' z => z.1 = 0 ∧ Q v h') 12 [some (.ref y), some (.ref t), some (.int (zI n)), some (.int (zI 1)), some (.int (zI b)), some (.int (zI i))] [] h13 (0, 0) := by
    intro n13
    induction n13 using Nat.strongRecOn with
    | ind n13 ih13 =>
    intro b i h13 hn13 k14 k15 H16 H17 FR18 I1 I2
    refine e_iload dX6_read_12 rfl ?_
    have KB := rl_b I2
    refine z_sipush (600) dX6_read_14 rfl ?_
    refine z_icmp_ge 70 dX6_read_17 rfl ⟨by omega, by omega⟩ ⟨by omega, by omega⟩ (fun c19 => ?_) (fun c19 => ?_)
    · exfalso; omega
    · skip
      refine e_iload dX6_read_20 rfl ?_
      refine z_if_eq 70 dX6_read_22 rfl ⟨by omega, by omega⟩ (fun c20 => ?_) (fun c20 => ?_)
      · skip
        have RX := rl_0 I2 (by omega)
        obtain ⟨xm, X1, X2, X3, XF⟩ := RX
        refine e_aload_n dX6_read_70 rfl ?_
        refine z_get (rI h13 y 12) dX6_read_71 tf_6_62 (congrArg Prod.fst (rd_s0 k14)) (Or.inl rfl) rfl ?_
        have y21 := rI_i h13 y 12
        refine e_aload_n dX6_read_74 rfl ?_
        refine e_get (.ref (y + 1)) dX6_read_75 tf_6_12 (congrArg Prod.fst (rd_s0 k14)) (congrArg va_rf (rd_r0_0 k14)) ?_
        refine e_get (.ref (y + 2)) dX6_read_78 tf_6_82 (congrArg Prod.fst (rd_s1 k14)) (congrArg va_rf (rd_r1_0 k14)) ?_
        refine z_get (rI h13 (y + 2) 5) dX6_read_81 tf_6_86 (congrArg Prod.fst (rd_s2 k14)) (Or.inl rfl) rfl ?_
        have y22 := rI_i h13 (y + 2) 5
        refine z_ishrX dX6_read_84 (fun v23 v23b => ?_)
        refine z_if_ne 106 dX6_read_85 rfl ⟨by omega, by omega⟩ (fun c24 => ?_) (fun c24 => ?_)
        · skip
          refine z_iconst (1) dX6_read_106 rfl ?_
          refine e_goto 111 dX6_read_107 rfl ?_
          refine e_istore (L' := [_, _, _, _, _, _]) dX6_read_111 (Nat.le_of_ble_eq_true rfl) rfl ?_
          refine e_aload_n dX6_read_113 rfl ?_
          refine z_get 1 dX6_read_114 tf_6_32 (congrArg Prod.fst (rd_s0 k14)) (Or.inl rfl) XF.1 ?_
          have y25 := XF.2.2
          refine z_if_ne 134 dX6_read_117 rfl ⟨by omega, by omega⟩ (fun c26 => ?_) (fun c26 => ?_)
          · skip
            refine e_vret dX6_read_134 rfl ⟨rfl, ?_⟩
            exact kq _ FR18 (Or.inr ⟨xm, X1, X2, X3, XF⟩)
          · exfalso; omega
        · skip
          refine e_aload_n dX6_read_88 rfl ?_
          refine z_get (rI h13 y 13) dX6_read_89 tf_6_65 (congrArg Prod.fst (rd_s0 k14)) (Or.inl rfl) rfl ?_
          have y27 := rI_i h13 y 13
          refine e_aload_n dX6_read_92 rfl ?_
          refine e_get (.ref (y + 1)) dX6_read_93 tf_6_12 (congrArg Prod.fst (rd_s0 k14)) (congrArg va_rf (rd_r0_0 k14)) ?_
          refine e_get (.ref (y + 8)) dX6_read_96 tf_6_91 (congrArg Prod.fst (rd_s1 k14)) (congrArg va_rf (rd_r1_1 k14)) ?_
          refine z_get (rI h13 (y + 8) 5) dX6_read_99 tf_6_86 (congrArg Prod.fst (rd_s8 k14)) (Or.inl rfl) rfl ?_
          have y28 := rI_i h13 (y + 8) 5
          refine z_ishrX dX6_read_102 (fun v29 v29b => ?_)
          refine z_if_eq 110 dX6_read_103 rfl ⟨by omega, by omega⟩ (fun c30 => ?_) (fun c30 => ?_)
          · skip
            refine z_iconst (0) dX6_read_110 rfl ?_
            refine e_istore (L' := [_, _, _, _, _, _]) dX6_read_111 (Nat.le_of_ble_eq_true rfl) rfl ?_
            refine e_aload_n dX6_read_113 rfl ?_
            refine z_get 1 dX6_read_114 tf_6_32 (congrArg Prod.fst (rd_s0 k14)) (Or.inl rfl) XF.1 ?_
            have y31 := XF.2.2
            refine z_if_ne 134 dX6_read_117 rfl ⟨by omega, by omega⟩ (fun c32 => ?_) (fun c32 => ?_)
            · skip
              refine e_vret dX6_read_134 rfl ⟨rfl, ?_⟩
              exact kq _ FR18 (Or.inr ⟨xm, X1, X2, X3, XF⟩)
            · exfalso; omega
          · skip
            refine z_iconst (1) dX6_read_106 rfl ?_
            refine e_goto 111 dX6_read_107 rfl ?_
            refine e_istore (L' := [_, _, _, _, _, _]) dX6_read_111 (Nat.le_of_ble_eq_true rfl) rfl ?_
            refine e_aload_n dX6_read_113 rfl ?_
            refine z_get 1 dX6_read_114 tf_6_32 (congrArg Prod.fst (rd_s0 k14)) (Or.inl rfl) XF.1 ?_
            have y33 := XF.2.2
            refine z_if_ne 134 dX6_read_117 rfl ⟨by omega, by omega⟩ (fun c34 => ?_) (fun c34 => ?_)
            · skip
              refine e_vret dX6_read_134 rfl ⟨rfl, ?_⟩
              exact kq _ FR18 (Or.inr ⟨xm, X1, X2, X3, XF⟩)
            · exfalso; omega
      · skip
        obtain ⟨OK, P1, F1, C1, B1⟩ := rl_1 I2 (by omega)
        have C2 := C1.2.1 rfl
        have ob := okN_b pn.1 i.toNat OK
        have RY := rn_y (T := T) (L := n) i.toNat
        have r0 := rn_0 (s := 1) (T := T) (L := n) (by omega) i.toNat
        refine e_aload_n dX6_read_25 rfl ?_
        refine z_get (tkK T n (runP 1 T n i.toNat)) dX6_read_26 tf_6_53 (congrArg Prod.fst (rd_s0 k14)) (Or.inl rfl) P1.2.2.1 ?_
        have y35 := tk_b (T := T) P1.1.1 P1.1.2
        have y36 := P1.1
        refine z_iconst (3) dX6_read_29 rfl ?_
        refine z_icmp_eq 70 dX6_read_30 rfl ⟨by omega, by omega⟩ ⟨by omega, by omega⟩ (fun c37 => ?_) (fun c37 => ?_)
        · skip
          have in1 : nd (ini0 0) = 0 ∧ nu (ini0 0) = 0 := ⟨ini_0 (by omega), ini_0 (by omega)⟩
          refine e_aload_n dX6_read_70 rfl ?_
          refine z_get (runD 1 T n i.toNat) dX6_read_71 tf_6_62 (congrArg Prod.fst (rd_s0 k14)) (Or.inl rfl) B1.1 ?_
          have y38 := B1.2.2
          refine e_aload_n dX6_read_74 rfl ?_
          refine e_get (.ref (y + 1)) dX6_read_75 tf_6_12 (congrArg Prod.fst (rd_s0 k14)) (congrArg va_rf (rd_r0_0 k14)) ?_
          refine e_get (.ref (y + 2)) dX6_read_78 tf_6_82 (congrArg Prod.fst (rd_s1 k14)) (congrArg va_rf (rd_r1_0 k14)) ?_
          refine z_get (nd (ini0 0)) dX6_read_81 tf_6_86 (congrArg Prod.fst (rd_s2 k14)) (Or.inl rfl) H17.1.1 ?_
          refine z_ishr dX6_read_84 (by omega) (by omega) (by omega) (by omega) ?_
          have y39 := shrZ_b (runD 1 T n i.toNat) (nd (ini0 0))
          refine z_if_ne 106 dX6_read_85 rfl ⟨by omega, by omega⟩ (fun c40 => ?_) (fun c40 => ?_)
          · exfalso; omega
          · skip
            refine e_aload_n dX6_read_88 rfl ?_
            refine z_get (runU 1 T n i.toNat) dX6_read_89 tf_6_65 (congrArg Prod.fst (rd_s0 k14)) (Or.inl rfl) B1.2.1 ?_
            have y41 := B1.2.2
            refine e_aload_n dX6_read_92 rfl ?_
            refine e_get (.ref (y + 1)) dX6_read_93 tf_6_12 (congrArg Prod.fst (rd_s0 k14)) (congrArg va_rf (rd_r0_0 k14)) ?_
            refine e_get (.ref (y + 8)) dX6_read_96 tf_6_91 (congrArg Prod.fst (rd_s1 k14)) (congrArg va_rf (rd_r1_1 k14)) ?_
            refine z_get (nu (ini0 0)) dX6_read_99 tf_6_86 (congrArg Prod.fst (rd_s8 k14)) (Or.inl rfl) H17.1.2.1 ?_
            refine z_ishr dX6_read_102 (by omega) (by omega) (by omega) (by omega) ?_
            have y42 := shrZ_b (runU 1 T n i.toNat) (nu (ini0 0))
            refine z_if_eq 110 dX6_read_103 rfl ⟨by omega, by omega⟩ (fun c43 => ?_) (fun c43 => ?_)
            · skip
              refine z_iconst (0) dX6_read_110 rfl ?_
              refine e_istore (L' := [_, _, _, _, _, _]) dX6_read_111 (Nat.le_of_ble_eq_true rfl) rfl ?_
              refine e_aload_n dX6_read_113 rfl ?_
              refine z_get (runF 1 T n i.toNat) dX6_read_114 tf_6_32 (congrArg Prod.fst (rd_s0 k14)) (Or.inl rfl) F1.1 ?_
              have y44 := F1.2.2
              refine z_if_ne 134 dX6_read_117 rfl ⟨by omega, by omega⟩ (fun c45 => ?_) (fun c45 => ?_)
              · skip
                refine e_vret dX6_read_134 rfl ⟨rfl, ?_⟩
                exact kq _ FR18 (Or.inl ⟨i.toNat, OK, by omega, (by rw [(fe_n (s := 1) (T := T) (L := n) (n := i.toNat) (fun z => by unfold msP at z; omega)).1, (fe_n (s := 1) (T := T) (L := n) (n := i.toNat) (fun z => by unfold msP at z; omega)).2]; exact F1), ⟨fun z => absurd z (by omega), fun _ => C2, fun z => absurd z (by omega)⟩⟩)
              · skip
                refine e_iload dX6_read_120 rfl ?_
                refine z_if_eq 134 dX6_read_122 rfl ⟨by omega, by omega⟩ (fun c46 => ?_) (fun c46 => ?_)
                · skip
                  refine e_vret dX6_read_134 rfl ⟨rfl, ?_⟩
                  exact kq _ FR18 (Or.inl ⟨i.toNat, OK, by omega, (by rw [(fe_n (s := 1) (T := T) (L := n) (n := i.toNat) (fun z => by unfold msP at z; omega)).1, (fe_n (s := 1) (T := T) (L := n) (n := i.toNat) (fun z => by unfold msP at z; omega)).2]; exact F1), ⟨fun z => absurd z (by omega), fun _ => C2, fun z => absurd z (by omega)⟩⟩)
                · exfalso; omega
            · exfalso; omega
        · skip
          refine e_iload_n dX6_read_33 rfl ?_
          refine z_if_ne 46 dX6_read_34 rfl ⟨by omega, by omega⟩ (fun c47 => ?_) (fun c47 => ?_)
          · skip
            refine e_iload_n dX6_read_46 rfl ?_
            refine z_iconst (1) dX6_read_47 rfl ?_
            refine z_icmp_ne 58 dX6_read_48 rfl ⟨by omega, by omega⟩ ⟨by omega, by omega⟩ (fun c48 => ?_) (fun c48 => ?_)
            · exfalso; omega
            · skip
              refine e_aload_n dX6_read_51 rfl ?_
              refine e_callV [] dX6_read_52 tm_6_76 rfl (Nat.le_of_ble_eq_true rfl) (congrArg Prod.fst (rd_s0 k14)) (Nat.le_of_ble_eq_true rfl) (Nat.le_refl _) (Nat.le_refl _) rfl (zp_X6_deedLine k14 H16 P1 F1 C2 HA RY.1 (fun v49 p50 h51 f52 p53 => ?_))
              have k54 := lk_q (frm_s f52) k14
              have k55 := cgS (frm_s f52) k15
              have H56 := rdT_c f52 (fun a k q => by omega) H16
              have H57 := rwF_c f52 (fun a k q1 q2 => by omega) H17
              have H58 := rdB_c f52 (fun a k q => by omega) B1
              have FR59 := frm_t FR18 (frm_m (S' := (fun a k => y ≤ a ∧ a < y + 27)) f52 (fun a k q => by omega))
              skip
              refine e_goto 62 dX6_read_55 rfl ?_
              refine e_istore (L' := [_, _, _, _, _, _]) dX6_read_62 (Nat.le_of_ble_eq_true rfl) rfl ?_
              refine z_iinc (L' := [_, _, _, _, _, _]) dX6_read_64 rfl rfl ?_
              refine e_goto 12 dX6_read_67 rfl ?_
              exact ih13 _ (by omega) v49 (i + 1) h51 rfl k54 k55 H56 H57 FR59 (by omega) (by rw [show (i + 1).toNat = i.toNat + 1 by omega]; exact rl_n OK (by omega) (fun x => ⟨⟨fun z => absurd z (by omega), fun _ => x, fun z => absurd z (by omega)⟩, by show rdB h51 y (if (1 : Int) = 0 then _ else _) (if (1 : Int) = 0 then _ else _); rw [if_neg (by omega), if_neg (by omega)]; exact H58⟩) p53)
          · exfalso; omega
  exact lp13 _ 1 0 h1 rfl k10 k11 p3 p6 FR12 (by omega) (Or.inl ⟨rfl, fun j hj => by omega, p4, p5, ⟨fun z => absurd z (by omega), fun z => p7, fun z => absurd z (by omega)⟩, p9⟩)
set_option maxHeartbeats 4000000 in
theorem zp_X6_read_2 {ad : mA} {dd : Nat} {h : mH} {Q : mQ} {y t : Nat} {T : Int → Int} (hk : rdk h y) (hk1 : mS h t = (13, 600)) (HA : adK ad) (n : Int) (n_r : -2147483648 ≤ n ∧ n < 2147483648) (pn : 0 ≤ n ∧ n ≤ 600) (pd : t + 1 ≤ y ∨ y + 27 ≤ t) (pt : ∀ j : Int, 0 ≤ j → j < 600 → rI h t j = T j) (pb : ∀ j : Int, 0 ≤ j → j < 600 → -128 ≤ T j ∧ T j < 128) (kq : ∀ h1, frm (fun a k => y ≤ a ∧ a < y + 27) h h1 → (rsO h1 y 2 T n) → Q none h1) : mCal TB0 ad (dd + 10) M_X6_read [.ref y, .ref t, .int (zI n), .int (zI 2)] h 0 0 Q := by
  refine ⟨Nat.le_of_ble_eq_true rfl, ?_⟩
  show mEv TB0 ad M_X6_read (dd + 10) (0, 0) (mCal TB0 ad (dd + 9)) (fun v h' z => z.1 = 0 ∧ Q v h') 0 [some (.ref y), some (.ref t), some (.int (zI n)), some (.int (zI 2)), none, none] [] h (0, 0)
  have FR0 : frm (fun a k => y ≤ a ∧ a < y + 27) h h := frm_0 h
  refine e_aload_n dX6_read_0 rfl ?_
  refine e_aload_n dX6_read_1 rfl ?_
  refine e_iload_n dX6_read_2 rfl ?_
  refine e_callV [.ref _, .int _] dX6_read_3 tm_6_68 rfl (Nat.le_of_ble_eq_true rfl) (congrArg Prod.fst (rd_s0 hk)) (Nat.le_of_ble_eq_true rfl) (Nat.le_refl _) (Nat.le_refl _) rfl (zp_X6_begin hk hk1 n ⟨by omega, by omega⟩ pn pd pt pb (fun  h1 f2 p3 p4 p5 p6 p7 p8 p9 => ?_))
  have k10 := lk_q (frm_s f2) hk
  have k11 := cgS (frm_s f2) hk1
  have FR12 := frm_t FR0 (frm_m (S' := (fun a k => y ≤ a ∧ a < y + 27)) f2 (fun a k q => by omega))
  refine z_iconst (1) dX6_read_6 rfl ?_
  refine e_istore (L' := [_, _, _, _, _, _]) dX6_read_7 (Nat.le_of_ble_eq_true rfl) rfl ?_
  refine z_iconst (0) dX6_read_9 rfl ?_
  refine e_istore (L' := [_, _, _, _, _, _]) dX6_read_10 (Nat.le_of_ble_eq_true rfl) rfl ?_
  have lp13 : ∀ (n13 : Nat) (b i : Int) (h13 : mH), (301 - i).toNat = n13 → (rdk h13 y) → (mS h13 t = (13, 600)) → (rdT h13 y T n) → (rwF h13 (y + 1) (ini0 0)) → (frm (fun a k => y ≤ a ∧ a < y + 27) h h13) → (0 ≤ i ∧ i ≤ 301) → (rlS h13 y 2 T n i.toNat b) → mEv TB0 ad M_X6_read (dd + 10) (0, 0) (mCal TB0 ad (dd + 9)) (fun v h' z => z.1 = 0 ∧ Q v h') 12 [some (.ref y), some (.ref t), some (.int (zI n)), some (.int (zI 2)), some (.int (zI b)), some (.int (zI i))] [] h13 (0, 0) := by
    intro n13
    induction n13 using Nat.strongRecOn with
    | ind n13 ih13 =>
    intro b i h13 hn13 k14 k15 H16 H17 FR18 I1 I2
    refine e_iload dX6_read_12 rfl ?_
    have KB := rl_b I2
    refine z_sipush (600) dX6_read_14 rfl ?_
    refine z_icmp_ge 70 dX6_read_17 rfl ⟨by omega, by omega⟩ ⟨by omega, by omega⟩ (fun c19 => ?_) (fun c19 => ?_)
    · exfalso; omega
    · skip
      refine e_iload dX6_read_20 rfl ?_
      refine z_if_eq 70 dX6_read_22 rfl ⟨by omega, by omega⟩ (fun c20 => ?_) (fun c20 => ?_)
      · skip
        have RX := rl_0 I2 (by omega)
        obtain ⟨xm, X1, X2, X3, XF⟩ := RX
        refine e_aload_n dX6_read_70 rfl ?_
        refine z_get (rI h13 y 12) dX6_read_71 tf_6_62 (congrArg Prod.fst (rd_s0 k14)) (Or.inl rfl) rfl ?_
        have y21 := rI_i h13 y 12
        refine e_aload_n dX6_read_74 rfl ?_
        refine e_get (.ref (y + 1)) dX6_read_75 tf_6_12 (congrArg Prod.fst (rd_s0 k14)) (congrArg va_rf (rd_r0_0 k14)) ?_
        refine e_get (.ref (y + 2)) dX6_read_78 tf_6_82 (congrArg Prod.fst (rd_s1 k14)) (congrArg va_rf (rd_r1_0 k14)) ?_
        refine z_get (rI h13 (y + 2) 5) dX6_read_81 tf_6_86 (congrArg Prod.fst (rd_s2 k14)) (Or.inl rfl) rfl ?_
        have y22 := rI_i h13 (y + 2) 5
        refine z_ishrX dX6_read_84 (fun v23 v23b => ?_)
        refine z_if_ne 106 dX6_read_85 rfl ⟨by omega, by omega⟩ (fun c24 => ?_) (fun c24 => ?_)
        · skip
          refine z_iconst (1) dX6_read_106 rfl ?_
          refine e_goto 111 dX6_read_107 rfl ?_
          refine e_istore (L' := [_, _, _, _, _, _]) dX6_read_111 (Nat.le_of_ble_eq_true rfl) rfl ?_
          refine e_aload_n dX6_read_113 rfl ?_
          refine z_get 1 dX6_read_114 tf_6_32 (congrArg Prod.fst (rd_s0 k14)) (Or.inl rfl) XF.1 ?_
          have y25 := XF.2.2
          refine z_if_ne 134 dX6_read_117 rfl ⟨by omega, by omega⟩ (fun c26 => ?_) (fun c26 => ?_)
          · skip
            refine e_vret dX6_read_134 rfl ⟨rfl, ?_⟩
            exact kq _ FR18 (Or.inr ⟨xm, X1, X2, X3, XF⟩)
          · exfalso; omega
        · skip
          refine e_aload_n dX6_read_88 rfl ?_
          refine z_get (rI h13 y 13) dX6_read_89 tf_6_65 (congrArg Prod.fst (rd_s0 k14)) (Or.inl rfl) rfl ?_
          have y27 := rI_i h13 y 13
          refine e_aload_n dX6_read_92 rfl ?_
          refine e_get (.ref (y + 1)) dX6_read_93 tf_6_12 (congrArg Prod.fst (rd_s0 k14)) (congrArg va_rf (rd_r0_0 k14)) ?_
          refine e_get (.ref (y + 8)) dX6_read_96 tf_6_91 (congrArg Prod.fst (rd_s1 k14)) (congrArg va_rf (rd_r1_1 k14)) ?_
          refine z_get (rI h13 (y + 8) 5) dX6_read_99 tf_6_86 (congrArg Prod.fst (rd_s8 k14)) (Or.inl rfl) rfl ?_
          have y28 := rI_i h13 (y + 8) 5
          refine z_ishrX dX6_read_102 (fun v29 v29b => ?_)
          refine z_if_eq 110 dX6_read_103 rfl ⟨by omega, by omega⟩ (fun c30 => ?_) (fun c30 => ?_)
          · skip
            refine z_iconst (0) dX6_read_110 rfl ?_
            refine e_istore (L' := [_, _, _, _, _, _]) dX6_read_111 (Nat.le_of_ble_eq_true rfl) rfl ?_
            refine e_aload_n dX6_read_113 rfl ?_
            refine z_get 1 dX6_read_114 tf_6_32 (congrArg Prod.fst (rd_s0 k14)) (Or.inl rfl) XF.1 ?_
            have y31 := XF.2.2
            refine z_if_ne 134 dX6_read_117 rfl ⟨by omega, by omega⟩ (fun c32 => ?_) (fun c32 => ?_)
            · skip
              refine e_vret dX6_read_134 rfl ⟨rfl, ?_⟩
              exact kq _ FR18 (Or.inr ⟨xm, X1, X2, X3, XF⟩)
            · exfalso; omega
          · skip
            refine z_iconst (1) dX6_read_106 rfl ?_
            refine e_goto 111 dX6_read_107 rfl ?_
            refine e_istore (L' := [_, _, _, _, _, _]) dX6_read_111 (Nat.le_of_ble_eq_true rfl) rfl ?_
            refine e_aload_n dX6_read_113 rfl ?_
            refine z_get 1 dX6_read_114 tf_6_32 (congrArg Prod.fst (rd_s0 k14)) (Or.inl rfl) XF.1 ?_
            have y33 := XF.2.2
            refine z_if_ne 134 dX6_read_117 rfl ⟨by omega, by omega⟩ (fun c34 => ?_) (fun c34 => ?_)
            · skip
              refine e_vret dX6_read_134 rfl ⟨rfl, ?_⟩
              exact kq _ FR18 (Or.inr ⟨xm, X1, X2, X3, XF⟩)
            · exfalso; omega
      · skip
        obtain ⟨OK, P1, F1, C1, B1⟩ := rl_1 I2 (by omega)
        have C2 := C1.2.2 rfl
        have ob := okN_b pn.1 i.toNat OK
        have RY := rn_y (T := T) (L := n) i.toNat
        have r0 := rn_0 (s := 2) (T := T) (L := n) (by omega) i.toNat
        refine e_aload_n dX6_read_25 rfl ?_
        refine z_get (tkK T n (runP 2 T n i.toNat)) dX6_read_26 tf_6_53 (congrArg Prod.fst (rd_s0 k14)) (Or.inl rfl) P1.2.2.1 ?_
        have y35 := tk_b (T := T) P1.1.1 P1.1.2
        have y36 := P1.1
        refine z_iconst (3) dX6_read_29 rfl ?_
        refine z_icmp_eq 70 dX6_read_30 rfl ⟨by omega, by omega⟩ ⟨by omega, by omega⟩ (fun c37 => ?_) (fun c37 => ?_)
        · skip
          have in1 : nd (ini0 0) = 0 ∧ nu (ini0 0) = 0 := ⟨ini_0 (by omega), ini_0 (by omega)⟩
          refine e_aload_n dX6_read_70 rfl ?_
          refine z_get (runD 2 T n i.toNat) dX6_read_71 tf_6_62 (congrArg Prod.fst (rd_s0 k14)) (Or.inl rfl) B1.1 ?_
          have y38 := B1.2.2
          refine e_aload_n dX6_read_74 rfl ?_
          refine e_get (.ref (y + 1)) dX6_read_75 tf_6_12 (congrArg Prod.fst (rd_s0 k14)) (congrArg va_rf (rd_r0_0 k14)) ?_
          refine e_get (.ref (y + 2)) dX6_read_78 tf_6_82 (congrArg Prod.fst (rd_s1 k14)) (congrArg va_rf (rd_r1_0 k14)) ?_
          refine z_get (nd (ini0 0)) dX6_read_81 tf_6_86 (congrArg Prod.fst (rd_s2 k14)) (Or.inl rfl) H17.1.1 ?_
          refine z_ishr dX6_read_84 (by omega) (by omega) (by omega) (by omega) ?_
          have y39 := shrZ_b (runD 2 T n i.toNat) (nd (ini0 0))
          refine z_if_ne 106 dX6_read_85 rfl ⟨by omega, by omega⟩ (fun c40 => ?_) (fun c40 => ?_)
          · exfalso; omega
          · skip
            refine e_aload_n dX6_read_88 rfl ?_
            refine z_get (runU 2 T n i.toNat) dX6_read_89 tf_6_65 (congrArg Prod.fst (rd_s0 k14)) (Or.inl rfl) B1.2.1 ?_
            have y41 := B1.2.2
            refine e_aload_n dX6_read_92 rfl ?_
            refine e_get (.ref (y + 1)) dX6_read_93 tf_6_12 (congrArg Prod.fst (rd_s0 k14)) (congrArg va_rf (rd_r0_0 k14)) ?_
            refine e_get (.ref (y + 8)) dX6_read_96 tf_6_91 (congrArg Prod.fst (rd_s1 k14)) (congrArg va_rf (rd_r1_1 k14)) ?_
            refine z_get (nu (ini0 0)) dX6_read_99 tf_6_86 (congrArg Prod.fst (rd_s8 k14)) (Or.inl rfl) H17.1.2.1 ?_
            refine z_ishr dX6_read_102 (by omega) (by omega) (by omega) (by omega) ?_
            have y42 := shrZ_b (runU 2 T n i.toNat) (nu (ini0 0))
            refine z_if_eq 110 dX6_read_103 rfl ⟨by omega, by omega⟩ (fun c43 => ?_) (fun c43 => ?_)
            · skip
              refine z_iconst (0) dX6_read_110 rfl ?_
              refine e_istore (L' := [_, _, _, _, _, _]) dX6_read_111 (Nat.le_of_ble_eq_true rfl) rfl ?_
              refine e_aload_n dX6_read_113 rfl ?_
              refine z_get (runF 2 T n i.toNat) dX6_read_114 tf_6_32 (congrArg Prod.fst (rd_s0 k14)) (Or.inl rfl) F1.1 ?_
              have y44 := F1.2.2
              refine z_if_ne 134 dX6_read_117 rfl ⟨by omega, by omega⟩ (fun c45 => ?_) (fun c45 => ?_)
              · skip
                refine e_vret dX6_read_134 rfl ⟨rfl, ?_⟩
                exact kq _ FR18 (Or.inl ⟨i.toNat, OK, by omega, (by rw [(fe_n (s := 2) (T := T) (L := n) (n := i.toNat) (fun z => by unfold msP at z; omega)).1, (fe_n (s := 2) (T := T) (L := n) (n := i.toNat) (fun z => by unfold msP at z; omega)).2]; exact F1), ⟨fun z => absurd z (by omega), fun z => absurd z (by omega), fun _ => C2⟩⟩)
              · skip
                refine e_iload dX6_read_120 rfl ?_
                refine z_if_eq 134 dX6_read_122 rfl ⟨by omega, by omega⟩ (fun c46 => ?_) (fun c46 => ?_)
                · skip
                  refine e_vret dX6_read_134 rfl ⟨rfl, ?_⟩
                  exact kq _ FR18 (Or.inl ⟨i.toNat, OK, by omega, (by rw [(fe_n (s := 2) (T := T) (L := n) (n := i.toNat) (fun z => by unfold msP at z; omega)).1, (fe_n (s := 2) (T := T) (L := n) (n := i.toNat) (fun z => by unfold msP at z; omega)).2]; exact F1), ⟨fun z => absurd z (by omega), fun z => absurd z (by omega), fun _ => C2⟩⟩)
                · exfalso; omega
            · exfalso; omega
        · skip
          refine e_iload_n dX6_read_33 rfl ?_
          refine z_if_ne 46 dX6_read_34 rfl ⟨by omega, by omega⟩ (fun c47 => ?_) (fun c47 => ?_)
          · skip
            refine e_iload_n dX6_read_46 rfl ?_
            refine z_iconst (1) dX6_read_47 rfl ?_
            refine z_icmp_ne 58 dX6_read_48 rfl ⟨by omega, by omega⟩ ⟨by omega, by omega⟩ (fun c48 => ?_) (fun c48 => ?_)
            · skip
              refine e_aload_n dX6_read_58 rfl ?_
              refine e_callV [] dX6_read_59 tm_6_79 rfl (Nat.le_of_ble_eq_true rfl) (congrArg Prod.fst (rd_s0 k14)) (Nat.le_of_ble_eq_true rfl) (Nat.le_refl _) (Nat.le_refl _) rfl (zp_X6_clueLine k14 H16 P1 F1 C2 HA RY.2 (fun v49 p50 h51 f52 p53 => ?_))
              have k54 := lk_q (frm_s f52) k14
              have k55 := cgS (frm_s f52) k15
              have H56 := rdT_c f52 (fun a k q => by omega) H16
              have H57 := rwF_c f52 (fun a k q1 q2 => by omega) H17
              have H58 := rdB_c f52 (fun a k q => by omega) B1
              have FR59 := frm_t FR18 (frm_m (S' := (fun a k => y ≤ a ∧ a < y + 27)) f52 (fun a k q => by omega))
              skip
              refine e_istore (L' := [_, _, _, _, _, _]) dX6_read_62 (Nat.le_of_ble_eq_true rfl) rfl ?_
              refine z_iinc (L' := [_, _, _, _, _, _]) dX6_read_64 rfl rfl ?_
              refine e_goto 12 dX6_read_67 rfl ?_
              exact ih13 _ (by omega) v49 (i + 1) h51 rfl k54 k55 H56 H57 FR59 (by omega) (by rw [show (i + 1).toNat = i.toNat + 1 by omega]; exact rl_n OK (by omega) (fun x => ⟨⟨fun z => absurd z (by omega), fun z => absurd z (by omega), fun _ => x⟩, by show rdB h51 y (if (2 : Int) = 0 then _ else _) (if (2 : Int) = 0 then _ else _); rw [if_neg (by omega), if_neg (by omega)]; exact H58⟩) p53)
            · exfalso; omega
          · exfalso; omega
  exact lp13 _ 1 0 h1 rfl k10 k11 p3 p6 FR12 (by omega) (Or.inl ⟨rfl, fun j hj => by omega, p4, p5, ⟨fun z => absurd z (by omega), fun z => absurd z (by omega), fun z => p8⟩, p9⟩)
