/-! MOMENT of the reference -/
theorem dX12_moment_0 : decode cX12_moment 0 = .ok (.aload_n 0, 1) := by decide +kernel
theorem dX12_moment_1 : decode cX12_moment 1 = .ok (.iconst 0, 1) := by decide +kernel
theorem dX12_moment_2 : decode cX12_moment 2 = .ok (.putfield 103, 3) := by decide +kernel
theorem dX12_moment_5 : decode cX12_moment 5 = .ok (.iload_n 1, 1) := by decide +kernel
theorem dX12_moment_6 : decode cX12_moment 6 = .ok (.iconst 0, 1) := by decide +kernel
theorem dX12_moment_7 : decode cX12_moment 7 = .ok (.bipush 9, 2) := by decide +kernel
theorem dX12_moment_9 : decode cX12_moment 9 = .ok (.invokestatic 115, 3) := by decide +kernel
theorem dX12_moment_12 : decode cX12_moment 12 = .ok (.ifCond .eq 33, 3) := by decide +kernel
theorem dX12_moment_15 : decode cX12_moment 15 = .ok (.iload_n 2, 1) := by decide +kernel
theorem dX12_moment_16 : decode cX12_moment 16 = .ok (.iconst 0, 1) := by decide +kernel
theorem dX12_moment_17 : decode cX12_moment 17 = .ok (.bipush 9, 2) := by decide +kernel
theorem dX12_moment_19 : decode cX12_moment 19 = .ok (.invokestatic 115, 3) := by decide +kernel
theorem dX12_moment_22 : decode cX12_moment 22 = .ok (.ifCond .eq 23, 3) := by decide +kernel
theorem dX12_moment_25 : decode cX12_moment 25 = .ok (.iload_n 3, 1) := by decide +kernel
theorem dX12_moment_26 : decode cX12_moment 26 = .ok (.iconst 0, 1) := by decide +kernel
theorem dX12_moment_27 : decode cX12_moment 27 = .ok (.bipush 9, 2) := by decide +kernel
theorem dX12_moment_29 : decode cX12_moment 29 = .ok (.invokestatic 115, 3) := by decide +kernel
theorem dX12_moment_32 : decode cX12_moment 32 = .ok (.ifCond .eq 13, 3) := by decide +kernel
theorem dX12_moment_35 : decode cX12_moment 35 = .ok (.iload 4, 2) := by decide +kernel
theorem dX12_moment_37 : decode cX12_moment 37 = .ok (.iconst 0, 1) := by decide +kernel
theorem dX12_moment_38 : decode cX12_moment 38 = .ok (.iconst 2, 1) := by decide +kernel
theorem dX12_moment_39 : decode cX12_moment 39 = .ok (.invokestatic 115, 3) := by decide +kernel
theorem dX12_moment_42 : decode cX12_moment 42 = .ok (.ifCond .ne 7, 3) := by decide +kernel
theorem dX12_moment_45 : decode cX12_moment 45 = .ok (.ldc2_w 481, 3) := by decide +kernel
theorem dX12_moment_48 : decode cX12_moment 48 = .ok (.lreturn, 1) := by decide +kernel
theorem dX12_moment_49 : decode cX12_moment 49 = .ok (.iconst 0, 1) := by decide +kernel
theorem dX12_moment_50 : decode cX12_moment 50 = .ok (.istore 5, 2) := by decide +kernel
theorem dX12_moment_52 : decode cX12_moment 52 = .ok (.iload 5, 2) := by decide +kernel
theorem dX12_moment_54 : decode cX12_moment 54 = .ok (.iload_n 3, 1) := by decide +kernel
theorem dX12_moment_55 : decode cX12_moment 55 = .ok (.if_icmp .gt 80, 3) := by decide +kernel
theorem dX12_moment_58 : decode cX12_moment 58 = .ok (.iconst 0, 1) := by decide +kernel
theorem dX12_moment_59 : decode cX12_moment 59 = .ok (.istore 6, 2) := by decide +kernel
theorem dX12_moment_61 : decode cX12_moment 61 = .ok (.iload 6, 2) := by decide +kernel
theorem dX12_moment_63 : decode cX12_moment 63 = .ok (.bipush 10, 2) := by decide +kernel
theorem dX12_moment_65 : decode cX12_moment 65 = .ok (.if_icmp .ge 64, 3) := by decide +kernel
theorem dX12_moment_68 : decode cX12_moment 68 = .ok (.iload 6, 2) := by decide +kernel
theorem dX12_moment_70 : decode cX12_moment 70 = .ok (.iload_n 2, 1) := by decide +kernel
theorem dX12_moment_71 : decode cX12_moment 71 = .ok (.iload 5, 2) := by decide +kernel
theorem dX12_moment_73 : decode cX12_moment 73 = .ok (.invokestatic 483, 3) := by decide +kernel
theorem dX12_moment_76 : decode cX12_moment 76 = .ok (.lstore 7, 2) := by decide +kernel
theorem dX12_moment_78 : decode cX12_moment 78 = .ok (.aload_n 0, 1) := by decide +kernel
theorem dX12_moment_79 : decode cX12_moment 79 = .ok (.getfield 87, 3) := by decide +kernel
theorem dX12_moment_82 : decode cX12_moment 82 = .ok (.bipush 10, 2) := by decide +kernel
theorem dX12_moment_84 : decode cX12_moment 84 = .ok (.iload 5, 2) := by decide +kernel
theorem dX12_moment_86 : decode cX12_moment 86 = .ok (.imul, 1) := by decide +kernel
theorem dX12_moment_87 : decode cX12_moment 87 = .ok (.iload 6, 2) := by decide +kernel
theorem dX12_moment_89 : decode cX12_moment 89 = .ok (.iadd, 1) := by decide +kernel
theorem dX12_moment_90 : decode cX12_moment 90 = .ok (.iload 5, 2) := by decide +kernel
theorem dX12_moment_92 : decode cX12_moment 92 = .ok (.ifCond .eq 17, 3) := by decide +kernel
theorem dX12_moment_95 : decode cX12_moment 95 = .ok (.lload 7, 2) := by decide +kernel
theorem dX12_moment_97 : decode cX12_moment 97 = .ok (.aload_n 0, 1) := by decide +kernel
theorem dX12_moment_98 : decode cX12_moment 98 = .ok (.iload 6, 2) := by decide +kernel
theorem dX12_moment_100 : decode cX12_moment 100 = .ok (.iload 5, 2) := by decide +kernel
theorem dX12_moment_102 : decode cX12_moment 102 = .ok (.invokevirtual 487, 3) := by decide +kernel
theorem dX12_moment_105 : decode cX12_moment 105 = .ok (.lcmp, 1) := by decide +kernel
theorem dX12_moment_106 : decode cX12_moment 106 = .ok (.ifCond .lt 8, 3) := by decide +kernel
theorem dX12_moment_109 : decode cX12_moment 109 = .ok (.lload 7, 2) := by decide +kernel
theorem dX12_moment_111 : decode cX12_moment 111 = .ok (.goto 11, 3) := by decide +kernel
theorem dX12_moment_114 : decode cX12_moment 114 = .ok (.aload_n 0, 1) := by decide +kernel
theorem dX12_moment_115 : decode cX12_moment 115 = .ok (.iload 6, 2) := by decide +kernel
theorem dX12_moment_117 : decode cX12_moment 117 = .ok (.iload 5, 2) := by decide +kernel
theorem dX12_moment_119 : decode cX12_moment 119 = .ok (.invokevirtual 487, 3) := by decide +kernel
theorem dX12_moment_122 : decode cX12_moment 122 = .ok (.lastore, 1) := by decide +kernel
theorem dX12_moment_123 : decode cX12_moment 123 = .ok (.iinc 6 1, 3) := by decide +kernel
theorem dX12_moment_126 : decode cX12_moment 126 = .ok (.goto (-65), 3) := by decide +kernel
theorem dX12_moment_129 : decode cX12_moment 129 = .ok (.iinc 5 1, 3) := by decide +kernel
theorem dX12_moment_132 : decode cX12_moment 132 = .ok (.goto (-80), 3) := by decide +kernel
theorem dX12_moment_135 : decode cX12_moment 135 = .ok (.aload_n 0, 1) := by decide +kernel
theorem dX12_moment_136 : decode cX12_moment 136 = .ok (.getfield 87, 3) := by decide +kernel
theorem dX12_moment_139 : decode cX12_moment 139 = .ok (.bipush 10, 2) := by decide +kernel
theorem dX12_moment_141 : decode cX12_moment 141 = .ok (.iload_n 3, 1) := by decide +kernel
theorem dX12_moment_142 : decode cX12_moment 142 = .ok (.imul, 1) := by decide +kernel
theorem dX12_moment_143 : decode cX12_moment 143 = .ok (.iload_n 1, 1) := by decide +kernel
theorem dX12_moment_144 : decode cX12_moment 144 = .ok (.iadd, 1) := by decide +kernel
theorem dX12_moment_145 : decode cX12_moment 145 = .ok (.laload, 1) := by decide +kernel
theorem dX12_moment_146 : decode cX12_moment 146 = .ok (.lstore 5, 2) := by decide +kernel
theorem dX12_moment_148 : decode cX12_moment 148 = .ok (.iload 4, 2) := by decide +kernel
theorem dX12_moment_150 : decode cX12_moment 150 = .ok (.iconst 2, 1) := by decide +kernel
theorem dX12_moment_151 : decode cX12_moment 151 = .ok (.if_icmp .ne 21, 3) := by decide +kernel
theorem dX12_moment_154 : decode cX12_moment 154 = .ok (.lload 5, 2) := by decide +kernel
theorem dX12_moment_156 : decode cX12_moment 156 = .ok (.iload_n 1, 1) := by decide +kernel
theorem dX12_moment_157 : decode cX12_moment 157 = .ok (.iload_n 2, 1) := by decide +kernel
theorem dX12_moment_158 : decode cX12_moment 158 = .ok (.iload_n 3, 1) := by decide +kernel
theorem dX12_moment_159 : decode cX12_moment 159 = .ok (.invokestatic 483, 3) := by decide +kernel
theorem dX12_moment_162 : decode cX12_moment 162 = .ok (.lcmp, 1) := by decide +kernel
theorem dX12_moment_163 : decode cX12_moment 163 = .ok (.ifCond .ne 7, 3) := by decide +kernel
theorem dX12_moment_166 : decode cX12_moment 166 = .ok (.lconst 1, 1) := by decide +kernel
theorem dX12_moment_167 : decode cX12_moment 167 = .ok (.goto 4, 3) := by decide +kernel
theorem dX12_moment_170 : decode cX12_moment 170 = .ok (.lconst 0, 1) := by decide +kernel
theorem dX12_moment_171 : decode cX12_moment 171 = .ok (.lreturn, 1) := by decide +kernel
theorem dX12_moment_172 : decode cX12_moment 172 = .ok (.iload 4, 2) := by decide +kernel
theorem dX12_moment_174 : decode cX12_moment 174 = .ok (.ifCond .ne 8, 3) := by decide +kernel
theorem dX12_moment_177 : decode cX12_moment 177 = .ok (.lload 5, 2) := by decide +kernel
theorem dX12_moment_179 : decode cX12_moment 179 = .ok (.goto 7, 3) := by decide +kernel
theorem dX12_moment_182 : decode cX12_moment 182 = .ok (.iload_n 3, 1) := by decide +kernel
theorem dX12_moment_183 : decode cX12_moment 183 = .ok (.invokestatic 477, 3) := by decide +kernel
theorem dX12_moment_186 : decode cX12_moment 186 = .ok (.iload_n 3, 1) := by decide +kernel
theorem dX12_moment_187 : decode cX12_moment 187 = .ok (.invokestatic 477, 3) := by decide +kernel
theorem dX12_moment_190 : decode cX12_moment 190 = .ok (.lload 5, 2) := by decide +kernel
theorem dX12_moment_192 : decode cX12_moment 192 = .ok (.invokestatic 491, 3) := by decide +kernel
theorem dX12_moment_195 : decode cX12_moment 195 = .ok (.ldiv, 1) := by decide +kernel
theorem dX12_moment_196 : decode cX12_moment 196 = .ok (.lreturn, 1) := by decide +kernel
set_option maxRecDepth 20000 in
theorem tm_12_483 : tMet TB0 12 483 = some (1, M_X12_nowBy) := rfl
set_option maxRecDepth 20000 in
theorem tm_12_487 : tMet TB0 12 487 = some (0, M_X12_thenBy) := rfl
theorem z_ifl_ne {T : mTb} {ad : mA} {M : mM} {dp : Nat} {lim : Nat × Nat} {cal : mC} {Q : mZ} {pc : Nat} {L : mL} {h : mH} {zz : Nat × Nat} {r : List Value} {x y : Int} {off : Int} (t : Nat) (hd : decode (mMc M) pc = .ok (.ifCond .ne off, 3)) (ht : (pc : Int) + off = (t : Int)) (kt : ¬ x = y → mEv T ad M dp lim cal Q t L r h zz) (kf : x = y → mEv T ad M dp lim cal Q (pc + 3) L r h zz) : mEv T ad M dp lim cal Q pc L (.int (zI (cmpZ x y)) :: r) h zz := z_if_ne t hd ht (cmp_b x y) (fun q => kt (fun w => q (cmp_eq.mpr w))) (fun q => kf (cmp_eq.mp q))
abbrev nowP (v n w : Int) : Prop := n = 0 ∨ (10 - w) * moZ v (n - 1) (min 9 (w + 1)) ≤ v * (w + 1) * tnZ n
theorem mo_now {v n w : Int} (hn : 0 ≤ n) : moZ v n w = v * (w + 1) * tnZ n ↔ nowP v n w := by
  rcases (show n = 0 ∨ 0 ≤ n - 1 by omega) with q | q
  · subst q
    refine ⟨fun _ => Or.inl rfl, fun _ => ?_⟩
    show v * (w + 1) = v * (w + 1) * 1
    omega
  · have e := moZ_s (v := v) (w := w) q
    rw [show n - 1 + 1 = n by omega] at e
    rw [e]
    constructor
    · intro z; exact Or.inr (by omega)
    · rintro (z | z)
      · omega
      · omega
theorem mo_l {v n w : Int} (hn : 0 ≤ n) : (nowP v n w → moZ v n w = v * (w + 1) * tnZ n) ∧ (¬ nowP v n w → moZ v n w = (10 - w) * moZ v (n - 1) (min 9 (w + 1))) := by
  refine ⟨fun z => (mo_now hn).mpr z, fun z => ?_⟩
  have q : 0 ≤ n - 1 := by
    have : ¬ n = 0 := fun y => z (Or.inl y)
    omega
  have e := moZ_s (v := v) (w := w) q
  rw [show n - 1 + 1 = n by omega] at e
  have y : ¬ (10 - w) * moZ v (n - 1) (min 9 (w + 1)) ≤ v * (w + 1) * tnZ n := fun y => z (Or.inr y)
  rw [e]; omega
def moV (w v n k : Int) : Int := if (0 ≤ w ∧ w ≤ 9) ∧ (0 ≤ v ∧ v ≤ 9) ∧ (0 ≤ n ∧ n ≤ 9) ∧ (0 ≤ k ∧ k ≤ 2) then (if k = 2 then bZ (nowP v n w) else (if k = 0 then moZ v n w else tnZ n) / gcZ (tnZ n) (moZ v n w)) else -1
set_option maxHeartbeats 3000000 in
theorem zp_X12_moment {ad : mA} {dd : Nat} {h : mH} {Q : mQ} {m : Nat}  (hk : rk h m)  (w : Int) (w_r : -2147483648 ≤ w ∧ w < 2147483648) (v : Int) (v_r : -2147483648 ≤ v ∧ v < 2147483648) (n : Int) (n_r : -2147483648 ≤ n ∧ n < 2147483648) (k : Int) (k_r : -2147483648 ≤ k ∧ k < 2147483648)  (kq : ∀ h1, frm (fun a i => a = m ∨ (m + 9 ≤ a ∧ a < m + 30)) h h1 → Q (some (.long (zJ (moV w v n k)))) h1) : mCal TB0 ad (dd + 3) M_X12_moment [.ref m, .int (zI w), .int (zI v), .int (zI n), .int (zI k)] h 0 0 Q := by
  refine ⟨Nat.le_of_ble_eq_true rfl, ?_⟩
  show mEv TB0 ad M_X12_moment (dd + 3) (0, 0) (mCal TB0 ad (dd + 2)) (fun v h' z => z.1 = 0 ∧ Q v h') 0 [some (.ref m), some (.int (zI w)), some (.int (zI v)), some (.int (zI n)), some (.int (zI k)), none, none, none, none] [] h (0, 0)
  have FR0 : frm (fun a i => a = m ∨ (m + 9 ≤ a ∧ a < m + 30)) h h := frm_0 h
  refine e_aload_n dX12_moment_0 rfl ?_
  refine z_iconst (0) dX12_moment_1 rfl ?_
  refine z_put dX12_moment_2 tf_12_103 (rk_s hk) rfl (Or.inl rfl) (fun h1 e2 => ?_)
  have f3 := frm_1 e2
  have k4 := rk_q (frm_s f3) hk
  have FR5 := frm_t FR0 (frm_m (S' := (fun a i => a = m ∨ (m + 9 ≤ a ∧ a < m + 30))) f3 (fun a k q => by omega))
  refine e_iload_n dX12_moment_5 rfl ?_
  refine z_iconst (0) dX12_moment_6 rfl ?_
  refine z_bipush (9) dX12_moment_7 rfl ?_
  refine e_callS [.int _, .int _, .int _] dX12_moment_9 tm_12_115 rfl (Nat.le_of_ble_eq_true rfl) (Nat.le_refl _) (Nat.le_refl _) rfl (zp_X12_in w ⟨by omega, by omega⟩ 0 ⟨by omega, by omega⟩ 9 ⟨by omega, by omega⟩ ?_)
  refine z_ifb_eq 45 dX12_moment_12 rfl (fun c6 => ?_) (fun c6 => ?_)
  · skip
    refine z_ldc2 (-1) dX12_moment_45 tl_12_481 rfl ?_
    refine z_lret dX12_moment_48 rfl ⟨rfl, ?_⟩
    refine z_qJ (kq _ FR5) ?_
    unfold moV
    rw [if_neg (by omega)]
  · skip
    refine e_iload_n dX12_moment_15 rfl ?_
    refine z_iconst (0) dX12_moment_16 rfl ?_
    refine z_bipush (9) dX12_moment_17 rfl ?_
    refine e_callS [.int _, .int _, .int _] dX12_moment_19 tm_12_115 rfl (Nat.le_of_ble_eq_true rfl) (Nat.le_refl _) (Nat.le_refl _) rfl (zp_X12_in v ⟨by omega, by omega⟩ 0 ⟨by omega, by omega⟩ 9 ⟨by omega, by omega⟩ ?_)
    refine z_ifb_eq 45 dX12_moment_22 rfl (fun c7 => ?_) (fun c7 => ?_)
    · skip
      refine z_ldc2 (-1) dX12_moment_45 tl_12_481 rfl ?_
      refine z_lret dX12_moment_48 rfl ⟨rfl, ?_⟩
      refine z_qJ (kq _ FR5) ?_
      unfold moV
      rw [if_neg (by omega)]
    · skip
      refine e_iload_n dX12_moment_25 rfl ?_
      refine z_iconst (0) dX12_moment_26 rfl ?_
      refine z_bipush (9) dX12_moment_27 rfl ?_
      refine e_callS [.int _, .int _, .int _] dX12_moment_29 tm_12_115 rfl (Nat.le_of_ble_eq_true rfl) (Nat.le_refl _) (Nat.le_refl _) rfl (zp_X12_in n ⟨by omega, by omega⟩ 0 ⟨by omega, by omega⟩ 9 ⟨by omega, by omega⟩ ?_)
      refine z_ifb_eq 45 dX12_moment_32 rfl (fun c8 => ?_) (fun c8 => ?_)
      · skip
        refine z_ldc2 (-1) dX12_moment_45 tl_12_481 rfl ?_
        refine z_lret dX12_moment_48 rfl ⟨rfl, ?_⟩
        refine z_qJ (kq _ FR5) ?_
        unfold moV
        rw [if_neg (by omega)]
      · skip
        refine e_iload dX12_moment_35 rfl ?_
        refine z_iconst (0) dX12_moment_37 rfl ?_
        refine z_iconst (2) dX12_moment_38 rfl ?_
        refine e_callS [.int _, .int _, .int _] dX12_moment_39 tm_12_115 rfl (Nat.le_of_ble_eq_true rfl) (Nat.le_refl _) (Nat.le_refl _) rfl (zp_X12_in k ⟨by omega, by omega⟩ 0 ⟨by omega, by omega⟩ 2 ⟨by omega, by omega⟩ ?_)
        refine z_ifb_ne 49 dX12_moment_42 rfl (fun c9 => ?_) (fun c9 => ?_)
        · skip
          refine z_iconst (0) dX12_moment_49 rfl ?_
          refine e_istore (L' := [_, _, _, _, _, _, _, _, _]) dX12_moment_50 (Nat.le_of_ble_eq_true rfl) rfl ?_
          have lp10 : ∀ (n10 : Nat) (l : Int) (h10 : mH), (n + 1 - l).toNat = n10 → (rk h10 m) → (frm (fun a i => a = m ∨ (m + 9 ≤ a ∧ a < m + 30)) h h10) → (0 ≤ l) → (l ≤ n + 1) → (moR h10 m v l) → mEv TB0 ad M_X12_moment (dd + 3) (0, 0) (mCal TB0 ad (dd + 2)) (fun v h' z => z.1 = 0 ∧ Q v h') 52 [some (.ref m), some (.int (zI w)), some (.int (zI v)), some (.int (zI n)), some (.int (zI k)), some (.int (zI l)), none, none, none] [] h10 (0, 0) := by
            intro n10
            induction n10 using Nat.strongRecOn with
            | ind n10 ih10 =>
            intro l h10 hn10 k11 FR12 I1 I2 I3
            refine e_iload dX12_moment_52 rfl ?_
            refine e_iload_n dX12_moment_54 rfl ?_
            refine z_icmp_gt 135 dX12_moment_55 rfl ⟨by omega, by omega⟩ ⟨by omega, by omega⟩ (fun c13 => ?_) (fun c13 => ?_)
            · skip
              have mb := moZ_b (v := v) (n := n) (w := w) (by omega) (by omega) (by omega)
              have nb := nb_b (v := v) (w := w) (n := n) (by omega) (by omega) (by omega)
              have tb := tnZ_b (n := n) (by omega) (by omega)
              have gp := gcZ_p (a := tnZ n) (b := moZ v n w) (by omega)
              refine e_aload_n dX12_moment_135 rfl ?_
              refine e_get (.ref (m + 26)) dX12_moment_136 tf_12_87 (rk_s k11) (congrArg va_rf (rk_r26 k11)) ?_
              refine z_bipush (10) dX12_moment_139 rfl ?_
              refine e_iload_n dX12_moment_141 rfl ?_
              refine z_imul dX12_moment_142 ?_
              refine e_iload_n dX12_moment_143 rfl ?_
              refine z_iadd dX12_moment_144 ?_
              refine z_lld (moZ v n w) dX12_moment_145 (rk_a26 k11) (by decide) (by omega) (by omega) (I3 n w (by omega) (by omega) (by omega) (by omega)) ?_
              refine e_lstore (L' := [_, _, _, _, _, _, _, _, _]) dX12_moment_146 (Nat.le_of_ble_eq_true rfl) rfl ?_
              refine e_iload dX12_moment_148 rfl ?_
              refine z_iconst (2) dX12_moment_150 rfl ?_
              refine z_icmp_ne 172 dX12_moment_151 rfl ⟨by omega, by omega⟩ ⟨by omega, by omega⟩ (fun c14 => ?_) (fun c14 => ?_)
              · skip
                refine e_iload dX12_moment_172 rfl ?_
                refine z_if_ne 182 dX12_moment_174 rfl ⟨by omega, by omega⟩ (fun c15 => ?_) (fun c15 => ?_)
                · skip
                  refine e_iload_n dX12_moment_182 rfl ?_
                  refine e_callS [.int _] dX12_moment_183 tm_12_477 rfl (Nat.le_of_ble_eq_true rfl) (Nat.le_refl _) (Nat.le_refl _) rfl (zp_X12_tens n ⟨by omega, by omega⟩ (by omega) ?_)
                  refine e_iload_n dX12_moment_186 rfl ?_
                  refine e_callS [.int _] dX12_moment_187 tm_12_477 rfl (Nat.le_of_ble_eq_true rfl) (Nat.le_refl _) (Nat.le_refl _) rfl (zp_X12_tens n ⟨by omega, by omega⟩ (by omega) ?_)
                  refine e_lload dX12_moment_190 rfl ?_
                  refine e_callS [.long _, .long _] dX12_moment_192 tm_12_491 rfl (Nat.le_of_ble_eq_true rfl) (Nat.le_refl _) (Nat.le_refl _) rfl (zp_X12_common (tnZ n) (moZ v n w) (by omega) (by omega) ?_)
                  refine z_ldiv dX12_moment_195 (by omega) (by omega) (by omega) (by omega) ?_
                  refine z_lret dX12_moment_196 rfl ⟨rfl, ?_⟩
                  refine z_qJ (kq _ FR12) ?_
                  unfold moV
                  rw [if_pos (show (0 ≤ w ∧ w ≤ 9) ∧ (0 ≤ v ∧ v ≤ 9) ∧ (0 ≤ n ∧ n ≤ 9) ∧ (0 ≤ k ∧ k ≤ 2) by omega), if_neg (show ¬ k = 2 by omega)]
                  first | rw [if_pos (show k = 0 by omega)] | rw [if_neg (show ¬ k = 0 by omega)]
                · skip
                  refine e_lload dX12_moment_177 rfl ?_
                  refine e_goto 186 dX12_moment_179 rfl ?_
                  refine e_iload_n dX12_moment_186 rfl ?_
                  refine e_callS [.int _] dX12_moment_187 tm_12_477 rfl (Nat.le_of_ble_eq_true rfl) (Nat.le_refl _) (Nat.le_refl _) rfl (zp_X12_tens n ⟨by omega, by omega⟩ (by omega) ?_)
                  refine e_lload dX12_moment_190 rfl ?_
                  refine e_callS [.long _, .long _] dX12_moment_192 tm_12_491 rfl (Nat.le_of_ble_eq_true rfl) (Nat.le_refl _) (Nat.le_refl _) rfl (zp_X12_common (tnZ n) (moZ v n w) (by omega) (by omega) ?_)
                  refine z_ldiv dX12_moment_195 (by omega) (by omega) (by omega) (by omega) ?_
                  refine z_lret dX12_moment_196 rfl ⟨rfl, ?_⟩
                  refine z_qJ (kq _ FR12) ?_
                  unfold moV
                  rw [if_pos (show (0 ≤ w ∧ w ≤ 9) ∧ (0 ≤ v ∧ v ≤ 9) ∧ (0 ≤ n ∧ n ≤ 9) ∧ (0 ≤ k ∧ k ≤ 2) by omega), if_neg (show ¬ k = 2 by omega)]
                  first | rw [if_pos (show k = 0 by omega)] | rw [if_neg (show ¬ k = 0 by omega)]
              · skip
                refine e_lload dX12_moment_154 rfl ?_
                refine e_iload_n dX12_moment_156 rfl ?_
                refine e_iload_n dX12_moment_157 rfl ?_
                refine e_iload_n dX12_moment_158 rfl ?_
                refine e_callS [.int _, .int _, .int _] dX12_moment_159 tm_12_483 rfl (Nat.le_of_ble_eq_true rfl) (Nat.le_refl _) (Nat.le_refl _) rfl (zp_X12_nowBy w ⟨by omega, by omega⟩ v ⟨by omega, by omega⟩ n ⟨by omega, by omega⟩ (by omega) (by omega) (by omega) ?_)
                refine z_lcmp dX12_moment_162 ⟨by omega, by omega⟩ ⟨by omega, by omega⟩ ?_
                refine z_ifl_ne 170 dX12_moment_163 rfl (fun c16 => ?_) (fun c16 => ?_)
                · skip
                  refine z_lconst (0) dX12_moment_170 rfl ?_
                  refine z_lret dX12_moment_171 rfl ⟨rfl, ?_⟩
                  refine z_qJ (kq _ FR12) ?_
                  unfold moV
                  rw [if_pos (show (0 ≤ w ∧ w ≤ 9) ∧ (0 ≤ v ∧ v ≤ 9) ∧ (0 ≤ n ∧ n ≤ 9) ∧ (0 ≤ k ∧ k ≤ 2) by omega), if_pos (show k = 2 by omega)]
                  rw [bZ_0 (fun z => absurd ((mo_now (by omega)).mpr z) (by assumption))]
                · skip
                  refine z_lconst (1) dX12_moment_166 rfl ?_
                  refine e_goto 171 dX12_moment_167 rfl ?_
                  refine z_lret dX12_moment_171 rfl ⟨rfl, ?_⟩
                  refine z_qJ (kq _ FR12) ?_
                  unfold moV
                  rw [if_pos (show (0 ≤ w ∧ w ≤ 9) ∧ (0 ≤ v ∧ v ≤ 9) ∧ (0 ≤ n ∧ n ≤ 9) ∧ (0 ≤ k ∧ k ≤ 2) by omega), if_pos (show k = 2 by omega)]
                  rw [bZ_1 ((mo_now (by omega)).mp (by assumption))]
            · skip
              skip
              refine z_iconst (0) dX12_moment_58 rfl ?_
              refine e_istore (L' := [_, _, _, _, _, _, _, _, _]) dX12_moment_59 (Nat.le_of_ble_eq_true rfl) rfl ?_
              have lp17 : ∀ (n17 : Nat) (x : Int) (h17 : mH), (10 - x).toNat = n17 → (rk h17 m) → (moR h17 m v l) → (frm (fun a i => a = m ∨ (m + 9 ≤ a ∧ a < m + 30)) h h17) → (0 ≤ x) → (x ≤ 10) → (∀ q : Int, 0 ≤ q → q < x → rJ h17 (m + 26) (10 * l + q) = moZ v l q) → mEv TB0 ad M_X12_moment (dd + 3) (0, 0) (mCal TB0 ad (dd + 2)) (fun v h' z => z.1 = 0 ∧ Q v h') 61 [some (.ref m), some (.int (zI w)), some (.int (zI v)), some (.int (zI n)), some (.int (zI k)), some (.int (zI l)), some (.int (zI x)), none, none] [] h17 (0, 0) := by
                intro n17
                induction n17 using Nat.strongRecOn with
                | ind n17 ih17 =>
                intro x h17 hn17 k18 H19 FR20 J1 J2 J4
                refine e_iload dX12_moment_61 rfl ?_
                refine z_bipush (10) dX12_moment_63 rfl ?_
                refine z_icmp_ge 129 dX12_moment_65 rfl ⟨by omega, by omega⟩ ⟨by omega, by omega⟩ (fun c21 => ?_) (fun c21 => ?_)
                · skip
                  refine z_iinc (L' := [_, _, _, _, _, _, _, _, _]) dX12_moment_129 rfl rfl ?_
                  refine e_goto 52 dX12_moment_132 rfl ?_
                  exact mEv_wk (by exact ⟨Or.inr rfl, Or.inr rfl, Or.inr rfl, Or.inr rfl, Or.inr rfl, Or.inr rfl, Or.inl rfl, Or.inl rfl, Or.inl rfl, trivial⟩) (ih10 _ (by omega) (l + 1) h17 rfl k18 FR20 (by omega) (by omega) (moR_up H19 (fun q a z => J4 q a (by omega))))
                · skip
                  have nb := nb_b (v := v) (w := x) (n := l) (by omega) (by omega) (by omega)
                  refine e_iload dX12_moment_68 rfl ?_
                  refine e_iload_n dX12_moment_70 rfl ?_
                  refine e_iload dX12_moment_71 rfl ?_
                  refine e_callS [.int _, .int _, .int _] dX12_moment_73 tm_12_483 rfl (Nat.le_of_ble_eq_true rfl) (Nat.le_refl _) (Nat.le_refl _) rfl (zp_X12_nowBy x ⟨by omega, by omega⟩ v ⟨by omega, by omega⟩ l ⟨by omega, by omega⟩ (by omega) (by omega) (by omega) ?_)
                  refine e_lstore (L' := [_, _, _, _, _, _, _, _, _]) dX12_moment_76 (Nat.le_of_ble_eq_true rfl) rfl ?_
                  refine e_aload_n dX12_moment_78 rfl ?_
                  refine e_get (.ref (m + 26)) dX12_moment_79 tf_12_87 (rk_s k18) (congrArg va_rf (rk_r26 k18)) ?_
                  refine z_bipush (10) dX12_moment_82 rfl ?_
                  refine e_iload dX12_moment_84 rfl ?_
                  refine z_imul dX12_moment_86 ?_
                  refine e_iload dX12_moment_87 rfl ?_
                  refine z_iadd dX12_moment_89 ?_
                  refine e_iload dX12_moment_90 rfl ?_
                  refine z_if_eq 109 dX12_moment_92 rfl ⟨by omega, by omega⟩ (fun c22 => ?_) (fun c22 => ?_)
                  · skip
                    refine e_lload dX12_moment_109 rfl ?_
                    refine e_goto 122 dX12_moment_111 rfl ?_
                    refine z_lst dX12_moment_122 (rk_a26 k18) (by decide) (by omega) (by omega) (fun h23 e24 => ?_)
                    have f25 := frm_1J e24
                    have k26 := rk_q (frm_s f25) k18
                    have H27 := moR_c f25 (fun k q => by omega) H19
                    have FR28 := frm_t FR20 (frm_m (S' := (fun a i => a = m ∨ (m + 9 ≤ a ∧ a < m + 30))) f25 (fun a k q => by omega))
                    refine z_iinc (L' := [_, _, _, _, _, _, _, _, _]) dX12_moment_123 rfl rfl ?_
                    refine e_goto 61 dX12_moment_126 rfl ?_
                    exact mEv_wk (by exact ⟨Or.inr rfl, Or.inr rfl, Or.inr rfl, Or.inr rfl, Or.inr rfl, Or.inr rfl, Or.inr rfl, Or.inl rfl, Or.inl rfl, trivial⟩) (ih17 _ (by omega) (x + 1) h23 rfl k26 H27 FR28 (by omega) (by omega) (fun q a z => by
                                by_cases y : q = x
                                · subst y; exact ((rJ_eq e24 ⟨by omega, by omega⟩)).trans (by first | exact ((mo_l (v := v) (n := l) (w := q) (by omega)).1 (Or.inl (by omega))).symm | exact ((mo_l (v := v) (n := l) (w := q) (by omega)).1 (Or.inr (by omega))).symm | exact ((mo_l (v := v) (n := l) (w := q) (by omega)).2 (by omega)).symm)
                                · exact ((frm_rJ f25 (by omega))).trans (J4 q a (by omega))))
                  · skip
                    have mb := moZ_b (v := v) (n := l - 1) (w := min 9 (x + 1)) (by omega) (by omega) (by omega)
                    have tb := tb_b (w := x) (m := moZ v (l - 1) (min 9 (x + 1))) (by omega) mb
                    refine e_lload dX12_moment_95 rfl ?_
                    refine e_aload_n dX12_moment_97 rfl ?_
                    refine e_iload dX12_moment_98 rfl ?_
                    refine e_iload dX12_moment_100 rfl ?_
                    refine e_callV [.int _, .int _] dX12_moment_102 tm_12_487 rfl (Nat.le_of_ble_eq_true rfl) (rk_s k18) (Nat.le_of_ble_eq_true rfl) (Nat.le_refl _) (Nat.le_refl _) rfl (zp_X12_thenBy k18 H19 x ⟨by omega, by omega⟩ l ⟨by omega, by omega⟩ (by omega) (by omega) (by omega) ?_)
                    refine z_lcmp dX12_moment_105 ⟨by omega, by omega⟩ ⟨by omega, by omega⟩ ?_
                    refine z_ifl_lt 114 dX12_moment_106 rfl (fun c29 => ?_) (fun c29 => ?_)
                    · skip
                      refine e_aload_n dX12_moment_114 rfl ?_
                      refine e_iload dX12_moment_115 rfl ?_
                      refine e_iload dX12_moment_117 rfl ?_
                      refine e_callV [.int _, .int _] dX12_moment_119 tm_12_487 rfl (Nat.le_of_ble_eq_true rfl) (rk_s k18) (Nat.le_of_ble_eq_true rfl) (Nat.le_refl _) (Nat.le_refl _) rfl (zp_X12_thenBy k18 H19 x ⟨by omega, by omega⟩ l ⟨by omega, by omega⟩ (by omega) (by omega) (by omega) ?_)
                      refine z_lst dX12_moment_122 (rk_a26 k18) (by decide) (by omega) (by omega) (fun h30 e31 => ?_)
                      have f32 := frm_1J e31
                      have k33 := rk_q (frm_s f32) k18
                      have H34 := moR_c f32 (fun k q => by omega) H19
                      have FR35 := frm_t FR20 (frm_m (S' := (fun a i => a = m ∨ (m + 9 ≤ a ∧ a < m + 30))) f32 (fun a k q => by omega))
                      refine z_iinc (L' := [_, _, _, _, _, _, _, _, _]) dX12_moment_123 rfl rfl ?_
                      refine e_goto 61 dX12_moment_126 rfl ?_
                      exact mEv_wk (by exact ⟨Or.inr rfl, Or.inr rfl, Or.inr rfl, Or.inr rfl, Or.inr rfl, Or.inr rfl, Or.inr rfl, Or.inl rfl, Or.inl rfl, trivial⟩) (ih17 _ (by omega) (x + 1) h30 rfl k33 H34 FR35 (by omega) (by omega) (fun q a z => by
                                  by_cases y : q = x
                                  · subst y; exact ((rJ_eq e31 ⟨by omega, by omega⟩)).trans (by first | exact ((mo_l (v := v) (n := l) (w := q) (by omega)).1 (Or.inl (by omega))).symm | exact ((mo_l (v := v) (n := l) (w := q) (by omega)).1 (Or.inr (by omega))).symm | exact ((mo_l (v := v) (n := l) (w := q) (by omega)).2 (by omega)).symm)
                                  · exact ((frm_rJ f32 (by omega))).trans (J4 q a (by omega))))
                    · skip
                      refine e_lload dX12_moment_109 rfl ?_
                      refine e_goto 122 dX12_moment_111 rfl ?_
                      refine z_lst dX12_moment_122 (rk_a26 k18) (by decide) (by omega) (by omega) (fun h36 e37 => ?_)
                      have f38 := frm_1J e37
                      have k39 := rk_q (frm_s f38) k18
                      have H40 := moR_c f38 (fun k q => by omega) H19
                      have FR41 := frm_t FR20 (frm_m (S' := (fun a i => a = m ∨ (m + 9 ≤ a ∧ a < m + 30))) f38 (fun a k q => by omega))
                      refine z_iinc (L' := [_, _, _, _, _, _, _, _, _]) dX12_moment_123 rfl rfl ?_
                      refine e_goto 61 dX12_moment_126 rfl ?_
                      exact mEv_wk (by exact ⟨Or.inr rfl, Or.inr rfl, Or.inr rfl, Or.inr rfl, Or.inr rfl, Or.inr rfl, Or.inr rfl, Or.inl rfl, Or.inl rfl, trivial⟩) (ih17 _ (by omega) (x + 1) h36 rfl k39 H40 FR41 (by omega) (by omega) (fun q a z => by
                                  by_cases y : q = x
                                  · subst y; exact ((rJ_eq e37 ⟨by omega, by omega⟩)).trans (by first | exact ((mo_l (v := v) (n := l) (w := q) (by omega)).1 (Or.inl (by omega))).symm | exact ((mo_l (v := v) (n := l) (w := q) (by omega)).1 (Or.inr (by omega))).symm | exact ((mo_l (v := v) (n := l) (w := q) (by omega)).2 (by omega)).symm)
                                  · exact ((frm_rJ f38 (by omega))).trans (J4 q a (by omega))))
              exact lp17 _ 0 h10 rfl k11 I3 FR12 (by omega) (by omega) (fun q a z => by omega)
          exact lp10 _ 0 h1 rfl k4 FR5 (by omega) (by omega) (fun a c d e f g => by omega)
        · skip
          refine z_ldc2 (-1) dX12_moment_45 tl_12_481 rfl ?_
          refine z_lret dX12_moment_48 rfl ⟨rfl, ?_⟩
          refine z_qJ (kq _ FR5) ?_
          unfold moV
          rw [if_neg (by omega)]
