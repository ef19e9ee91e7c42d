/-! WORKS: the reference's search -/
theorem dX12_canWork_0 : decode cX12_canWork 0 = .ok (.iconst 0, 1) := by decide +kernel
theorem dX12_canWork_1 : decode cX12_canWork 1 = .ok (.istore_n 3, 1) := by decide +kernel
theorem dX12_canWork_2 : decode cX12_canWork 2 = .ok (.iload_n 3, 1) := by decide +kernel
theorem dX12_canWork_3 : decode cX12_canWork 3 = .ok (.iload_n 2, 1) := by decide +kernel
theorem dX12_canWork_4 : decode cX12_canWork 4 = .ok (.if_icmp .ge 170, 3) := by decide +kernel
theorem dX12_canWork_7 : decode cX12_canWork 7 = .ok (.aload_n 0, 1) := by decide +kernel
theorem dX12_canWork_8 : decode cX12_canWork 8 = .ok (.getfield 78, 3) := by decide +kernel
theorem dX12_canWork_11 : decode cX12_canWork 11 = .ok (.iload_n 3, 1) := by decide +kernel
theorem dX12_canWork_12 : decode cX12_canWork 12 = .ok (.iaload, 1) := by decide +kernel
theorem dX12_canWork_13 : decode cX12_canWork 13 = .ok (.iload_n 1, 1) := by decide +kernel
theorem dX12_canWork_14 : decode cX12_canWork 14 = .ok (.if_icmp .ne 154, 3) := by decide +kernel
theorem dX12_canWork_17 : decode cX12_canWork 17 = .ok (.iconst 0, 1) := by decide +kernel
theorem dX12_canWork_18 : decode cX12_canWork 18 = .ok (.istore 4, 2) := by decide +kernel
theorem dX12_canWork_20 : decode cX12_canWork 20 = .ok (.iconst 0, 1) := by decide +kernel
theorem dX12_canWork_21 : decode cX12_canWork 21 = .ok (.istore 5, 2) := by decide +kernel
theorem dX12_canWork_23 : decode cX12_canWork 23 = .ok (.iload 5, 2) := by decide +kernel
theorem dX12_canWork_25 : decode cX12_canWork 25 = .ok (.iload_n 2, 1) := by decide +kernel
theorem dX12_canWork_26 : decode cX12_canWork 26 = .ok (.if_icmp .ge 78, 3) := by decide +kernel
theorem dX12_canWork_29 : decode cX12_canWork 29 = .ok (.iload 5, 2) := by decide +kernel
theorem dX12_canWork_31 : decode cX12_canWork 31 = .ok (.iload_n 3, 1) := by decide +kernel
theorem dX12_canWork_32 : decode cX12_canWork 32 = .ok (.if_icmp .eq 66, 3) := by decide +kernel
theorem dX12_canWork_35 : decode cX12_canWork 35 = .ok (.aload_n 0, 1) := by decide +kernel
theorem dX12_canWork_36 : decode cX12_canWork 36 = .ok (.getfield 78, 3) := by decide +kernel
theorem dX12_canWork_39 : decode cX12_canWork 39 = .ok (.iload 5, 2) := by decide +kernel
theorem dX12_canWork_41 : decode cX12_canWork 41 = .ok (.iaload, 1) := by decide +kernel
theorem dX12_canWork_42 : decode cX12_canWork 42 = .ok (.iload_n 1, 1) := by decide +kernel
theorem dX12_canWork_43 : decode cX12_canWork 43 = .ok (.if_icmp .ne 55, 3) := by decide +kernel
theorem dX12_canWork_46 : decode cX12_canWork 46 = .ok (.aload_n 0, 1) := by decide +kernel
theorem dX12_canWork_47 : decode cX12_canWork 47 = .ok (.bipush 75, 2) := by decide +kernel
theorem dX12_canWork_49 : decode cX12_canWork 49 = .ok (.iload 5, 2) := by decide +kernel
theorem dX12_canWork_51 : decode cX12_canWork 51 = .ok (.iadd, 1) := by decide +kernel
theorem dX12_canWork_52 : decode cX12_canWork 52 = .ok (.invokevirtual 267, 3) := by decide +kernel
theorem dX12_canWork_55 : decode cX12_canWork 55 = .ok (.aload_n 0, 1) := by decide +kernel
theorem dX12_canWork_56 : decode cX12_canWork 56 = .ok (.bipush 75, 2) := by decide +kernel
theorem dX12_canWork_58 : decode cX12_canWork 58 = .ok (.iload_n 3, 1) := by decide +kernel
theorem dX12_canWork_59 : decode cX12_canWork 59 = .ok (.iadd, 1) := by decide +kernel
theorem dX12_canWork_60 : decode cX12_canWork 60 = .ok (.invokevirtual 267, 3) := by decide +kernel
theorem dX12_canWork_63 : decode cX12_canWork 63 = .ok (.if_icmp .ne 5, 3) := by decide +kernel
theorem dX12_canWork_66 : decode cX12_canWork 66 = .ok (.iconst 0, 1) := by decide +kernel
theorem dX12_canWork_67 : decode cX12_canWork 67 = .ok (.ireturn, 1) := by decide +kernel
theorem dX12_canWork_68 : decode cX12_canWork 68 = .ok (.iload 4, 2) := by decide +kernel
theorem dX12_canWork_70 : decode cX12_canWork 70 = .ok (.aload_n 0, 1) := by decide +kernel
theorem dX12_canWork_71 : decode cX12_canWork 71 = .ok (.bipush 75, 2) := by decide +kernel
theorem dX12_canWork_73 : decode cX12_canWork 73 = .ok (.iload 5, 2) := by decide +kernel
theorem dX12_canWork_75 : decode cX12_canWork 75 = .ok (.iadd, 1) := by decide +kernel
theorem dX12_canWork_76 : decode cX12_canWork 76 = .ok (.invokevirtual 267, 3) := by decide +kernel
theorem dX12_canWork_79 : decode cX12_canWork 79 = .ok (.aload_n 0, 1) := by decide +kernel
theorem dX12_canWork_80 : decode cX12_canWork 80 = .ok (.bipush 75, 2) := by decide +kernel
theorem dX12_canWork_82 : decode cX12_canWork 82 = .ok (.iload_n 3, 1) := by decide +kernel
theorem dX12_canWork_83 : decode cX12_canWork 83 = .ok (.iadd, 1) := by decide +kernel
theorem dX12_canWork_84 : decode cX12_canWork 84 = .ok (.invokevirtual 267, 3) := by decide +kernel
theorem dX12_canWork_87 : decode cX12_canWork 87 = .ok (.if_icmp .ge 7, 3) := by decide +kernel
theorem dX12_canWork_90 : decode cX12_canWork 90 = .ok (.iconst 1, 1) := by decide +kernel
theorem dX12_canWork_91 : decode cX12_canWork 91 = .ok (.goto 4, 3) := by decide +kernel
theorem dX12_canWork_94 : decode cX12_canWork 94 = .ok (.iconst 0, 1) := by decide +kernel
theorem dX12_canWork_95 : decode cX12_canWork 95 = .ok (.iadd, 1) := by decide +kernel
theorem dX12_canWork_96 : decode cX12_canWork 96 = .ok (.istore 4, 2) := by decide +kernel
theorem dX12_canWork_98 : decode cX12_canWork 98 = .ok (.iinc 5 1, 3) := by decide +kernel
theorem dX12_canWork_101 : decode cX12_canWork 101 = .ok (.goto (-78), 3) := by decide +kernel
theorem dX12_canWork_104 : decode cX12_canWork 104 = .ok (.aload_n 0, 1) := by decide +kernel
theorem dX12_canWork_105 : decode cX12_canWork 105 = .ok (.iload_n 1, 1) := by decide +kernel
theorem dX12_canWork_106 : decode cX12_canWork 106 = .ok (.aload_n 0, 1) := by decide +kernel
theorem dX12_canWork_107 : decode cX12_canWork 107 = .ok (.getfield 53, 3) := by decide +kernel
theorem dX12_canWork_110 : decode cX12_canWork 110 = .ok (.iload_n 1, 1) := by decide +kernel
theorem dX12_canWork_111 : decode cX12_canWork 111 = .ok (.iaload, 1) := by decide +kernel
theorem dX12_canWork_112 : decode cX12_canWork 112 = .ok (.invokevirtual 283, 3) := by decide +kernel
theorem dX12_canWork_115 : decode cX12_canWork 115 = .ok (.iconst 0, 1) := by decide +kernel
theorem dX12_canWork_116 : decode cX12_canWork 116 = .ok (.aload_n 0, 1) := by decide +kernel
theorem dX12_canWork_117 : decode cX12_canWork 117 = .ok (.getfield 47, 3) := by decide +kernel
theorem dX12_canWork_120 : decode cX12_canWork 120 = .ok (.iload_n 1, 1) := by decide +kernel
theorem dX12_canWork_121 : decode cX12_canWork 121 = .ok (.iaload, 1) := by decide +kernel
theorem dX12_canWork_122 : decode cX12_canWork 122 = .ok (.iload 4, 2) := by decide +kernel
theorem dX12_canWork_124 : decode cX12_canWork 124 = .ok (.isub, 1) := by decide +kernel
theorem dX12_canWork_125 : decode cX12_canWork 125 = .ok (.invokestatic 176, 3) := by decide +kernel
theorem dX12_canWork_128 : decode cX12_canWork 128 = .ok (.iadd, 1) := by decide +kernel
theorem dX12_canWork_129 : decode cX12_canWork 129 = .ok (.iconst 0, 1) := by decide +kernel
theorem dX12_canWork_130 : decode cX12_canWork 130 = .ok (.aload_n 0, 1) := by decide +kernel
theorem dX12_canWork_131 : decode cX12_canWork 131 = .ok (.getfield 47, 3) := by decide +kernel
theorem dX12_canWork_134 : decode cX12_canWork 134 = .ok (.bipush 6, 2) := by decide +kernel
theorem dX12_canWork_136 : decode cX12_canWork 136 = .ok (.aload_n 0, 1) := by decide +kernel
theorem dX12_canWork_137 : decode cX12_canWork 137 = .ok (.getfield 53, 3) := by decide +kernel
theorem dX12_canWork_140 : decode cX12_canWork 140 = .ok (.iload_n 1, 1) := by decide +kernel
theorem dX12_canWork_141 : decode cX12_canWork 141 = .ok (.iaload, 1) := by decide +kernel
theorem dX12_canWork_142 : decode cX12_canWork 142 = .ok (.iadd, 1) := by decide +kernel
theorem dX12_canWork_143 : decode cX12_canWork 143 = .ok (.iaload, 1) := by decide +kernel
theorem dX12_canWork_144 : decode cX12_canWork 144 = .ok (.iload 4, 2) := by decide +kernel
theorem dX12_canWork_146 : decode cX12_canWork 146 = .ok (.isub, 1) := by decide +kernel
theorem dX12_canWork_147 : decode cX12_canWork 147 = .ok (.invokestatic 176, 3) := by decide +kernel
theorem dX12_canWork_150 : decode cX12_canWork 150 = .ok (.iadd, 1) := by decide +kernel
theorem dX12_canWork_151 : decode cX12_canWork 151 = .ok (.istore 5, 2) := by decide +kernel
theorem dX12_canWork_153 : decode cX12_canWork 153 = .ok (.iload 5, 2) := by decide +kernel
theorem dX12_canWork_155 : decode cX12_canWork 155 = .ok (.aload_n 0, 1) := by decide +kernel
theorem dX12_canWork_156 : decode cX12_canWork 156 = .ok (.bipush 63, 2) := by decide +kernel
theorem dX12_canWork_158 : decode cX12_canWork 158 = .ok (.iload_n 3, 1) := by decide +kernel
theorem dX12_canWork_159 : decode cX12_canWork 159 = .ok (.iadd, 1) := by decide +kernel
theorem dX12_canWork_160 : decode cX12_canWork 160 = .ok (.invokevirtual 267, 3) := by decide +kernel
theorem dX12_canWork_163 : decode cX12_canWork 163 = .ok (.if_icmp .ge 5, 3) := by decide +kernel
theorem dX12_canWork_166 : decode cX12_canWork 166 = .ok (.iconst 0, 1) := by decide +kernel
theorem dX12_canWork_167 : decode cX12_canWork 167 = .ok (.ireturn, 1) := by decide +kernel
theorem dX12_canWork_168 : decode cX12_canWork 168 = .ok (.iinc 3 1, 3) := by decide +kernel
theorem dX12_canWork_171 : decode cX12_canWork 171 = .ok (.goto (-169), 3) := by decide +kernel
theorem dX12_canWork_174 : decode cX12_canWork 174 = .ok (.iconst 1, 1) := by decide +kernel
theorem dX12_canWork_175 : decode cX12_canWork 175 = .ok (.ireturn, 1) := by decide +kernel
theorem dX12_worksFor_0 : decode cX12_worksFor 0 = .ok (.iconst 0, 1) := by decide +kernel
theorem dX12_worksFor_1 : decode cX12_worksFor 1 = .ok (.istore_n 1, 1) := by decide +kernel
theorem dX12_worksFor_2 : decode cX12_worksFor 2 = .ok (.iconst 0, 1) := by decide +kernel
theorem dX12_worksFor_3 : decode cX12_worksFor 3 = .ok (.istore_n 2, 1) := by decide +kernel
theorem dX12_worksFor_4 : decode cX12_worksFor 4 = .ok (.iload_n 2, 1) := by decide +kernel
theorem dX12_worksFor_5 : decode cX12_worksFor 5 = .ok (.aload_n 0, 1) := by decide +kernel
theorem dX12_worksFor_6 : decode cX12_worksFor 6 = .ok (.getfield 277, 3) := by decide +kernel
theorem dX12_worksFor_9 : decode cX12_worksFor 9 = .ok (.if_icmp .ge 35, 3) := by decide +kernel
theorem dX12_worksFor_12 : decode cX12_worksFor 12 = .ok (.iload_n 1, 1) := by decide +kernel
theorem dX12_worksFor_13 : decode cX12_worksFor 13 = .ok (.aload_n 0, 1) := by decide +kernel
theorem dX12_worksFor_14 : decode cX12_worksFor 14 = .ok (.getfield 78, 3) := by decide +kernel
theorem dX12_worksFor_17 : decode cX12_worksFor 17 = .ok (.iload_n 2, 1) := by decide +kernel
theorem dX12_worksFor_18 : decode cX12_worksFor 18 = .ok (.iaload, 1) := by decide +kernel
theorem dX12_worksFor_19 : decode cX12_worksFor 19 = .ok (.bipush 6, 2) := by decide +kernel
theorem dX12_worksFor_21 : decode cX12_worksFor 21 = .ok (.if_icmp .ge 14, 3) := by decide +kernel
theorem dX12_worksFor_24 : decode cX12_worksFor 24 = .ok (.aload_n 0, 1) := by decide +kernel
theorem dX12_worksFor_25 : decode cX12_worksFor 25 = .ok (.bipush 69, 2) := by decide +kernel
theorem dX12_worksFor_27 : decode cX12_worksFor 27 = .ok (.iload_n 2, 1) := by decide +kernel
theorem dX12_worksFor_28 : decode cX12_worksFor 28 = .ok (.iadd, 1) := by decide +kernel
theorem dX12_worksFor_29 : decode cX12_worksFor 29 = .ok (.invokevirtual 267, 3) := by decide +kernel
theorem dX12_worksFor_32 : decode cX12_worksFor 32 = .ok (.goto 4, 3) := by decide +kernel
theorem dX12_worksFor_35 : decode cX12_worksFor 35 = .ok (.iconst 0, 1) := by decide +kernel
theorem dX12_worksFor_36 : decode cX12_worksFor 36 = .ok (.iadd, 1) := by decide +kernel
theorem dX12_worksFor_37 : decode cX12_worksFor 37 = .ok (.istore_n 1, 1) := by decide +kernel
theorem dX12_worksFor_38 : decode cX12_worksFor 38 = .ok (.iinc 2 1, 3) := by decide +kernel
theorem dX12_worksFor_41 : decode cX12_worksFor 41 = .ok (.goto (-37), 3) := by decide +kernel
theorem dX12_worksFor_44 : decode cX12_worksFor 44 = .ok (.iload_n 1, 1) := by decide +kernel
theorem dX12_worksFor_45 : decode cX12_worksFor 45 = .ok (.ireturn, 1) := by decide +kernel
set_option maxHeartbeats 2000000 in
theorem zp_X12_canWork {ad : mA} {dd : Nat} {h : mH} {Q : mQ} {m : Nat} {g w : Int → Int} (d : Int) (d_r : -2147483648 ≤ d ∧ d < 2147483648) (n : Int) (n_r : -2147483648 ≤ n ∧ n < 2147483648) (hk : rk h m) (HB : rB h m g) (HM : rM h m g) (HC : rC h m g) (HW : rWk h m w n)  (p1 : 0 ≤ d ∧ d < nd g) (p2 : dm g d ≠ -1) (p3 : 0 ≤ n ∧ n ≤ nc g) (kq : ∀ v : Int, ((v = 1 ∧ okG g d (fun o => o < n ∧ w o = d)) ∨ (v = 0 ∧ ¬ okG g d (fun o => o < n ∧ w o = d))) → Q (some (.int (zI v))) h) : mCal TB0 ad (dd + 3) M_X12_canWork [.ref m, .int (zI d), .int (zI n)] h 0 0 Q := by
  refine ⟨Nat.le_of_ble_eq_true rfl, ?_⟩
  show mEv TB0 ad M_X12_canWork (dd + 3) (0, 0) (mCal TB0 ad (dd + 2)) (fun v h' z => z.1 = 0 ∧ Q v h') 0 [some (.ref m), some (.int (zI d)), some (.int (zI n)), none, none, none] [] h (0, 0)
  have w1 := rB_n HB
  have w2 := rB_nd HB
  have w3 := rB_nu HB
  have w8 := rC_n HC
  have w5 := rC_f HC
  have w7 := upv_in p1.1 p1.2
  have wm := wM_d (rM_w HM) p1.1 (show d < 6 by omega)
  refine z_iconst (0) dX12_canWork_0 rfl ?_
  refine e_istore_n (L' := [_, _, _, _, _, _]) dX12_canWork_1 (Nat.le_of_ble_eq_true rfl) rfl ?_
  have lp1 : ∀ (n1 : Nat) (e : Int), (n - e).toNat = n1 → (0 ≤ e ∧ e ≤ n) → (∀ c, 0 ≤ c → c < e → w c = d → (∀ o, 0 ≤ o → o < n → w o = d → o ≠ c → dy g o ≠ dy g c) ∧ ha g c ≤ powW g d (upv g d) (ahG g (fun o => o < n ∧ w o = d) c)) → mEv TB0 ad M_X12_canWork (dd + 3) (0, 0) (mCal TB0 ad (dd + 2)) (fun v h' z => z.1 = 0 ∧ Q v h') 2 [some (.ref m), some (.int (zI d)), some (.int (zI n)), some (.int (zI e)), none, none] [] h (0, 0) := by
    intro n1
    induction n1 using Nat.strongRecOn with
    | ind n1 ih1 =>
    intro e  hn1  I1 I2
    refine e_iload_n dX12_canWork_2 rfl ?_
    refine e_iload_n dX12_canWork_3 rfl ?_
    refine z_icmp_ge 174 dX12_canWork_4 rfl ⟨by omega, by omega⟩ ⟨by omega, by omega⟩ (fun c2 => ?_) (fun c2 => ?_)
    · skip
      refine z_iconst (1) dX12_canWork_174 rfl ?_
      refine z_bret dX12_canWork_175 rfl (Or.inr rfl) ⟨rfl, ?_⟩
      refine kq _ ?_
      first | exact Or.inl ⟨rfl, fun c a z q => ⟨fun o u v t x => (I2 c a (by omega) q.2).1 o u t.1 t.2 x, (I2 c a (by omega) q.2).2⟩⟩ | exact Or.inr ⟨rfl, fun z => by
              have := (z e (by omega) (by omega) ⟨by omega, by omega⟩).1 o (by omega) (by omega) ⟨by omega, by omega⟩ (by omega)
              omega⟩ | exact Or.inr ⟨rfl, fun z => by
              have := (z e (by omega) (by omega) ⟨by omega, by omega⟩).2
              rw [← ea, w7] at this
              unfold powW at this
              omega⟩
    · skip
      refine e_aload_n dX12_canWork_7 rfl ?_
      refine e_get (.ref (m + 23)) dX12_canWork_8 tf_12_78 (rk_s hk) (congrArg va_rf (rk_r23 hk)) ?_
      refine e_iload_n dX12_canWork_11 rfl ?_
      refine z_ild (w e) dX12_canWork_12 (rk_a23 hk) (by decide) (by omega) (by omega) (HW e (by omega) (by omega)) ?_
      have y3 := rI_r (HW e (by omega) (by omega))
      refine e_iload_n dX12_canWork_13 rfl ?_
      refine z_icmp_ne 168 dX12_canWork_14 rfl ⟨by omega, by omega⟩ ⟨by omega, by omega⟩ (fun c4 => ?_) (fun c4 => ?_)
      · skip
        refine z_iinc (L' := [_, _, _, _, _, _]) dX12_canWork_168 rfl rfl ?_
        refine e_goto 2 dX12_canWork_171 rfl ?_
        exact ih1 _ (by omega) (e + 1)  rfl  (by omega) (fun c a z q => by
                  by_cases y : c = e
                  · rw [y] at q ⊢; first | omega | exact ⟨fun o u v t x => J3 o u (by omega) x t, by rw [← ea, w7]; unfold powW; omega⟩
                  · exact I2 c a (by omega) q)
      · skip
        refine z_iconst (0) dX12_canWork_17 rfl ?_
        refine e_istore (L' := [_, _, _, _, _, _]) dX12_canWork_18 (Nat.le_of_ble_eq_true rfl) rfl ?_
        refine z_iconst (0) dX12_canWork_20 rfl ?_
        refine e_istore (L' := [_, _, _, _, _, _]) dX12_canWork_21 (Nat.le_of_ble_eq_true rfl) rfl ?_
        have lp5 : ∀ (n5 : Nat) (a o : Int), (n - o).toNat = n5 → (0 ≤ o ∧ o ≤ n) → (0 ≤ a ∧ a ≤ o) → (a = sumZ (fun o => bZ (w o = d ∧ dy g o < dy g e)) o.toNat) → (∀ x, 0 ≤ x → x < o → x ≠ e → w x = d → dy g x ≠ dy g e) → mEv TB0 ad M_X12_canWork (dd + 3) (0, 0) (mCal TB0 ad (dd + 2)) (fun v h' z => z.1 = 0 ∧ Q v h') 23 [some (.ref m), some (.int (zI d)), some (.int (zI n)), some (.int (zI e)), some (.int (zI a)), some (.int (zI o))] [] h (0, 0) := by
          intro n5
          induction n5 using Nat.strongRecOn with
          | ind n5 ih5 =>
          intro a o  hn5  J1 J2 J4 J3
          refine e_iload dX12_canWork_23 rfl ?_
          refine e_iload_n dX12_canWork_25 rfl ?_
          refine z_icmp_ge 104 dX12_canWork_26 rfl ⟨by omega, by omega⟩ ⟨by omega, by omega⟩ (fun c6 => ?_) (fun c6 => ?_)
          · skip
            have ea : a = ahG g (fun o => o < n ∧ w o = d) e := (by rw [J4, show o = n by omega]; exact ah_n (by omega) (by omega))
            refine e_aload_n dX12_canWork_104 rfl ?_
            refine e_iload_n dX12_canWork_105 rfl ?_
            refine e_aload_n dX12_canWork_106 rfl ?_
            refine e_get (.ref (m + 15)) dX12_canWork_107 tf_12_53 (rk_s hk) (congrArg va_rf (rk_r15 hk)) ?_
            refine e_iload_n dX12_canWork_110 rfl ?_
            refine z_ild (dm g d) dX12_canWork_111 (rk_a15 hk) (by decide) (by omega) (by omega) (rM_d HM (by omega) (by omega)) ?_
            have y7 := wM_d (rM_w HM) (show 0 ≤ d by omega) (by omega)
            refine e_callV [.int _, .int _] dX12_canWork_112 tm_12_283 rfl (Nat.le_of_ble_eq_true rfl) (rk_s hk) (Nat.le_of_ble_eq_true rfl) (Nat.le_refl _) (Nat.le_refl _) rfl (zp_X12_fitOf hk HB d ⟨by omega, by omega⟩ (dm g d) ⟨by omega, by omega⟩ (by omega) ?_)
            have y8 := fitZ_b g d (dm g d)
            have fB := fitZ_b g d (dm g d)
            refine z_iconst (0) dX12_canWork_115 rfl ?_
            refine e_aload_n dX12_canWork_116 rfl ?_
            refine e_get (.ref (m + 13)) dX12_canWork_117 tf_12_47 (rk_s hk) (congrArg va_rf (rk_r13 hk)) ?_
            refine e_iload_n dX12_canWork_120 rfl ?_
            refine z_ild (de g d) dX12_canWork_121 (rk_a13 hk) (by decide) (by omega) (by omega) (rB_de HB (by omega) (by omega)) ?_
            have y9 := wB_d (rB_w HB) (show 0 ≤ d by omega) (by omega)
            refine e_iload dX12_canWork_122 rfl ?_
            refine z_isub dX12_canWork_124 ?_
            refine e_callS [.int _, .int _] dX12_canWork_125 tm_12_176 rfl (Nat.le_of_ble_eq_true rfl) (Nat.le_refl _) (Nat.le_refl _) rfl (zp_X12_greater 0 ⟨by omega, by omega⟩ ((de g d) - a) ⟨by omega, by omega⟩ ?_)
            refine z_iadd dX12_canWork_128 ?_
            refine z_iconst (0) dX12_canWork_129 rfl ?_
            refine e_aload_n dX12_canWork_130 rfl ?_
            refine e_get (.ref (m + 13)) dX12_canWork_131 tf_12_47 (rk_s hk) (congrArg va_rf (rk_r13 hk)) ?_
            refine z_bipush (6) dX12_canWork_134 rfl ?_
            refine e_aload_n dX12_canWork_136 rfl ?_
            refine e_get (.ref (m + 15)) dX12_canWork_137 tf_12_53 (rk_s hk) (congrArg va_rf (rk_r15 hk)) ?_
            refine e_iload_n dX12_canWork_140 rfl ?_
            refine z_ild (dm g d) dX12_canWork_141 (rk_a15 hk) (by decide) (by omega) (by omega) (rM_d HM (by omega) (by omega)) ?_
            have y10 := wM_d (rM_w HM) (show 0 ≤ d by omega) (by omega)
            refine z_iadd dX12_canWork_142 ?_
            refine z_ild (ue g (dm g d)) dX12_canWork_143 (rk_a13 hk) (by decide) (by omega) (by omega) (rB_ue HB (by omega) (by omega)) ?_
            have y11 := wB_u (rB_w HB) (show 0 ≤ (dm g d) by omega) (by omega)
            refine e_iload dX12_canWork_144 rfl ?_
            refine z_isub dX12_canWork_146 ?_
            refine e_callS [.int _, .int _] dX12_canWork_147 tm_12_176 rfl (Nat.le_of_ble_eq_true rfl) (Nat.le_refl _) (Nat.le_refl _) rfl (zp_X12_greater 0 ⟨by omega, by omega⟩ ((ue g (dm g d)) - a) ⟨by omega, by omega⟩ ?_)
            refine z_iadd dX12_canWork_150 ?_
            refine e_istore (L' := [_, _, _, _, _, _]) dX12_canWork_151 (Nat.le_of_ble_eq_true rfl) rfl ?_
            refine e_iload dX12_canWork_153 rfl ?_
            refine e_aload_n dX12_canWork_155 rfl ?_
            refine z_bipush (63) dX12_canWork_156 rfl ?_
            refine e_iload_n dX12_canWork_158 rfl ?_
            refine z_iadd dX12_canWork_159 ?_
            refine e_callV [.int _] dX12_canWork_160 tm_12_267 rfl (Nat.le_of_ble_eq_true rfl) (rk_s hk) (Nat.le_of_ble_eq_true rfl) (Nat.le_refl _) (Nat.le_refl _) rfl (zp_X12_of hk (63 + e) ⟨by omega, by omega⟩ (by omega) (by omega) ?_)
            have d5 : (rI h (m + 6) (81 * rI h m 23 + (63 + e))) = ha g e := rC_ha HC (by omega) (by omega)
            have d6 := wC_c (rC_w HC) (show 0 ≤ e by omega) (by omega)
            refine z_icmp_ge 168 dX12_canWork_163 rfl ⟨by omega, by omega⟩ ⟨by omega, by omega⟩ (fun c12 => ?_) (fun c12 => ?_)
            · skip
              refine z_iinc (L' := [_, _, _, _, _, _]) dX12_canWork_168 rfl rfl ?_
              refine e_goto 2 dX12_canWork_171 rfl ?_
              exact mEv_wk (by exact ⟨Or.inr rfl, Or.inr rfl, Or.inr rfl, Or.inr rfl, Or.inl rfl, Or.inl rfl, trivial⟩) (ih1 _ (by omega) (e + 1)  rfl  (by omega) (fun c a z q => by
                        by_cases y : c = e
                        · rw [y] at q ⊢; first | omega | exact ⟨fun o u v t x => J3 o u (by omega) x t, by rw [← ea, w7]; unfold powW; omega⟩
                        · exact I2 c a (by omega) q))
            · skip
              refine z_iconst (0) dX12_canWork_166 rfl ?_
              refine z_bret dX12_canWork_167 rfl (Or.inl rfl) ⟨rfl, ?_⟩
              refine kq _ ?_
              first | exact Or.inl ⟨rfl, fun c a z q => ⟨fun o u v t x => (I2 c a (by omega) q.2).1 o u t.1 t.2 x, (I2 c a (by omega) q.2).2⟩⟩ | exact Or.inr ⟨rfl, fun z => by
                      have := (z e (by omega) (by omega) ⟨by omega, by omega⟩).1 o (by omega) (by omega) ⟨by omega, by omega⟩ (by omega)
                      omega⟩ | exact Or.inr ⟨rfl, fun z => by
                      have := (z e (by omega) (by omega) ⟨by omega, by omega⟩).2
                      rw [← ea, w7] at this
                      unfold powW at this
                      omega⟩
          · skip
            refine e_iload dX12_canWork_29 rfl ?_
            refine e_iload_n dX12_canWork_31 rfl ?_
            refine z_icmp_eq 98 dX12_canWork_32 rfl ⟨by omega, by omega⟩ ⟨by omega, by omega⟩ (fun c13 => ?_) (fun c13 => ?_)
            · skip
              refine z_iinc (L' := [_, _, _, _, _, _]) dX12_canWork_98 rfl rfl ?_
              refine e_goto 23 dX12_canWork_101 rfl ?_
              exact ih5 _ (by omega) a (o + 1)  rfl  (by omega) (by omega) (by rw [sumZ_s (by omega)]; first | (rw [bZ_1 ⟨by omega, by omega⟩]; omega) | (rw [bZ_0 (by omega)]; omega) | (rw [bZ_0 (fun z => by rw [show o = e by omega] at z; omega)]; omega)) (fun x u v y t => by
                        by_cases q : x = o
                        · rw [q] at y t ⊢; omega
                        · exact J3 x u (by omega) y t)
            · skip
              refine e_aload_n dX12_canWork_35 rfl ?_
              refine e_get (.ref (m + 23)) dX12_canWork_36 tf_12_78 (rk_s hk) (congrArg va_rf (rk_r23 hk)) ?_
              refine e_iload dX12_canWork_39 rfl ?_
              refine z_ild (w o) dX12_canWork_41 (rk_a23 hk) (by decide) (by omega) (by omega) (HW o (by omega) (by omega)) ?_
              have y14 := rI_r (HW o (by omega) (by omega))
              refine e_iload_n dX12_canWork_42 rfl ?_
              refine z_icmp_ne 98 dX12_canWork_43 rfl ⟨by omega, by omega⟩ ⟨by omega, by omega⟩ (fun c15 => ?_) (fun c15 => ?_)
              · skip
                refine z_iinc (L' := [_, _, _, _, _, _]) dX12_canWork_98 rfl rfl ?_
                refine e_goto 23 dX12_canWork_101 rfl ?_
                exact ih5 _ (by omega) a (o + 1)  rfl  (by omega) (by omega) (by rw [sumZ_s (by omega)]; first | (rw [bZ_1 ⟨by omega, by omega⟩]; omega) | (rw [bZ_0 (by omega)]; omega) | (rw [bZ_0 (fun z => by rw [show o = e by omega] at z; omega)]; omega)) (fun x u v y t => by
                          by_cases q : x = o
                          · rw [q] at y t ⊢; omega
                          · exact J3 x u (by omega) y t)
              · skip
                have dd1 := wC_c (rC_w HC) (show 0 ≤ o by omega) (by omega)
                have dd2 := wC_c (rC_w HC) (show 0 ≤ e by omega) (by omega)
                refine e_aload_n dX12_canWork_46 rfl ?_
                refine z_bipush (75) dX12_canWork_47 rfl ?_
                refine e_iload dX12_canWork_49 rfl ?_
                refine z_iadd dX12_canWork_51 ?_
                refine e_callV [.int _] dX12_canWork_52 tm_12_267 rfl (Nat.le_of_ble_eq_true rfl) (rk_s hk) (Nat.le_of_ble_eq_true rfl) (Nat.le_refl _) (Nat.le_refl _) rfl (zp_X12_of hk (75 + o) ⟨by omega, by omega⟩ (by omega) (by omega) ?_)
                have d1 : (rI h (m + 6) (81 * rI h m 23 + (75 + o))) = dy g o := rC_dy HC (by omega) (by omega)
                refine e_aload_n dX12_canWork_55 rfl ?_
                refine z_bipush (75) dX12_canWork_56 rfl ?_
                refine e_iload_n dX12_canWork_58 rfl ?_
                refine z_iadd dX12_canWork_59 ?_
                refine e_callV [.int _] dX12_canWork_60 tm_12_267 rfl (Nat.le_of_ble_eq_true rfl) (rk_s hk) (Nat.le_of_ble_eq_true rfl) (Nat.le_refl _) (Nat.le_refl _) rfl (zp_X12_of hk (75 + e) ⟨by omega, by omega⟩ (by omega) (by omega) ?_)
                have d2 : (rI h (m + 6) (81 * rI h m 23 + (75 + e))) = dy g e := rC_dy HC (by omega) (by omega)
                refine z_icmp_ne 68 dX12_canWork_63 rfl ⟨by omega, by omega⟩ ⟨by omega, by omega⟩ (fun c16 => ?_) (fun c16 => ?_)
                · skip
                  refine e_iload dX12_canWork_68 rfl ?_
                  refine e_aload_n dX12_canWork_70 rfl ?_
                  refine z_bipush (75) dX12_canWork_71 rfl ?_
                  refine e_iload dX12_canWork_73 rfl ?_
                  refine z_iadd dX12_canWork_75 ?_
                  refine e_callV [.int _] dX12_canWork_76 tm_12_267 rfl (Nat.le_of_ble_eq_true rfl) (rk_s hk) (Nat.le_of_ble_eq_true rfl) (Nat.le_refl _) (Nat.le_refl _) rfl (zp_X12_of hk (75 + o) ⟨by omega, by omega⟩ (by omega) (by omega) ?_)
                  have d3 : (rI h (m + 6) (81 * rI h m 23 + (75 + o))) = dy g o := rC_dy HC (by omega) (by omega)
                  refine e_aload_n dX12_canWork_79 rfl ?_
                  refine z_bipush (75) dX12_canWork_80 rfl ?_
                  refine e_iload_n dX12_canWork_82 rfl ?_
                  refine z_iadd dX12_canWork_83 ?_
                  refine e_callV [.int _] dX12_canWork_84 tm_12_267 rfl (Nat.le_of_ble_eq_true rfl) (rk_s hk) (Nat.le_of_ble_eq_true rfl) (Nat.le_refl _) (Nat.le_refl _) rfl (zp_X12_of hk (75 + e) ⟨by omega, by omega⟩ (by omega) (by omega) ?_)
                  have d4 : (rI h (m + 6) (81 * rI h m 23 + (75 + e))) = dy g e := rC_dy HC (by omega) (by omega)
                  refine z_icmp_ge 94 dX12_canWork_87 rfl ⟨by omega, by omega⟩ ⟨by omega, by omega⟩ (fun c17 => ?_) (fun c17 => ?_)
                  · skip
                    refine z_iconst (0) dX12_canWork_94 rfl ?_
                    refine z_iadd dX12_canWork_95 ?_
                    refine e_istore (L' := [_, _, _, _, _, _]) dX12_canWork_96 (Nat.le_of_ble_eq_true rfl) rfl ?_
                    refine z_iinc (L' := [_, _, _, _, _, _]) dX12_canWork_98 rfl rfl ?_
                    refine e_goto 23 dX12_canWork_101 rfl ?_
                    exact ih5 _ (by omega) (a + 0) (o + 1)  rfl  (by omega) (by omega) (by rw [sumZ_s (by omega)]; first | (rw [bZ_1 ⟨by omega, by omega⟩]; omega) | (rw [bZ_0 (by omega)]; omega) | (rw [bZ_0 (fun z => by rw [show o = e by omega] at z; omega)]; omega)) (fun x u v y t => by
                              by_cases q : x = o
                              · rw [q] at y t ⊢; omega
                              · exact J3 x u (by omega) y t)
                  · skip
                    refine z_iconst (1) dX12_canWork_90 rfl ?_
                    refine e_goto 95 dX12_canWork_91 rfl ?_
                    refine z_iadd dX12_canWork_95 ?_
                    refine e_istore (L' := [_, _, _, _, _, _]) dX12_canWork_96 (Nat.le_of_ble_eq_true rfl) rfl ?_
                    refine z_iinc (L' := [_, _, _, _, _, _]) dX12_canWork_98 rfl rfl ?_
                    refine e_goto 23 dX12_canWork_101 rfl ?_
                    exact ih5 _ (by omega) (a + 1) (o + 1)  rfl  (by omega) (by omega) (by rw [sumZ_s (by omega)]; first | (rw [bZ_1 ⟨by omega, by omega⟩]; omega) | (rw [bZ_0 (by omega)]; omega) | (rw [bZ_0 (fun z => by rw [show o = e by omega] at z; omega)]; omega)) (fun x u v y t => by
                              by_cases q : x = o
                              · rw [q] at y t ⊢; omega
                              · exact J3 x u (by omega) y t)
                · skip
                  refine z_iconst (0) dX12_canWork_66 rfl ?_
                  refine z_bret dX12_canWork_67 rfl (Or.inl rfl) ⟨rfl, ?_⟩
                  refine kq _ ?_
                  first | exact Or.inl ⟨rfl, fun c a z q => ⟨fun o u v t x => (I2 c a (by omega) q.2).1 o u t.1 t.2 x, (I2 c a (by omega) q.2).2⟩⟩ | exact Or.inr ⟨rfl, fun z => by
                          have := (z e (by omega) (by omega) ⟨by omega, by omega⟩).1 o (by omega) (by omega) ⟨by omega, by omega⟩ (by omega)
                          omega⟩ | exact Or.inr ⟨rfl, fun z => by
                          have := (z e (by omega) (by omega) ⟨by omega, by omega⟩).2
                          rw [← ea, w7] at this
                          unfold powW at this
                          omega⟩
        exact lp5 _ 0 0  rfl  (by omega) (by omega) rfl (fun x u v => by omega)
  exact lp1 _ 0  rfl  (by omega) (fun c a z => by omega)
set_option maxHeartbeats 400000 in
theorem zp_X12_worksFor {ad : mA} {dd : Nat} {h : mH} {Q : mQ} {m : Nat} {g w : Int → Int} (hk : rk h m) (HC : rC h m g) (HW : rWk h m w (nc g))    (kq : Q (some (.int (zI (suV g w (nc g))))) h) : mCal TB0 ad (dd + 2) M_X12_worksFor [.ref m] h 0 0 Q := by
  refine ⟨Nat.le_of_ble_eq_true rfl, ?_⟩
  show mEv TB0 ad M_X12_worksFor (dd + 2) (0, 0) (mCal TB0 ad (dd + 1)) (fun v h' z => z.1 = 0 ∧ Q v h') 0 [some (.ref m), none, none] [] h (0, 0)
  have w8 := rC_n HC
  have w5 := rC_f HC
  refine z_iconst (0) dX12_worksFor_0 rfl ?_
  refine e_istore_n (L' := [_, _, _]) dX12_worksFor_1 (Nat.le_of_ble_eq_true rfl) rfl ?_
  refine z_iconst (0) dX12_worksFor_2 rfl ?_
  refine e_istore_n (L' := [_, _, _]) dX12_worksFor_3 (Nat.le_of_ble_eq_true rfl) rfl ?_
  have lp1 : ∀ (n1 : Nat) (t c : Int), (nc g - c).toNat = n1 → (0 ≤ c ∧ c ≤ nc g) → (0 ≤ t ∧ t ≤ 20 * c) → (t = suV g w c) → mEv TB0 ad M_X12_worksFor (dd + 2) (0, 0) (mCal TB0 ad (dd + 1)) (fun v h' z => z.1 = 0 ∧ Q v h') 4 [some (.ref m), some (.int (zI t)), some (.int (zI c))] [] h (0, 0) := by
    intro n1
    induction n1 using Nat.strongRecOn with
    | ind n1 ih1 =>
    intro t c  hn1  I1 I2 I3
    refine e_iload_n dX12_worksFor_4 rfl ?_
    refine e_aload_n dX12_worksFor_5 rfl ?_
    refine z_get (nc g) dX12_worksFor_6 tf_12_277 (rk_s hk) (Or.inl rfl) (rC_nc HC) ?_
    have y2 := rC_n HC
    refine z_icmp_ge 44 dX12_worksFor_9 rfl ⟨by omega, by omega⟩ ⟨by omega, by omega⟩ (fun c3 => ?_) (fun c3 => ?_)
    · skip
      refine e_iload_n dX12_worksFor_44 rfl ?_
      refine z_iret dX12_worksFor_45 rfl ⟨rfl, ?_⟩
      refine z_q kq ?_
      rw [I3, show c = nc g by omega]
    · skip
      refine e_iload_n dX12_worksFor_12 rfl ?_
      refine e_aload_n dX12_worksFor_13 rfl ?_
      refine e_get (.ref (m + 23)) dX12_worksFor_14 tf_12_78 (rk_s hk) (congrArg va_rf (rk_r23 hk)) ?_
      refine e_iload_n dX12_worksFor_17 rfl ?_
      refine z_ild (w c) dX12_worksFor_18 (rk_a23 hk) (by decide) (by omega) (by omega) (HW c (by omega) (by omega)) ?_
      have y4 := rI_r (HW c (by omega) (by omega))
      refine z_bipush (6) dX12_worksFor_19 rfl ?_
      refine z_icmp_ge 35 dX12_worksFor_21 rfl ⟨by omega, by omega⟩ ⟨by omega, by omega⟩ (fun c5 => ?_) (fun c5 => ?_)
      · skip
        refine z_iconst (0) dX12_worksFor_35 rfl ?_
        refine z_iadd dX12_worksFor_36 ?_
        refine e_istore_n (L' := [_, _, _]) dX12_worksFor_37 (Nat.le_of_ble_eq_true rfl) rfl ?_
        refine z_iinc (L' := [_, _, _]) dX12_worksFor_38 rfl rfl ?_
        refine e_goto 4 dX12_worksFor_41 rfl ?_
        exact ih1 _ (by omega) (t + 0) (c + 1)  rfl  (by omega) (by omega) (by rw [suV_s (by omega)]; first | (rw [if_pos (by omega)]; omega) | (rw [if_neg (by omega)]; omega))
      · skip
        refine e_aload_n dX12_worksFor_24 rfl ?_
        refine z_bipush (69) dX12_worksFor_25 rfl ?_
        refine e_iload_n dX12_worksFor_27 rfl ?_
        refine z_iadd dX12_worksFor_28 ?_
        refine e_callV [.int _] dX12_worksFor_29 tm_12_267 rfl (Nat.le_of_ble_eq_true rfl) (rk_s hk) (Nat.le_of_ble_eq_true rfl) (Nat.le_refl _) (Nat.le_refl _) rfl (zp_X12_of hk (69 + c) ⟨by omega, by omega⟩ (by omega) (by omega) ?_)
        have d5 : (rI h (m + 6) (81 * rI h m 23 + (69 + c))) = pr g c := rC_pr HC (by omega) (by omega)
        have d6 := wC_c (rC_w HC) (show 0 ≤ c by omega) (by omega)
        refine e_goto 36 dX12_worksFor_32 rfl ?_
        refine z_iadd dX12_worksFor_36 ?_
        refine e_istore_n (L' := [_, _, _]) dX12_worksFor_37 (Nat.le_of_ble_eq_true rfl) rfl ?_
        refine z_iinc (L' := [_, _, _]) dX12_worksFor_38 rfl rfl ?_
        refine e_goto 4 dX12_worksFor_41 rfl ?_
        exact ih1 _ (by omega) (t + (rI h (m + 6) (81 * rI h m 23 + (69 + c)))) (c + 1)  rfl  (by omega) (by omega) (by rw [suV_s (by omega)]; first | (rw [if_pos (by omega)]; omega) | (rw [if_neg (by omega)]; omega))
  exact lp1 _ 0 0  rfl  (by omega) (by omega) rfl
theorem FW_cg {g w w' : Int → Int} {n v : Int} {k : Int} (H : FW g w n v) (l : muW g w n < k) (p : 0 ≤ muW g w n) (e : ∀ c, 0 ≤ c → c < 6 → w' c = w c) (h6 : nc g ≤ 6) : FW g w' n v ∧ muW g w' n < k ∧ 0 ≤ muW g w' n := by
  obtain ⟨g1, g2, g3, g4⟩ := H
  have ep : posZ w' (nc g) n = posZ w (nc g) n := by
    unfold posZ
    by_cases q : n < 0
    · rw [if_pos q, if_pos q]
    · rw [if_neg q, if_neg q, cd_e (w := w') (w' := w) (n := n) (fun c a b => e c a (by omega))]
      by_cases q2 : n = nc g
      · rw [if_pos q2, if_pos q2]
      · rw [if_neg q2, if_neg q2, e n (by omega) (by omega)]
  have eh : phZ w' (nc g) n = phZ w (nc g) n := by
    unfold phZ
    by_cases q : n < 0
    · rw [if_pos q, if_pos q]
    · rw [if_neg q, if_neg q]
      by_cases q2 : n = nc g
      · rw [if_pos (Or.inl q2), if_pos (Or.inl q2)]
      · rw [e n (by omega) (by omega)]
  have em : muW g w' n = muW g w n := by unfold muW; rw [ep, eh]
  refine ⟨⟨g1, fun c a b => okD_e a (fun o u z => (e o u (by omega)).symm) (g2 c a b), fun a b => by rw [e n a (by omega)]; exact g3 a b, by rw [ep]; exact g4⟩, by omega, by omega⟩
theorem ok_6 {g w : Int → Int} {n : Int} (h : w n = 6) : okD g w n := Or.inl h
theorem ok_y {g w : Int → Int} {n d : Int} (e : w n = d) (h1 : 0 ≤ d ∧ d < nd g) (h2 : dm g d ≠ -1) (h3 : okG g d (fun o => o < n + 1 ∧ w o = d)) : okD g w n := by
  subst e
  exact Or.inr ⟨h1, by rw [upv_in h1.1 h1.2]; exact h2, h3⟩
theorem ok_n {g w : Int → Int} {n d : Int} (e : w n = d) (h6 : d ≠ 6) (h : d < nd g → 0 ≤ d → dm g d ≠ -1 → ¬ okG g d (fun o => o < n + 1 ∧ w o = d)) : ¬ okD g w n := by
  subst e
  rintro (q | ⟨q1, q2, q3⟩)
  · exact h6 q
  · exact h q1.2 q1.1 (by rw [← upv_in q1.1 q1.2]; exact q2) q3
/-- the first greatest there is, when the search is over -/
def wkE (g : Int → Int) (v : Int) : Prop := fmax (vaW g) (suW g) 117649 v ∧ v ≠ -1
theorem FW_end {g w : Int → Int} {v : Int} (h6 : 0 ≤ nc g ∧ nc g ≤ 6) (H : FW g w (-1) v) : wkE g v := by
  have f : fmax (vaW g) (suW g) 117649 v := by
    have := H.2.2.2
    unfold posZ at this
    rw [if_pos (by omega)] at this
    exact this
  refine ⟨f, fun e => ?_⟩
  rcases f with ⟨_, q⟩ | q
  · have l := va_leaf (g := g) (w := fun _ => 6) h6.1 h6.2 (fun c a b => ⟨by show (0 : Int) ≤ 6; omega, by show (6 : Int) ≤ 6; omega⟩) (fun c a b => Or.inl rfl)
    have b := cd_b (w := fun _ => 6) h6.1 h6.2 (fun c a b => ⟨by show (0 : Int) ≤ 6; omega, by show (6 : Int) ≤ 6; omega⟩)
    have s := sc_b h6.1 h6.2
    exact q _ b.1 (by omega) l.1
  · omega
