/-! WORKS of the reference -/
theorem dX12_findWorks_0 : decode cX12_findWorks 0 = .ok (.iconst (-1), 1) := by decide +kernel
theorem dX12_findWorks_1 : decode cX12_findWorks 1 = .ok (.istore_n 1, 1) := by decide +kernel
theorem dX12_findWorks_2 : decode cX12_findWorks 2 = .ok (.iconst 0, 1) := by decide +kernel
theorem dX12_findWorks_3 : decode cX12_findWorks 3 = .ok (.istore_n 2, 1) := by decide +kernel
theorem dX12_findWorks_4 : decode cX12_findWorks 4 = .ok (.aload_n 0, 1) := by decide +kernel
theorem dX12_findWorks_5 : decode cX12_findWorks 5 = .ok (.getfield 78, 3) := by decide +kernel
theorem dX12_findWorks_8 : decode cX12_findWorks 8 = .ok (.iconst 0, 1) := by decide +kernel
theorem dX12_findWorks_9 : decode cX12_findWorks 9 = .ok (.iconst (-1), 1) := by decide +kernel
theorem dX12_findWorks_10 : decode cX12_findWorks 10 = .ok (.iastore, 1) := by decide +kernel
theorem dX12_findWorks_11 : decode cX12_findWorks 11 = .ok (.iload_n 2, 1) := by decide +kernel
theorem dX12_findWorks_12 : decode cX12_findWorks 12 = .ok (.ifCond .lt 144, 3) := by decide +kernel
theorem dX12_findWorks_15 : decode cX12_findWorks 15 = .ok (.iload_n 2, 1) := by decide +kernel
theorem dX12_findWorks_16 : decode cX12_findWorks 16 = .ok (.aload_n 0, 1) := by decide +kernel
theorem dX12_findWorks_17 : decode cX12_findWorks 17 = .ok (.getfield 277, 3) := by decide +kernel
theorem dX12_findWorks_20 : decode cX12_findWorks 20 = .ok (.if_icmp .ne 53, 3) := by decide +kernel
theorem dX12_findWorks_23 : decode cX12_findWorks 23 = .ok (.aload_n 0, 1) := by decide +kernel
theorem dX12_findWorks_24 : decode cX12_findWorks 24 = .ok (.invokevirtual 460, 3) := by decide +kernel
theorem dX12_findWorks_27 : decode cX12_findWorks 27 = .ok (.istore_n 3, 1) := by decide +kernel
theorem dX12_findWorks_28 : decode cX12_findWorks 28 = .ok (.iload_n 3, 1) := by decide +kernel
theorem dX12_findWorks_29 : decode cX12_findWorks 29 = .ok (.iload_n 1, 1) := by decide +kernel
theorem dX12_findWorks_30 : decode cX12_findWorks 30 = .ok (.if_icmp .le 37, 3) := by decide +kernel
theorem dX12_findWorks_33 : decode cX12_findWorks 33 = .ok (.iload_n 3, 1) := by decide +kernel
theorem dX12_findWorks_34 : decode cX12_findWorks 34 = .ok (.istore_n 1, 1) := by decide +kernel
theorem dX12_findWorks_35 : decode cX12_findWorks 35 = .ok (.iconst 0, 1) := by decide +kernel
theorem dX12_findWorks_36 : decode cX12_findWorks 36 = .ok (.istore 4, 2) := by decide +kernel
theorem dX12_findWorks_38 : decode cX12_findWorks 38 = .ok (.iload 4, 2) := by decide +kernel
theorem dX12_findWorks_40 : decode cX12_findWorks 40 = .ok (.aload_n 0, 1) := by decide +kernel
theorem dX12_findWorks_41 : decode cX12_findWorks 41 = .ok (.getfield 277, 3) := by decide +kernel
theorem dX12_findWorks_44 : decode cX12_findWorks 44 = .ok (.if_icmp .ge 23, 3) := by decide +kernel
theorem dX12_findWorks_47 : decode cX12_findWorks 47 = .ok (.aload_n 0, 1) := by decide +kernel
theorem dX12_findWorks_48 : decode cX12_findWorks 48 = .ok (.getfield 81, 3) := by decide +kernel
theorem dX12_findWorks_51 : decode cX12_findWorks 51 = .ok (.iload 4, 2) := by decide +kernel
theorem dX12_findWorks_53 : decode cX12_findWorks 53 = .ok (.aload_n 0, 1) := by decide +kernel
theorem dX12_findWorks_54 : decode cX12_findWorks 54 = .ok (.getfield 78, 3) := by decide +kernel
theorem dX12_findWorks_57 : decode cX12_findWorks 57 = .ok (.iload 4, 2) := by decide +kernel
theorem dX12_findWorks_59 : decode cX12_findWorks 59 = .ok (.iaload, 1) := by decide +kernel
theorem dX12_findWorks_60 : decode cX12_findWorks 60 = .ok (.iastore, 1) := by decide +kernel
theorem dX12_findWorks_61 : decode cX12_findWorks 61 = .ok (.iinc 4 1, 3) := by decide +kernel
theorem dX12_findWorks_64 : decode cX12_findWorks 64 = .ok (.goto (-26), 3) := by decide +kernel
theorem dX12_findWorks_67 : decode cX12_findWorks 67 = .ok (.iinc 2 (-1), 3) := by decide +kernel
theorem dX12_findWorks_70 : decode cX12_findWorks 70 = .ok (.goto (-59), 3) := by decide +kernel
theorem dX12_findWorks_73 : decode cX12_findWorks 73 = .ok (.aload_n 0, 1) := by decide +kernel
theorem dX12_findWorks_74 : decode cX12_findWorks 74 = .ok (.getfield 78, 3) := by decide +kernel
theorem dX12_findWorks_77 : decode cX12_findWorks 77 = .ok (.iload_n 2, 1) := by decide +kernel
theorem dX12_findWorks_78 : decode cX12_findWorks 78 = .ok (.dup2, 1) := by decide +kernel
theorem dX12_findWorks_79 : decode cX12_findWorks 79 = .ok (.iaload, 1) := by decide +kernel
theorem dX12_findWorks_80 : decode cX12_findWorks 80 = .ok (.iconst 1, 1) := by decide +kernel
theorem dX12_findWorks_81 : decode cX12_findWorks 81 = .ok (.iadd, 1) := by decide +kernel
theorem dX12_findWorks_82 : decode cX12_findWorks 82 = .ok (.iastore, 1) := by decide +kernel
theorem dX12_findWorks_83 : decode cX12_findWorks 83 = .ok (.aload_n 0, 1) := by decide +kernel
theorem dX12_findWorks_84 : decode cX12_findWorks 84 = .ok (.getfield 78, 3) := by decide +kernel
theorem dX12_findWorks_87 : decode cX12_findWorks 87 = .ok (.iload_n 2, 1) := by decide +kernel
theorem dX12_findWorks_88 : decode cX12_findWorks 88 = .ok (.iaload, 1) := by decide +kernel
theorem dX12_findWorks_89 : decode cX12_findWorks 89 = .ok (.istore_n 3, 1) := by decide +kernel
theorem dX12_findWorks_90 : decode cX12_findWorks 90 = .ok (.iload_n 3, 1) := by decide +kernel
theorem dX12_findWorks_91 : decode cX12_findWorks 91 = .ok (.bipush 6, 2) := by decide +kernel
theorem dX12_findWorks_93 : decode cX12_findWorks 93 = .ok (.if_icmp .le 9, 3) := by decide +kernel
theorem dX12_findWorks_96 : decode cX12_findWorks 96 = .ok (.iinc 2 (-1), 3) := by decide +kernel
theorem dX12_findWorks_99 : decode cX12_findWorks 99 = .ok (.goto 54, 3) := by decide +kernel
theorem dX12_findWorks_102 : decode cX12_findWorks 102 = .ok (.iload_n 3, 1) := by decide +kernel
theorem dX12_findWorks_103 : decode cX12_findWorks 103 = .ok (.bipush 6, 2) := by decide +kernel
theorem dX12_findWorks_105 : decode cX12_findWorks 105 = .ok (.if_icmp .eq 30, 3) := by decide +kernel
theorem dX12_findWorks_108 : decode cX12_findWorks 108 = .ok (.iload_n 3, 1) := by decide +kernel
theorem dX12_findWorks_109 : decode cX12_findWorks 109 = .ok (.aload_n 0, 1) := by decide +kernel
theorem dX12_findWorks_110 : decode cX12_findWorks 110 = .ok (.getfield 271, 3) := by decide +kernel
theorem dX12_findWorks_113 : decode cX12_findWorks 113 = .ok (.if_icmp .ge 40, 3) := by decide +kernel
theorem dX12_findWorks_116 : decode cX12_findWorks 116 = .ok (.aload_n 0, 1) := by decide +kernel
theorem dX12_findWorks_117 : decode cX12_findWorks 117 = .ok (.iload_n 3, 1) := by decide +kernel
theorem dX12_findWorks_118 : decode cX12_findWorks 118 = .ok (.invokevirtual 286, 3) := by decide +kernel
theorem dX12_findWorks_121 : decode cX12_findWorks 121 = .ok (.ifCond .eq 32, 3) := by decide +kernel
theorem dX12_findWorks_124 : decode cX12_findWorks 124 = .ok (.aload_n 0, 1) := by decide +kernel
theorem dX12_findWorks_125 : decode cX12_findWorks 125 = .ok (.iload_n 3, 1) := by decide +kernel
theorem dX12_findWorks_126 : decode cX12_findWorks 126 = .ok (.iload_n 2, 1) := by decide +kernel
theorem dX12_findWorks_127 : decode cX12_findWorks 127 = .ok (.iconst 1, 1) := by decide +kernel
theorem dX12_findWorks_128 : decode cX12_findWorks 128 = .ok (.iadd, 1) := by decide +kernel
theorem dX12_findWorks_129 : decode cX12_findWorks 129 = .ok (.invokevirtual 463, 3) := by decide +kernel
theorem dX12_findWorks_132 : decode cX12_findWorks 132 = .ok (.ifCond .eq 21, 3) := by decide +kernel
theorem dX12_findWorks_135 : decode cX12_findWorks 135 = .ok (.iinc 2 1, 3) := by decide +kernel
theorem dX12_findWorks_138 : decode cX12_findWorks 138 = .ok (.iload_n 2, 1) := by decide +kernel
theorem dX12_findWorks_139 : decode cX12_findWorks 139 = .ok (.aload_n 0, 1) := by decide +kernel
theorem dX12_findWorks_140 : decode cX12_findWorks 140 = .ok (.getfield 277, 3) := by decide +kernel
theorem dX12_findWorks_143 : decode cX12_findWorks 143 = .ok (.if_icmp .ge 10, 3) := by decide +kernel
theorem dX12_findWorks_146 : decode cX12_findWorks 146 = .ok (.aload_n 0, 1) := by decide +kernel
theorem dX12_findWorks_147 : decode cX12_findWorks 147 = .ok (.getfield 78, 3) := by decide +kernel
theorem dX12_findWorks_150 : decode cX12_findWorks 150 = .ok (.iload_n 2, 1) := by decide +kernel
theorem dX12_findWorks_151 : decode cX12_findWorks 151 = .ok (.iconst (-1), 1) := by decide +kernel
theorem dX12_findWorks_152 : decode cX12_findWorks 152 = .ok (.iastore, 1) := by decide +kernel
theorem dX12_findWorks_153 : decode cX12_findWorks 153 = .ok (.goto (-142), 3) := by decide +kernel
theorem dX12_findWorks_156 : decode cX12_findWorks 156 = .ok (.iload_n 1, 1) := by decide +kernel
theorem dX12_findWorks_157 : decode cX12_findWorks 157 = .ok (.ireturn, 1) := by decide +kernel
theorem dX12_works_0 : decode cX12_works 0 = .ok (.aload_n 0, 1) := by decide +kernel
theorem dX12_works_1 : decode cX12_works 1 = .ok (.iconst 0, 1) := by decide +kernel
theorem dX12_works_2 : decode cX12_works 2 = .ok (.putfield 103, 3) := by decide +kernel
theorem dX12_works_5 : decode cX12_works 5 = .ok (.aload_n 0, 1) := by decide +kernel
theorem dX12_works_6 : decode cX12_works 6 = .ok (.iload_n 1, 1) := by decide +kernel
theorem dX12_works_7 : decode cX12_works 7 = .ok (.invokevirtual 292, 3) := by decide +kernel
theorem dX12_works_10 : decode cX12_works 10 = .ok (.ifCond .eq 17, 3) := by decide +kernel
theorem dX12_works_13 : decode cX12_works 13 = .ok (.iload_n 2, 1) := by decide +kernel
theorem dX12_works_14 : decode cX12_works 14 = .ok (.iconst (-1), 1) := by decide +kernel
theorem dX12_works_15 : decode cX12_works 15 = .ok (.aload_n 0, 1) := by decide +kernel
theorem dX12_works_16 : decode cX12_works 16 = .ok (.getfield 277, 3) := by decide +kernel
theorem dX12_works_19 : decode cX12_works 19 = .ok (.iconst 1, 1) := by decide +kernel
theorem dX12_works_20 : decode cX12_works 20 = .ok (.isub, 1) := by decide +kernel
theorem dX12_works_21 : decode cX12_works 21 = .ok (.invokestatic 115, 3) := by decide +kernel
theorem dX12_works_24 : decode cX12_works 24 = .ok (.ifCond .ne 5, 3) := by decide +kernel
theorem dX12_works_27 : decode cX12_works 27 = .ok (.iconst (-1), 1) := by decide +kernel
theorem dX12_works_28 : decode cX12_works 28 = .ok (.ireturn, 1) := by decide +kernel
theorem dX12_works_29 : decode cX12_works 29 = .ok (.aload_n 0, 1) := by decide +kernel
theorem dX12_works_30 : decode cX12_works 30 = .ok (.invokevirtual 466, 3) := by decide +kernel
theorem dX12_works_33 : decode cX12_works 33 = .ok (.istore_n 3, 1) := by decide +kernel
theorem dX12_works_34 : decode cX12_works 34 = .ok (.iload_n 2, 1) := by decide +kernel
theorem dX12_works_35 : decode cX12_works 35 = .ok (.iconst (-1), 1) := by decide +kernel
theorem dX12_works_36 : decode cX12_works 36 = .ok (.if_icmp .ne 7, 3) := by decide +kernel
theorem dX12_works_39 : decode cX12_works 39 = .ok (.iload_n 3, 1) := by decide +kernel
theorem dX12_works_40 : decode cX12_works 40 = .ok (.goto 9, 3) := by decide +kernel
theorem dX12_works_43 : decode cX12_works 43 = .ok (.aload_n 0, 1) := by decide +kernel
theorem dX12_works_44 : decode cX12_works 44 = .ok (.getfield 81, 3) := by decide +kernel
theorem dX12_works_47 : decode cX12_works 47 = .ok (.iload_n 2, 1) := by decide +kernel
theorem dX12_works_48 : decode cX12_works 48 = .ok (.iaload, 1) := by decide +kernel
theorem dX12_works_49 : decode cX12_works 49 = .ok (.ireturn, 1) := by decide +kernel
set_option maxRecDepth 20000 in
theorem tm_12_460 : tMet TB0 12 460 = some (0, M_X12_worksFor) := rfl
set_option maxRecDepth 20000 in
theorem tm_12_463 : tMet TB0 12 463 = some (0, M_X12_canWork) := rfl
set_option maxRecDepth 20000 in
theorem tm_12_466 : tMet TB0 12 466 = some (0, M_X12_findWorks) := rfl
theorem FW_lf {g w : Int → Int} {n v : Int} (hn : nd g ≤ 6) (h6 : 0 ≤ nc g ∧ nc g ≤ 6) (hN : n = nc g) (H : FW g w n v) : 0 ≤ cdZ w (nc g) ∧ suW g (cdZ w (nc g)) = suV g w (nc g) ∧ ∀ c, 0 ≤ c → c < nc g → dgZ (cdZ w (nc g)) c = w c := by
  subst hN
  have h2 := H.2.1
  have s := sc_b h6.1 h6.2
  exact ⟨(cd_b h6.1 h6.2 (okD_bs hn h2)).1, (va_leaf h6.1 h6.2 (okD_bs hn h2) h2).2, fun c a b => dg_in h6.1 h6.2 (okD_bs hn h2) (by omega) (by omega) a b⟩
theorem FW_leafN {g w : Int → Int} {n v v' : Int} (hn : nd g ≤ 6) (h6 : 0 ≤ nc g ∧ nc g ≤ 6) (hN : n = nc g) (H : FW g w n v) (q : (v' = cdZ w (nc g) ∧ (v = -1 ∨ suW g v < suV g w (nc g))) ∨ (v' = v ∧ v ≠ -1 ∧ suV g w (nc g) ≤ suW g v)) : FW g w (n + (-1)) v' ∧ muW g w (n + (-1)) < muW g w n ∧ 0 ≤ muW g w (n + (-1)) := by
  subst hN
  rw [show nc g + (-1) = nc g - 1 by omega]
  exact FW_leaf hn h6 H q
theorem FW_downN {g w w' : Int → Int} {n v : Int} (hn : nd g ≤ 6) (h6 : 0 ≤ nc g ∧ nc g ≤ 6) (H : FW g w n v) (h0 : 0 ≤ n) (h1 : n < nc g) (e6 : w n = 6) (e : ∀ c, 0 ≤ c → c < n → w' c = w c) : FW g w' (n + (-1)) v ∧ muW g w' (n + (-1)) < muW g w n ∧ 0 ≤ muW g w' (n + (-1)) := by
  rw [show n + (-1) = n - 1 by omega]
  exact FW_down hn h6 H h0 h1 e6 e
theorem FW_n {g w : Int → Int} {n v : Int} (H : FW g w n v) : -1 ≤ n ∧ n ≤ nc g := H.1
theorem FW_0 {g w : Int → Int} (h6 : 0 ≤ nc g ∧ nc g ≤ 6) (e : w 0 = -1) : FW g w 0 (-1) ∧ 0 ≤ muW g w 0 := by
  have p0 : posZ w (nc g) 0 = 0 := by
    unfold posZ
    rw [if_neg (by omega), cd_0, e]
    split <;> omega
  have a1 := ph_b (w := w) h6 (show 0 ≤ nc g by omega)
  refine ⟨⟨by omega, fun c a b => by omega, fun a b => by omega, by rw [p0]; exact fmax_0 _ _ (by omega)⟩, ?_⟩
  unfold muW
  rw [p0]; omega
theorem suW_b {g : Int → Int} (wc : wfC g) (k : Int) : 0 ≤ suW g k ∧ suW g k ≤ 120 := by
  have := suV_b (w := dgZ k) wc (show 0 ≤ nc g from wc.1.1) (Int.le_refl _)
  have := wc.1
  unfold suW; omega
set_option maxHeartbeats 6000000 in
theorem zp_X12_findWorks {ad : mA} {dd : Nat} {h : mH} {Q : mQ} {m : Nat} {g : Int → Int} (hk : rk h m) (HB : rB h m g) (HM : rM h m g) (HC : rC h m g)    (kq : ∀ t : Int, True → ∀ h1, frm (fun a k => a = m + 23 ∨ a = m + 24) h h1 → (∃ v, wkE g v ∧ t = suW g v ∧ ∀ c : Int, 0 ≤ c → c < nc g → rI h1 (m + 24) c = dgZ v c) → Q (some (.int (zI t))) h1) : mCal TB0 ad (dd + 4) M_X12_findWorks [.ref m] h 0 0 Q := by
  refine ⟨Nat.le_of_ble_eq_true rfl, ?_⟩
  show mEv TB0 ad M_X12_findWorks (dd + 4) (0, 0) (mCal TB0 ad (dd + 3)) (fun v h' z => z.1 = 0 ∧ Q v h') 0 [some (.ref m), none, none, none, none] [] h (0, 0)
  have FR0 : frm (fun a k => a = m + 23 ∨ a = m + 24) h h := frm_0 h
  have w1 := rB_n HB
  have w2 := rB_nd HB
  have w3 := rB_nu HB
  have w8 := rC_n HC
  have w5 := rC_f HC
  have WC := rC_w HC
  have hn : nd g ≤ 6 := by omega
  have h6 : 0 ≤ nc g ∧ nc g ≤ 6 := w8
  refine z_iconst (-1) dX12_findWorks_0 rfl ?_
  refine e_istore_n (L' := [_, _, _, _, _]) dX12_findWorks_1 (Nat.le_of_ble_eq_true rfl) rfl ?_
  refine z_iconst (0) dX12_findWorks_2 rfl ?_
  refine e_istore_n (L' := [_, _, _, _, _]) dX12_findWorks_3 (Nat.le_of_ble_eq_true rfl) rfl ?_
  refine e_aload_n dX12_findWorks_4 rfl ?_
  refine e_get (.ref (m + 23)) dX12_findWorks_5 tf_12_78 (rk_s hk) (congrArg va_rf (rk_r23 hk)) ?_
  refine z_iconst (0) dX12_findWorks_8 rfl ?_
  refine z_iconst (-1) dX12_findWorks_9 rfl ?_
  refine z_ist dX12_findWorks_10 (rk_a23 hk) (by decide) (by omega) (by omega) (fun h1 e2 => ?_)
  have f3 := frm_1 e2
  have k4 := rk_q (frm_s f3) hk
  have H5 := rB_c f3 (fun a k q => by omega) HB
  have H6 := rM_c f3 (fun a k q => by omega) HM
  have H7 := rC_c f3 (fun a k q => by omega) HC
  have FR8 := frm_t FR0 (frm_m (S' := (fun a k => a = m + 23 ∨ a = m + 24)) f3 (fun a k q => by omega))
  have f0 := FW_0 (w := (fun c => rI h1 (m + 23) c)) h6 (by exact (rI_eq e2 ⟨by omega, by omega⟩))
  have lp9 : ∀ (n9 : Nat) (t n v : Int) (h9 : mH), (muW g (fun c => rI h9 (m + 23) c) n).toNat = n9 → (rk h9 m) → (rB h9 m g) → (rM h9 m g) → (rC h9 m g) → (frm (fun a k => a = m + 23 ∨ a = m + 24) h h9) → (FW g (fun c => rI h9 (m + 23) c) n v) → (0 ≤ muW g (fun c => rI h9 (m + 23) c) n) → ((v = -1 ∧ t = -1) ∨ (v ≠ -1 ∧ t = suW g v)) → (∀ c : Int, 0 ≤ c → c < nc g → v ≠ -1 → rI h9 (m + 24) c = dgZ v c) → mEv TB0 ad M_X12_findWorks (dd + 4) (0, 0) (mCal TB0 ad (dd + 3)) (fun v h' z => z.1 = 0 ∧ Q v h') 11 [some (.ref m), some (.int (zI t)), some (.int (zI n)), none, none] [] h9 (0, 0) := by
    intro n9
    induction n9 using Nat.strongRecOn with
    | ind n9 ih9 =>
    intro t n v h9 hn9 k10 H11 H12 H13 FR14 F F0 T BW
    refine e_iload_n dX12_findWorks_11 rfl ?_
    have fn := FW_n F
    have sb := suW_b WC v
    refine z_if_lt 156 dX12_findWorks_12 rfl ⟨by omega, by omega⟩ (fun c15 => ?_) (fun c15 => ?_)
    · skip
      refine e_iload_n dX12_findWorks_156 rfl ?_
      refine z_iret dX12_findWorks_157 rfl ⟨rfl, ?_⟩
      have ee := FW_end h6 (show FW g (fun c => rI h9 (m + 23) c) (-1) v by rw [show (-1 : Int) = n by omega]; exact F)
      exact kq _ trivial _ FR14 ⟨v, ee, by rcases T with q | q; exact absurd q.1 ee.2; exact q.2, fun c a e => BW c a e ee.2⟩
    · skip
      refine e_iload_n dX12_findWorks_15 rfl ?_
      refine e_aload_n dX12_findWorks_16 rfl ?_
      refine z_get (nc g) dX12_findWorks_17 tf_12_277 (rk_s k10) (Or.inl rfl) (rC_nc H13) ?_
      have y16 := rC_n H13
      refine z_icmp_ne 73 dX12_findWorks_20 rfl ⟨by omega, by omega⟩ ⟨by omega, by omega⟩ (fun c17 => ?_) (fun c17 => ?_)
      · skip
        have wb : -1 ≤ rI h9 (m + 23) n ∧ rI h9 (m + 23) n ≤ 6 := F.2.2.1 (by omega) (by omega)
        refine e_aload_n dX12_findWorks_73 rfl ?_
        refine e_get (.ref (m + 23)) dX12_findWorks_74 tf_12_78 (rk_s k10) (congrArg va_rf (rk_r23 k10)) ?_
        refine e_iload_n dX12_findWorks_77 rfl ?_
        refine e_dup2 dX12_findWorks_78 rfl rfl ?_
        refine z_ild (rI h9 (m + 23) n) dX12_findWorks_79 (rk_a23 k10) (by decide) (by omega) (by omega) rfl ?_
        refine z_iconst (1) dX12_findWorks_80 rfl ?_
        refine z_iadd dX12_findWorks_81 ?_
        refine z_ist dX12_findWorks_82 (rk_a23 k10) (by decide) (by omega) (by omega) (fun h18 e19 => ?_)
        have f20 := frm_1 e19
        have k21 := rk_q (frm_s f20) k10
        have H22 := rB_c f20 (fun a k q => by omega) H11
        have H23 := rM_c f20 (fun a k q => by omega) H12
        have H24 := rC_c f20 (fun a k q => by omega) H13
        have FR25 := frm_t FR14 (frm_m (S' := (fun a k => a = m + 23 ∨ a = m + 24)) f20 (fun a k q => by omega))
        refine e_aload_n dX12_findWorks_83 rfl ?_
        refine e_get (.ref (m + 23)) dX12_findWorks_84 tf_12_78 (rk_s k21) (congrArg va_rf (rk_r23 k21)) ?_
        refine e_iload_n dX12_findWorks_87 rfl ?_
        refine z_ild (rI h9 (m + 23) n + 1) dX12_findWorks_88 (rk_a23 k21) (by decide) (by omega) (by omega) (rI_eq e19 ⟨by omega, by omega⟩) ?_
        refine e_istore_n (L' := [_, _, _, _, _]) dX12_findWorks_89 (Nat.le_of_ble_eq_true rfl) rfl ?_
        refine e_iload_n dX12_findWorks_90 rfl ?_
        refine z_bipush (6) dX12_findWorks_91 rfl ?_
        refine z_icmp_le 102 dX12_findWorks_93 rfl ⟨by omega, by omega⟩ ⟨by omega, by omega⟩ (fun c26 => ?_) (fun c26 => ?_)
        · skip
          refine e_iload_n dX12_findWorks_102 rfl ?_
          refine z_bipush (6) dX12_findWorks_103 rfl ?_
          refine z_icmp_eq 135 dX12_findWorks_105 rfl ⟨by omega, by omega⟩ ⟨by omega, by omega⟩ (fun c27 => ?_) (fun c27 => ?_)
          · skip
            have okk : okD g (fun c => rI h18 (m + 23) c) n := by first | exact ok_6 (by show rI h18 (m + 23) n = 6; rw [(rI_eq e19 ⟨by omega, by omega⟩)]; omega) | exact ok_y (d := rI h9 (m + 23) n + 1) (by exact (rI_eq e19 ⟨by omega, by omega⟩)) (by omega) (by omega) (by rcases cwr with q | q; exact q.2; exact absurd q.1 (by omega))
            refine z_iinc (L' := [_, _, _, _, _]) dX12_findWorks_135 rfl rfl ?_
            refine e_iload_n dX12_findWorks_138 rfl ?_
            refine e_aload_n dX12_findWorks_139 rfl ?_
            refine z_get (nc g) dX12_findWorks_140 tf_12_277 (rk_s k21) (Or.inl rfl) (rC_nc H24) ?_
            have y28 := rC_n H24
            refine z_icmp_ge 153 dX12_findWorks_143 rfl ⟨by omega, by omega⟩ ⟨by omega, by omega⟩ (fun c29 => ?_) (fun c29 => ?_)
            · skip
              refine e_goto 11 dX12_findWorks_153 rfl ?_
              have s1 := FW_up (w' := (fun c => rI h18 (m + 23) c)) hn h6 F (by omega) (by omega) (fun c a e => (frm_r f20 (by omega))) (by exact (rI_eq e19 ⟨by omega, by omega⟩)) okk (fun z => by omega)
              exact mEv_wk (by exact ⟨Or.inr rfl, Or.inr rfl, Or.inr rfl, Or.inl rfl, Or.inl rfl, trivial⟩) (ih9 _ (by omega) t (n + 1) v h18 rfl k21 H22 H23 H24 FR25 s1.1 s1.2.2 T (fun x a e z => ((frm_r f20 (by omega))).trans (BW x a e z)))
            · skip
              refine e_aload_n dX12_findWorks_146 rfl ?_
              refine e_get (.ref (m + 23)) dX12_findWorks_147 tf_12_78 (rk_s k21) (congrArg va_rf (rk_r23 k21)) ?_
              refine e_iload_n dX12_findWorks_150 rfl ?_
              refine z_iconst (-1) dX12_findWorks_151 rfl ?_
              refine z_ist dX12_findWorks_152 (rk_a23 k21) (by decide) (by omega) (by omega) (fun h30 e31 => ?_)
              have f32 := frm_1 e31
              have k33 := rk_q (frm_s f32) k21
              have H34 := rB_c f32 (fun a k q => by omega) H22
              have H35 := rM_c f32 (fun a k q => by omega) H23
              have H36 := rC_c f32 (fun a k q => by omega) H24
              have FR37 := frm_t FR25 (frm_m (S' := (fun a k => a = m + 23 ∨ a = m + 24)) f32 (fun a k q => by omega))
              refine e_goto 11 dX12_findWorks_153 rfl ?_
              have s1 := FW_up (w' := (fun c => rI h30 (m + 23) c)) hn h6 F (by omega) (by omega) (fun c a e => ((frm_r f32 (by omega)).trans (frm_r f20 (by omega)))) (by exact ((frm_r f32 (by omega)).trans (rI_eq e19 ⟨by omega, by omega⟩))) (okD_e (by omega) (fun o a e => ((frm_r f32 (by omega))).symm) okk) (fun _ => by exact (rI_eq e31 ⟨by omega, by omega⟩))
              exact mEv_wk (by exact ⟨Or.inr rfl, Or.inr rfl, Or.inr rfl, Or.inl rfl, Or.inl rfl, trivial⟩) (ih9 _ (by omega) t (n + 1) v h30 rfl k33 H34 H35 H36 FR37 s1.1 s1.2.2 T (fun x a e z => (((frm_r f32 (by omega)).trans (frm_r f20 (by omega)))).trans (BW x a e z)))
          · skip
            refine e_iload_n dX12_findWorks_108 rfl ?_
            refine e_aload_n dX12_findWorks_109 rfl ?_
            refine z_get (nd g) dX12_findWorks_110 tf_12_271 (rk_s k21) (Or.inl rfl) (rB_nd H22) ?_
            have y38 := rB_n H22
            refine z_icmp_ge 153 dX12_findWorks_113 rfl ⟨by omega, by omega⟩ ⟨by omega, by omega⟩ (fun c39 => ?_) (fun c39 => ?_)
            · skip
              have nok : ¬ okD g (fun c => rI h18 (m + 23) c) n := ok_n (d := rI h9 (m + 23) n + 1) (by exact (rI_eq e19 ⟨by omega, by omega⟩)) (by omega) (fun q1 q2 q3 => by first | omega | (rcases cwr with q | q; exact absurd q.1 (by omega); exact q.2))
              refine e_goto 11 dX12_findWorks_153 rfl ?_
              have s1 := FW_skip (w' := (fun c => rI h18 (m + 23) c)) hn h6 F (by omega) (by omega) (fun c a e => (frm_r f20 (by omega))) (by exact (rI_eq e19 ⟨by omega, by omega⟩)) (by show rI h9 (m + 23) n < 6; omega) nok
              exact mEv_wk (by exact ⟨Or.inr rfl, Or.inr rfl, Or.inr rfl, Or.inl rfl, Or.inl rfl, trivial⟩) (ih9 _ (by omega) t n v h18 rfl k21 H22 H23 H24 FR25 s1.1 s1.2.2 T (fun x a e z => ((frm_r f20 (by omega))).trans (BW x a e z)))
            · skip
              refine e_aload_n dX12_findWorks_116 rfl ?_
              refine e_iload_n dX12_findWorks_117 rfl ?_
              refine e_callV [.int _] dX12_findWorks_118 tm_12_286 rfl (Nat.le_of_ble_eq_true rfl) (rk_s k21) (Nat.le_of_ble_eq_true rfl) (Nat.le_refl _) (Nat.le_refl _) rfl (zp_X12_isPaired k21 H23 (rI h9 (m + 23) n + 1) ⟨by omega, by omega⟩ (by omega) (by omega) ?_)
              have y40 := wM_d (rM_w H23) (show 0 ≤ (rI h9 (m + 23) n + 1) by omega) (by omega)
              refine z_ifb_eq 153 dX12_findWorks_121 rfl (fun c41 => ?_) (fun c41 => ?_)
              · skip
                have nok : ¬ okD g (fun c => rI h18 (m + 23) c) n := ok_n (d := rI h9 (m + 23) n + 1) (by exact (rI_eq e19 ⟨by omega, by omega⟩)) (by omega) (fun q1 q2 q3 => by first | omega | (rcases cwr with q | q; exact absurd q.1 (by omega); exact q.2))
                refine e_goto 11 dX12_findWorks_153 rfl ?_
                have s1 := FW_skip (w' := (fun c => rI h18 (m + 23) c)) hn h6 F (by omega) (by omega) (fun c a e => (frm_r f20 (by omega))) (by exact (rI_eq e19 ⟨by omega, by omega⟩)) (by show rI h9 (m + 23) n < 6; omega) nok
                exact mEv_wk (by exact ⟨Or.inr rfl, Or.inr rfl, Or.inr rfl, Or.inl rfl, Or.inl rfl, trivial⟩) (ih9 _ (by omega) t n v h18 rfl k21 H22 H23 H24 FR25 s1.1 s1.2.2 T (fun x a e z => ((frm_r f20 (by omega))).trans (BW x a e z)))
              · skip
                have HW1 : rWk h18 m (fun c => rI h18 (m + 23) c) (n + 1) := fun c a e => rfl
                refine e_aload_n dX12_findWorks_124 rfl ?_
                refine e_iload_n dX12_findWorks_125 rfl ?_
                refine e_iload_n dX12_findWorks_126 rfl ?_
                refine z_iconst (1) dX12_findWorks_127 rfl ?_
                refine z_iadd dX12_findWorks_128 ?_
                refine e_callV [.int _, .int _] dX12_findWorks_129 tm_12_463 rfl (Nat.le_of_ble_eq_true rfl) (rk_s k21) (Nat.le_of_ble_eq_true rfl) (Nat.le_refl _) (Nat.le_refl _) rfl (zp_X12_canWork (rI h9 (m + 23) n + 1) ⟨by omega, by omega⟩ (n + 1) ⟨by omega, by omega⟩ k21 H22 H23 H24 HW1 (by omega) (by omega) (by omega) (fun v42 p43 => ?_))
                have cwr : (v42 = 1 ∧ okG g (rI h9 (m + 23) n + 1) (fun o => o < n + 1 ∧ (fun c => rI h18 (m + 23) c) o = rI h9 (m + 23) n + 1)) ∨ (v42 = 0 ∧ ¬ okG g (rI h9 (m + 23) n + 1) (fun o => o < n + 1 ∧ (fun c => rI h18 (m + 23) c) o = rI h9 (m + 23) n + 1)) := by assumption
                have cwb : v42 = 0 ∨ v42 = 1 := by rcases cwr with q | q; exact Or.inr q.1; exact Or.inl q.1
                refine z_if_eq 153 dX12_findWorks_132 rfl ⟨by omega, by omega⟩ (fun c44 => ?_) (fun c44 => ?_)
                · skip
                  have nok : ¬ okD g (fun c => rI h18 (m + 23) c) n := ok_n (d := rI h9 (m + 23) n + 1) (by exact (rI_eq e19 ⟨by omega, by omega⟩)) (by omega) (fun q1 q2 q3 => by first | omega | (rcases cwr with q | q; exact absurd q.1 (by omega); exact q.2))
                  refine e_goto 11 dX12_findWorks_153 rfl ?_
                  have s1 := FW_skip (w' := (fun c => rI h18 (m + 23) c)) hn h6 F (by omega) (by omega) (fun c a e => (frm_r f20 (by omega))) (by exact (rI_eq e19 ⟨by omega, by omega⟩)) (by show rI h9 (m + 23) n < 6; omega) nok
                  exact mEv_wk (by exact ⟨Or.inr rfl, Or.inr rfl, Or.inr rfl, Or.inl rfl, Or.inl rfl, trivial⟩) (ih9 _ (by omega) t n v h18 rfl k21 H22 H23 H24 FR25 s1.1 s1.2.2 T (fun x a e z => ((frm_r f20 (by omega))).trans (BW x a e z)))
                · skip
                  have okk : okD g (fun c => rI h18 (m + 23) c) n := by first | exact ok_6 (by show rI h18 (m + 23) n = 6; rw [(rI_eq e19 ⟨by omega, by omega⟩)]; omega) | exact ok_y (d := rI h9 (m + 23) n + 1) (by exact (rI_eq e19 ⟨by omega, by omega⟩)) (by omega) (by omega) (by rcases cwr with q | q; exact q.2; exact absurd q.1 (by omega))
                  refine z_iinc (L' := [_, _, _, _, _]) dX12_findWorks_135 rfl rfl ?_
                  refine e_iload_n dX12_findWorks_138 rfl ?_
                  refine e_aload_n dX12_findWorks_139 rfl ?_
                  refine z_get (nc g) dX12_findWorks_140 tf_12_277 (rk_s k21) (Or.inl rfl) (rC_nc H24) ?_
                  have y45 := rC_n H24
                  refine z_icmp_ge 153 dX12_findWorks_143 rfl ⟨by omega, by omega⟩ ⟨by omega, by omega⟩ (fun c46 => ?_) (fun c46 => ?_)
                  · skip
                    refine e_goto 11 dX12_findWorks_153 rfl ?_
                    have s1 := FW_up (w' := (fun c => rI h18 (m + 23) c)) hn h6 F (by omega) (by omega) (fun c a e => (frm_r f20 (by omega))) (by exact (rI_eq e19 ⟨by omega, by omega⟩)) okk (fun z => by omega)
                    exact mEv_wk (by exact ⟨Or.inr rfl, Or.inr rfl, Or.inr rfl, Or.inl rfl, Or.inl rfl, trivial⟩) (ih9 _ (by omega) t (n + 1) v h18 rfl k21 H22 H23 H24 FR25 s1.1 s1.2.2 T (fun x a e z => ((frm_r f20 (by omega))).trans (BW x a e z)))
                  · skip
                    refine e_aload_n dX12_findWorks_146 rfl ?_
                    refine e_get (.ref (m + 23)) dX12_findWorks_147 tf_12_78 (rk_s k21) (congrArg va_rf (rk_r23 k21)) ?_
                    refine e_iload_n dX12_findWorks_150 rfl ?_
                    refine z_iconst (-1) dX12_findWorks_151 rfl ?_
                    refine z_ist dX12_findWorks_152 (rk_a23 k21) (by decide) (by omega) (by omega) (fun h47 e48 => ?_)
                    have f49 := frm_1 e48
                    have k50 := rk_q (frm_s f49) k21
                    have H51 := rB_c f49 (fun a k q => by omega) H22
                    have H52 := rM_c f49 (fun a k q => by omega) H23
                    have H53 := rC_c f49 (fun a k q => by omega) H24
                    have FR54 := frm_t FR25 (frm_m (S' := (fun a k => a = m + 23 ∨ a = m + 24)) f49 (fun a k q => by omega))
                    refine e_goto 11 dX12_findWorks_153 rfl ?_
                    have s1 := FW_up (w' := (fun c => rI h47 (m + 23) c)) hn h6 F (by omega) (by omega) (fun c a e => ((frm_r f49 (by omega)).trans (frm_r f20 (by omega)))) (by exact ((frm_r f49 (by omega)).trans (rI_eq e19 ⟨by omega, by omega⟩))) (okD_e (by omega) (fun o a e => ((frm_r f49 (by omega))).symm) okk) (fun _ => by exact (rI_eq e48 ⟨by omega, by omega⟩))
                    exact mEv_wk (by exact ⟨Or.inr rfl, Or.inr rfl, Or.inr rfl, Or.inl rfl, Or.inl rfl, trivial⟩) (ih9 _ (by omega) t (n + 1) v h47 rfl k50 H51 H52 H53 FR54 s1.1 s1.2.2 T (fun x a e z => (((frm_r f49 (by omega)).trans (frm_r f20 (by omega)))).trans (BW x a e z)))
        · skip
          skip
          refine z_iinc (L' := [_, _, _, _, _]) dX12_findWorks_96 rfl rfl ?_
          refine e_goto 153 dX12_findWorks_99 rfl ?_
          refine e_goto 11 dX12_findWorks_153 rfl ?_
          have s1 := FW_downN (w' := (fun c => rI h18 (m + 23) c)) hn h6 F (by omega) (by omega) (by show rI h9 (m + 23) n = 6; omega) (fun c a e => (frm_r f20 (by omega)))
          exact mEv_wk (by exact ⟨Or.inr rfl, Or.inr rfl, Or.inr rfl, Or.inl rfl, Or.inl rfl, trivial⟩) (ih9 _ (by omega) t (n + (-1)) v h18 rfl k21 H22 H23 H24 FR25 s1.1 s1.2.2 T (fun x a e z => ((frm_r f20 (by omega))).trans (BW x a e z)))
      · skip
        have lf := FW_lf hn h6 (show n = nc g by omega) F
        have HW0 : rWk h9 m (fun c => rI h9 (m + 23) c) (nc g) := fun c a e => rfl
        refine e_aload_n dX12_findWorks_23 rfl ?_
        refine e_callV [] dX12_findWorks_24 tm_12_460 rfl (Nat.le_of_ble_eq_true rfl) (rk_s k10) (Nat.le_of_ble_eq_true rfl) (Nat.le_refl _) (Nat.le_refl _) rfl (zp_X12_worksFor k10 H13 HW0 ?_)
        have y55 := @suV_b g (fun c => rI h9 (m + 23) c) (rC_w H13) (nc g) (rC_n H13).1 (Int.le_refl _)
        refine e_istore_n (L' := [_, _, _, _, _]) dX12_findWorks_27 (Nat.le_of_ble_eq_true rfl) rfl ?_
        refine e_iload_n dX12_findWorks_28 rfl ?_
        refine e_iload_n dX12_findWorks_29 rfl ?_
        refine z_icmp_le 67 dX12_findWorks_30 rfl ⟨by omega, by omega⟩ ⟨by omega, by omega⟩ (fun c56 => ?_) (fun c56 => ?_)
        · skip
          skip
          refine z_iinc (L' := [_, _, _, _, _]) dX12_findWorks_67 rfl rfl ?_
          refine e_goto 11 dX12_findWorks_70 rfl ?_
          have s1 := FW_leafN (v' := v) hn h6 (by omega) F (Or.inr ⟨rfl, by omega, by omega⟩)
          exact mEv_wk (by exact ⟨Or.inr rfl, Or.inr rfl, Or.inr rfl, Or.inl rfl, Or.inl rfl, trivial⟩) (ih9 _ (by omega) t (n + (-1)) v h9 rfl k10 H11 H12 H13 FR14 s1.1 s1.2.2 T BW)
        · skip
          skip
          refine e_iload_n dX12_findWorks_33 rfl ?_
          refine e_istore_n (L' := [_, _, _, _, _]) dX12_findWorks_34 (Nat.le_of_ble_eq_true rfl) rfl ?_
          refine z_iconst (0) dX12_findWorks_35 rfl ?_
          refine e_istore (L' := [_, _, _, _, _]) dX12_findWorks_36 (Nat.le_of_ble_eq_true rfl) rfl ?_
          have lp57 : ∀ (n57 : Nat) (x : Int) (h57 : mH), (nc g - x).toNat = n57 → (rk h57 m) → (rB h57 m g) → (rM h57 m g) → (rC h57 m g) → (frm (fun a k => a = m + 23 ∨ a = m + 24) h h57) → (0 ≤ x ∧ x ≤ nc g) → (∀ c : Int, rI h57 (m + 23) c = rI h9 (m + 23) c) → (∀ c : Int, 0 ≤ c → c < x → rI h57 (m + 24) c = rI h9 (m + 23) c) → mEv TB0 ad M_X12_findWorks (dd + 4) (0, 0) (mCal TB0 ad (dd + 3)) (fun v h' z => z.1 = 0 ∧ Q v h') 38 [some (.ref m), some (.int (zI (suV g (fun c => rI h9 (m + 23) c) (nc g)))), some (.int (zI n)), some (.int (zI (suV g (fun c => rI h9 (m + 23) c) (nc g)))), some (.int (zI x))] [] h57 (0, 0) := by
            intro n57
            induction n57 using Nat.strongRecOn with
            | ind n57 ih57 =>
            intro x h57 hn57 k58 H59 H60 H61 FR62 X1 WC1 BC
            refine e_iload dX12_findWorks_38 rfl ?_
            refine e_aload_n dX12_findWorks_40 rfl ?_
            refine z_get (nc g) dX12_findWorks_41 tf_12_277 (rk_s k58) (Or.inl rfl) (rC_nc H61) ?_
            have y63 := rC_n H61
            refine z_icmp_ge 67 dX12_findWorks_44 rfl ⟨by omega, by omega⟩ ⟨by omega, by omega⟩ (fun c64 => ?_) (fun c64 => ?_)
            · skip
              refine z_iinc (L' := [_, _, _, _, _]) dX12_findWorks_67 rfl rfl ?_
              refine e_goto 11 dX12_findWorks_70 rfl ?_
              have s0 := FW_leafN (v' := cdZ (fun c => rI h9 (m + 23) c) (nc g)) hn h6 (by omega) F (Or.inl ⟨rfl, by omega⟩)
              have s1 := FW_cg (w' := (fun c => rI h57 (m + 23) c)) s0.1 s0.2.1 s0.2.2 (fun c a e => WC1 c) h6.2
              exact mEv_wk (by exact ⟨Or.inr rfl, Or.inr rfl, Or.inr rfl, Or.inl rfl, Or.inl rfl, trivial⟩) (ih9 _ (by omega) (suV g (fun c => rI h9 (m + 23) c) (nc g)) (n + (-1)) (cdZ (fun c => rI h9 (m + 23) c) (nc g)) h57 rfl k58 H59 H60 H61 FR62 s1.1 s1.2.2 (Or.inr ⟨by omega, by rw [lf.2.1]⟩) (fun x a e _ => (BC x a (by omega)).trans (lf.2.2 x a e).symm))
            · skip
              refine e_aload_n dX12_findWorks_47 rfl ?_
              refine e_get (.ref (m + 24)) dX12_findWorks_48 tf_12_81 (rk_s k58) (congrArg va_rf (rk_r24 k58)) ?_
              refine e_iload dX12_findWorks_51 rfl ?_
              refine e_aload_n dX12_findWorks_53 rfl ?_
              refine e_get (.ref (m + 23)) dX12_findWorks_54 tf_12_78 (rk_s k58) (congrArg va_rf (rk_r23 k58)) ?_
              refine e_iload dX12_findWorks_57 rfl ?_
              refine z_ild (rI h9 (m + 23) x) dX12_findWorks_59 (rk_a23 k58) (by decide) (by omega) (by omega) (WC1 x) ?_
              have y65 := rI_i h9 (m + 23) x
              refine z_ist dX12_findWorks_60 (rk_a24 k58) (by decide) (by omega) (by omega) (fun h66 e67 => ?_)
              have f68 := frm_1 e67
              have k69 := rk_q (frm_s f68) k58
              have H70 := rB_c f68 (fun a k q => by omega) H59
              have H71 := rM_c f68 (fun a k q => by omega) H60
              have H72 := rC_c f68 (fun a k q => by omega) H61
              have FR73 := frm_t FR62 (frm_m (S' := (fun a k => a = m + 23 ∨ a = m + 24)) f68 (fun a k q => by omega))
              refine z_iinc (L' := [_, _, _, _, _]) dX12_findWorks_61 rfl rfl ?_
              refine e_goto 38 dX12_findWorks_64 rfl ?_
              exact ih57 _ (by omega) (x + 1) h66 rfl k69 H70 H71 H72 FR73 (by omega) (fun c => ((frm_r f68 (by omega))).trans (WC1 c)) (fun c a e => by
                        by_cases q : c = x
                        · rw [q]; exact (rI_eq e67 ⟨by omega, by omega⟩)
                        · exact ((frm_r f68 (by omega))).trans (BC c a (by omega)))
          exact lp57 _ 0 h9 rfl k10 H11 H12 H13 FR14 (by omega) (fun c => rfl) (fun c a e => by omega)
  exact lp9 _ (-1) 0 (-1) h1 rfl k4 H5 H6 H7 FR8 f0.1 f0.2 (by omega) (fun c a e z => absurd rfl z)
def wkP (g : Int → Int) (k v : Int) : Prop := ((-1 ≤ k ∧ k < nc g) ∧ ∃ b, wkE g b ∧ v = if k = -1 then suW g b else dgZ b k) ∨ (¬ (-1 ≤ k ∧ k < nc g) ∧ v = -1)
theorem wkP_u {k : Int} (g : Int → Int) (r r' : Int) (x : wkP g k r) (y : wkP g k r') : r = r' := by
  rcases x with ⟨x1, b, x2, x3⟩ | ⟨x1, x2⟩ <;> rcases y with ⟨y1, b', y2, y3⟩ | ⟨y1, y2⟩
  · rw [x3, y3, fmax_u x2.1 y2.1]
  · exact absurd x1 y1
  · exact absurd y1 x1
  · rw [x2, y2]
set_option maxHeartbeats 1000000 in
theorem zp_X12_works_in {ad : mA} {dd : Nat} {h : mH} {Q : mQ} {m : Nat} {σ : Sg} (hk : rk h m) (HR : refT h m 0 σ)  (f : Int) (f_r : -2147483648 ≤ f ∧ f < 2147483648) (k : Int) (k_r : -2147483648 ≤ k ∧ k < 2147483648) (p1 : 0 ≤ f) (p2 : f < cn σ 0) (kq : ∀ v : Int, (wkP (sG σ f) k v) → ∀ h1, frm (fun a i => a = m ∨ (m + 9 ≤ a ∧ a < m + 30)) h h1 → Q (some (.int (zI v))) h1) : mCal TB0 ad (dd + 5) M_X12_works [.ref m, .int (zI f), .int (zI k)] h 0 0 Q := by
  refine ⟨Nat.le_of_ble_eq_true rfl, ?_⟩
  show mEv TB0 ad M_X12_works (dd + 5) (0, 0) (mCal TB0 ad (dd + 4)) (fun v h' z => z.1 = 0 ∧ Q v h') 0 [some (.ref m), some (.int (zI f)), some (.int (zI k)), none] [] h (0, 0)
  have FR0 : frm (fun a i => a = m ∨ (m + 9 ≤ a ∧ a < m + 30)) h h := frm_0 h
  have w1 := wS_n (refT_w HR)
  refine e_aload_n dX12_works_0 rfl ?_
  refine z_iconst (0) dX12_works_1 rfl ?_
  refine z_put dX12_works_2 tf_12_103 (rk_s hk) rfl (Or.inl rfl) (fun h1 e2 => ?_)
  have f3 := frm_1 e2
  have k4 := rk_q (frm_s f3) hk
  have H5 := refT_c f3 (fun a k q1 q2 => by omega) HR
  have FR6 := frm_t FR0 (frm_m (S' := (fun a i => a = m ∨ (m + 9 ≤ a ∧ a < m + 30))) f3 (fun a k q => by omega))
  refine e_aload_n dX12_works_5 rfl ?_
  refine e_iload_n dX12_works_6 rfl ?_
  refine e_callV [.int _] dX12_works_7 tm_12_292 rfl (Nat.le_of_ble_eq_true rfl) (rk_s k4) (Nat.le_of_ble_eq_true rfl) (Nat.le_refl _) (Nat.le_refl _) rfl (zp_X12_hand_in k4 H5 f ⟨by omega, by omega⟩ (by omega) (by omega) (fun  h7 f8 p9 p10 p11 p12 => ?_))
  have k13 := rk_q (frm_s f8) k4
  have H14 := refT_c f8 (fun a k q1 q2 => by omega) H5
  have FR15 := frm_t FR6 (frm_m (S' := (fun a i => a = m ∨ (m + 9 ≤ a ∧ a < m + 30))) f8 (fun a k q => by omega))
  have w5 := rB_n p9
  have w6 := rC_n p11
  refine z_ifb_eq 27 dX12_works_10 rfl (fun c16 => ?_) (fun c16 => ?_)
  · exact absurd trivial c16
  · skip
    refine e_iload_n dX12_works_13 rfl ?_
    refine z_iconst (-1) dX12_works_14 rfl ?_
    refine e_aload_n dX12_works_15 rfl ?_
    refine z_get (nc (sG σ f)) dX12_works_16 tf_12_277 (rk_s k13) (Or.inl rfl) (rC_nc p11) ?_
    have y17 := rC_n p11
    refine z_iconst (1) dX12_works_19 rfl ?_
    refine z_isub dX12_works_20 ?_
    refine e_callS [.int _, .int _, .int _] dX12_works_21 tm_12_115 rfl (Nat.le_of_ble_eq_true rfl) (Nat.le_refl _) (Nat.le_refl _) rfl (zp_X12_in k ⟨by omega, by omega⟩ (-1) ⟨by omega, by omega⟩ ((nc (sG σ f)) - 1) ⟨by omega, by omega⟩ ?_)
    refine z_ifb_ne 29 dX12_works_24 rfl (fun c18 => ?_) (fun c18 => ?_)
    · skip
      refine e_aload_n dX12_works_29 rfl ?_
      refine e_callV [] dX12_works_30 tm_12_466 rfl (Nat.le_of_ble_eq_true rfl) (rk_s k13) (Nat.le_of_ble_eq_true rfl) (Nat.le_refl _) (Nat.le_refl _) rfl (zp_X12_findWorks k13 p9 p10 p11 (fun v19 p20 h21 f22 p23 => ?_))
      have k24 := rk_q (frm_s f22) k13
      have H25 := refT_c f22 (fun a k q1 q2 => by omega) H14
      have H26 := rB_c f22 (fun a k q => by omega) p9
      have H27 := rM_c f22 (fun a k q => by omega) p10
      have H28 := rC_c f22 (fun a k q => by omega) p11
      have H29 := rK_c f22 (fun a k q1 q2 => by omega) p12
      have FR30 := frm_t FR15 (frm_m (S' := (fun a i => a = m ∨ (m + 9 ≤ a ∧ a < m + 30))) f22 (fun a k q => by omega))
      obtain ⟨bv, b1, b2, b3⟩ := p23
      have b4 := suW_b (rC_w H28) bv
      refine e_istore_n (L' := [_, _, _, _]) dX12_works_33 (Nat.le_of_ble_eq_true rfl) rfl ?_
      refine e_iload_n dX12_works_34 rfl ?_
      refine z_iconst (-1) dX12_works_35 rfl ?_
      refine z_icmp_ne 43 dX12_works_36 rfl ⟨by omega, by omega⟩ ⟨by omega, by omega⟩ (fun c31 => ?_) (fun c31 => ?_)
      · skip
        refine e_aload_n dX12_works_43 rfl ?_
        refine e_get (.ref (m + 24)) dX12_works_44 tf_12_81 (rk_s k24) (congrArg va_rf (rk_r24 k24)) ?_
        refine e_iload_n dX12_works_47 rfl ?_
        refine z_ild (dgZ bv k) dX12_works_48 (rk_a24 k24) (by decide) (by omega) (by omega) (b3 k (by omega) (by omega)) ?_
        have y32 := dg_b bv k
        refine z_iret dX12_works_49 rfl ⟨rfl, ?_⟩
        refine kq _ ?_ _ FR30
        first | exact Or.inr ⟨by omega, rfl⟩ | exact Or.inl ⟨by omega, bv, b1, by rw [if_pos (by omega)]; omega⟩ | exact Or.inl ⟨by omega, bv, b1, by rw [if_neg (by omega)]⟩
      · skip
        refine e_iload_n dX12_works_39 rfl ?_
        refine e_goto 49 dX12_works_40 rfl ?_
        refine z_iret dX12_works_49 rfl ⟨rfl, ?_⟩
        refine kq _ ?_ _ FR30
        first | exact Or.inr ⟨by omega, rfl⟩ | exact Or.inl ⟨by omega, bv, b1, by rw [if_pos (by omega)]; omega⟩ | exact Or.inl ⟨by omega, bv, b1, by rw [if_neg (by omega)]⟩
    · skip
      refine z_iconst (-1) dX12_works_27 rfl ?_
      refine z_iret dX12_works_28 rfl ⟨rfl, ?_⟩
      refine kq _ ?_ _ FR15
      first | exact Or.inr ⟨by omega, rfl⟩ | exact Or.inl ⟨by omega, bv, b1, by rw [if_pos (by omega)]; omega⟩ | exact Or.inl ⟨by omega, bv, b1, by rw [if_neg (by omega)]⟩
set_option maxHeartbeats 400000 in
theorem zp_X12_works_out {ad : mA} {dd : Nat} {h : mH} {Q : mQ} {m : Nat} {σ : Sg} (hk : rk h m) (HR : refT h m 0 σ)  (f : Int) (f_r : -2147483648 ≤ f ∧ f < 2147483648) (k : Int) (k_r : -2147483648 ≤ k ∧ k < 2147483648) (p1 : ¬ (0 ≤ f ∧ f < cn σ 0)) (kq : ∀ h1, frm (fun a i => a = m ∨ (m + 9 ≤ a ∧ a < m + 30)) h h1 → Q (some (.int (zI (-1)))) h1) : mCal TB0 ad (dd + 5) M_X12_works [.ref m, .int (zI f), .int (zI k)] h 0 0 Q := by
  refine ⟨Nat.le_of_ble_eq_true rfl, ?_⟩
  show mEv TB0 ad M_X12_works (dd + 5) (0, 0) (mCal TB0 ad (dd + 4)) (fun v h' z => z.1 = 0 ∧ Q v h') 0 [some (.ref m), some (.int (zI f)), some (.int (zI k)), none] [] h (0, 0)
  have FR0 : frm (fun a i => a = m ∨ (m + 9 ≤ a ∧ a < m + 30)) h h := frm_0 h
  have w1 := wS_n (refT_w HR)
  refine e_aload_n dX12_works_0 rfl ?_
  refine z_iconst (0) dX12_works_1 rfl ?_
  refine z_put dX12_works_2 tf_12_103 (rk_s hk) rfl (Or.inl rfl) (fun h1 e2 => ?_)
  have f3 := frm_1 e2
  have k4 := rk_q (frm_s f3) hk
  have H5 := refT_c f3 (fun a k q1 q2 => by omega) HR
  have FR6 := frm_t FR0 (frm_m (S' := (fun a i => a = m ∨ (m + 9 ≤ a ∧ a < m + 30))) f3 (fun a k q => by omega))
  refine e_aload_n dX12_works_5 rfl ?_
  refine e_iload_n dX12_works_6 rfl ?_
  refine e_callV [.int _] dX12_works_7 tm_12_292 rfl (Nat.le_of_ble_eq_true rfl) (rk_s k4) (Nat.le_of_ble_eq_true rfl) (Nat.le_refl _) (Nat.le_refl _) rfl (zp_X12_hand_out k4 H5 f ⟨by omega, by omega⟩ (by omega) ?_)
  refine z_ifb_eq 27 dX12_works_10 rfl (fun c7 => ?_) (fun c7 => ?_)
  · skip
    refine z_iconst (-1) dX12_works_27 rfl ?_
    refine z_iret dX12_works_28 rfl ⟨rfl, ?_⟩
    exact kq _ FR6
  · exfalso; exact c7
