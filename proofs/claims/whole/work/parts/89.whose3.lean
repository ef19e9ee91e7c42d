/-! WHOSE: op 18 -/
theorem dX12_nextClue_0 : decode cX12_nextClue 0 = .ok (.iconst (-1), 1) := by decide +kernel
theorem dX12_nextClue_1 : decode cX12_nextClue 1 = .ok (.istore_n 1, 1) := by decide +kernel
theorem dX12_nextClue_2 : decode cX12_nextClue 2 = .ok (.iconst 0, 1) := by decide +kernel
theorem dX12_nextClue_3 : decode cX12_nextClue 3 = .ok (.istore_n 2, 1) := by decide +kernel
theorem dX12_nextClue_4 : decode cX12_nextClue 4 = .ok (.iload_n 2, 1) := by decide +kernel
theorem dX12_nextClue_5 : decode cX12_nextClue 5 = .ok (.iconst 4, 1) := by decide +kernel
theorem dX12_nextClue_6 : decode cX12_nextClue 6 = .ok (.if_icmp .ge 40, 3) := by decide +kernel
theorem dX12_nextClue_9 : decode cX12_nextClue 9 = .ok (.aload_n 0, 1) := by decide +kernel
theorem dX12_nextClue_10 : decode cX12_nextClue 10 = .ok (.getfield 514, 3) := by decide +kernel
theorem dX12_nextClue_13 : decode cX12_nextClue 13 = .ok (.ifCond .le 33, 3) := by decide +kernel
theorem dX12_nextClue_16 : decode cX12_nextClue 16 = .ok (.iload_n 1, 1) := by decide +kernel
theorem dX12_nextClue_17 : decode cX12_nextClue 17 = .ok (.iconst (-1), 1) := by decide +kernel
theorem dX12_nextClue_18 : decode cX12_nextClue 18 = .ok (.if_icmp .eq 16, 3) := by decide +kernel
theorem dX12_nextClue_21 : decode cX12_nextClue 21 = .ok (.aload_n 0, 1) := by decide +kernel
theorem dX12_nextClue_22 : decode cX12_nextClue 22 = .ok (.iload_n 2, 1) := by decide +kernel
theorem dX12_nextClue_23 : decode cX12_nextClue 23 = .ok (.invokevirtual 521, 3) := by decide +kernel
theorem dX12_nextClue_26 : decode cX12_nextClue 26 = .ok (.aload_n 0, 1) := by decide +kernel
theorem dX12_nextClue_27 : decode cX12_nextClue 27 = .ok (.iload_n 1, 1) := by decide +kernel
theorem dX12_nextClue_28 : decode cX12_nextClue 28 = .ok (.invokevirtual 521, 3) := by decide +kernel
theorem dX12_nextClue_31 : decode cX12_nextClue 31 = .ok (.if_icmp .ge 7, 3) := by decide +kernel
theorem dX12_nextClue_34 : decode cX12_nextClue 34 = .ok (.iload_n 2, 1) := by decide +kernel
theorem dX12_nextClue_35 : decode cX12_nextClue 35 = .ok (.goto 4, 3) := by decide +kernel
theorem dX12_nextClue_38 : decode cX12_nextClue 38 = .ok (.iload_n 1, 1) := by decide +kernel
theorem dX12_nextClue_39 : decode cX12_nextClue 39 = .ok (.istore_n 1, 1) := by decide +kernel
theorem dX12_nextClue_40 : decode cX12_nextClue 40 = .ok (.iinc 2 1, 3) := by decide +kernel
theorem dX12_nextClue_43 : decode cX12_nextClue 43 = .ok (.goto (-39), 3) := by decide +kernel
theorem dX12_nextClue_46 : decode cX12_nextClue 46 = .ok (.iload_n 1, 1) := by decide +kernel
theorem dX12_nextClue_47 : decode cX12_nextClue 47 = .ok (.ireturn, 1) := by decide +kernel
theorem dX12_whose_0 : decode cX12_whose 0 = .ok (.aload_n 0, 1) := by decide +kernel
theorem dX12_whose_1 : decode cX12_whose 1 = .ok (.iconst 0, 1) := by decide +kernel
theorem dX12_whose_2 : decode cX12_whose 2 = .ok (.putfield 103, 3) := by decide +kernel
theorem dX12_whose_5 : decode cX12_whose 5 = .ok (.aload_n 0, 1) := by decide +kernel
theorem dX12_whose_6 : decode cX12_whose 6 = .ok (.iload_n 2, 1) := by decide +kernel
theorem dX12_whose_7 : decode cX12_whose 7 = .ok (.invokevirtual 505, 3) := by decide +kernel
theorem dX12_whose_10 : decode cX12_whose 10 = .ok (.ifCond .eq 11, 3) := by decide +kernel
theorem dX12_whose_13 : decode cX12_whose 13 = .ok (.aload_n 0, 1) := by decide +kernel
theorem dX12_whose_14 : decode cX12_whose 14 = .ok (.iload_n 1, 1) := by decide +kernel
theorem dX12_whose_15 : decode cX12_whose 15 = .ok (.invokevirtual 292, 3) := by decide +kernel
theorem dX12_whose_18 : decode cX12_whose 18 = .ok (.ifCond .ne 6, 3) := by decide +kernel
theorem dX12_whose_21 : decode cX12_whose 21 = .ok (.bipush (-2), 2) := by decide +kernel
theorem dX12_whose_23 : decode cX12_whose 23 = .ok (.ireturn, 1) := by decide +kernel
theorem dX12_whose_24 : decode cX12_whose 24 = .ok (.aload_n 0, 1) := by decide +kernel
theorem dX12_whose_25 : decode cX12_whose 25 = .ok (.invokevirtual 524, 3) := by decide +kernel
theorem dX12_whose_28 : decode cX12_whose 28 = .ok (.iload_n 3, 1) := by decide +kernel
theorem dX12_whose_29 : decode cX12_whose 29 = .ok (.bipush 10, 2) := by decide +kernel
theorem dX12_whose_31 : decode cX12_whose 31 = .ok (.if_icmp .lt 29, 3) := by decide +kernel
theorem dX12_whose_34 : decode cX12_whose 34 = .ok (.iload_n 3, 1) := by decide +kernel
theorem dX12_whose_35 : decode cX12_whose 35 = .ok (.bipush 10, 2) := by decide +kernel
theorem dX12_whose_37 : decode cX12_whose 37 = .ok (.isub, 1) := by decide +kernel
theorem dX12_whose_38 : decode cX12_whose 38 = .ok (.aload_n 0, 1) := by decide +kernel
theorem dX12_whose_39 : decode cX12_whose 39 = .ok (.getfield 514, 3) := by decide +kernel
theorem dX12_whose_42 : decode cX12_whose 42 = .ok (.if_icmp .ge 15, 3) := by decide +kernel
theorem dX12_whose_45 : decode cX12_whose 45 = .ok (.aload_n 0, 1) := by decide +kernel
theorem dX12_whose_46 : decode cX12_whose 46 = .ok (.getfield 91, 3) := by decide +kernel
theorem dX12_whose_49 : decode cX12_whose 49 = .ok (.iload_n 3, 1) := by decide +kernel
theorem dX12_whose_50 : decode cX12_whose 50 = .ok (.bipush 10, 2) := by decide +kernel
theorem dX12_whose_52 : decode cX12_whose 52 = .ok (.isub, 1) := by decide +kernel
theorem dX12_whose_53 : decode cX12_whose 53 = .ok (.iaload, 1) := by decide +kernel
theorem dX12_whose_54 : decode cX12_whose 54 = .ok (.goto 5, 3) := by decide +kernel
theorem dX12_whose_57 : decode cX12_whose 57 = .ok (.bipush (-2), 2) := by decide +kernel
theorem dX12_whose_59 : decode cX12_whose 59 = .ok (.ireturn, 1) := by decide +kernel
theorem dX12_whose_60 : decode cX12_whose 60 = .ok (.iload_n 3, 1) := by decide +kernel
theorem dX12_whose_61 : decode cX12_whose 61 = .ok (.tableswitch 53 0 3 #[31, 36, 42, 48], 31) := by decide +kernel
theorem dX12_whose_92 : decode cX12_whose 92 = .ok (.aload_n 0, 1) := by decide +kernel
theorem dX12_whose_93 : decode cX12_whose 93 = .ok (.getfield 514, 3) := by decide +kernel
theorem dX12_whose_96 : decode cX12_whose 96 = .ok (.ireturn, 1) := by decide +kernel
theorem dX12_whose_97 : decode cX12_whose 97 = .ok (.aload_n 0, 1) := by decide +kernel
theorem dX12_whose_98 : decode cX12_whose 98 = .ok (.iconst 0, 1) := by decide +kernel
theorem dX12_whose_99 : decode cX12_whose 99 = .ok (.invokevirtual 527, 3) := by decide +kernel
theorem dX12_whose_102 : decode cX12_whose 102 = .ok (.ireturn, 1) := by decide +kernel
theorem dX12_whose_103 : decode cX12_whose 103 = .ok (.aload_n 0, 1) := by decide +kernel
theorem dX12_whose_104 : decode cX12_whose 104 = .ok (.iconst 1, 1) := by decide +kernel
theorem dX12_whose_105 : decode cX12_whose 105 = .ok (.invokevirtual 527, 3) := by decide +kernel
theorem dX12_whose_108 : decode cX12_whose 108 = .ok (.ireturn, 1) := by decide +kernel
theorem dX12_whose_109 : decode cX12_whose 109 = .ok (.aload_n 0, 1) := by decide +kernel
theorem dX12_whose_110 : decode cX12_whose 110 = .ok (.invokevirtual 531, 3) := by decide +kernel
theorem dX12_whose_113 : decode cX12_whose 113 = .ok (.ireturn, 1) := by decide +kernel
theorem dX12_whose_114 : decode cX12_whose 114 = .ok (.bipush (-2), 2) := by decide +kernel
theorem dX12_whose_116 : decode cX12_whose 116 = .ok (.ireturn, 1) := by decide +kernel
set_option maxRecDepth 20000 in
theorem tm_12_521 : tMet TB0 12 521 = some (0, M_X12_alike) := rfl
set_option maxRecDepth 20000 in
theorem tm_12_524 : tMet TB0 12 524 = some (0, M_X12_findCouples) := rfl
set_option maxRecDepth 20000 in
theorem tm_12_527 : tMet TB0 12 527 = some (0, M_X12_sureOf) := rfl
set_option maxRecDepth 20000 in
theorem tm_12_531 : tMet TB0 12 531 = some (0, M_X12_nextClue) := rfl
set_option maxHeartbeats 1000000 in
theorem zp_X12_nextClue {ad : mA} {dd : Nat} {h : mH} {Q : mQ} {m : Nat} {g K : Int → Int} (hk : rk h m) (HB : rB h m g) (HH : rCo h m g K)    (kq : ∀ v : Int, (nxR g K v) → Q (some (.int (zI v))) h) : mCal TB0 ad (dd + 4) M_X12_nextClue [.ref m] h 0 0 Q := by
  refine ⟨Nat.le_of_ble_eq_true rfl, ?_⟩
  show mEv TB0 ad M_X12_nextClue (dd + 4) (0, 0) (mCal TB0 ad (dd + 3)) (fun v h' z => z.1 = 0 ∧ Q v h') 0 [some (.ref m), none, none] [] h (0, 0)
  have w1 := rB_n HB
  have w2 := rB_nd HB
  have w3 := rB_nu HB
  have sb := suC_b g K (show (0 : Int) ≤ 36 by omega)
  refine z_iconst (-1) dX12_nextClue_0 rfl ?_
  refine e_istore_n (L' := [_, _, _]) dX12_nextClue_1 (Nat.le_of_ble_eq_true rfl) rfl ?_
  refine z_iconst (0) dX12_nextClue_2 rfl ?_
  refine e_istore_n (L' := [_, _, _]) dX12_nextClue_3 (Nat.le_of_ble_eq_true rfl) rfl ?_
  have lp1 : ∀ (n1 : Nat) (b s : Int), (4 - s).toNat = n1 → (0 ≤ s ∧ s ≤ 4) → (fmax (fun _ => True) (fun s => - alZ g K s) s b) → (s = 0 ∨ 0 < suC g K 36) → (s = 0 → b = -1) → mEv TB0 ad M_X12_nextClue (dd + 4) (0, 0) (mCal TB0 ad (dd + 3)) (fun v h' z => z.1 = 0 ∧ Q v h') 4 [some (.ref m), some (.int (zI b)), some (.int (zI s))] [] h (0, 0) := by
    intro n1
    induction n1 using Nat.strongRecOn with
    | ind n1 ih1 =>
    intro b s  hn1  I1 I3 I7 I6
    refine e_iload_n dX12_nextClue_4 rfl ?_
    have qb := fmax_b I3
    refine z_iconst (4) dX12_nextClue_5 rfl ?_
    refine z_icmp_ge 46 dX12_nextClue_6 rfl ⟨by omega, by omega⟩ ⟨by omega, by omega⟩ (fun c2 => ?_) (fun c2 => ?_)
    · skip
      refine e_iload_n dX12_nextClue_46 rfl ?_
      refine z_iret dX12_nextClue_47 rfl ⟨rfl, ?_⟩
      refine kq _ ?_
      first | exact Or.inl ⟨by omega, by omega⟩ | exact Or.inr ⟨by omega, by rw [show (4 : Int) = s by omega]; exact I3⟩
    · skip
      refine e_aload_n dX12_nextClue_9 rfl ?_
      refine z_get (suC g K 36) dX12_nextClue_10 tf_12_514 (rk_s hk) (Or.inl rfl) HH.1 ?_
      have y3 := suC_b g K (show (0 : Int) ≤ 36 by omega)
      refine z_if_le 46 dX12_nextClue_13 rfl ⟨by omega, by omega⟩ (fun c4 => ?_) (fun c4 => ?_)
      · skip
        refine e_iload_n dX12_nextClue_46 rfl ?_
        refine z_iret dX12_nextClue_47 rfl ⟨rfl, ?_⟩
        refine kq _ ?_
        first | exact Or.inl ⟨by omega, by omega⟩ | exact Or.inr ⟨by omega, by rw [show (4 : Int) = s by omega]; exact I3⟩
      · skip
        refine e_iload_n dX12_nextClue_16 rfl ?_
        refine z_iconst (-1) dX12_nextClue_17 rfl ?_
        refine z_icmp_eq 34 dX12_nextClue_18 rfl ⟨by omega, by omega⟩ ⟨by omega, by omega⟩ (fun c5 => ?_) (fun c5 => ?_)
        · skip
          refine e_iload_n dX12_nextClue_34 rfl ?_
          refine e_goto 39 dX12_nextClue_35 rfl ?_
          refine e_istore_n (L' := [_, _, _]) dX12_nextClue_39 (Nat.le_of_ble_eq_true rfl) rfl ?_
          refine z_iinc (L' := [_, _, _]) dX12_nextClue_40 rfl rfl ?_
          refine e_goto 4 dX12_nextClue_43 rfl ?_
          exact ih1 _ (by omega) s (s + 1)  rfl  (by omega) (by first | exact fmax_new I3 (by omega) trivial (by show b = -1 ∨ -alZ g K b < -alZ g K s; omega) | exact fmax_keep I3 (by omega) (by show -alZ g K s ≤ -alZ g K b; omega)) (by omega) (by omega)
        · skip
          refine e_aload_n dX12_nextClue_21 rfl ?_
          refine e_iload_n dX12_nextClue_22 rfl ?_
          refine e_callV [.int _] dX12_nextClue_23 tm_12_521 rfl (Nat.le_of_ble_eq_true rfl) (rk_s hk) (Nat.le_of_ble_eq_true rfl) (Nat.le_refl _) (Nat.le_refl _) rfl (zp_X12_alike hk HB HH s ⟨by omega, by omega⟩ (by omega) ?_)
          have y6 := alZ_b g K s
          refine e_aload_n dX12_nextClue_26 rfl ?_
          refine e_iload_n dX12_nextClue_27 rfl ?_
          refine e_callV [.int _] dX12_nextClue_28 tm_12_521 rfl (Nat.le_of_ble_eq_true rfl) (rk_s hk) (Nat.le_of_ble_eq_true rfl) (Nat.le_refl _) (Nat.le_refl _) rfl (zp_X12_alike hk HB HH b ⟨by omega, by omega⟩ (by omega) ?_)
          have y7 := alZ_b g K b
          refine z_icmp_ge 38 dX12_nextClue_31 rfl ⟨by omega, by omega⟩ ⟨by omega, by omega⟩ (fun c8 => ?_) (fun c8 => ?_)
          · skip
            refine e_iload_n dX12_nextClue_38 rfl ?_
            refine e_istore_n (L' := [_, _, _]) dX12_nextClue_39 (Nat.le_of_ble_eq_true rfl) rfl ?_
            refine z_iinc (L' := [_, _, _]) dX12_nextClue_40 rfl rfl ?_
            refine e_goto 4 dX12_nextClue_43 rfl ?_
            exact ih1 _ (by omega) b (s + 1)  rfl  (by omega) (by first | exact fmax_new I3 (by omega) trivial (by show b = -1 ∨ -alZ g K b < -alZ g K s; omega) | exact fmax_keep I3 (by omega) (by show -alZ g K s ≤ -alZ g K b; omega)) (by omega) (by omega)
          · skip
            refine e_iload_n dX12_nextClue_34 rfl ?_
            refine e_goto 39 dX12_nextClue_35 rfl ?_
            refine e_istore_n (L' := [_, _, _]) dX12_nextClue_39 (Nat.le_of_ble_eq_true rfl) rfl ?_
            refine z_iinc (L' := [_, _, _]) dX12_nextClue_40 rfl rfl ?_
            refine e_goto 4 dX12_nextClue_43 rfl ?_
            exact ih1 _ (by omega) s (s + 1)  rfl  (by omega) (by first | exact fmax_new I3 (by omega) trivial (by show b = -1 ∨ -alZ g K b < -alZ g K s; omega) | exact fmax_keep I3 (by omega) (by show -alZ g K s ≤ -alZ g K b; omega)) (by omega) (by omega)
  exact lp1 _ (-1) 0  rfl  (by omega) (fmax_0 _ _ (by omega)) (by omega) (by omega)
theorem srR_F {P : Int → Prop} {N v : Int} (h : srR P (fun k => if False then k % 6 else k / 6) N v) : srR P (fun k => k / 6) N v := by
  have e : (fun k : Int => if False then k % 6 else k / 6) = fun k => k / 6 := funext (fun k => if_neg id)
  rw [e] at h; exact h
theorem srR_T {P : Int → Prop} {N v : Int} (h : srR P (fun k => if True then k % 6 else k / 6) N v) : srR P (fun k => k % 6) N v := by
  have e : (fun k : Int => if True then k % 6 else k / 6) = fun k => k % 6 := funext (fun k => if_pos trivial)
  rw [e] at h; exact h
def ansFK (f y none_ : Int) (R : Sg → Int → Prop) (σ : Sg) (r : Int) : Prop := (((0 ≤ f ∧ f < cn σ 0) ∧ (0 ≤ y ∧ y < cn σ 2)) ∧ R σ r) ∨ (¬ ((0 ≤ f ∧ f < cn σ 0) ∧ (0 ≤ y ∧ y < cn σ 2)) ∧ r = none_)
theorem ansFK_u {f y n : Int} {R : Sg → Int → Prop} (hR : ∀ σ r r', R σ r → R σ r' → r = r') (σ : Sg) (r r' : Int) (a : ansFK f y n R σ r) (b : ansFK f y n R σ r') : r = r' := by
  rcases a with ⟨a1, a2⟩ | ⟨a1, a2⟩ <;> rcases b with ⟨b1, b2⟩ | ⟨b1, b2⟩
  · exact hR σ r r' a2 b2
  · exact absurd a1 b1
  · exact absurd b1 a1
  · rw [a2, b2]
set_option maxHeartbeats 2000000 in
theorem zp_X12_whose_in {ad : mA} {dd : Nat} {h : mH} {Q : mQ} {m : Nat} {σ : Sg} (hk : rk h m) (HR : refT h m 0 σ)  (f : Int) (f_r : -2147483648 ≤ f ∧ f < 2147483648) (y : Int) (y_r : -2147483648 ≤ y ∧ y < 2147483648) (w : Int) (w_r : -2147483648 ≤ w ∧ w < 2147483648) (p1 : 0 ≤ f ∧ f < cn σ 0) (p2 : 0 ≤ y ∧ y < cn σ 2) (kq : ∀ v : Int, (whR (sG σ f) (sC σ y) w v) → ∀ h1, frm (fun a i => a = m ∨ (m + 9 ≤ a ∧ a < m + 30)) h h1 → Q (some (.int (zI v))) h1) : mCal TB0 ad (dd + 5) M_X12_whose [.ref m, .int (zI f), .int (zI y), .int (zI w)] h 0 0 Q := by
  refine ⟨Nat.le_of_ble_eq_true rfl, ?_⟩
  show mEv TB0 ad M_X12_whose (dd + 5) (0, 0) (mCal TB0 ad (dd + 4)) (fun v h' z => z.1 = 0 ∧ Q v h') 0 [some (.ref m), some (.int (zI f)), some (.int (zI y)), some (.int (zI w))] [] h (0, 0)
  have FR0 : frm (fun a i => a = m ∨ (m + 9 ≤ a ∧ a < m + 30)) h h := frm_0 h
  have w1 := wS_n (refT_w HR)
  refine e_aload_n dX12_whose_0 rfl ?_
  refine z_iconst (0) dX12_whose_1 rfl ?_
  refine z_put dX12_whose_2 tf_12_103 (rk_s hk) rfl (Or.inl rfl) (fun h1 e2 => ?_)
  have f3 := frm_1 e2
  have k4 := rk_q (frm_s f3) hk
  have H5 := refT_c f3 (fun a k q1 q2 => by omega) HR
  have FR6 := frm_t FR0 (frm_m (S' := (fun a i => a = m ∨ (m + 9 ≤ a ∧ a < m + 30))) f3 (fun a k q => by omega))
  refine e_aload_n dX12_whose_5 rfl ?_
  refine e_iload_n dX12_whose_6 rfl ?_
  refine e_callV [.int _] dX12_whose_7 tm_12_505 rfl (Nat.le_of_ble_eq_true rfl) (rk_s k4) (Nat.le_of_ble_eq_true rfl) (Nat.le_refl _) (Nat.le_refl _) rfl (zp_X12_hasClues_in k4 H5 y ⟨by omega, by omega⟩ (by omega) (by omega) (fun  h7 f8 p9 => ?_))
  have k10 := rk_q (frm_s f8) k4
  have H11 := refT_c f8 (fun a k q1 q2 => by omega) H5
  have FR12 := frm_t FR6 (frm_m (S' := (fun a i => a = m ∨ (m + 9 ≤ a ∧ a < m + 30))) f8 (fun a k q => by omega))
  refine z_ifb_eq 21 dX12_whose_10 rfl (fun c13 => ?_) (fun c13 => ?_)
  · exact absurd trivial c13
  · skip
    refine e_aload_n dX12_whose_13 rfl ?_
    refine e_iload_n dX12_whose_14 rfl ?_
    refine e_callV [.int _] dX12_whose_15 tm_12_292 rfl (Nat.le_of_ble_eq_true rfl) (rk_s k10) (Nat.le_of_ble_eq_true rfl) (Nat.le_refl _) (Nat.le_refl _) rfl (zp_X12_hand_in k10 H11 f ⟨by omega, by omega⟩ (by omega) (by omega) (fun  h14 f15 p16 p17 p18 p19 => ?_))
    have k20 := rk_q (frm_s f15) k10
    have H21 := refT_c f15 (fun a k q1 q2 => by omega) H11
    have H22 := rKt_c f15 (fun a k q1 q2 => by omega) p9
    have FR23 := frm_t FR12 (frm_m (S' := (fun a i => a = m ∨ (m + 9 ≤ a ∧ a < m + 30))) f15 (fun a k q => by omega))
    refine z_ifb_ne 24 dX12_whose_18 rfl (fun c24 => ?_) (fun c24 => ?_)
    · skip
      have w5 := rB_n p16
      refine e_aload_n dX12_whose_24 rfl ?_
      refine e_callV [] dX12_whose_25 tm_12_524 rfl (Nat.le_of_ble_eq_true rfl) (rk_s k20) (Nat.le_of_ble_eq_true rfl) (Nat.le_refl _) (Nat.le_refl _) rfl (zp_X12_findCouples k20 H21 p16 H22 (by omega) (fun  h25 f26 p27 => ?_))
      have k28 := rk_q (frm_s f26) k20
      have H29 := refT_c f26 (fun a k q1 q2 => by omega) H21
      have H30 := rKt_c f26 (fun a k q1 q2 => by omega) H22
      have H31 := rB_c f26 (fun a k q => by omega) p16
      have H32 := rM_c f26 (fun a k q => by omega) p17
      have H33 := rC_c f26 (fun a k q => by omega) p18
      have H34 := rK_c f26 (fun a k q1 q2 => by omega) p19
      have FR35 := frm_t FR23 (frm_m (S' := (fun a i => a = m ∨ (m + 9 ≤ a ∧ a < m + 30))) f26 (fun a k q => by omega))
      have sb := suC_b (sG σ f) (sC σ y) (show (0 : Int) ≤ 36 by omega)
      refine e_iload_n dX12_whose_28 rfl ?_
      refine z_bipush (10) dX12_whose_29 rfl ?_
      refine z_icmp_lt 60 dX12_whose_31 rfl ⟨by omega, by omega⟩ ⟨by omega, by omega⟩ (fun c36 => ?_) (fun c36 => ?_)
      · skip
        refine e_iload_n dX12_whose_60 rfl ?_
        by_cases c37 : w = 0
        · skip
          refine z_tableV (0) 92 dX12_whose_61 c37 (by decide) (by decide +kernel) ?_
          refine e_aload_n dX12_whose_92 rfl ?_
          refine z_get (suC (sG σ f) (sC σ y) 36) dX12_whose_93 tf_12_514 (rk_s k28) (Or.inl rfl) p27.1 ?_
          have y38 := suC_b (sG σ f) (sC σ y) (show (0 : Int) ≤ 36 by omega)
          refine z_iret dX12_whose_96 rfl ⟨rfl, ?_⟩
          refine kq _ ?_ _ FR35
          first | exact whR_0 (by omega) rfl | exact whR_1 (by omega) (srR_F (by assumption)) | exact whR_2 (by omega) (srR_T (by assumption)) | exact whR_3 (by omega) (by assumption) | exact whR_a (by omega) (Or.inr (nth_p (sG σ f) (sC σ y) (by omega) (by omega))) | exact whR_a (by omega) (Or.inl ⟨rfl, fun e a c p z => by have := suC_lt a p c; omega⟩) | exact whR_o (by omega) rfl
        by_cases c39 : w = 1
        · skip
          refine z_tableV (1) 97 dX12_whose_61 c39 (by decide) (by decide +kernel) ?_
          refine e_aload_n dX12_whose_97 rfl ?_
          refine z_iconst (0) dX12_whose_98 rfl ?_
          refine e_callV [.int _] dX12_whose_99 tm_12_527 rfl (Nat.le_of_ble_eq_true rfl) (rk_s k28) (Nat.le_of_ble_eq_true rfl) (Nat.le_refl _) (Nat.le_refl _) rfl (zp_X12_sureOf k28 p27 False (fun v40 p41 => ?_))
          refine z_iret dX12_whose_102 rfl ⟨rfl, ?_⟩
          refine kq _ ?_ _ FR35
          first | exact whR_0 (by omega) rfl | exact whR_1 (by omega) (srR_F (by assumption)) | exact whR_2 (by omega) (srR_T (by assumption)) | exact whR_3 (by omega) (by assumption) | exact whR_a (by omega) (Or.inr (nth_p (sG σ f) (sC σ y) (by omega) (by omega))) | exact whR_a (by omega) (Or.inl ⟨rfl, fun e a c p z => by have := suC_lt a p c; omega⟩) | exact whR_o (by omega) rfl
        by_cases c42 : w = 2
        · skip
          refine z_tableV (2) 103 dX12_whose_61 c42 (by decide) (by decide +kernel) ?_
          refine e_aload_n dX12_whose_103 rfl ?_
          refine z_iconst (1) dX12_whose_104 rfl ?_
          refine e_callV [.int _] dX12_whose_105 tm_12_527 rfl (Nat.le_of_ble_eq_true rfl) (rk_s k28) (Nat.le_of_ble_eq_true rfl) (Nat.le_refl _) (Nat.le_refl _) rfl (zp_X12_sureOf k28 p27 True (fun v43 p44 => ?_))
          refine z_iret dX12_whose_108 rfl ⟨rfl, ?_⟩
          refine kq _ ?_ _ FR35
          first | exact whR_0 (by omega) rfl | exact whR_1 (by omega) (srR_F (by assumption)) | exact whR_2 (by omega) (srR_T (by assumption)) | exact whR_3 (by omega) (by assumption) | exact whR_a (by omega) (Or.inr (nth_p (sG σ f) (sC σ y) (by omega) (by omega))) | exact whR_a (by omega) (Or.inl ⟨rfl, fun e a c p z => by have := suC_lt a p c; omega⟩) | exact whR_o (by omega) rfl
        by_cases c45 : w = 3
        · skip
          refine z_tableV (3) 109 dX12_whose_61 c45 (by decide) (by decide +kernel) ?_
          refine e_aload_n dX12_whose_109 rfl ?_
          refine e_callV [] dX12_whose_110 tm_12_531 rfl (Nat.le_of_ble_eq_true rfl) (rk_s k28) (Nat.le_of_ble_eq_true rfl) (Nat.le_refl _) (Nat.le_refl _) rfl (zp_X12_nextClue k28 H31 p27 (fun v46 p47 => ?_))
          refine z_iret dX12_whose_113 rfl ⟨rfl, ?_⟩
          refine kq _ ?_ _ FR35
          first | exact whR_0 (by omega) rfl | exact whR_1 (by omega) (srR_F (by assumption)) | exact whR_2 (by omega) (srR_T (by assumption)) | exact whR_3 (by omega) (by assumption) | exact whR_a (by omega) (Or.inr (nth_p (sG σ f) (sC σ y) (by omega) (by omega))) | exact whR_a (by omega) (Or.inl ⟨rfl, fun e a c p z => by have := suC_lt a p c; omega⟩) | exact whR_o (by omega) rfl
        refine z_tableD 114 dX12_whose_61 ⟨by omega, by omega⟩ (by omega) rfl ?_
        refine z_bipush (-2) dX12_whose_114 rfl ?_
        refine z_iret dX12_whose_116 rfl ⟨rfl, ?_⟩
        refine kq _ ?_ _ FR35
        first | exact whR_0 (by omega) rfl | exact whR_1 (by omega) (srR_F (by assumption)) | exact whR_2 (by omega) (srR_T (by assumption)) | exact whR_3 (by omega) (by assumption) | exact whR_a (by omega) (Or.inr (nth_p (sG σ f) (sC σ y) (by omega) (by omega))) | exact whR_a (by omega) (Or.inl ⟨rfl, fun e a c p z => by have := suC_lt a p c; omega⟩) | exact whR_o (by omega) rfl
      · skip
        refine e_iload_n dX12_whose_34 rfl ?_
        refine z_bipush (10) dX12_whose_35 rfl ?_
        refine z_isub dX12_whose_37 ?_
        refine e_aload_n dX12_whose_38 rfl ?_
        refine z_get (suC (sG σ f) (sC σ y) 36) dX12_whose_39 tf_12_514 (rk_s k28) (Or.inl rfl) p27.1 ?_
        have y48 := suC_b (sG σ f) (sC σ y) (show (0 : Int) ≤ 36 by omega)
        refine z_icmp_ge 57 dX12_whose_42 rfl ⟨by omega, by omega⟩ ⟨by omega, by omega⟩ (fun c49 => ?_) (fun c49 => ?_)
        · skip
          refine z_bipush (-2) dX12_whose_57 rfl ?_
          refine z_iret dX12_whose_59 rfl ⟨rfl, ?_⟩
          refine kq _ ?_ _ FR35
          first | exact whR_0 (by omega) rfl | exact whR_1 (by omega) (srR_F (by assumption)) | exact whR_2 (by omega) (srR_T (by assumption)) | exact whR_3 (by omega) (by assumption) | exact whR_a (by omega) (Or.inr (nth_p (sG σ f) (sC σ y) (by omega) (by omega))) | exact whR_a (by omega) (Or.inl ⟨rfl, fun e a c p z => by have := suC_lt a p c; omega⟩) | exact whR_o (by omega) rfl
        · skip
          refine e_aload_n dX12_whose_45 rfl ?_
          refine e_get (.ref (m + 27)) dX12_whose_46 tf_12_91 (rk_s k28) (congrArg va_rf (rk_r27 k28)) ?_
          refine e_iload_n dX12_whose_49 rfl ?_
          refine z_bipush (10) dX12_whose_50 rfl ?_
          refine z_isub dX12_whose_52 ?_
          refine z_ild (nthZ (sG σ f) (sC σ y) (w - 10)) dX12_whose_53 (rk_a27 k28) (by decide) (by omega) (by omega) (rCo_n p27 (by omega) (by omega)) ?_
          have y50 := (nth_p (sG σ f) (sC σ y) (show 0 ≤ (w - 10) by omega) (by omega)).1
          refine e_goto 59 dX12_whose_54 rfl ?_
          refine z_iret dX12_whose_59 rfl ⟨rfl, ?_⟩
          refine kq _ ?_ _ FR35
          first | exact whR_0 (by omega) rfl | exact whR_1 (by omega) (srR_F (by assumption)) | exact whR_2 (by omega) (srR_T (by assumption)) | exact whR_3 (by omega) (by assumption) | exact whR_a (by omega) (Or.inr (nth_p (sG σ f) (sC σ y) (by omega) (by omega))) | exact whR_a (by omega) (Or.inl ⟨rfl, fun e a c p z => by have := suC_lt a p c; omega⟩) | exact whR_o (by omega) rfl
    · exact absurd trivial c24
set_option maxHeartbeats 400000 in
theorem zp_X12_whose_of {ad : mA} {dd : Nat} {h : mH} {Q : mQ} {m : Nat} {σ : Sg} (hk : rk h m) (HR : refT h m 0 σ)  (f : Int) (f_r : -2147483648 ≤ f ∧ f < 2147483648) (y : Int) (y_r : -2147483648 ≤ y ∧ y < 2147483648) (w : Int) (w_r : -2147483648 ≤ w ∧ w < 2147483648) (p1 : ¬ (0 ≤ f ∧ f < cn σ 0)) (p2 : 0 ≤ y ∧ y < cn σ 2) (kq : ∀ h1, frm (fun a i => a = m ∨ (m + 9 ≤ a ∧ a < m + 30)) h h1 → Q (some (.int (zI (-2)))) h1) : mCal TB0 ad (dd + 5) M_X12_whose [.ref m, .int (zI f), .int (zI y), .int (zI w)] h 0 0 Q := by
  refine ⟨Nat.le_of_ble_eq_true rfl, ?_⟩
  show mEv TB0 ad M_X12_whose (dd + 5) (0, 0) (mCal TB0 ad (dd + 4)) (fun v h' z => z.1 = 0 ∧ Q v h') 0 [some (.ref m), some (.int (zI f)), some (.int (zI y)), some (.int (zI w))] [] h (0, 0)
  have FR0 : frm (fun a i => a = m ∨ (m + 9 ≤ a ∧ a < m + 30)) h h := frm_0 h
  have w1 := wS_n (refT_w HR)
  refine e_aload_n dX12_whose_0 rfl ?_
  refine z_iconst (0) dX12_whose_1 rfl ?_
  refine z_put dX12_whose_2 tf_12_103 (rk_s hk) rfl (Or.inl rfl) (fun h1 e2 => ?_)
  have f3 := frm_1 e2
  have k4 := rk_q (frm_s f3) hk
  have H5 := refT_c f3 (fun a k q1 q2 => by omega) HR
  have FR6 := frm_t FR0 (frm_m (S' := (fun a i => a = m ∨ (m + 9 ≤ a ∧ a < m + 30))) f3 (fun a k q => by omega))
  refine e_aload_n dX12_whose_5 rfl ?_
  refine e_iload_n dX12_whose_6 rfl ?_
  refine e_callV [.int _] dX12_whose_7 tm_12_505 rfl (Nat.le_of_ble_eq_true rfl) (rk_s k4) (Nat.le_of_ble_eq_true rfl) (Nat.le_refl _) (Nat.le_refl _) rfl (zp_X12_hasClues_in k4 H5 y ⟨by omega, by omega⟩ (by omega) (by omega) (fun  h7 f8 p9 => ?_))
  have k10 := rk_q (frm_s f8) k4
  have H11 := refT_c f8 (fun a k q1 q2 => by omega) H5
  have FR12 := frm_t FR6 (frm_m (S' := (fun a i => a = m ∨ (m + 9 ≤ a ∧ a < m + 30))) f8 (fun a k q => by omega))
  refine z_ifb_eq 21 dX12_whose_10 rfl (fun c13 => ?_) (fun c13 => ?_)
  · exact absurd trivial c13
  · skip
    refine e_aload_n dX12_whose_13 rfl ?_
    refine e_iload_n dX12_whose_14 rfl ?_
    refine e_callV [.int _] dX12_whose_15 tm_12_292 rfl (Nat.le_of_ble_eq_true rfl) (rk_s k10) (Nat.le_of_ble_eq_true rfl) (Nat.le_refl _) (Nat.le_refl _) rfl (zp_X12_hand_out k10 H11 f ⟨by omega, by omega⟩ (by omega) ?_)
    refine z_ifb_ne 24 dX12_whose_18 rfl (fun c14 => ?_) (fun c14 => ?_)
    · exfalso; exact c14
    · skip
      refine z_bipush (-2) dX12_whose_21 rfl ?_
      refine z_iret dX12_whose_23 rfl ⟨rfl, ?_⟩
      exact kq _ FR12
set_option maxHeartbeats 400000 in
theorem zp_X12_whose_oy {ad : mA} {dd : Nat} {h : mH} {Q : mQ} {m : Nat} {σ : Sg} (hk : rk h m) (HR : refT h m 0 σ)  (f : Int) (f_r : -2147483648 ≤ f ∧ f < 2147483648) (y : Int) (y_r : -2147483648 ≤ y ∧ y < 2147483648) (w : Int) (w_r : -2147483648 ≤ w ∧ w < 2147483648) (p2 : ¬ (0 ≤ y ∧ y < cn σ 2)) (kq : ∀ h1, frm (fun a i => a = m ∨ (m + 9 ≤ a ∧ a < m + 30)) h h1 → Q (some (.int (zI (-2)))) h1) : mCal TB0 ad (dd + 5) M_X12_whose [.ref m, .int (zI f), .int (zI y), .int (zI w)] h 0 0 Q := by
  refine ⟨Nat.le_of_ble_eq_true rfl, ?_⟩
  show mEv TB0 ad M_X12_whose (dd + 5) (0, 0) (mCal TB0 ad (dd + 4)) (fun v h' z => z.1 = 0 ∧ Q v h') 0 [some (.ref m), some (.int (zI f)), some (.int (zI y)), some (.int (zI w))] [] h (0, 0)
  have FR0 : frm (fun a i => a = m ∨ (m + 9 ≤ a ∧ a < m + 30)) h h := frm_0 h
  have w1 := wS_n (refT_w HR)
  refine e_aload_n dX12_whose_0 rfl ?_
  refine z_iconst (0) dX12_whose_1 rfl ?_
  refine z_put dX12_whose_2 tf_12_103 (rk_s hk) rfl (Or.inl rfl) (fun h1 e2 => ?_)
  have f3 := frm_1 e2
  have k4 := rk_q (frm_s f3) hk
  have H5 := refT_c f3 (fun a k q1 q2 => by omega) HR
  have FR6 := frm_t FR0 (frm_m (S' := (fun a i => a = m ∨ (m + 9 ≤ a ∧ a < m + 30))) f3 (fun a k q => by omega))
  refine e_aload_n dX12_whose_5 rfl ?_
  refine e_iload_n dX12_whose_6 rfl ?_
  refine e_callV [.int _] dX12_whose_7 tm_12_505 rfl (Nat.le_of_ble_eq_true rfl) (rk_s k4) (Nat.le_of_ble_eq_true rfl) (Nat.le_refl _) (Nat.le_refl _) rfl (zp_X12_hasClues_out k4 H5 y ⟨by omega, by omega⟩ (by omega) (fun  h7 f8  => ?_))
  have k9 := rk_q (frm_s f8) k4
  have H10 := refT_c f8 (fun a k q1 q2 => by omega) H5
  have FR11 := frm_t FR6 (frm_m (S' := (fun a i => a = m ∨ (m + 9 ≤ a ∧ a < m + 30))) f8 (fun a k q => by omega))
  refine z_ifb_eq 21 dX12_whose_10 rfl (fun c12 => ?_) (fun c12 => ?_)
  · skip
    refine z_bipush (-2) dX12_whose_21 rfl ?_
    refine z_iret dX12_whose_23 rfl ⟨rfl, ?_⟩
    exact kq _ FR11
  · exfalso; exact c12
theorem op18 {ad : mA} {B : Nat} : op_18 ad B (Inv B) := by
  intro a b c
  rw [← zI_toInt a]
  rw [← zI_toInt b]
  rw [← zI_toInt c]
  have ra := in_of a
  generalize a.toInt = a at *
  have rb := in_of b
  generalize b.toInt = b at *
  have rc := in_of c
  generalize c.toInt = c at *
  refine opq_I (ansFK a b (-2) (fun σ r => whR (sG σ a) (sC σ b) c r)) (ansFK_u (fun σ r r' x y => whR_u x y)) (fun h σ hk HX Q kq => ?_) (fun h σ hr HR Q kq => ?_)
  · by_cases q1 : 0 ≤ a ∧ a < cn σ 0
    · by_cases q2 : 0 ≤ b ∧ b < cn σ 2
      · exact zp_X11_whose_in hk HX a ra b rb c rc q1 q2 (fun v p => kq v _ (frm_0 h) (Or.inl ⟨⟨q1, q2⟩, p⟩))
      · exact zp_X11_whose_io hk HX a ra b rb c rc q1 q2 (kq _ _ (frm_0 h) (Or.inr ⟨fun z => q2 z.2, rfl⟩))
    · by_cases q2 : 0 ≤ b ∧ b < cn σ 2
      · exact zp_X11_whose_oi hk HX a ra b rb c rc q1 q2 (kq _ _ (frm_0 h) (Or.inr ⟨fun z => q1 z.1, rfl⟩))
      · exact zp_X11_whose_oo hk HX a ra b rb c rc q1 q2 (kq _ _ (frm_0 h) (Or.inr ⟨fun z => q1 z.1, rfl⟩))
  · by_cases q2 : 0 ≤ b ∧ b < cn σ 2
    · by_cases q1 : 0 ≤ a ∧ a < cn σ 0
      · exact zp_X12_whose_in hr HR a ra b rb c rc q1 q2 (fun v p h1 f => kq v h1 f (Or.inl ⟨⟨q1, q2⟩, p⟩))
      · exact zp_X12_whose_of hr HR a ra b rb c rc q1 q2 (fun h1 f => kq _ _ f (Or.inr ⟨fun z => q1 z.1, rfl⟩))
    · exact zp_X12_whose_oy hr HR a ra b rb c rc q2 (fun h1 f => kq _ _ f (Or.inr ⟨fun z => q2 z.2, rfl⟩))
