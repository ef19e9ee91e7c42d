/-! HIRE (begun) -/
theorem dX4_nextBidder_0 : decode cX4_nextBidder 0 = .ok (.iconst 0, 1) := by decide +kernel
theorem dX4_nextBidder_1 : decode cX4_nextBidder 1 = .ok (.istore_n 2, 1) := by decide +kernel
theorem dX4_nextBidder_2 : decode cX4_nextBidder 2 = .ok (.iload_n 2, 1) := by decide +kernel
theorem dX4_nextBidder_3 : decode cX4_nextBidder 3 = .ok (.aload_n 1, 1) := by decide +kernel
theorem dX4_nextBidder_4 : decode cX4_nextBidder 4 = .ok (.getfield 34, 3) := by decide +kernel
theorem dX4_nextBidder_7 : decode cX4_nextBidder 7 = .ok (.getfield 40, 3) := by decide +kernel
theorem dX4_nextBidder_10 : decode cX4_nextBidder 10 = .ok (.if_icmp .ge 38, 3) := by decide +kernel
theorem dX4_nextBidder_13 : decode cX4_nextBidder 13 = .ok (.iload_n 2, 1) := by decide +kernel
theorem dX4_nextBidder_14 : decode cX4_nextBidder 14 = .ok (.bipush 6, 2) := by decide +kernel
theorem dX4_nextBidder_16 : decode cX4_nextBidder 16 = .ok (.if_icmp .ge 32, 3) := by decide +kernel
theorem dX4_nextBidder_19 : decode cX4_nextBidder 19 = .ok (.aload_n 0, 1) := by decide +kernel
theorem dX4_nextBidder_20 : decode cX4_nextBidder 20 = .ok (.getfield 9, 3) := by decide +kernel
theorem dX4_nextBidder_23 : decode cX4_nextBidder 23 = .ok (.iload_n 2, 1) := by decide +kernel
theorem dX4_nextBidder_24 : decode cX4_nextBidder 24 = .ok (.iaload, 1) := by decide +kernel
theorem dX4_nextBidder_25 : decode cX4_nextBidder 25 = .ok (.iconst (-1), 1) := by decide +kernel
theorem dX4_nextBidder_26 : decode cX4_nextBidder 26 = .ok (.if_icmp .ne 16, 3) := by decide +kernel
theorem dX4_nextBidder_29 : decode cX4_nextBidder 29 = .ok (.aload_n 0, 1) := by decide +kernel
theorem dX4_nextBidder_30 : decode cX4_nextBidder 30 = .ok (.getfield 25, 3) := by decide +kernel
theorem dX4_nextBidder_33 : decode cX4_nextBidder 33 = .ok (.iload_n 2, 1) := by decide +kernel
theorem dX4_nextBidder_34 : decode cX4_nextBidder 34 = .ok (.ishr, 1) := by decide +kernel
theorem dX4_nextBidder_35 : decode cX4_nextBidder 35 = .ok (.iconst 1, 1) := by decide +kernel
theorem dX4_nextBidder_36 : decode cX4_nextBidder 36 = .ok (.iand, 1) := by decide +kernel
theorem dX4_nextBidder_37 : decode cX4_nextBidder 37 = .ok (.ifCond .ne 5, 3) := by decide +kernel
theorem dX4_nextBidder_40 : decode cX4_nextBidder 40 = .ok (.iload_n 2, 1) := by decide +kernel
theorem dX4_nextBidder_41 : decode cX4_nextBidder 41 = .ok (.ireturn, 1) := by decide +kernel
theorem dX4_nextBidder_42 : decode cX4_nextBidder 42 = .ok (.iinc 2 1, 3) := by decide +kernel
theorem dX4_nextBidder_45 : decode cX4_nextBidder 45 = .ok (.goto (-43), 3) := by decide +kernel
theorem dX4_nextBidder_48 : decode cX4_nextBidder 48 = .ok (.iconst (-1), 1) := by decide +kernel
theorem dX4_nextBidder_49 : decode cX4_nextBidder 49 = .ok (.ireturn, 1) := by decide +kernel
theorem dX4_bestWorth_0 : decode cX4_bestWorth 0 = .ok (.iconst (-1), 1) := by decide +kernel
theorem dX4_bestWorth_1 : decode cX4_bestWorth 1 = .ok (.istore_n 3, 1) := by decide +kernel
theorem dX4_bestWorth_2 : decode cX4_bestWorth 2 = .ok (.iconst 0, 1) := by decide +kernel
theorem dX4_bestWorth_3 : decode cX4_bestWorth 3 = .ok (.istore 4, 2) := by decide +kernel
theorem dX4_bestWorth_5 : decode cX4_bestWorth 5 = .ok (.iload 4, 2) := by decide +kernel
theorem dX4_bestWorth_7 : decode cX4_bestWorth 7 = .ok (.aload_n 1, 1) := by decide +kernel
theorem dX4_bestWorth_8 : decode cX4_bestWorth 8 = .ok (.getfield 79, 3) := by decide +kernel
theorem dX4_bestWorth_11 : decode cX4_bestWorth 11 = .ok (.getfield 40, 3) := by decide +kernel
theorem dX4_bestWorth_14 : decode cX4_bestWorth 14 = .ok (.if_icmp .ge 55, 3) := by decide +kernel
theorem dX4_bestWorth_17 : decode cX4_bestWorth 17 = .ok (.iload 4, 2) := by decide +kernel
theorem dX4_bestWorth_19 : decode cX4_bestWorth 19 = .ok (.bipush 6, 2) := by decide +kernel
theorem dX4_bestWorth_21 : decode cX4_bestWorth 21 = .ok (.if_icmp .ge 48, 3) := by decide +kernel
theorem dX4_bestWorth_24 : decode cX4_bestWorth 24 = .ok (.iload_n 3, 1) := by decide +kernel
theorem dX4_bestWorth_25 : decode cX4_bestWorth 25 = .ok (.iconst (-1), 1) := by decide +kernel
theorem dX4_bestWorth_26 : decode cX4_bestWorth 26 = .ok (.if_icmp .eq 34, 3) := by decide +kernel
theorem dX4_bestWorth_29 : decode cX4_bestWorth 29 = .ok (.aload_n 1, 1) := by decide +kernel
theorem dX4_bestWorth_30 : decode cX4_bestWorth 30 = .ok (.iload_n 2, 1) := by decide +kernel
theorem dX4_bestWorth_31 : decode cX4_bestWorth 31 = .ok (.iload 4, 2) := by decide +kernel
theorem dX4_bestWorth_33 : decode cX4_bestWorth 33 = .ok (.invokevirtual 64, 3) := by decide +kernel
theorem dX4_bestWorth_36 : decode cX4_bestWorth 36 = .ok (.aload_n 0, 1) := by decide +kernel
theorem dX4_bestWorth_37 : decode cX4_bestWorth 37 = .ok (.getfield 15, 3) := by decide +kernel
theorem dX4_bestWorth_40 : decode cX4_bestWorth 40 = .ok (.iload 4, 2) := by decide +kernel
theorem dX4_bestWorth_42 : decode cX4_bestWorth 42 = .ok (.iaload, 1) := by decide +kernel
theorem dX4_bestWorth_43 : decode cX4_bestWorth 43 = .ok (.isub, 1) := by decide +kernel
theorem dX4_bestWorth_44 : decode cX4_bestWorth 44 = .ok (.aload_n 1, 1) := by decide +kernel
theorem dX4_bestWorth_45 : decode cX4_bestWorth 45 = .ok (.iload_n 2, 1) := by decide +kernel
theorem dX4_bestWorth_46 : decode cX4_bestWorth 46 = .ok (.iload_n 3, 1) := by decide +kernel
theorem dX4_bestWorth_47 : decode cX4_bestWorth 47 = .ok (.invokevirtual 64, 3) := by decide +kernel
theorem dX4_bestWorth_50 : decode cX4_bestWorth 50 = .ok (.aload_n 0, 1) := by decide +kernel
theorem dX4_bestWorth_51 : decode cX4_bestWorth 51 = .ok (.getfield 15, 3) := by decide +kernel
theorem dX4_bestWorth_54 : decode cX4_bestWorth 54 = .ok (.iload_n 3, 1) := by decide +kernel
theorem dX4_bestWorth_55 : decode cX4_bestWorth 55 = .ok (.iaload, 1) := by decide +kernel
theorem dX4_bestWorth_56 : decode cX4_bestWorth 56 = .ok (.isub, 1) := by decide +kernel
theorem dX4_bestWorth_57 : decode cX4_bestWorth 57 = .ok (.if_icmp .le 6, 3) := by decide +kernel
theorem dX4_bestWorth_60 : decode cX4_bestWorth 60 = .ok (.iload 4, 2) := by decide +kernel
theorem dX4_bestWorth_62 : decode cX4_bestWorth 62 = .ok (.istore_n 3, 1) := by decide +kernel
theorem dX4_bestWorth_63 : decode cX4_bestWorth 63 = .ok (.iinc 4 1, 3) := by decide +kernel
theorem dX4_bestWorth_66 : decode cX4_bestWorth 66 = .ok (.goto (-61), 3) := by decide +kernel
theorem dX4_bestWorth_69 : decode cX4_bestWorth 69 = .ok (.iload_n 3, 1) := by decide +kernel
theorem dX4_bestWorth_70 : decode cX4_bestWorth 70 = .ok (.ireturn, 1) := by decide +kernel
theorem dX12_wants_0 : decode cX12_wants 0 = .ok (.iconst (-1), 1) := by decide +kernel
theorem dX12_wants_1 : decode cX12_wants 1 = .ok (.istore_n 2, 1) := by decide +kernel
theorem dX12_wants_2 : decode cX12_wants 2 = .ok (.iconst 0, 1) := by decide +kernel
theorem dX12_wants_3 : decode cX12_wants 3 = .ok (.istore_n 3, 1) := by decide +kernel
theorem dX12_wants_4 : decode cX12_wants 4 = .ok (.iload_n 3, 1) := by decide +kernel
theorem dX12_wants_5 : decode cX12_wants 5 = .ok (.aload_n 0, 1) := by decide +kernel
theorem dX12_wants_6 : decode cX12_wants 6 = .ok (.getfield 274, 3) := by decide +kernel
theorem dX12_wants_9 : decode cX12_wants 9 = .ok (.if_icmp .ge 49, 3) := by decide +kernel
theorem dX12_wants_12 : decode cX12_wants 12 = .ok (.iload_n 2, 1) := by decide +kernel
theorem dX12_wants_13 : decode cX12_wants 13 = .ok (.iconst (-1), 1) := by decide +kernel
theorem dX12_wants_14 : decode cX12_wants 14 = .ok (.if_icmp .eq 32, 3) := by decide +kernel
theorem dX12_wants_17 : decode cX12_wants 17 = .ok (.aload_n 0, 1) := by decide +kernel
theorem dX12_wants_18 : decode cX12_wants 18 = .ok (.iload_n 1, 1) := by decide +kernel
theorem dX12_wants_19 : decode cX12_wants 19 = .ok (.iload_n 3, 1) := by decide +kernel
theorem dX12_wants_20 : decode cX12_wants 20 = .ok (.invokevirtual 283, 3) := by decide +kernel
theorem dX12_wants_23 : decode cX12_wants 23 = .ok (.aload_n 0, 1) := by decide +kernel
theorem dX12_wants_24 : decode cX12_wants 24 = .ok (.getfield 94, 3) := by decide +kernel
theorem dX12_wants_27 : decode cX12_wants 27 = .ok (.iload_n 3, 1) := by decide +kernel
theorem dX12_wants_28 : decode cX12_wants 28 = .ok (.iaload, 1) := by decide +kernel
theorem dX12_wants_29 : decode cX12_wants 29 = .ok (.isub, 1) := by decide +kernel
theorem dX12_wants_30 : decode cX12_wants 30 = .ok (.aload_n 0, 1) := by decide +kernel
theorem dX12_wants_31 : decode cX12_wants 31 = .ok (.iload_n 1, 1) := by decide +kernel
theorem dX12_wants_32 : decode cX12_wants 32 = .ok (.iload_n 2, 1) := by decide +kernel
theorem dX12_wants_33 : decode cX12_wants 33 = .ok (.invokevirtual 283, 3) := by decide +kernel
theorem dX12_wants_36 : decode cX12_wants 36 = .ok (.aload_n 0, 1) := by decide +kernel
theorem dX12_wants_37 : decode cX12_wants 37 = .ok (.getfield 94, 3) := by decide +kernel
theorem dX12_wants_40 : decode cX12_wants 40 = .ok (.iload_n 2, 1) := by decide +kernel
theorem dX12_wants_41 : decode cX12_wants 41 = .ok (.iaload, 1) := by decide +kernel
theorem dX12_wants_42 : decode cX12_wants 42 = .ok (.isub, 1) := by decide +kernel
theorem dX12_wants_43 : decode cX12_wants 43 = .ok (.if_icmp .le 7, 3) := by decide +kernel
theorem dX12_wants_46 : decode cX12_wants 46 = .ok (.iload_n 3, 1) := by decide +kernel
theorem dX12_wants_47 : decode cX12_wants 47 = .ok (.goto 4, 3) := by decide +kernel
theorem dX12_wants_50 : decode cX12_wants 50 = .ok (.iload_n 2, 1) := by decide +kernel
theorem dX12_wants_51 : decode cX12_wants 51 = .ok (.istore_n 2, 1) := by decide +kernel
theorem dX12_wants_52 : decode cX12_wants 52 = .ok (.iinc 3 1, 3) := by decide +kernel
theorem dX12_wants_55 : decode cX12_wants 55 = .ok (.goto (-51), 3) := by decide +kernel
theorem dX12_wants_58 : decode cX12_wants 58 = .ok (.iload_n 2, 1) := by decide +kernel
theorem dX12_wants_59 : decode cX12_wants 59 = .ok (.iconst (-1), 1) := by decide +kernel
theorem dX12_wants_60 : decode cX12_wants 60 = .ok (.if_icmp .eq 18, 3) := by decide +kernel
theorem dX12_wants_63 : decode cX12_wants 63 = .ok (.aload_n 0, 1) := by decide +kernel
theorem dX12_wants_64 : decode cX12_wants 64 = .ok (.iload_n 1, 1) := by decide +kernel
theorem dX12_wants_65 : decode cX12_wants 65 = .ok (.iload_n 2, 1) := by decide +kernel
theorem dX12_wants_66 : decode cX12_wants 66 = .ok (.invokevirtual 283, 3) := by decide +kernel
theorem dX12_wants_69 : decode cX12_wants 69 = .ok (.aload_n 0, 1) := by decide +kernel
theorem dX12_wants_70 : decode cX12_wants 70 = .ok (.getfield 94, 3) := by decide +kernel
theorem dX12_wants_73 : decode cX12_wants 73 = .ok (.iload_n 2, 1) := by decide +kernel
theorem dX12_wants_74 : decode cX12_wants 74 = .ok (.iaload, 1) := by decide +kernel
theorem dX12_wants_75 : decode cX12_wants 75 = .ok (.if_icmp .ge 7, 3) := by decide +kernel
theorem dX12_wants_78 : decode cX12_wants 78 = .ok (.iconst (-1), 1) := by decide +kernel
theorem dX12_wants_79 : decode cX12_wants 79 = .ok (.goto 4, 3) := by decide +kernel
theorem dX12_wants_82 : decode cX12_wants 82 = .ok (.iload_n 2, 1) := by decide +kernel
theorem dX12_wants_83 : decode cX12_wants 83 = .ok (.ireturn, 1) := by decide +kernel
theorem tf_4_79 : tFld TB0 4 79 = some (2, 1) := rfl
/-! HIRE: the state (r: whom each down has, 6 none; t: who has each up, -1 nobody; w: wages; l: who left) -/
def wfH (g r t w : Int → Int) (l : Int) : Prop := (∀ d, 0 ≤ d → d < 6 → r d = 6 ∨ (d < nd g ∧ (0 ≤ r d ∧ r d < 6) ∧ r d < nu g ∧ t (r d) = d)) ∧ (∀ u, 0 ≤ u → u < 6 → t u = -1 ∨ (u < nu g ∧ (0 ≤ t u ∧ t u < 6) ∧ t u < nd g ∧ r (t u) = u)) ∧ (∀ u, 0 ≤ u → u < 6 → 0 ≤ w u ∧ w u ≤ 31) ∧ (0 ≤ l ∧ l < 64)
def gotZ (x : Int) : Int := if x = 6 then -1 else x
theorem gotZ_b {g r t w : Int → Int} {l : Int} (W : wfH g r t w l) {d : Int} (h0 : 0 ≤ d) (h1 : d < 6) : (gotZ (r d) = -1 ∧ r d = 6) ∨ (gotZ (r d) = r d ∧ r d ≠ 6 ∧ 0 ≤ r d ∧ r d < 6) := by
  unfold gotZ
  rcases W.1 d h0 h1 with q | q
  · rw [if_pos q]; exact Or.inl ⟨rfl, q⟩
  · rw [if_neg (by omega)]; exact Or.inr ⟨rfl, by omega, by omega, by omega⟩
def hiC (h : mH) (y : Nat) (g r t w : Int → Int) (l : Int) : Prop := wfH g r t w l ∧ (∀ d : Int, 0 ≤ d → d < 6 → rI h (y + 1) d = gotZ (r d)) ∧ (∀ u : Int, 0 ≤ u → u < 6 → rI h (y + 2) u = w u) ∧ (∀ u : Int, 0 ≤ u → u < 6 → rI h (y + 3) u = t u) ∧ rI h y 4 = l
theorem hiC_c {S : Nat → Nat → Prop} {h h1 : mH} {y : Nat} {g r t w : Int → Int} {l : Int} (f : frm S h h1) (n : ∀ a k, (a = y ∧ k = 4) ∨ (y + 1 ≤ a ∧ a ≤ y + 3) → ¬ S a k) (H : hiC h y g r t w l) : hiC h1 y g r t w l := ⟨H.1, fun d a c => (frm_r f (n _ _ (by omega))).trans (H.2.1 d a c), fun d a c => (frm_r f (n _ _ (by omega))).trans (H.2.2.1 d a c), fun d a c => (frm_r f (n _ _ (by omega))).trans (H.2.2.2.1 d a c), (frm_r f (n _ _ (by omega))).trans H.2.2.2.2⟩
def hiR (h : mH) (m : Nat) (g r t w : Int → Int) (l : Int) : Prop := wfH g r t w l ∧ (∀ d : Int, 0 ≤ d → d < 6 → rI h (m + 16) d = r d) ∧ (∀ u : Int, 0 ≤ u → u < 6 → rI h (m + 28) u = w u)
theorem hiR_c {S : Nat → Nat → Prop} {h h1 : mH} {m : Nat} {g r t w : Int → Int} {l : Int} (f : frm S h h1) (n : ∀ a k, a = m + 16 ∨ a = m + 28 → ¬ S a k) (H : hiR h m g r t w l) : hiR h1 m g r t w l := ⟨H.1, fun d a c => (frm_r f (n _ _ (by omega))).trans (H.2.1 d a c), fun d a c => (frm_r f (n _ _ (by omega))).trans (H.2.2 d a c)⟩
def wth (g w : Int → Int) (d u : Int) : Int := fitZ g d u - w u
/-- who bids next -/
def nxB (g r : Int → Int) (l v : Int) : Prop := fst1 (fun d => r d = 6 ∧ ¬ hasZ l d) (nd g) v
set_option maxHeartbeats 400000 in
theorem zp_X4_nextBidder {ad : mA} {dd : Nat} {h : mH} {Q : mQ} {y f : Nat} {g r t w : Int → Int} {l : Int} (hk : mkk h y) (hk1 : fgk h f) (HF : isF h f g) (HH : hiC h y g r t w l)    (kq : ∀ v : Int, (nxB g r l v) → Q (some (.int (zI v))) h) : mCal TB0 ad (dd + 1) M_X4_nextBidder [.ref y, .ref f] h 0 0 Q := by
  refine ⟨Nat.le_of_ble_eq_true rfl, ?_⟩
  show mEv TB0 ad M_X4_nextBidder (dd + 1) (0, 0) (mCal TB0 ad (dd + 0)) (fun v h' z => z.1 = 0 ∧ Q v h') 0 [some (.ref y), some (.ref f), none] [] h (0, 0)
  have w1 := isF_n HF
  have w2 := isF_nd HF
  have w3 := isF_nu HF
  have w4 := isF_nc HF
  have W := isF_w HF
  have wl := HH.1.2.2.2
  refine z_iconst (0) dX4_nextBidder_0 rfl ?_
  refine e_istore_n (L' := [_, _, _]) dX4_nextBidder_1 (Nat.le_of_ble_eq_true rfl) rfl ?_
  have lp1 : ∀ (n1 : Nat) (i : Int), (6 - i).toNat = n1 → (0 ≤ i) → (i ≤ nd g) → (∀ d, 0 ≤ d → d < i → ¬ (r d = 6 ∧ ¬ hasZ l d)) → mEv TB0 ad M_X4_nextBidder (dd + 1) (0, 0) (mCal TB0 ad (dd + 0)) (fun v h' z => z.1 = 0 ∧ Q v h') 2 [some (.ref y), some (.ref f), some (.int (zI i))] [] h (0, 0) := by
    intro n1
    induction n1 using Nat.strongRecOn with
    | ind n1 ih1 =>
    intro i  hn1  I1 I2 I3
    refine e_iload_n dX4_nextBidder_2 rfl ?_
    refine e_aload_n dX4_nextBidder_3 rfl ?_
    refine e_get (.ref (f + 1)) dX4_nextBidder_4 tf_4_34 (congrArg Prod.fst (fg_s0 hk1)) (congrArg va_rf (fg_r0_0 hk1)) ?_
    refine z_get (nd g) dX4_nextBidder_7 tf_4_40 (congrArg Prod.fst (fg_s1 hk1)) (Or.inl rfl) (isF_nd HF) ?_
    have y2 := isF_n HF
    refine z_icmp_ge 48 dX4_nextBidder_10 rfl ⟨by omega, by omega⟩ ⟨by omega, by omega⟩ (fun c3 => ?_) (fun c3 => ?_)
    · skip
      refine z_iconst (-1) dX4_nextBidder_48 rfl ?_
      refine z_iret dX4_nextBidder_49 rfl ⟨rfl, ?_⟩
      refine kq _ ?_
      first | exact Or.inl ⟨rfl, fun d a c => I3 d a (by omega)⟩ | exact Or.inr ⟨by omega, ⟨by omega, fun z => absurd (hasZ_i.mpr z) (by omega)⟩, I3⟩
    · skip
      refine e_iload_n dX4_nextBidder_13 rfl ?_
      refine z_bipush (6) dX4_nextBidder_14 rfl ?_
      refine z_icmp_ge 48 dX4_nextBidder_16 rfl ⟨by omega, by omega⟩ ⟨by omega, by omega⟩ (fun c4 => ?_) (fun c4 => ?_)
      · skip
        refine z_iconst (-1) dX4_nextBidder_48 rfl ?_
        refine z_iret dX4_nextBidder_49 rfl ⟨rfl, ?_⟩
        refine kq _ ?_
        first | exact Or.inl ⟨rfl, fun d a c => I3 d a (by omega)⟩ | exact Or.inr ⟨by omega, ⟨by omega, fun z => absurd (hasZ_i.mpr z) (by omega)⟩, I3⟩
      · skip
        refine e_aload_n dX4_nextBidder_19 rfl ?_
        refine e_get (.ref (y + 1)) dX4_nextBidder_20 tf_4_9 (congrArg Prod.fst (mk_s0 hk)) (congrArg va_rf (mk_r0_0 hk)) ?_
        refine e_iload_n dX4_nextBidder_23 rfl ?_
        refine z_ild (gotZ (r i)) dX4_nextBidder_24 (mk_s1 hk) (by decide) (by omega) (by omega) (HH.2.1 i (by omega) (by omega)) ?_
        have y5 := gotZ_b HH.1 (show 0 ≤ i by omega) (by omega)
        refine z_iconst (-1) dX4_nextBidder_25 rfl ?_
        refine z_icmp_ne 42 dX4_nextBidder_26 rfl ⟨by omega, by omega⟩ ⟨by omega, by omega⟩ (fun c6 => ?_) (fun c6 => ?_)
        · skip
          refine z_iinc (L' := [_, _, _]) dX4_nextBidder_42 rfl rfl ?_
          refine e_goto 2 dX4_nextBidder_45 rfl ?_
          exact ih1 _ (by omega) (i + 1)  rfl  (by omega) (by omega) (allS (P := fun d => r d = 6 ∧ ¬ hasZ l d) I3 (by rintro ⟨z1, z2⟩; first | omega | exact z2 (hasZ_i.mp (by omega))))
        · skip
          refine e_aload_n dX4_nextBidder_29 rfl ?_
          refine z_get l dX4_nextBidder_30 tf_4_25 (congrArg Prod.fst (mk_s0 hk)) (Or.inl rfl) HH.2.2.2.2 ?_
          have y7 := HH.1.2.2.2
          refine e_iload_n dX4_nextBidder_33 rfl ?_
          refine z_ishr dX4_nextBidder_34 (by omega) (by omega) (by omega) (by omega) ?_
          have y8 := shrZ_b l i
          refine z_iconst (1) dX4_nextBidder_35 rfl ?_
          refine z_iand dX4_nextBidder_36 (by omega) (by omega) (by omega) (by omega) ?_
          have y9 := andZ_b (shrZ l i) 1
          refine z_if_ne 42 dX4_nextBidder_37 rfl ⟨by omega, by omega⟩ (fun c10 => ?_) (fun c10 => ?_)
          · skip
            refine z_iinc (L' := [_, _, _]) dX4_nextBidder_42 rfl rfl ?_
            refine e_goto 2 dX4_nextBidder_45 rfl ?_
            exact ih1 _ (by omega) (i + 1)  rfl  (by omega) (by omega) (allS (P := fun d => r d = 6 ∧ ¬ hasZ l d) I3 (by rintro ⟨z1, z2⟩; first | omega | exact z2 (hasZ_i.mp (by omega))))
          · skip
            refine e_iload_n dX4_nextBidder_40 rfl ?_
            refine z_iret dX4_nextBidder_41 rfl ⟨rfl, ?_⟩
            refine kq _ ?_
            first | exact Or.inl ⟨rfl, fun d a c => I3 d a (by omega)⟩ | exact Or.inr ⟨by omega, ⟨by omega, fun z => absurd (hasZ_i.mpr z) (by omega)⟩, I3⟩
  exact lp1 _ 0  rfl  (by omega) (by omega) (fun d a c => by omega)
set_option maxHeartbeats 400000 in
theorem zp_X4_bestWorth {ad : mA} {dd : Nat} {h : mH} {Q : mQ} {y f : Nat} {g r t w : Int → Int} {l : Int} (hk : mkk h y) (hk1 : fgk h f) (HF : isF h f g) (HH : hiC h y g r t w l)  (d : Int) (d_r : -2147483648 ≤ d ∧ d < 2147483648) (p1 : 0 ≤ d ∧ d < nd g) (kq : ∀ v : Int, (fmax (fun _ => True) (wth g w d) (nu g) v) → Q (some (.int (zI v))) h) : mCal TB0 ad (dd + 3) M_X4_bestWorth [.ref y, .ref f, .int (zI d)] h 0 0 Q := by
  refine ⟨Nat.le_of_ble_eq_true rfl, ?_⟩
  show mEv TB0 ad M_X4_bestWorth (dd + 3) (0, 0) (mCal TB0 ad (dd + 2)) (fun v h' z => z.1 = 0 ∧ Q v h') 0 [some (.ref y), some (.ref f), some (.int (zI d)), none, none] [] h (0, 0)
  have w1 := isF_n HF
  have w2 := isF_nd HF
  have w3 := isF_nu HF
  have w4 := isF_nc HF
  have W := isF_w HF
  refine z_iconst (-1) dX4_bestWorth_0 rfl ?_
  refine e_istore_n (L' := [_, _, _, _, _]) dX4_bestWorth_1 (Nat.le_of_ble_eq_true rfl) rfl ?_
  refine z_iconst (0) dX4_bestWorth_2 rfl ?_
  refine e_istore (L' := [_, _, _, _, _]) dX4_bestWorth_3 (Nat.le_of_ble_eq_true rfl) rfl ?_
  have lp1 : ∀ (n1 : Nat) (b i : Int), (nu g - i).toNat = n1 → (0 ≤ i) → (i ≤ nu g) → (fmax (fun _ => True) (wth g w d) i b) → mEv TB0 ad M_X4_bestWorth (dd + 3) (0, 0) (mCal TB0 ad (dd + 2)) (fun v h' z => z.1 = 0 ∧ Q v h') 5 [some (.ref y), some (.ref f), some (.int (zI d)), some (.int (zI b)), some (.int (zI i))] [] h (0, 0) := by
    intro n1
    induction n1 using Nat.strongRecOn with
    | ind n1 ih1 =>
    intro b i  hn1  I1 I2 I3
    refine e_iload dX4_bestWorth_5 rfl ?_
    refine e_aload_n dX4_bestWorth_7 rfl ?_
    refine e_get (.ref (f + 7)) dX4_bestWorth_8 tf_4_79 (congrArg Prod.fst (fg_s0 hk1)) (congrArg va_rf (fg_r0_1 hk1)) ?_
    refine z_get (nu g) dX4_bestWorth_11 tf_4_40 (congrArg Prod.fst (fg_s7 hk1)) (Or.inl rfl) (isF_nu HF) ?_
    have y2 := isF_n HF
    refine z_icmp_ge 69 dX4_bestWorth_14 rfl ⟨by omega, by omega⟩ ⟨by omega, by omega⟩ (fun c3 => ?_) (fun c3 => ?_)
    · skip
      have qb := fmax_b I3
      refine e_iload_n dX4_bestWorth_69 rfl ?_
      refine z_iret dX4_bestWorth_70 rfl ⟨rfl, ?_⟩
      refine kq _ ?_
      rw [show nu g = i by omega]; exact I3
    · skip
      refine e_iload dX4_bestWorth_17 rfl ?_
      refine z_bipush (6) dX4_bestWorth_19 rfl ?_
      refine z_icmp_ge 69 dX4_bestWorth_21 rfl ⟨by omega, by omega⟩ ⟨by omega, by omega⟩ (fun c4 => ?_) (fun c4 => ?_)
      · skip
        have qb := fmax_b I3
        refine e_iload_n dX4_bestWorth_69 rfl ?_
        refine z_iret dX4_bestWorth_70 rfl ⟨rfl, ?_⟩
        refine kq _ ?_
        rw [show nu g = i by omega]; exact I3
      · skip
        have qb := fmax_b I3
        refine e_iload_n dX4_bestWorth_24 rfl ?_
        refine z_iconst (-1) dX4_bestWorth_25 rfl ?_
        refine z_icmp_eq 60 dX4_bestWorth_26 rfl ⟨by omega, by omega⟩ ⟨by omega, by omega⟩ (fun c5 => ?_) (fun c5 => ?_)
        · skip
          refine e_iload dX4_bestWorth_60 rfl ?_
          refine e_istore_n (L' := [_, _, _, _, _]) dX4_bestWorth_62 (Nat.le_of_ble_eq_true rfl) rfl ?_
          refine z_iinc (L' := [_, _, _, _, _]) dX4_bestWorth_63 rfl rfl ?_
          refine e_goto 5 dX4_bestWorth_66 rfl ?_
          exact ih1 _ (by omega) i (i + 1)  rfl  (by omega) (by omega) (by first | exact fmax_new I3 (by omega) trivial (by unfold wth; omega) | exact fmax_keep I3 (by omega) (by unfold wth; omega))
        · skip
          refine e_aload_n dX4_bestWorth_29 rfl ?_
          refine e_iload_n dX4_bestWorth_30 rfl ?_
          refine e_iload dX4_bestWorth_31 rfl ?_
          refine e_callV [.int _, .int _] dX4_bestWorth_33 tm_4_64 rfl (Nat.le_of_ble_eq_true rfl) (congrArg Prod.fst (fg_s0 hk1)) (Nat.le_of_ble_eq_true rfl) (Nat.le_refl _) (Nat.le_refl _) rfl (zp_X2_fitOf hk1 HF d ⟨by omega, by omega⟩ i ⟨by omega, by omega⟩ ?_)
          have y6 := fitC_s g d i
          refine e_aload_n dX4_bestWorth_36 rfl ?_
          refine e_get (.ref (y + 2)) dX4_bestWorth_37 tf_4_15 (congrArg Prod.fst (mk_s0 hk)) (congrArg va_rf (mk_r0_1 hk)) ?_
          refine e_iload dX4_bestWorth_40 rfl ?_
          refine z_ild (w i) dX4_bestWorth_42 (mk_s2 hk) (by decide) (by omega) (by omega) (HH.2.2.1 i (by omega) (by omega)) ?_
          have y7 := HH.1.2.2.1 i (by omega) (by omega)
          refine z_isub dX4_bestWorth_43 ?_
          refine e_aload_n dX4_bestWorth_44 rfl ?_
          refine e_iload_n dX4_bestWorth_45 rfl ?_
          refine e_iload_n dX4_bestWorth_46 rfl ?_
          refine e_callV [.int _, .int _] dX4_bestWorth_47 tm_4_64 rfl (Nat.le_of_ble_eq_true rfl) (congrArg Prod.fst (fg_s0 hk1)) (Nat.le_of_ble_eq_true rfl) (Nat.le_refl _) (Nat.le_refl _) rfl (zp_X2_fitOf hk1 HF d ⟨by omega, by omega⟩ b ⟨by omega, by omega⟩ ?_)
          have y8 := fitC_s g d b
          refine e_aload_n dX4_bestWorth_50 rfl ?_
          refine e_get (.ref (y + 2)) dX4_bestWorth_51 tf_4_15 (congrArg Prod.fst (mk_s0 hk)) (congrArg va_rf (mk_r0_1 hk)) ?_
          refine e_iload_n dX4_bestWorth_54 rfl ?_
          refine z_ild (w b) dX4_bestWorth_55 (mk_s2 hk) (by decide) (by omega) (by omega) (HH.2.2.1 b (by omega) (by omega)) ?_
          have y9 := HH.1.2.2.1 b (by omega) (by omega)
          refine z_isub dX4_bestWorth_56 ?_
          refine z_icmp_le 63 dX4_bestWorth_57 rfl ⟨by omega, by omega⟩ ⟨by omega, by omega⟩ (fun c10 => ?_) (fun c10 => ?_)
          · skip
            refine z_iinc (L' := [_, _, _, _, _]) dX4_bestWorth_63 rfl rfl ?_
            refine e_goto 5 dX4_bestWorth_66 rfl ?_
            exact ih1 _ (by omega) b (i + 1)  rfl  (by omega) (by omega) (by first | exact fmax_new I3 (by omega) trivial (by unfold wth; omega) | exact fmax_keep I3 (by omega) (by unfold wth; omega))
          · skip
            refine e_iload dX4_bestWorth_60 rfl ?_
            refine e_istore_n (L' := [_, _, _, _, _]) dX4_bestWorth_62 (Nat.le_of_ble_eq_true rfl) rfl ?_
            refine z_iinc (L' := [_, _, _, _, _]) dX4_bestWorth_63 rfl rfl ?_
            refine e_goto 5 dX4_bestWorth_66 rfl ?_
            exact ih1 _ (by omega) i (i + 1)  rfl  (by omega) (by omega) (by first | exact fmax_new I3 (by omega) trivial (by unfold wth; omega) | exact fmax_keep I3 (by omega) (by unfold wth; omega))
  exact lp1 _ (-1) 0  rfl  (by omega) (by omega) (fmax_0 _ _ (by omega))
set_option maxHeartbeats 400000 in
theorem zp_X12_wants {ad : mA} {dd : Nat} {h : mH} {Q : mQ} {m : Nat} {g r t w : Int → Int} {l : Int} (hk : rk h m) (HB : rB h m g) (HH : hiR h m g r t w l)  (d : Int) (d_r : -2147483648 ≤ d ∧ d < 2147483648) (p1 : 0 ≤ d ∧ d < nd g) (kq : ∀ v : Int, (∃ b, fmax (fun _ => True) (wth g w d) (nu g) b ∧ ((b = -1 ∧ v = -1) ∨ (b ≠ -1 ∧ fitZ g d b < w b ∧ v = -1) ∨ (b ≠ -1 ∧ w b ≤ fitZ g d b ∧ v = b))) → Q (some (.int (zI v))) h) : mCal TB0 ad (dd + 3) M_X12_wants [.ref m, .int (zI d)] h 0 0 Q := by
  refine ⟨Nat.le_of_ble_eq_true rfl, ?_⟩
  show mEv TB0 ad M_X12_wants (dd + 3) (0, 0) (mCal TB0 ad (dd + 2)) (fun v h' z => z.1 = 0 ∧ Q v h') 0 [some (.ref m), some (.int (zI d)), none, none] [] h (0, 0)
  have w1 := rB_n HB
  have w2 := rB_nd HB
  have w3 := rB_nu HB
  refine z_iconst (-1) dX12_wants_0 rfl ?_
  refine e_istore_n (L' := [_, _, _, _]) dX12_wants_1 (Nat.le_of_ble_eq_true rfl) rfl ?_
  refine z_iconst (0) dX12_wants_2 rfl ?_
  refine e_istore_n (L' := [_, _, _, _]) dX12_wants_3 (Nat.le_of_ble_eq_true rfl) rfl ?_
  have lp1 : ∀ (n1 : Nat) (b i : Int), (nu g - i).toNat = n1 → (0 ≤ i) → (i ≤ nu g) → (fmax (fun _ => True) (wth g w d) i b) → mEv TB0 ad M_X12_wants (dd + 3) (0, 0) (mCal TB0 ad (dd + 2)) (fun v h' z => z.1 = 0 ∧ Q v h') 4 [some (.ref m), some (.int (zI d)), some (.int (zI b)), some (.int (zI i))] [] h (0, 0) := by
    intro n1
    induction n1 using Nat.strongRecOn with
    | ind n1 ih1 =>
    intro b i  hn1  I1 I2 I3
    refine e_iload_n dX12_wants_4 rfl ?_
    refine e_aload_n dX12_wants_5 rfl ?_
    refine z_get (nu g) dX12_wants_6 tf_12_274 (rk_s hk) (Or.inl rfl) (rB_nu HB) ?_
    have y2 := rB_n HB
    refine z_icmp_ge 58 dX12_wants_9 rfl ⟨by omega, by omega⟩ ⟨by omega, by omega⟩ (fun c3 => ?_) (fun c3 => ?_)
    · skip
      have qb := fmax_b I3
      refine e_iload_n dX12_wants_58 rfl ?_
      refine z_iconst (-1) dX12_wants_59 rfl ?_
      refine z_icmp_eq 78 dX12_wants_60 rfl ⟨by omega, by omega⟩ ⟨by omega, by omega⟩ (fun c4 => ?_) (fun c4 => ?_)
      · skip
        refine z_iconst (-1) dX12_wants_78 rfl ?_
        refine e_goto 83 dX12_wants_79 rfl ?_
        refine z_iret dX12_wants_83 rfl ⟨rfl, ?_⟩
        refine kq _ ?_
        exact ⟨b, by rw [show nu g = i by omega]; exact I3, by omega⟩
      · skip
        refine e_aload_n dX12_wants_63 rfl ?_
        refine e_iload_n dX12_wants_64 rfl ?_
        refine e_iload_n dX12_wants_65 rfl ?_
        refine e_callV [.int _, .int _] dX12_wants_66 tm_12_283 rfl (Nat.le_of_ble_eq_true rfl) (rk_s hk) (Nat.le_of_ble_eq_true rfl) (Nat.le_refl _) (Nat.le_refl _) rfl (zp_X12_fitOf hk HB d ⟨by omega, by omega⟩ b ⟨by omega, by omega⟩ (by omega) ?_)
        have y5 := fitZ_b g d b
        refine e_aload_n dX12_wants_69 rfl ?_
        refine e_get (.ref (m + 28)) dX12_wants_70 tf_12_94 (rk_s hk) (congrArg va_rf (rk_r28 hk)) ?_
        refine e_iload_n dX12_wants_73 rfl ?_
        refine z_ild (w b) dX12_wants_74 (rk_a28 hk) (by decide) (by omega) (by omega) (HH.2.2 b (by omega) (by omega)) ?_
        have y6 := HH.1.2.2.1 b (by omega) (by omega)
        refine z_icmp_ge 82 dX12_wants_75 rfl ⟨by omega, by omega⟩ ⟨by omega, by omega⟩ (fun c7 => ?_) (fun c7 => ?_)
        · skip
          refine e_iload_n dX12_wants_82 rfl ?_
          refine z_iret dX12_wants_83 rfl ⟨rfl, ?_⟩
          refine kq _ ?_
          exact ⟨b, by rw [show nu g = i by omega]; exact I3, by omega⟩
        · skip
          refine z_iconst (-1) dX12_wants_78 rfl ?_
          refine e_goto 83 dX12_wants_79 rfl ?_
          refine z_iret dX12_wants_83 rfl ⟨rfl, ?_⟩
          refine kq _ ?_
          exact ⟨b, by rw [show nu g = i by omega]; exact I3, by omega⟩
    · skip
      have qb := fmax_b I3
      refine e_iload_n dX12_wants_12 rfl ?_
      refine z_iconst (-1) dX12_wants_13 rfl ?_
      refine z_icmp_eq 46 dX12_wants_14 rfl ⟨by omega, by omega⟩ ⟨by omega, by omega⟩ (fun c8 => ?_) (fun c8 => ?_)
      · skip
        refine e_iload_n dX12_wants_46 rfl ?_
        refine e_goto 51 dX12_wants_47 rfl ?_
        refine e_istore_n (L' := [_, _, _, _]) dX12_wants_51 (Nat.le_of_ble_eq_true rfl) rfl ?_
        refine z_iinc (L' := [_, _, _, _]) dX12_wants_52 rfl rfl ?_
        refine e_goto 4 dX12_wants_55 rfl ?_
        exact ih1 _ (by omega) i (i + 1)  rfl  (by omega) (by omega) (by first | exact fmax_new I3 (by omega) trivial (by unfold wth; omega) | exact fmax_keep I3 (by omega) (by unfold wth; omega))
      · skip
        refine e_aload_n dX12_wants_17 rfl ?_
        refine e_iload_n dX12_wants_18 rfl ?_
        refine e_iload_n dX12_wants_19 rfl ?_
        refine e_callV [.int _, .int _] dX12_wants_20 tm_12_283 rfl (Nat.le_of_ble_eq_true rfl) (rk_s hk) (Nat.le_of_ble_eq_true rfl) (Nat.le_refl _) (Nat.le_refl _) rfl (zp_X12_fitOf hk HB d ⟨by omega, by omega⟩ i ⟨by omega, by omega⟩ (by omega) ?_)
        have y9 := fitZ_b g d i
        refine e_aload_n dX12_wants_23 rfl ?_
        refine e_get (.ref (m + 28)) dX12_wants_24 tf_12_94 (rk_s hk) (congrArg va_rf (rk_r28 hk)) ?_
        refine e_iload_n dX12_wants_27 rfl ?_
        refine z_ild (w i) dX12_wants_28 (rk_a28 hk) (by decide) (by omega) (by omega) (HH.2.2 i (by omega) (by omega)) ?_
        have y10 := HH.1.2.2.1 i (by omega) (by omega)
        refine z_isub dX12_wants_29 ?_
        refine e_aload_n dX12_wants_30 rfl ?_
        refine e_iload_n dX12_wants_31 rfl ?_
        refine e_iload_n dX12_wants_32 rfl ?_
        refine e_callV [.int _, .int _] dX12_wants_33 tm_12_283 rfl (Nat.le_of_ble_eq_true rfl) (rk_s hk) (Nat.le_of_ble_eq_true rfl) (Nat.le_refl _) (Nat.le_refl _) rfl (zp_X12_fitOf hk HB d ⟨by omega, by omega⟩ b ⟨by omega, by omega⟩ (by omega) ?_)
        have y11 := fitZ_b g d b
        refine e_aload_n dX12_wants_36 rfl ?_
        refine e_get (.ref (m + 28)) dX12_wants_37 tf_12_94 (rk_s hk) (congrArg va_rf (rk_r28 hk)) ?_
        refine e_iload_n dX12_wants_40 rfl ?_
        refine z_ild (w b) dX12_wants_41 (rk_a28 hk) (by decide) (by omega) (by omega) (HH.2.2 b (by omega) (by omega)) ?_
        have y12 := HH.1.2.2.1 b (by omega) (by omega)
        refine z_isub dX12_wants_42 ?_
        refine z_icmp_le 50 dX12_wants_43 rfl ⟨by omega, by omega⟩ ⟨by omega, by omega⟩ (fun c13 => ?_) (fun c13 => ?_)
        · skip
          refine e_iload_n dX12_wants_50 rfl ?_
          refine e_istore_n (L' := [_, _, _, _]) dX12_wants_51 (Nat.le_of_ble_eq_true rfl) rfl ?_
          refine z_iinc (L' := [_, _, _, _]) dX12_wants_52 rfl rfl ?_
          refine e_goto 4 dX12_wants_55 rfl ?_
          exact ih1 _ (by omega) b (i + 1)  rfl  (by omega) (by omega) (by first | exact fmax_new I3 (by omega) trivial (by unfold wth; omega) | exact fmax_keep I3 (by omega) (by unfold wth; omega))
        · skip
          refine e_iload_n dX12_wants_46 rfl ?_
          refine e_goto 51 dX12_wants_47 rfl ?_
          refine e_istore_n (L' := [_, _, _, _]) dX12_wants_51 (Nat.le_of_ble_eq_true rfl) rfl ?_
          refine z_iinc (L' := [_, _, _, _]) dX12_wants_52 rfl rfl ?_
          refine e_goto 4 dX12_wants_55 rfl ?_
          exact ih1 _ (by omega) i (i + 1)  rfl  (by omega) (by omega) (by first | exact fmax_new I3 (by omega) trivial (by unfold wth; omega) | exact fmax_keep I3 (by omega) (by unfold wth; omega))
  exact lp1 _ (-1) 0  rfl  (by omega) (by omega) (fmax_0 _ _ (by omega))
