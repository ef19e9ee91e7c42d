/-! FORGE: copies, mates -/
theorem dX0_copyFrom_0 : decode cX0_copyFrom 0 = .ok (.aload_n 1, 1) := by decide +kernel
theorem dX0_copyFrom_1 : decode cX0_copyFrom 1 = .ok (.getfield 9, 3) := by decide +kernel
theorem dX0_copyFrom_4 : decode cX0_copyFrom 4 = .ok (.iconst 0, 1) := by decide +kernel
theorem dX0_copyFrom_5 : decode cX0_copyFrom 5 = .ok (.aload_n 0, 1) := by decide +kernel
theorem dX0_copyFrom_6 : decode cX0_copyFrom 6 = .ok (.getfield 9, 3) := by decide +kernel
theorem dX0_copyFrom_9 : decode cX0_copyFrom 9 = .ok (.iconst 0, 1) := by decide +kernel
theorem dX0_copyFrom_10 : decode cX0_copyFrom 10 = .ok (.bipush 6, 2) := by decide +kernel
theorem dX0_copyFrom_12 : decode cX0_copyFrom 12 = .ok (.invokestatic 47, 3) := by decide +kernel
theorem dX0_copyFrom_15 : decode cX0_copyFrom 15 = .ok (.aload_n 1, 1) := by decide +kernel
theorem dX0_copyFrom_16 : decode cX0_copyFrom 16 = .ok (.getfield 15, 3) := by decide +kernel
theorem dX0_copyFrom_19 : decode cX0_copyFrom 19 = .ok (.iconst 0, 1) := by decide +kernel
theorem dX0_copyFrom_20 : decode cX0_copyFrom 20 = .ok (.aload_n 0, 1) := by decide +kernel
theorem dX0_copyFrom_21 : decode cX0_copyFrom 21 = .ok (.getfield 15, 3) := by decide +kernel
theorem dX0_copyFrom_24 : decode cX0_copyFrom 24 = .ok (.iconst 0, 1) := by decide +kernel
theorem dX0_copyFrom_25 : decode cX0_copyFrom 25 = .ok (.bipush 6, 2) := by decide +kernel
theorem dX0_copyFrom_27 : decode cX0_copyFrom 27 = .ok (.invokestatic 47, 3) := by decide +kernel
theorem dX0_copyFrom_30 : decode cX0_copyFrom 30 = .ok (.aload_n 1, 1) := by decide +kernel
theorem dX0_copyFrom_31 : decode cX0_copyFrom 31 = .ok (.getfield 18, 3) := by decide +kernel
theorem dX0_copyFrom_34 : decode cX0_copyFrom 34 = .ok (.iconst 0, 1) := by decide +kernel
theorem dX0_copyFrom_35 : decode cX0_copyFrom 35 = .ok (.aload_n 0, 1) := by decide +kernel
theorem dX0_copyFrom_36 : decode cX0_copyFrom 36 = .ok (.getfield 18, 3) := by decide +kernel
theorem dX0_copyFrom_39 : decode cX0_copyFrom 39 = .ok (.iconst 0, 1) := by decide +kernel
theorem dX0_copyFrom_40 : decode cX0_copyFrom 40 = .ok (.bipush 6, 2) := by decide +kernel
theorem dX0_copyFrom_42 : decode cX0_copyFrom 42 = .ok (.invokestatic 47, 3) := by decide +kernel
theorem dX0_copyFrom_45 : decode cX0_copyFrom 45 = .ok (.aload_n 1, 1) := by decide +kernel
theorem dX0_copyFrom_46 : decode cX0_copyFrom 46 = .ok (.getfield 21, 3) := by decide +kernel
theorem dX0_copyFrom_49 : decode cX0_copyFrom 49 = .ok (.iconst 0, 1) := by decide +kernel
theorem dX0_copyFrom_50 : decode cX0_copyFrom 50 = .ok (.aload_n 0, 1) := by decide +kernel
theorem dX0_copyFrom_51 : decode cX0_copyFrom 51 = .ok (.getfield 21, 3) := by decide +kernel
theorem dX0_copyFrom_54 : decode cX0_copyFrom 54 = .ok (.iconst 0, 1) := by decide +kernel
theorem dX0_copyFrom_55 : decode cX0_copyFrom 55 = .ok (.bipush 6, 2) := by decide +kernel
theorem dX0_copyFrom_57 : decode cX0_copyFrom 57 = .ok (.invokestatic 47, 3) := by decide +kernel
theorem dX0_copyFrom_60 : decode cX0_copyFrom 60 = .ok (.aload_n 1, 1) := by decide +kernel
theorem dX0_copyFrom_61 : decode cX0_copyFrom 61 = .ok (.getfield 24, 3) := by decide +kernel
theorem dX0_copyFrom_64 : decode cX0_copyFrom 64 = .ok (.iconst 0, 1) := by decide +kernel
theorem dX0_copyFrom_65 : decode cX0_copyFrom 65 = .ok (.aload_n 0, 1) := by decide +kernel
theorem dX0_copyFrom_66 : decode cX0_copyFrom 66 = .ok (.getfield 24, 3) := by decide +kernel
theorem dX0_copyFrom_69 : decode cX0_copyFrom 69 = .ok (.iconst 0, 1) := by decide +kernel
theorem dX0_copyFrom_70 : decode cX0_copyFrom 70 = .ok (.bipush 6, 2) := by decide +kernel
theorem dX0_copyFrom_72 : decode cX0_copyFrom 72 = .ok (.invokestatic 47, 3) := by decide +kernel
theorem dX0_copyFrom_75 : decode cX0_copyFrom 75 = .ok (.aload_n 0, 1) := by decide +kernel
theorem dX0_copyFrom_76 : decode cX0_copyFrom 76 = .ok (.aload_n 1, 1) := by decide +kernel
theorem dX0_copyFrom_77 : decode cX0_copyFrom 77 = .ok (.getfield 27, 3) := by decide +kernel
theorem dX0_copyFrom_80 : decode cX0_copyFrom 80 = .ok (.putfield 27, 3) := by decide +kernel
theorem dX0_copyFrom_83 : decode cX0_copyFrom 83 = .ok (.return_, 1) := by decide +kernel
theorem dX2_join_0 : decode cX2_join 0 = .ok (.iload_n 1, 1) := by decide +kernel
theorem dX2_join_1 : decode cX2_join 1 = .ok (.ifCond .lt 19, 3) := by decide +kernel
theorem dX2_join_4 : decode cX2_join 4 = .ok (.iload_n 1, 1) := by decide +kernel
theorem dX2_join_5 : decode cX2_join 5 = .ok (.bipush 6, 2) := by decide +kernel
theorem dX2_join_7 : decode cX2_join 7 = .ok (.if_icmp .ge 13, 3) := by decide +kernel
theorem dX2_join_10 : decode cX2_join 10 = .ok (.iload_n 2, 1) := by decide +kernel
theorem dX2_join_11 : decode cX2_join 11 = .ok (.ifCond .lt 9, 3) := by decide +kernel
theorem dX2_join_14 : decode cX2_join 14 = .ok (.iload_n 2, 1) := by decide +kernel
theorem dX2_join_15 : decode cX2_join 15 = .ok (.bipush 6, 2) := by decide +kernel
theorem dX2_join_17 : decode cX2_join 17 = .ok (.if_icmp .lt 4, 3) := by decide +kernel
theorem dX2_join_20 : decode cX2_join 20 = .ok (.return_, 1) := by decide +kernel
theorem dX2_join_21 : decode cX2_join 21 = .ok (.aload_n 0, 1) := by decide +kernel
theorem dX2_join_22 : decode cX2_join 22 = .ok (.getfield 12, 3) := by decide +kernel
theorem dX2_join_25 : decode cX2_join 25 = .ok (.aload_n 0, 1) := by decide +kernel
theorem dX2_join_26 : decode cX2_join 26 = .ok (.getfield 18, 3) := by decide +kernel
theorem dX2_join_29 : decode cX2_join 29 = .ok (.iload_n 1, 1) := by decide +kernel
theorem dX2_join_30 : decode cX2_join 30 = .ok (.invokestatic 38, 3) := by decide +kernel
theorem dX2_join_33 : decode cX2_join 33 = .ok (.aload_n 0, 1) := by decide +kernel
theorem dX2_join_34 : decode cX2_join 34 = .ok (.getfield 18, 3) := by decide +kernel
theorem dX2_join_37 : decode cX2_join 37 = .ok (.aload_n 0, 1) := by decide +kernel
theorem dX2_join_38 : decode cX2_join 38 = .ok (.getfield 12, 3) := by decide +kernel
theorem dX2_join_41 : decode cX2_join 41 = .ok (.iload_n 2, 1) := by decide +kernel
theorem dX2_join_42 : decode cX2_join 42 = .ok (.invokestatic 38, 3) := by decide +kernel
theorem dX2_join_45 : decode cX2_join 45 = .ok (.aload_n 0, 1) := by decide +kernel
theorem dX2_join_46 : decode cX2_join 46 = .ok (.getfield 12, 3) := by decide +kernel
theorem dX2_join_49 : decode cX2_join 49 = .ok (.getfield 42, 3) := by decide +kernel
theorem dX2_join_52 : decode cX2_join 52 = .ok (.iload_n 1, 1) := by decide +kernel
theorem dX2_join_53 : decode cX2_join 53 = .ok (.iload_n 2, 1) := by decide +kernel
theorem dX2_join_54 : decode cX2_join 54 = .ok (.iastore, 1) := by decide +kernel
theorem dX2_join_55 : decode cX2_join 55 = .ok (.aload_n 0, 1) := by decide +kernel
theorem dX2_join_56 : decode cX2_join 56 = .ok (.getfield 18, 3) := by decide +kernel
theorem dX2_join_59 : decode cX2_join 59 = .ok (.getfield 42, 3) := by decide +kernel
theorem dX2_join_62 : decode cX2_join 62 = .ok (.iload_n 2, 1) := by decide +kernel
theorem dX2_join_63 : decode cX2_join 63 = .ok (.iload_n 1, 1) := by decide +kernel
theorem dX2_join_64 : decode cX2_join 64 = .ok (.iastore, 1) := by decide +kernel
theorem dX2_join_65 : decode cX2_join 65 = .ok (.return_, 1) := by decide +kernel
theorem dX2_loosenDown_0 : decode cX2_loosenDown 0 = .ok (.iload_n 1, 1) := by decide +kernel
theorem dX2_loosenDown_1 : decode cX2_loosenDown 1 = .ok (.ifCond .lt 21, 3) := by decide +kernel
theorem dX2_loosenDown_4 : decode cX2_loosenDown 4 = .ok (.iload_n 1, 1) := by decide +kernel
theorem dX2_loosenDown_5 : decode cX2_loosenDown 5 = .ok (.bipush 6, 2) := by decide +kernel
theorem dX2_loosenDown_7 : decode cX2_loosenDown 7 = .ok (.if_icmp .ge 15, 3) := by decide +kernel
theorem dX2_loosenDown_10 : decode cX2_loosenDown 10 = .ok (.aload_n 0, 1) := by decide +kernel
theorem dX2_loosenDown_11 : decode cX2_loosenDown 11 = .ok (.getfield 12, 3) := by decide +kernel
theorem dX2_loosenDown_14 : decode cX2_loosenDown 14 = .ok (.aload_n 0, 1) := by decide +kernel
theorem dX2_loosenDown_15 : decode cX2_loosenDown 15 = .ok (.getfield 18, 3) := by decide +kernel
theorem dX2_loosenDown_18 : decode cX2_loosenDown 18 = .ok (.iload_n 1, 1) := by decide +kernel
theorem dX2_loosenDown_19 : decode cX2_loosenDown 19 = .ok (.invokestatic 38, 3) := by decide +kernel
theorem dX2_loosenDown_22 : decode cX2_loosenDown 22 = .ok (.return_, 1) := by decide +kernel
theorem dX2_loosen_0 : decode cX2_loosen 0 = .ok (.aload_n 0, 1) := by decide +kernel
theorem dX2_loosen_1 : decode cX2_loosen 1 = .ok (.getfield 42, 3) := by decide +kernel
theorem dX2_loosen_4 : decode cX2_loosen 4 = .ok (.iload_n 2, 1) := by decide +kernel
theorem dX2_loosen_5 : decode cX2_loosen 5 = .ok (.iaload, 1) := by decide +kernel
theorem dX2_loosen_6 : decode cX2_loosen 6 = .ok (.istore_n 3, 1) := by decide +kernel
theorem dX2_loosen_7 : decode cX2_loosen 7 = .ok (.iload_n 3, 1) := by decide +kernel
theorem dX2_loosen_8 : decode cX2_loosen 8 = .ok (.ifCond .lt 16, 3) := by decide +kernel
theorem dX2_loosen_11 : decode cX2_loosen 11 = .ok (.iload_n 3, 1) := by decide +kernel
theorem dX2_loosen_12 : decode cX2_loosen 12 = .ok (.bipush 6, 2) := by decide +kernel
theorem dX2_loosen_14 : decode cX2_loosen 14 = .ok (.if_icmp .ge 10, 3) := by decide +kernel
theorem dX2_loosen_17 : decode cX2_loosen 17 = .ok (.aload_n 1, 1) := by decide +kernel
theorem dX2_loosen_18 : decode cX2_loosen 18 = .ok (.getfield 42, 3) := by decide +kernel
theorem dX2_loosen_21 : decode cX2_loosen 21 = .ok (.iload_n 3, 1) := by decide +kernel
theorem dX2_loosen_22 : decode cX2_loosen 22 = .ok (.iconst (-1), 1) := by decide +kernel
theorem dX2_loosen_23 : decode cX2_loosen 23 = .ok (.iastore, 1) := by decide +kernel
theorem dX2_loosen_24 : decode cX2_loosen 24 = .ok (.aload_n 0, 1) := by decide +kernel
theorem dX2_loosen_25 : decode cX2_loosen 25 = .ok (.getfield 42, 3) := by decide +kernel
theorem dX2_loosen_28 : decode cX2_loosen 28 = .ok (.iload_n 2, 1) := by decide +kernel
theorem dX2_loosen_29 : decode cX2_loosen 29 = .ok (.iconst (-1), 1) := by decide +kernel
theorem dX2_loosen_30 : decode cX2_loosen 30 = .ok (.iastore, 1) := by decide +kernel
theorem dX2_loosen_31 : decode cX2_loosen 31 = .ok (.return_, 1) := by decide +kernel
theorem dX2_copyFrom_0 : decode cX2_copyFrom 0 = .ok (.aload_n 0, 1) := by decide +kernel
theorem dX2_copyFrom_1 : decode cX2_copyFrom 1 = .ok (.getfield 12, 3) := by decide +kernel
theorem dX2_copyFrom_4 : decode cX2_copyFrom 4 = .ok (.aload_n 1, 1) := by decide +kernel
theorem dX2_copyFrom_5 : decode cX2_copyFrom 5 = .ok (.getfield 12, 3) := by decide +kernel
theorem dX2_copyFrom_8 : decode cX2_copyFrom 8 = .ok (.invokevirtual 102, 3) := by decide +kernel
theorem dX2_copyFrom_11 : decode cX2_copyFrom 11 = .ok (.aload_n 0, 1) := by decide +kernel
theorem dX2_copyFrom_12 : decode cX2_copyFrom 12 = .ok (.getfield 18, 3) := by decide +kernel
theorem dX2_copyFrom_15 : decode cX2_copyFrom 15 = .ok (.aload_n 1, 1) := by decide +kernel
theorem dX2_copyFrom_16 : decode cX2_copyFrom 16 = .ok (.getfield 18, 3) := by decide +kernel
theorem dX2_copyFrom_19 : decode cX2_copyFrom 19 = .ok (.invokevirtual 102, 3) := by decide +kernel
theorem dX2_copyFrom_22 : decode cX2_copyFrom 22 = .ok (.aload_n 1, 1) := by decide +kernel
theorem dX2_copyFrom_23 : decode cX2_copyFrom 23 = .ok (.getfield 21, 3) := by decide +kernel
theorem dX2_copyFrom_26 : decode cX2_copyFrom 26 = .ok (.iconst 0, 1) := by decide +kernel
theorem dX2_copyFrom_27 : decode cX2_copyFrom 27 = .ok (.aload_n 0, 1) := by decide +kernel
theorem dX2_copyFrom_28 : decode cX2_copyFrom 28 = .ok (.getfield 21, 3) := by decide +kernel
theorem dX2_copyFrom_31 : decode cX2_copyFrom 31 = .ok (.iconst 0, 1) := by decide +kernel
theorem dX2_copyFrom_32 : decode cX2_copyFrom 32 = .ok (.bipush 6, 2) := by decide +kernel
theorem dX2_copyFrom_34 : decode cX2_copyFrom 34 = .ok (.invokestatic 106, 3) := by decide +kernel
theorem dX2_copyFrom_37 : decode cX2_copyFrom 37 = .ok (.aload_n 1, 1) := by decide +kernel
theorem dX2_copyFrom_38 : decode cX2_copyFrom 38 = .ok (.getfield 25, 3) := by decide +kernel
theorem dX2_copyFrom_41 : decode cX2_copyFrom 41 = .ok (.iconst 0, 1) := by decide +kernel
theorem dX2_copyFrom_42 : decode cX2_copyFrom 42 = .ok (.aload_n 0, 1) := by decide +kernel
theorem dX2_copyFrom_43 : decode cX2_copyFrom 43 = .ok (.getfield 25, 3) := by decide +kernel
theorem dX2_copyFrom_46 : decode cX2_copyFrom 46 = .ok (.iconst 0, 1) := by decide +kernel
theorem dX2_copyFrom_47 : decode cX2_copyFrom 47 = .ok (.bipush 6, 2) := by decide +kernel
theorem dX2_copyFrom_49 : decode cX2_copyFrom 49 = .ok (.invokestatic 106, 3) := by decide +kernel
theorem dX2_copyFrom_52 : decode cX2_copyFrom 52 = .ok (.aload_n 1, 1) := by decide +kernel
theorem dX2_copyFrom_53 : decode cX2_copyFrom 53 = .ok (.getfield 28, 3) := by decide +kernel
theorem dX2_copyFrom_56 : decode cX2_copyFrom 56 = .ok (.iconst 0, 1) := by decide +kernel
theorem dX2_copyFrom_57 : decode cX2_copyFrom 57 = .ok (.aload_n 0, 1) := by decide +kernel
theorem dX2_copyFrom_58 : decode cX2_copyFrom 58 = .ok (.getfield 28, 3) := by decide +kernel
theorem dX2_copyFrom_61 : decode cX2_copyFrom 61 = .ok (.iconst 0, 1) := by decide +kernel
theorem dX2_copyFrom_62 : decode cX2_copyFrom 62 = .ok (.bipush 6, 2) := by decide +kernel
theorem dX2_copyFrom_64 : decode cX2_copyFrom 64 = .ok (.invokestatic 106, 3) := by decide +kernel
theorem dX2_copyFrom_67 : decode cX2_copyFrom 67 = .ok (.aload_n 0, 1) := by decide +kernel
theorem dX2_copyFrom_68 : decode cX2_copyFrom 68 = .ok (.aload_n 1, 1) := by decide +kernel
theorem dX2_copyFrom_69 : decode cX2_copyFrom 69 = .ok (.getfield 31, 3) := by decide +kernel
theorem dX2_copyFrom_72 : decode cX2_copyFrom 72 = .ok (.putfield 31, 3) := by decide +kernel
theorem dX2_copyFrom_75 : decode cX2_copyFrom 75 = .ok (.return_, 1) := by decide +kernel
set_option maxRecDepth 20000 in
theorem tm_0_47 : tMet TB0 0 47 = some (5, M_none) := rfl
set_option maxRecDepth 20000 in
theorem tm_2_38 : tMet TB0 2 38 = some (1, M_X2_loosen) := rfl
set_option maxRecDepth 20000 in
theorem tm_2_102 : tMet TB0 2 102 = some (0, M_X0_copyFrom) := rfl
set_option maxRecDepth 20000 in
theorem tm_2_106 : tMet TB0 2 106 = some (5, M_none) := rfl
theorem wfQ_e {q : Int → Int} {n : Int} (w : wfQ q n) : (0 ≤ q 0 ∧ q 0 ≤ 99) ∧ (0 ≤ q 1 ∧ q 1 ≤ 20 * n) ∧ (0 ≤ q 2 ∧ q 2 ≤ n) ∧ (0 ≤ q 3 ∧ q 3 < 64) ∧ (0 ≤ q 4 ∧ q 4 < 64) ∧ (0 ≤ q 5 ∧ q 5 < 64) ∧ (0 ≤ q 6 ∧ q 6 < 64) ∧ (0 ≤ q 7 ∧ q 7 < 64) ∧ n ≤ 1000 := w
theorem cpy6 {h h1 : mH} {a a0 : Nat} {n : Int} (e : ∀ j : Int, 0 ≤ j → rI h1 a j = if 0 ≤ j ∧ j < 0 + n then rI h a0 (j - 0 + 0) else rI h a j) {j : Int} (h0 : 0 ≤ j) (h1' : j < n) : rI h1 a j = rI h a0 j := by
  rw [e j h0, if_pos (by omega), show j - 0 + 0 = j by omega]
def eqB (h : mH) (o : Nat) (h1 : mH) (b : Nat) : Prop := rI h1 b 5 = rI h o 5 ∧ ∀ j : Int, 0 ≤ j → j < 6 → rI h1 (b + 1) j = rI h (o + 1) j ∧ rI h1 (b + 2) j = rI h (o + 2) j ∧ rI h1 (b + 3) j = rI h (o + 3) j ∧ rI h1 (b + 4) j = rI h (o + 4) j ∧ rI h1 (b + 5) j = rI h (o + 5) j
def eqF (h : mH) (o : Nat) (h1 : mH) (f : Nat) : Prop := eqB h (o + 1) h1 (f + 1) ∧ eqB h (o + 7) h1 (f + 7) ∧ rI h1 f 5 = rI h o 5 ∧ ∀ j : Int, 0 ≤ j → j < 6 → rI h1 (f + 13) j = rI h (o + 13) j ∧ rI h1 (f + 14) j = rI h (o + 14) j ∧ rI h1 (f + 15) j = rI h (o + 15) j
theorem isF_eq {h h1 : mH} {o f : Nat} {g : Int → Int} (E : eqF h o h1 f) (H : isF h o g) : isF h1 f g := by
  obtain ⟨⟨a0, a1⟩, ⟨c0, c1⟩, k0, k1⟩ := E
  have wn := isF_n H
  refine ⟨isF_w H, ⟨a0.trans (isF_nd H), c0.trans (isF_nu H), k0.trans (isF_nc H)⟩, fun i a c => ?_, fun i a c => ?_, fun i a c => ?_, fun i a c => ?_⟩
  · obtain ⟨p1, p2, p3, p4, p5⟩ := a1 i a (by omega)
    exact ⟨p1.trans (isF_dl H a c), p2.trans (isF_ds H a c), p3.trans (isF_de H a c), p4.trans (isF_dh H a c)⟩
  · obtain ⟨p1, p2, p3, p4, p5⟩ := c1 i a (by omega)
    exact ⟨p1.trans (isF_ul H a c), p2.trans (isF_us H a c), p3.trans (isF_ue H a c), p4.trans (isF_uh H a c)⟩
  · exact ⟨(a1 i a c).2.2.2.2.trans (isF_dm H a c), (c1 i a c).2.2.2.2.trans (isF_um H a c)⟩
  · obtain ⟨p1, p2, p3⟩ := k1 i a (by omega)
    exact ⟨p1.trans (isF_ha H a c), p2.trans (isF_pr H a c), p3.trans (isF_dy H a c)⟩
set_option maxHeartbeats 400000 in
theorem zp_X0_copyFrom {ad : mA} {dd : Nat} {h : mH} {Q : mQ} {b o : Nat}  (hk : blk h b) (hk1 : blk h o)   (pd : b + 6 ≤ o ∨ o + 6 ≤ b) (kq : ∀ h1, frm (fun a k => (a = b ∧ k = 5) ∨ (b + 1 ≤ a ∧ a ≤ b + 5)) h h1 → (eqB h o h1 b) → Q none h1) : mCal TB0 ad (dd + 1) M_X0_copyFrom [.ref b, .ref o] h 0 0 Q := by
  refine ⟨Nat.le_of_ble_eq_true rfl, ?_⟩
  show mEv TB0 ad M_X0_copyFrom (dd + 1) (0, 0) (mCal TB0 ad (dd + 0)) (fun v h' z => z.1 = 0 ∧ Q v h') 0 [some (.ref b), some (.ref o)] [] h (0, 0)
  have FR0 : frm (fun a k => (a = b ∧ k = 5) ∨ (b + 1 ≤ a ∧ a ≤ b + 5)) h h := frm_0 h
  refine e_aload_n dX0_copyFrom_0 rfl ?_
  refine e_get (.ref (o + 1)) dX0_copyFrom_1 tf_0_9 (congrArg Prod.fst (bl_s0 hk1)) (congrArg va_rf (bl_r0_0 hk1)) ?_
  refine z_iconst (0) dX0_copyFrom_4 rfl ?_
  refine e_aload_n dX0_copyFrom_5 rfl ?_
  refine e_get (.ref (b + 1)) dX0_copyFrom_6 tf_0_9 (congrArg Prod.fst (bl_s0 hk)) (congrArg va_rf (bl_r0_0 hk)) ?_
  refine z_iconst (0) dX0_copyFrom_9 rfl ?_
  refine z_bipush (6) dX0_copyFrom_10 rfl ?_
  refine z_cpy dX0_copyFrom_12 tm_0_47 (Nat.le_of_ble_eq_true rfl) (bl_s1 hk) (bl_s1 hk1) (by decide) (by decide) (by omega) (by omega) (by omega) (by omega) (by omega) (fun h1 f2 e3 => ?_)
  have k4 := lk_q (frm_s f2) hk
  have k5 := lk_q (frm_s f2) hk1
  have FR6 := frm_t FR0 (frm_m (S' := (fun a k => (a = b ∧ k = 5) ∨ (b + 1 ≤ a ∧ a ≤ b + 5))) f2 (fun a k q => by omega))
  refine e_aload_n dX0_copyFrom_15 rfl ?_
  refine e_get (.ref (o + 2)) dX0_copyFrom_16 tf_0_15 (congrArg Prod.fst (bl_s0 k5)) (congrArg va_rf (bl_r0_1 k5)) ?_
  refine z_iconst (0) dX0_copyFrom_19 rfl ?_
  refine e_aload_n dX0_copyFrom_20 rfl ?_
  refine e_get (.ref (b + 2)) dX0_copyFrom_21 tf_0_15 (congrArg Prod.fst (bl_s0 k4)) (congrArg va_rf (bl_r0_1 k4)) ?_
  refine z_iconst (0) dX0_copyFrom_24 rfl ?_
  refine z_bipush (6) dX0_copyFrom_25 rfl ?_
  refine z_cpy dX0_copyFrom_27 tm_0_47 (Nat.le_of_ble_eq_true rfl) (bl_s2 k4) (bl_s2 k5) (by decide) (by decide) (by omega) (by omega) (by omega) (by omega) (by omega) (fun h7 f8 e9 => ?_)
  have k10 := lk_q (frm_s f8) k4
  have k11 := lk_q (frm_s f8) k5
  have FR12 := frm_t FR6 (frm_m (S' := (fun a k => (a = b ∧ k = 5) ∨ (b + 1 ≤ a ∧ a ≤ b + 5))) f8 (fun a k q => by omega))
  refine e_aload_n dX0_copyFrom_30 rfl ?_
  refine e_get (.ref (o + 3)) dX0_copyFrom_31 tf_0_18 (congrArg Prod.fst (bl_s0 k11)) (congrArg va_rf (bl_r0_2 k11)) ?_
  refine z_iconst (0) dX0_copyFrom_34 rfl ?_
  refine e_aload_n dX0_copyFrom_35 rfl ?_
  refine e_get (.ref (b + 3)) dX0_copyFrom_36 tf_0_18 (congrArg Prod.fst (bl_s0 k10)) (congrArg va_rf (bl_r0_2 k10)) ?_
  refine z_iconst (0) dX0_copyFrom_39 rfl ?_
  refine z_bipush (6) dX0_copyFrom_40 rfl ?_
  refine z_cpy dX0_copyFrom_42 tm_0_47 (Nat.le_of_ble_eq_true rfl) (bl_s3 k10) (bl_s3 k11) (by decide) (by decide) (by omega) (by omega) (by omega) (by omega) (by omega) (fun h13 f14 e15 => ?_)
  have k16 := lk_q (frm_s f14) k10
  have k17 := lk_q (frm_s f14) k11
  have FR18 := frm_t FR12 (frm_m (S' := (fun a k => (a = b ∧ k = 5) ∨ (b + 1 ≤ a ∧ a ≤ b + 5))) f14 (fun a k q => by omega))
  refine e_aload_n dX0_copyFrom_45 rfl ?_
  refine e_get (.ref (o + 4)) dX0_copyFrom_46 tf_0_21 (congrArg Prod.fst (bl_s0 k17)) (congrArg va_rf (bl_r0_3 k17)) ?_
  refine z_iconst (0) dX0_copyFrom_49 rfl ?_
  refine e_aload_n dX0_copyFrom_50 rfl ?_
  refine e_get (.ref (b + 4)) dX0_copyFrom_51 tf_0_21 (congrArg Prod.fst (bl_s0 k16)) (congrArg va_rf (bl_r0_3 k16)) ?_
  refine z_iconst (0) dX0_copyFrom_54 rfl ?_
  refine z_bipush (6) dX0_copyFrom_55 rfl ?_
  refine z_cpy dX0_copyFrom_57 tm_0_47 (Nat.le_of_ble_eq_true rfl) (bl_s4 k16) (bl_s4 k17) (by decide) (by decide) (by omega) (by omega) (by omega) (by omega) (by omega) (fun h19 f20 e21 => ?_)
  have k22 := lk_q (frm_s f20) k16
  have k23 := lk_q (frm_s f20) k17
  have FR24 := frm_t FR18 (frm_m (S' := (fun a k => (a = b ∧ k = 5) ∨ (b + 1 ≤ a ∧ a ≤ b + 5))) f20 (fun a k q => by omega))
  refine e_aload_n dX0_copyFrom_60 rfl ?_
  refine e_get (.ref (o + 5)) dX0_copyFrom_61 tf_0_24 (congrArg Prod.fst (bl_s0 k23)) (congrArg va_rf (bl_r0_4 k23)) ?_
  refine z_iconst (0) dX0_copyFrom_64 rfl ?_
  refine e_aload_n dX0_copyFrom_65 rfl ?_
  refine e_get (.ref (b + 5)) dX0_copyFrom_66 tf_0_24 (congrArg Prod.fst (bl_s0 k22)) (congrArg va_rf (bl_r0_4 k22)) ?_
  refine z_iconst (0) dX0_copyFrom_69 rfl ?_
  refine z_bipush (6) dX0_copyFrom_70 rfl ?_
  refine z_cpy dX0_copyFrom_72 tm_0_47 (Nat.le_of_ble_eq_true rfl) (bl_s5 k22) (bl_s5 k23) (by decide) (by decide) (by omega) (by omega) (by omega) (by omega) (by omega) (fun h25 f26 e27 => ?_)
  have k28 := lk_q (frm_s f26) k22
  have k29 := lk_q (frm_s f26) k23
  have FR30 := frm_t FR24 (frm_m (S' := (fun a k => (a = b ∧ k = 5) ∨ (b + 1 ≤ a ∧ a ≤ b + 5))) f26 (fun a k q => by omega))
  refine e_aload_n dX0_copyFrom_75 rfl ?_
  refine e_aload_n dX0_copyFrom_76 rfl ?_
  refine z_get (rI h o 5) dX0_copyFrom_77 tf_0_27 (congrArg Prod.fst (bl_s0 k29)) (Or.inl rfl) ((frm_r f26 (by omega)).trans ((frm_r f20 (by omega)).trans ((frm_r f14 (by omega)).trans ((frm_r f8 (by omega)).trans (frm_r f2 (by omega)))))) ?_
  have y31 := rI_i h o 5
  refine z_put dX0_copyFrom_80 tf_0_27 (congrArg Prod.fst (bl_s0 k28)) rfl (Or.inl rfl) (fun h32 e33 => ?_)
  have f34 := frm_1 e33
  have k35 := lk_q (frm_s f34) k28
  have k36 := lk_q (frm_s f34) k29
  have FR37 := frm_t FR30 (frm_m (S' := (fun a k => (a = b ∧ k = 5) ∨ (b + 1 ≤ a ∧ a ≤ b + 5))) f34 (fun a k q => by omega))
  refine e_vret dX0_copyFrom_83 rfl ⟨rfl, ?_⟩
  exact kq _ FR37 ⟨(rI_eq e33 ⟨by omega, by omega⟩), fun j a c => ⟨(((frm_r f34 (by omega)).trans ((frm_r f26 (by omega)).trans ((frm_r f20 (by omega)).trans ((frm_r f14 (by omega)).trans (frm_r f8 (by omega)))))).trans (cpy6 e3 a c)), (((frm_r f34 (by omega)).trans ((frm_r f26 (by omega)).trans ((frm_r f20 (by omega)).trans (frm_r f14 (by omega))))).trans ((cpy6 e9 a c).trans (frm_r f2 (by omega)))), (((frm_r f34 (by omega)).trans ((frm_r f26 (by omega)).trans (frm_r f20 (by omega)))).trans ((cpy6 e15 a c).trans ((frm_r f8 (by omega)).trans (frm_r f2 (by omega))))), (((frm_r f34 (by omega)).trans (frm_r f26 (by omega))).trans ((cpy6 e21 a c).trans ((frm_r f14 (by omega)).trans ((frm_r f8 (by omega)).trans (frm_r f2 (by omega)))))), ((frm_r f34 (by omega)).trans ((cpy6 e27 a c).trans ((frm_r f20 (by omega)).trans ((frm_r f14 (by omega)).trans ((frm_r f8 (by omega)).trans (frm_r f2 (by omega)))))))⟩⟩
set_option maxHeartbeats 400000 in
theorem zp_X2_copyFrom {ad : mA} {dd : Nat} {h : mH} {Q : mQ} {f o : Nat}  (hk : fgk h f) (hk1 : fgk h o)   (pd : f + 16 ≤ o ∨ o + 16 ≤ f) (kq : ∀ h1, frm (fun a k => f ≤ a ∧ a < f + 16) h h1 → (eqF h o h1 f) → Q none h1) : mCal TB0 ad (dd + 2) M_X2_copyFrom [.ref f, .ref o] h 0 0 Q := by
  refine ⟨Nat.le_of_ble_eq_true rfl, ?_⟩
  show mEv TB0 ad M_X2_copyFrom (dd + 2) (0, 0) (mCal TB0 ad (dd + 1)) (fun v h' z => z.1 = 0 ∧ Q v h') 0 [some (.ref f), some (.ref o)] [] h (0, 0)
  have FR0 : frm (fun a k => f ≤ a ∧ a < f + 16) h h := frm_0 h
  refine e_aload_n dX2_copyFrom_0 rfl ?_
  refine e_get (.ref (f + 1)) dX2_copyFrom_1 tf_2_12 (congrArg Prod.fst (fg_s0 hk)) (congrArg va_rf (fg_r0_0 hk)) ?_
  refine e_aload_n dX2_copyFrom_4 rfl ?_
  refine e_get (.ref (o + 1)) dX2_copyFrom_5 tf_2_12 (congrArg Prod.fst (fg_s0 hk1)) (congrArg va_rf (fg_r0_0 hk1)) ?_
  refine e_callV [.ref _] dX2_copyFrom_8 tm_2_102 rfl (Nat.le_of_ble_eq_true rfl) (congrArg Prod.fst (fg_s1 hk)) (Nat.le_of_ble_eq_true rfl) (Nat.le_refl _) (Nat.le_refl _) rfl (zp_X0_copyFrom (fg_bl1 hk) (fg_bl1 hk1) (by omega) (fun  h1 f2 p3 => ?_))
  have k4 := lk_q (frm_s f2) hk
  have k5 := lk_q (frm_s f2) hk1
  have FR6 := frm_t FR0 (frm_m (S' := (fun a k => f ≤ a ∧ a < f + 16)) f2 (fun a k q => by omega))
  skip
  refine e_aload_n dX2_copyFrom_11 rfl ?_
  refine e_get (.ref (f + 7)) dX2_copyFrom_12 tf_2_18 (congrArg Prod.fst (fg_s0 k4)) (congrArg va_rf (fg_r0_1 k4)) ?_
  refine e_aload_n dX2_copyFrom_15 rfl ?_
  refine e_get (.ref (o + 7)) dX2_copyFrom_16 tf_2_18 (congrArg Prod.fst (fg_s0 k5)) (congrArg va_rf (fg_r0_1 k5)) ?_
  refine e_callV [.ref _] dX2_copyFrom_19 tm_2_102 rfl (Nat.le_of_ble_eq_true rfl) (congrArg Prod.fst (fg_s7 k4)) (Nat.le_of_ble_eq_true rfl) (Nat.le_refl _) (Nat.le_refl _) rfl (zp_X0_copyFrom (fg_bl7 k4) (fg_bl7 k5) (by omega) (fun  h7 f8 p9 => ?_))
  have k10 := lk_q (frm_s f8) k4
  have k11 := lk_q (frm_s f8) k5
  have FR12 := frm_t FR6 (frm_m (S' := (fun a k => f ≤ a ∧ a < f + 16)) f8 (fun a k q => by omega))
  skip
  refine e_aload_n dX2_copyFrom_22 rfl ?_
  refine e_get (.ref (o + 13)) dX2_copyFrom_23 tf_2_21 (congrArg Prod.fst (fg_s0 k11)) (congrArg va_rf (fg_r0_2 k11)) ?_
  refine z_iconst (0) dX2_copyFrom_26 rfl ?_
  refine e_aload_n dX2_copyFrom_27 rfl ?_
  refine e_get (.ref (f + 13)) dX2_copyFrom_28 tf_2_21 (congrArg Prod.fst (fg_s0 k10)) (congrArg va_rf (fg_r0_2 k10)) ?_
  refine z_iconst (0) dX2_copyFrom_31 rfl ?_
  refine z_bipush (6) dX2_copyFrom_32 rfl ?_
  refine z_cpy dX2_copyFrom_34 tm_2_106 (Nat.le_of_ble_eq_true rfl) (fg_s13 k10) (fg_s13 k11) (by decide) (by decide) (by omega) (by omega) (by omega) (by omega) (by omega) (fun h13 f14 e15 => ?_)
  have k16 := lk_q (frm_s f14) k10
  have k17 := lk_q (frm_s f14) k11
  have FR18 := frm_t FR12 (frm_m (S' := (fun a k => f ≤ a ∧ a < f + 16)) f14 (fun a k q => by omega))
  refine e_aload_n dX2_copyFrom_37 rfl ?_
  refine e_get (.ref (o + 14)) dX2_copyFrom_38 tf_2_25 (congrArg Prod.fst (fg_s0 k17)) (congrArg va_rf (fg_r0_3 k17)) ?_
  refine z_iconst (0) dX2_copyFrom_41 rfl ?_
  refine e_aload_n dX2_copyFrom_42 rfl ?_
  refine e_get (.ref (f + 14)) dX2_copyFrom_43 tf_2_25 (congrArg Prod.fst (fg_s0 k16)) (congrArg va_rf (fg_r0_3 k16)) ?_
  refine z_iconst (0) dX2_copyFrom_46 rfl ?_
  refine z_bipush (6) dX2_copyFrom_47 rfl ?_
  refine z_cpy dX2_copyFrom_49 tm_2_106 (Nat.le_of_ble_eq_true rfl) (fg_s14 k16) (fg_s14 k17) (by decide) (by decide) (by omega) (by omega) (by omega) (by omega) (by omega) (fun h19 f20 e21 => ?_)
  have k22 := lk_q (frm_s f20) k16
  have k23 := lk_q (frm_s f20) k17
  have FR24 := frm_t FR18 (frm_m (S' := (fun a k => f ≤ a ∧ a < f + 16)) f20 (fun a k q => by omega))
  refine e_aload_n dX2_copyFrom_52 rfl ?_
  refine e_get (.ref (o + 15)) dX2_copyFrom_53 tf_2_28 (congrArg Prod.fst (fg_s0 k23)) (congrArg va_rf (fg_r0_4 k23)) ?_
  refine z_iconst (0) dX2_copyFrom_56 rfl ?_
  refine e_aload_n dX2_copyFrom_57 rfl ?_
  refine e_get (.ref (f + 15)) dX2_copyFrom_58 tf_2_28 (congrArg Prod.fst (fg_s0 k22)) (congrArg va_rf (fg_r0_4 k22)) ?_
  refine z_iconst (0) dX2_copyFrom_61 rfl ?_
  refine z_bipush (6) dX2_copyFrom_62 rfl ?_
  refine z_cpy dX2_copyFrom_64 tm_2_106 (Nat.le_of_ble_eq_true rfl) (fg_s15 k22) (fg_s15 k23) (by decide) (by decide) (by omega) (by omega) (by omega) (by omega) (by omega) (fun h25 f26 e27 => ?_)
  have k28 := lk_q (frm_s f26) k22
  have k29 := lk_q (frm_s f26) k23
  have FR30 := frm_t FR24 (frm_m (S' := (fun a k => f ≤ a ∧ a < f + 16)) f26 (fun a k q => by omega))
  refine e_aload_n dX2_copyFrom_67 rfl ?_
  refine e_aload_n dX2_copyFrom_68 rfl ?_
  refine z_get (rI h o 5) dX2_copyFrom_69 tf_2_31 (congrArg Prod.fst (fg_s0 k29)) (Or.inl rfl) ((frm_r f26 (by omega)).trans ((frm_r f20 (by omega)).trans ((frm_r f14 (by omega)).trans ((frm_r f8 (by omega)).trans (frm_r f2 (by omega)))))) ?_
  have y31 := rI_i h o 5
  refine z_put dX2_copyFrom_72 tf_2_31 (congrArg Prod.fst (fg_s0 k28)) rfl (Or.inl rfl) (fun h32 e33 => ?_)
  have f34 := frm_1 e33
  have k35 := lk_q (frm_s f34) k28
  have k36 := lk_q (frm_s f34) k29
  have FR37 := frm_t FR30 (frm_m (S' := (fun a k => f ≤ a ∧ a < f + 16)) f34 (fun a k q => by omega))
  refine e_vret dX2_copyFrom_75 rfl ⟨rfl, ?_⟩
  have E1 : eqB h (o + 1) h32 (f + 1) := ⟨(((frm_r f34 (by omega)).trans ((frm_r f26 (by omega)).trans ((frm_r f20 (by omega)).trans ((frm_r f14 (by omega)).trans (frm_r f8 (by omega))))))).trans p3.1, fun j a c => by obtain ⟨p1, p2, p3, p4, p5⟩ := p3.2 j a c; exact ⟨(((frm_r f34 (by omega)).trans ((frm_r f26 (by omega)).trans ((frm_r f20 (by omega)).trans ((frm_r f14 (by omega)).trans (frm_r f8 (by omega))))))).trans p1, (((frm_r f34 (by omega)).trans ((frm_r f26 (by omega)).trans ((frm_r f20 (by omega)).trans ((frm_r f14 (by omega)).trans (frm_r f8 (by omega))))))).trans p2, (((frm_r f34 (by omega)).trans ((frm_r f26 (by omega)).trans ((frm_r f20 (by omega)).trans ((frm_r f14 (by omega)).trans (frm_r f8 (by omega))))))).trans p3, (((frm_r f34 (by omega)).trans ((frm_r f26 (by omega)).trans ((frm_r f20 (by omega)).trans ((frm_r f14 (by omega)).trans (frm_r f8 (by omega))))))).trans p4, (((frm_r f34 (by omega)).trans ((frm_r f26 (by omega)).trans ((frm_r f20 (by omega)).trans ((frm_r f14 (by omega)).trans (frm_r f8 (by omega))))))).trans p5⟩⟩
  have E2 : eqB h (o + 7) h32 (f + 7) := ⟨(((frm_r f34 (by omega)).trans ((frm_r f26 (by omega)).trans ((frm_r f20 (by omega)).trans (frm_r f14 (by omega)))))).trans (p9.1.trans (frm_r f2 (by omega))), fun j a c => by obtain ⟨p1, p2, p3, p4, p5⟩ := p9.2 j a c; exact ⟨(((frm_r f34 (by omega)).trans ((frm_r f26 (by omega)).trans ((frm_r f20 (by omega)).trans (frm_r f14 (by omega)))))).trans (p1.trans (frm_r f2 (by omega))), (((frm_r f34 (by omega)).trans ((frm_r f26 (by omega)).trans ((frm_r f20 (by omega)).trans (frm_r f14 (by omega)))))).trans (p2.trans (frm_r f2 (by omega))), (((frm_r f34 (by omega)).trans ((frm_r f26 (by omega)).trans ((frm_r f20 (by omega)).trans (frm_r f14 (by omega)))))).trans (p3.trans (frm_r f2 (by omega))), (((frm_r f34 (by omega)).trans ((frm_r f26 (by omega)).trans ((frm_r f20 (by omega)).trans (frm_r f14 (by omega)))))).trans (p4.trans (frm_r f2 (by omega))), (((frm_r f34 (by omega)).trans ((frm_r f26 (by omega)).trans ((frm_r f20 (by omega)).trans (frm_r f14 (by omega)))))).trans (p5.trans (frm_r f2 (by omega)))⟩⟩
  exact kq _ FR37 ⟨E1, E2, (rI_eq e33 ⟨by omega, by omega⟩), fun j a c => ⟨(((frm_r f34 (by omega)).trans ((frm_r f26 (by omega)).trans (frm_r f20 (by omega)))).trans ((cpy6 e15 a c).trans ((frm_r f8 (by omega)).trans (frm_r f2 (by omega))))), (((frm_r f34 (by omega)).trans (frm_r f26 (by omega))).trans ((cpy6 e21 a c).trans ((frm_r f14 (by omega)).trans ((frm_r f8 (by omega)).trans (frm_r f2 (by omega)))))), ((frm_r f34 (by omega)).trans ((cpy6 e27 a c).trans ((frm_r f20 (by omega)).trans ((frm_r f14 (by omega)).trans ((frm_r f8 (by omega)).trans (frm_r f2 (by omega)))))))⟩⟩
set_option maxHeartbeats 400000 in
theorem zp_X2_loosen {ad : mA} {dd : Nat} {h : mH} {Q : mQ} {p o : Nat}  (hk : blk h p) (hk1 : blk h o)  (i : Int) (i_r : -2147483648 ≤ i ∧ i < 2147483648) (pd : p + 6 ≤ o ∨ o + 6 ≤ p) (p1 : 0 ≤ i) (p2 : i < 6) (kq : ∀ h1, frm (fun a k => a = p + 5 ∨ a = o + 5) h h1 → (∀ j : Int, 0 ≤ j → j < 6 → rI h1 (p + 5) j = if j = i then -1 else rI h (p + 5) j) → (∀ j : Int, 0 ≤ j → j < 6 → rI h1 (o + 5) j = if j = rI h (p + 5) i then -1 else rI h (o + 5) j) → Q none h1) : mCal TB0 ad (dd + 1) M_X2_loosen [.ref p, .ref o, .int (zI i)] h 0 0 Q := by
  refine ⟨Nat.le_of_ble_eq_true rfl, ?_⟩
  show mEv TB0 ad M_X2_loosen (dd + 1) (0, 0) (mCal TB0 ad (dd + 0)) (fun v h' z => z.1 = 0 ∧ Q v h') 0 [some (.ref p), some (.ref o), some (.int (zI i)), none] [] h (0, 0)
  have FR0 : frm (fun a k => a = p + 5 ∨ a = o + 5) h h := frm_0 h
  refine e_aload_n dX2_loosen_0 rfl ?_
  refine e_get (.ref (p + 5)) dX2_loosen_1 tf_2_42 (congrArg Prod.fst (bl_s0 hk)) (congrArg va_rf (bl_r0_4 hk)) ?_
  refine e_iload_n dX2_loosen_4 rfl ?_
  refine z_ild (rI h (p + 5) i) dX2_loosen_5 (bl_s5 hk) (by decide) (by omega) (by omega) rfl ?_
  have y1 := rI_i h (p + 5) i
  refine e_istore_n (L' := [_, _, _, _]) dX2_loosen_6 (Nat.le_of_ble_eq_true rfl) rfl ?_
  refine e_iload_n dX2_loosen_7 rfl ?_
  refine z_if_lt 24 dX2_loosen_8 rfl ⟨by omega, by omega⟩ (fun c2 => ?_) (fun c2 => ?_)
  · skip
    refine e_aload_n dX2_loosen_24 rfl ?_
    refine e_get (.ref (p + 5)) dX2_loosen_25 tf_2_42 (congrArg Prod.fst (bl_s0 hk)) (congrArg va_rf (bl_r0_4 hk)) ?_
    refine e_iload_n dX2_loosen_28 rfl ?_
    refine z_iconst (-1) dX2_loosen_29 rfl ?_
    refine z_ist dX2_loosen_30 (bl_s5 hk) (by decide) (by omega) (by omega) (fun h3 e4 => ?_)
    have f5 := frm_1 e4
    have k6 := lk_q (frm_s f5) hk
    have k7 := lk_q (frm_s f5) hk1
    have FR8 := frm_t FR0 (frm_m (S' := (fun a k => a = p + 5 ∨ a = o + 5)) f5 (fun a k q => by omega))
    refine e_vret dX2_loosen_31 rfl ⟨rfl, ?_⟩
    exact kq _ FR8 (fun j a c => by
        by_cases q : j = i
        · subst q; rw [if_pos rfl]; exact (rI_eq e4 ⟨by omega, by omega⟩)
        · rw [if_neg q]; exact (frm_r f5 (by omega))) (fun j a c => by
        rw [if_neg (by omega)]; exact (frm_r f5 (by omega)))
  · skip
    refine e_iload_n dX2_loosen_11 rfl ?_
    refine z_bipush (6) dX2_loosen_12 rfl ?_
    refine z_icmp_ge 24 dX2_loosen_14 rfl ⟨by omega, by omega⟩ ⟨by omega, by omega⟩ (fun c9 => ?_) (fun c9 => ?_)
    · skip
      refine e_aload_n dX2_loosen_24 rfl ?_
      refine e_get (.ref (p + 5)) dX2_loosen_25 tf_2_42 (congrArg Prod.fst (bl_s0 hk)) (congrArg va_rf (bl_r0_4 hk)) ?_
      refine e_iload_n dX2_loosen_28 rfl ?_
      refine z_iconst (-1) dX2_loosen_29 rfl ?_
      refine z_ist dX2_loosen_30 (bl_s5 hk) (by decide) (by omega) (by omega) (fun h10 e11 => ?_)
      have f12 := frm_1 e11
      have k13 := lk_q (frm_s f12) hk
      have k14 := lk_q (frm_s f12) hk1
      have FR15 := frm_t FR0 (frm_m (S' := (fun a k => a = p + 5 ∨ a = o + 5)) f12 (fun a k q => by omega))
      refine e_vret dX2_loosen_31 rfl ⟨rfl, ?_⟩
      exact kq _ FR15 (fun j a c => by
          by_cases q : j = i
          · subst q; rw [if_pos rfl]; exact (rI_eq e11 ⟨by omega, by omega⟩)
          · rw [if_neg q]; exact (frm_r f12 (by omega))) (fun j a c => by
          rw [if_neg (by omega)]; exact (frm_r f12 (by omega)))
    · skip
      refine e_aload_n dX2_loosen_17 rfl ?_
      refine e_get (.ref (o + 5)) dX2_loosen_18 tf_2_42 (congrArg Prod.fst (bl_s0 hk1)) (congrArg va_rf (bl_r0_4 hk1)) ?_
      refine e_iload_n dX2_loosen_21 rfl ?_
      refine z_iconst (-1) dX2_loosen_22 rfl ?_
      refine z_ist dX2_loosen_23 (bl_s5 hk1) (by decide) (by omega) (by omega) (fun h16 e17 => ?_)
      have f18 := frm_1 e17
      have k19 := lk_q (frm_s f18) hk
      have k20 := lk_q (frm_s f18) hk1
      have FR21 := frm_t FR0 (frm_m (S' := (fun a k => a = p + 5 ∨ a = o + 5)) f18 (fun a k q => by omega))
      refine e_aload_n dX2_loosen_24 rfl ?_
      refine e_get (.ref (p + 5)) dX2_loosen_25 tf_2_42 (congrArg Prod.fst (bl_s0 k19)) (congrArg va_rf (bl_r0_4 k19)) ?_
      refine e_iload_n dX2_loosen_28 rfl ?_
      refine z_iconst (-1) dX2_loosen_29 rfl ?_
      refine z_ist dX2_loosen_30 (bl_s5 k19) (by decide) (by omega) (by omega) (fun h22 e23 => ?_)
      have f24 := frm_1 e23
      have k25 := lk_q (frm_s f24) k19
      have k26 := lk_q (frm_s f24) k20
      have FR27 := frm_t FR21 (frm_m (S' := (fun a k => a = p + 5 ∨ a = o + 5)) f24 (fun a k q => by omega))
      refine e_vret dX2_loosen_31 rfl ⟨rfl, ?_⟩
      exact kq _ FR27 (fun j a c => by
          by_cases q : j = i
          · subst q; rw [if_pos rfl]; exact (rI_eq e23 ⟨by omega, by omega⟩)
          · rw [if_neg q]; exact ((frm_r f24 (by omega)).trans (frm_r f18 (by omega)))) (fun j a c => by
          by_cases q : j = rI h (p + 5) i
          · rw [if_pos q, q]; exact ((frm_r f24 (by omega)).trans (rI_eq e17 ⟨by omega, by omega⟩))
          · rw [if_neg q]; exact ((frm_r f24 (by omega)).trans (frm_r f18 (by omega))))
set_option maxHeartbeats 400000 in
theorem zp_X2_loosenDown {ad : mA} {dd : Nat} {h : mH} {Q : mQ} {f : Nat} {g : Int → Int} (hk : fgk h f) (HF : isF h f g)  (d : Int) (d_r : -2147483648 ≤ d ∧ d < 2147483648) (p1 : cPai g d) (kq : ∀ h1, frm (fun a k => a = f + 6 ∨ a = f + 12) h h1 → (isF h1 f (ptG g d)) → Q none h1) : mCal TB0 ad (dd + 2) M_X2_loosenDown [.ref f, .int (zI d)] h 0 0 Q := by
  refine ⟨Nat.le_of_ble_eq_true rfl, ?_⟩
  show mEv TB0 ad M_X2_loosenDown (dd + 2) (0, 0) (mCal TB0 ad (dd + 1)) (fun v h' z => z.1 = 0 ∧ Q v h') 0 [some (.ref f), some (.int (zI d))] [] h (0, 0)
  have FR0 : frm (fun a k => a = f + 6 ∨ a = f + 12) h h := frm_0 h
  have w1 := isF_n HF
  have w2 := isF_nd HF
  have w3 := isF_nu HF
  have w4 := isF_nc HF
  have W := isF_w HF
  have v1 := wM_d W.2.1 p1.1.1 (by omega)
  have v2 : rI h (f + 6) d = dm g d := isF_dm HF (by omega) (by omega)
  refine e_iload_n dX2_loosenDown_0 rfl ?_
  refine z_if_lt 22 dX2_loosenDown_1 rfl ⟨by omega, by omega⟩ (fun c1 => ?_) (fun c1 => ?_)
  · exfalso; omega
  · skip
    refine e_iload_n dX2_loosenDown_4 rfl ?_
    refine z_bipush (6) dX2_loosenDown_5 rfl ?_
    refine z_icmp_ge 22 dX2_loosenDown_7 rfl ⟨by omega, by omega⟩ ⟨by omega, by omega⟩ (fun c2 => ?_) (fun c2 => ?_)
    · exfalso; omega
    · skip
      refine e_aload_n dX2_loosenDown_10 rfl ?_
      refine e_get (.ref (f + 1)) dX2_loosenDown_11 tf_2_12 (congrArg Prod.fst (fg_s0 hk)) (congrArg va_rf (fg_r0_0 hk)) ?_
      refine e_aload_n dX2_loosenDown_14 rfl ?_
      refine e_get (.ref (f + 7)) dX2_loosenDown_15 tf_2_18 (congrArg Prod.fst (fg_s0 hk)) (congrArg va_rf (fg_r0_1 hk)) ?_
      refine e_iload_n dX2_loosenDown_18 rfl ?_
      refine e_callS [.ref _, .ref _, .int _] dX2_loosenDown_19 tm_2_38 rfl (Nat.le_of_ble_eq_true rfl) (Nat.le_refl _) (Nat.le_refl _) rfl (zp_X2_loosen (fg_bl1 hk) (fg_bl7 hk) d ⟨by omega, by omega⟩ (by omega) (by omega) (by omega) (fun  h3 f4 p5 p6 => ?_))
      have k7 := lk_q (frm_s f4) hk
      have FR8 := frm_t FR0 (frm_m (S' := (fun a k => a = f + 6 ∨ a = f + 12)) f4 (fun a k q => by omega))
      skip
      refine e_vret dX2_loosenDown_22 rfl ⟨rfl, ?_⟩
      exact kq _ FR8 (isF_mates HF (frm_m f4 (fun a k q => by omega)) (fun i q => by unfold ptG setG; rw [if_neg (by omega), if_neg (by omega)]) (wfM_pt W.1 W.2.1 p1) (fun i a c => by
          unfold ptG
          rw [dm_set, dm_set, if_neg (show ¬ 27 + i = 57 + dm g d by omega)]
          refine (p5 i a c).trans ?_
          by_cases q : i = d
          · rw [if_pos q, if_pos (by omega)]
          · rw [if_neg q, if_neg (by omega)]; exact isF_dm HF a c) (fun i a c => by
          unfold ptG
          rw [um_set, um_set, if_neg (show ¬ 57 + i = 27 + d by omega)]
          refine (p6 i a c).trans ?_
          rw [show rI h (f + 1 + 5) d = dm g d from v2]
          by_cases q : i = dm g d
          · rw [if_pos q, if_pos (by omega)]
          · rw [if_neg q, if_neg (by omega)]; exact isF_um HF a c))
set_option maxHeartbeats 400000 in
theorem zp_X2_join_free {ad : mA} {dd : Nat} {h : mH} {Q : mQ} {f : Nat} {g : Int → Int} (hk : fgk h f) (HF : isF h f g)  (d : Int) (d_r : -2147483648 ≤ d ∧ d < 2147483648) (u : Int) (u_r : -2147483648 ≤ u ∧ u < 2147483648) (p1 : cRiv g d u) (kq : ∀ h1, frm (fun a k => a = f + 6 ∨ a = f + 12) h h1 → (isF h1 f (jnG g d u)) → Q none h1) : mCal TB0 ad (dd + 2) M_X2_join [.ref f, .int (zI d), .int (zI u)] h 0 0 Q := by
  refine ⟨Nat.le_of_ble_eq_true rfl, ?_⟩
  show mEv TB0 ad M_X2_join (dd + 2) (0, 0) (mCal TB0 ad (dd + 1)) (fun v h' z => z.1 = 0 ∧ Q v h') 0 [some (.ref f), some (.int (zI d)), some (.int (zI u))] [] h (0, 0)
  have FR0 : frm (fun a k => a = f + 6 ∨ a = f + 12) h h := frm_0 h
  have w1 := isF_n HF
  have w2 := isF_nd HF
  have w3 := isF_nu HF
  have w4 := isF_nc HF
  have W := isF_w HF
  refine e_iload_n dX2_join_0 rfl ?_
  refine z_if_lt 20 dX2_join_1 rfl ⟨by omega, by omega⟩ (fun c1 => ?_) (fun c1 => ?_)
  · exfalso; omega
  · skip
    refine e_iload_n dX2_join_4 rfl ?_
    refine z_bipush (6) dX2_join_5 rfl ?_
    refine z_icmp_ge 20 dX2_join_7 rfl ⟨by omega, by omega⟩ ⟨by omega, by omega⟩ (fun c2 => ?_) (fun c2 => ?_)
    · exfalso; omega
    · skip
      refine e_iload_n dX2_join_10 rfl ?_
      refine z_if_lt 20 dX2_join_11 rfl ⟨by omega, by omega⟩ (fun c3 => ?_) (fun c3 => ?_)
      · exfalso; omega
      · skip
        refine e_iload_n dX2_join_14 rfl ?_
        refine z_bipush (6) dX2_join_15 rfl ?_
        refine z_icmp_lt 21 dX2_join_17 rfl ⟨by omega, by omega⟩ ⟨by omega, by omega⟩ (fun c4 => ?_) (fun c4 => ?_)
        · skip
          skip
          refine e_aload_n dX2_join_21 rfl ?_
          refine e_get (.ref (f + 1)) dX2_join_22 tf_2_12 (congrArg Prod.fst (fg_s0 hk)) (congrArg va_rf (fg_r0_0 hk)) ?_
          refine e_aload_n dX2_join_25 rfl ?_
          refine e_get (.ref (f + 7)) dX2_join_26 tf_2_18 (congrArg Prod.fst (fg_s0 hk)) (congrArg va_rf (fg_r0_1 hk)) ?_
          refine e_iload_n dX2_join_29 rfl ?_
          refine e_callS [.ref _, .ref _, .int _] dX2_join_30 tm_2_38 rfl (Nat.le_of_ble_eq_true rfl) (Nat.le_refl _) (Nat.le_refl _) rfl (zp_X2_loosen (fg_bl1 hk) (fg_bl7 hk) d ⟨by omega, by omega⟩ (by omega) (by omega) (by omega) (fun  h5 f6 p7 p8 => ?_))
          have k9 := lk_q (frm_s f6) hk
          have FR10 := frm_t FR0 (frm_m (S' := (fun a k => a = f + 6 ∨ a = f + 12)) f6 (fun a k q => by omega))
          have z1 : rI h (f + 6) d = -1 := by rw [isF_dm HF (by omega) (by omega)]; omega
          have HJ1 : isF h5 f g := isF_mates HF (frm_m f6 (fun a k q => by omega)) (fun i _ => rfl) W.2.1 (fun i a c => by
              refine (p7 i a c).trans ?_
              by_cases q : i = d
              · rw [if_pos q, q]; omega
              · rw [if_neg q]; exact isF_dm HF a c) (fun i a c => by
              refine (p8 i a c).trans ?_
              rw [if_neg (fun q => by rw [show rI h (f + 1 + 5) d = -1 from z1] at q; omega)]; exact isF_um HF a c)
          refine e_aload_n dX2_join_33 rfl ?_
          refine e_get (.ref (f + 7)) dX2_join_34 tf_2_18 (congrArg Prod.fst (fg_s0 k9)) (congrArg va_rf (fg_r0_1 k9)) ?_
          refine e_aload_n dX2_join_37 rfl ?_
          refine e_get (.ref (f + 1)) dX2_join_38 tf_2_12 (congrArg Prod.fst (fg_s0 k9)) (congrArg va_rf (fg_r0_0 k9)) ?_
          refine e_iload_n dX2_join_41 rfl ?_
          refine e_callS [.ref _, .ref _, .int _] dX2_join_42 tm_2_38 rfl (Nat.le_of_ble_eq_true rfl) (Nat.le_refl _) (Nat.le_refl _) rfl (zp_X2_loosen (fg_bl7 k9) (fg_bl1 k9) u ⟨by omega, by omega⟩ (by omega) (by omega) (by omega) (fun  h11 f12 p13 p14 => ?_))
          have k15 := lk_q (frm_s f12) k9
          have FR16 := frm_t FR10 (frm_m (S' := (fun a k => a = f + 6 ∨ a = f + 12)) f12 (fun a k q => by omega))
          have z2 : rI h5 (f + 12) u = -1 := by rw [isF_um HJ1 (by omega) (by omega)]; omega
          have HJ2 : isF h11 f g := isF_mates HJ1 (frm_m f12 (fun a k q => by omega)) (fun i _ => rfl) W.2.1 (fun i a c => by
              refine (p14 i a c).trans ?_
              rw [if_neg (fun q => by rw [show rI h5 (f + 7 + 5) u = -1 from z2] at q; omega)]; exact isF_dm HJ1 a c) (fun i a c => by
              refine (p13 i a c).trans ?_
              by_cases q : i = u
              · rw [if_pos q, q]; omega
              · rw [if_neg q]; exact isF_um HJ1 a c)
          refine e_aload_n dX2_join_45 rfl ?_
          refine e_get (.ref (f + 1)) dX2_join_46 tf_2_12 (congrArg Prod.fst (fg_s0 k15)) (congrArg va_rf (fg_r0_0 k15)) ?_
          refine e_get (.ref (f + 6)) dX2_join_49 tf_2_42 (congrArg Prod.fst (fg_s1 k15)) (congrArg va_rf (fg_r1_4 k15)) ?_
          refine e_iload_n dX2_join_52 rfl ?_
          refine e_iload_n dX2_join_53 rfl ?_
          refine z_ist dX2_join_54 (fg_s6 k15) (by decide) (by omega) (by omega) (fun h17 e18 => ?_)
          have f19 := frm_1 e18
          have k20 := lk_q (frm_s f19) k15
          have FR21 := frm_t FR16 (frm_m (S' := (fun a k => a = f + 6 ∨ a = f + 12)) f19 (fun a k q => by omega))
          refine e_aload_n dX2_join_55 rfl ?_
          refine e_get (.ref (f + 7)) dX2_join_56 tf_2_18 (congrArg Prod.fst (fg_s0 k20)) (congrArg va_rf (fg_r0_1 k20)) ?_
          refine e_get (.ref (f + 12)) dX2_join_59 tf_2_42 (congrArg Prod.fst (fg_s7 k20)) (congrArg va_rf (fg_r7_4 k20)) ?_
          refine e_iload_n dX2_join_62 rfl ?_
          refine e_iload_n dX2_join_63 rfl ?_
          refine z_ist dX2_join_64 (fg_s12 k20) (by decide) (by omega) (by omega) (fun h22 e23 => ?_)
          have f24 := frm_1 e23
          have k25 := lk_q (frm_s f24) k20
          have FR26 := frm_t FR21 (frm_m (S' := (fun a k => a = f + 6 ∨ a = f + 12)) f24 (fun a k q => by omega))
          refine e_vret dX2_join_65 rfl ⟨rfl, ?_⟩
          exact kq _ FR26 (isF_mates HJ2 (frm_t (frm_m f19 (fun a k q => by omega)) (frm_m f24 (fun a k q => by omega))) (fun i q => by unfold jnG setG; rw [if_neg (by omega), if_neg (by omega)]) (wfM_jn W.1 W.2.1 p1) (fun i a c => by
              unfold jnG
              rw [dm_set, dm_set, if_neg (show ¬ 27 + i = 57 + u by omega)]
              by_cases q : i = d
              · subst q; rw [if_pos rfl]; exact ((frm_r f24 (by omega)).trans (rI_eq e18 ⟨by omega, by omega⟩))
              · rw [if_neg (by omega)]; exact (((frm_r f24 (by omega)).trans (frm_r f19 (by omega)))).trans (isF_dm HJ2 a c)) (fun i a c => by
              unfold jnG
              rw [um_set, um_set]
              by_cases q : i = u
              · subst q; rw [if_pos rfl]; exact (rI_eq e23 ⟨by omega, by omega⟩)
              · rw [if_neg (by omega), if_neg (by omega)]; exact (((frm_r f24 (by omega)).trans (frm_r f19 (by omega)))).trans (isF_um HJ2 a c)))
        · exfalso; omega
