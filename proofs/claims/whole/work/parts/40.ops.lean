/-! OPS: end, fault (class and reference) -/
theorem dX11_end_0 : decode cX11_end 0 = .ok (.iload_n 1, 1) := by decide +kernel
theorem dX11_end_1 : decode cX11_end 1 = .ok (.ifCond .lt 14, 3) := by decide +kernel
theorem dX11_end_4 : decode cX11_end 4 = .ok (.iload_n 1, 1) := by decide +kernel
theorem dX11_end_5 : decode cX11_end 5 = .ok (.aload_n 0, 1) := by decide +kernel
theorem dX11_end_6 : decode cX11_end 6 = .ok (.getfield 10, 3) := by decide +kernel
theorem dX11_end_9 : decode cX11_end 9 = .ok (.getfield 62, 3) := by decide +kernel
theorem dX11_end_12 : decode cX11_end 12 = .ok (.if_icmp .le 5, 3) := by decide +kernel
theorem dX11_end_15 : decode cX11_end 15 = .ok (.iconst (-1), 1) := by decide +kernel
theorem dX11_end_16 : decode cX11_end 16 = .ok (.ireturn, 1) := by decide +kernel
theorem dX11_end_17 : decode cX11_end 17 = .ok (.aload_n 0, 1) := by decide +kernel
theorem dX11_end_18 : decode cX11_end 18 = .ok (.getfield 10, 3) := by decide +kernel
theorem dX11_end_21 : decode cX11_end 21 = .ok (.iload_n 1, 1) := by decide +kernel
theorem dX11_end_22 : decode cX11_end 22 = .ok (.putfield 62, 3) := by decide +kernel
theorem dX11_end_25 : decode cX11_end 25 = .ok (.iload_n 1, 1) := by decide +kernel
theorem dX11_end_26 : decode cX11_end 26 = .ok (.ireturn, 1) := by decide +kernel
theorem dX11_fault_0 : decode cX11_fault 0 = .ok (.iload_n 1, 1) := by decide +kernel
theorem dX11_fault_1 : decode cX11_fault 1 = .ok (.ifCond .ne 11, 3) := by decide +kernel
theorem dX11_fault_4 : decode cX11_fault 4 = .ok (.aload_n 0, 1) := by decide +kernel
theorem dX11_fault_5 : decode cX11_fault 5 = .ok (.getfield 10, 3) := by decide +kernel
theorem dX11_fault_8 : decode cX11_fault 8 = .ok (.getfield 70, 3) := by decide +kernel
theorem dX11_fault_11 : decode cX11_fault 11 = .ok (.ireturn, 1) := by decide +kernel
theorem dX11_fault_12 : decode cX11_fault 12 = .ok (.iload_n 1, 1) := by decide +kernel
theorem dX11_fault_13 : decode cX11_fault 13 = .ok (.iconst 1, 1) := by decide +kernel
theorem dX11_fault_14 : decode cX11_fault 14 = .ok (.if_icmp .ne 13, 3) := by decide +kernel
theorem dX11_fault_17 : decode cX11_fault 17 = .ok (.aload_n 0, 1) := by decide +kernel
theorem dX11_fault_18 : decode cX11_fault 18 = .ok (.getfield 10, 3) := by decide +kernel
theorem dX11_fault_21 : decode cX11_fault 21 = .ok (.getfield 73, 3) := by decide +kernel
theorem dX11_fault_24 : decode cX11_fault 24 = .ok (.goto 4, 3) := by decide +kernel
theorem dX11_fault_27 : decode cX11_fault 27 = .ok (.iconst (-1), 1) := by decide +kernel
theorem dX11_fault_28 : decode cX11_fault 28 = .ok (.ireturn, 1) := by decide +kernel
theorem tf_11_62 : tFld TB0 11 62 = some (8, 5) := rfl
theorem tf_11_70 : tFld TB0 11 70 = some (8, 6) := rfl
theorem tf_11_73 : tFld TB0 11 73 = some (8, 7) := rfl
def F_X11_fault (h : mH) (x : Nat) (w : Int32) : Int32 := (if ¬ w = 0 then (if ¬ w = nI (1) then (-1) else (mI h (x + 1) 7)) else (mI h (x + 1) 6))
set_option maxHeartbeats 1000000 in
theorem sp_X11_fault {ad : mA} {d : Nat} {h : mH} {Q : mQ} {x : Nat} (hk : bk h x) (w : Int32)  (kq : Q (some (.int (F_X11_fault h x w))) h) : mCal TB0 ad (d + 1) M_X11_fault [.ref x, .int w] h 0 0 Q := by
  refine ⟨Nat.le_of_ble_eq_true rfl, ?_⟩
  show mEv _ _ _ _ _ _ _ 0 [some (.ref x), some (.int w)] [] _ _
  refine e_iload_n dX11_fault_0 rfl ?_
  refine e_if_ne 12 dX11_fault_1 rfl (fun c_1 => ?_) (fun c_1 => ?_)
  · skip
    refine e_iload_n dX11_fault_12 rfl ?_
    refine e_iconst (nI 1) dX11_fault_13 rfl ?_
    refine e_icmp_ne 27 dX11_fault_14 rfl (fun c_2 => ?_) (fun c_2 => ?_)
    · skip
      refine e_iconst (-1) dX11_fault_27 rfl ?_
      refine e_iret dX11_fault_28 rfl ⟨rfl, ?_⟩
      unfold F_X11_fault at kq
      simp only [if_pos c_1, if_pos c_2] at kq
      exact kq
    · skip
      refine e_aload_n dX11_fault_17 rfl ?_
      refine e_get (.ref (x + 1)) dX11_fault_18 tf_11_10 (congrArg Prod.fst (bk_s0 hk)) (congrArg va_rf (bk_r0_0 hk)) ?_
      refine e_get (.int (mI _ (x + 1) 7)) dX11_fault_21 tf_11_73 (congrArg Prod.fst (bk_s1 hk)) rfl ?_
      refine e_goto 28 dX11_fault_24 rfl ?_
      refine e_iret dX11_fault_28 rfl ⟨rfl, ?_⟩
      unfold F_X11_fault at kq
      simp only [if_pos c_1, if_neg (fun q : ¬ w = nI (1) => q c_2)] at kq
      exact kq
  · skip
    refine e_aload_n dX11_fault_4 rfl ?_
    refine e_get (.ref (x + 1)) dX11_fault_5 tf_11_10 (congrArg Prod.fst (bk_s0 hk)) (congrArg va_rf (bk_r0_0 hk)) ?_
    refine e_get (.int (mI _ (x + 1) 6)) dX11_fault_8 tf_11_70 (congrArg Prod.fst (bk_s1 hk)) rfl ?_
    refine e_iret dX11_fault_11 rfl ⟨rfl, ?_⟩
    unfold F_X11_fault at kq
    simp only [if_neg (fun q : ¬ w = 0 => q c_1)] at kq
    exact kq
def F_X11_end (h : mH) (x : Nat) (n : Int32) : Int32 := (if n < 0 then (-1) else (if n ≤ (mI h (x + 1) 5) then n else (-1)))
def H_X11_end (h : mH) (x : Nat) (n : Int32) : mH := (if n < 0 then h else (if n ≤ (mI h (x + 1) 5) then (wI h (x + 1) 5 n) else h))
set_option maxHeartbeats 1000000 in
theorem sp_X11_end {ad : mA} {d : Nat} {h : mH} {Q : mQ} {x : Nat} (hk : bk h x) (n : Int32)  (kq : Q (some (.int (F_X11_end h x n))) (H_X11_end h x n)) : mCal TB0 ad (d + 1) M_X11_end [.ref x, .int n] h 0 0 Q := by
  refine ⟨Nat.le_of_ble_eq_true rfl, ?_⟩
  show mEv _ _ _ _ _ _ _ 0 [some (.ref x), some (.int n)] [] _ _
  refine e_iload_n dX11_end_0 rfl ?_
  refine e_if_lt 15 dX11_end_1 rfl (fun c_1 => ?_) (fun c_1 => ?_)
  · skip
    refine e_iconst (-1) dX11_end_15 rfl ?_
    refine e_iret dX11_end_16 rfl ⟨rfl, ?_⟩
    unfold F_X11_end H_X11_end at kq
    simp only [if_pos c_1] at kq
    exact kq
  · skip
    refine e_iload_n dX11_end_4 rfl ?_
    refine e_aload_n dX11_end_5 rfl ?_
    refine e_get (.ref (x + 1)) dX11_end_6 tf_11_10 (congrArg Prod.fst (bk_s0 hk)) (congrArg va_rf (bk_r0_0 hk)) ?_
    refine e_get (.int (mI _ (x + 1) 5)) dX11_end_9 tf_11_62 (congrArg Prod.fst (bk_s1 hk)) rfl ?_
    refine e_icmp_le 17 dX11_end_12 rfl (fun c_2 => ?_) (fun c_2 => ?_)
    · skip
      refine e_aload_n dX11_end_17 rfl ?_
      refine e_get (.ref (x + 1)) dX11_end_18 tf_11_10 (congrArg Prod.fst (bk_s0 hk)) (congrArg va_rf (bk_r0_0 hk)) ?_
      refine e_iload_n dX11_end_21 rfl ?_
      refine e_putI dX11_end_22 tf_11_62 (congrArg Prod.fst (bk_s1 hk)) rfl (Or.inl rfl) ?_
      refine e_iload_n dX11_end_25 rfl ?_
      refine e_iret dX11_end_26 rfl ⟨rfl, ?_⟩
      unfold F_X11_end H_X11_end at kq
      simp only [if_neg c_1, if_pos c_2] at kq
      exact kq
    · skip
      refine e_iconst (-1) dX11_end_15 rfl ?_
      refine e_iret dX11_end_16 rfl ⟨rfl, ?_⟩
      unfold F_X11_end H_X11_end at kq
      simp only [if_neg c_1, if_neg c_2] at kq
      exact kq
/-- fault: both look it up -/
theorem op3_of {ad : mA} {B : Nat} {Inv : mH → Prop} (hb : ∀ h, Inv h → bk h B ∧ rk h (B + 157) ∧ mI h (B + 1) 6 = mI h (B + 157 + 3) 0 ∧ mI h (B + 1) 7 = mI h (B + 157 + 4) 0) (hc : ∀ h, Inv h → Inv (wI h (B + 157) 0 (nI 0))) : op_3 ad B Inv := by
  intro w h hI
  obtain ⟨h1, h2, h3, h4⟩ := hb h hI
  refine ⟨0, 0, by omega, by omega, sp_X11_fault (d := 798) h1 w ⟨_, rfl, rk_s h2, sp_X12_fault (d := 798) h2 w ⟨?_, ?_⟩⟩⟩
  · unfold F_X11_fault F_X12_fault
    rw [h3, h4]
    sorry
  · exact hc h hI
