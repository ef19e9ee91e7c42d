/-! TEXT: what the reference notes -/
theorem dX12_fails_0 : decode cX12_fails 0 = .ok (.aload_n 0, 1) := by decide +kernel
theorem dX12_fails_1 : decode cX12_fails 1 = .ok (.aload_n 0, 1) := by decide +kernel
theorem dX12_fails_2 : decode cX12_fails 2 = .ok (.getfield 133, 3) := by decide +kernel
theorem dX12_fails_5 : decode cX12_fails 5 = .ok (.putfield 146, 3) := by decide +kernel
theorem dX12_fails_8 : decode cX12_fails 8 = .ok (.iconst 0, 1) := by decide +kernel
theorem dX12_fails_9 : decode cX12_fails 9 = .ok (.ireturn, 1) := by decide +kernel
theorem dX12_later_0 : decode cX12_later 0 = .ok (.aload_n 0, 1) := by decide +kernel
theorem dX12_later_1 : decode cX12_later 1 = .ok (.getfield 149, 3) := by decide +kernel
theorem dX12_later_4 : decode cX12_later 4 = .ok (.ifCond .eq 27, 3) := by decide +kernel
theorem dX12_later_7 : decode cX12_later 7 = .ok (.iload_n 2, 1) := by decide +kernel
theorem dX12_later_8 : decode cX12_later 8 = .ok (.aload_n 0, 1) := by decide +kernel
theorem dX12_later_9 : decode cX12_later 9 = .ok (.getfield 152, 3) := by decide +kernel
theorem dX12_later_12 : decode cX12_later 12 = .ok (.if_icmp .lt 19, 3) := by decide +kernel
theorem dX12_later_15 : decode cX12_later 15 = .ok (.iload_n 2, 1) := by decide +kernel
theorem dX12_later_16 : decode cX12_later 16 = .ok (.aload_n 0, 1) := by decide +kernel
theorem dX12_later_17 : decode cX12_later 17 = .ok (.getfield 152, 3) := by decide +kernel
theorem dX12_later_20 : decode cX12_later 20 = .ok (.if_icmp .ne 21, 3) := by decide +kernel
theorem dX12_later_23 : decode cX12_later 23 = .ok (.iload_n 1, 1) := by decide +kernel
theorem dX12_later_24 : decode cX12_later 24 = .ok (.aload_n 0, 1) := by decide +kernel
theorem dX12_later_25 : decode cX12_later 25 = .ok (.getfield 149, 3) := by decide +kernel
theorem dX12_later_28 : decode cX12_later 28 = .ok (.if_icmp .ge 13, 3) := by decide +kernel
theorem dX12_later_31 : decode cX12_later 31 = .ok (.aload_n 0, 1) := by decide +kernel
theorem dX12_later_32 : decode cX12_later 32 = .ok (.iload_n 1, 1) := by decide +kernel
theorem dX12_later_33 : decode cX12_later 33 = .ok (.putfield 149, 3) := by decide +kernel
theorem dX12_later_36 : decode cX12_later 36 = .ok (.aload_n 0, 1) := by decide +kernel
theorem dX12_later_37 : decode cX12_later 37 = .ok (.iload_n 2, 1) := by decide +kernel
theorem dX12_later_38 : decode cX12_later 38 = .ok (.putfield 152, 3) := by decide +kernel
theorem dX12_later_41 : decode cX12_later 41 = .ok (.return_, 1) := by decide +kernel
theorem tf_12_146 : tFld TB0 12 146 = some (12, 15) := rfl
theorem tf_12_149 : tFld TB0 12 149 = some (12, 16) := rfl
theorem tf_12_152 : tFld TB0 12 152 = some (12, 17) := rfl
/-! TEXT: what the reference notes -/
def rfF (h : mH) (m : Nat) (f q : Int) : Prop := rI h m 16 = f ∧ (f ≠ 0 → rI h m 17 = q) ∧ (0 ≤ f ∧ f ≤ 4)
theorem rfF_c {S : Nat → Nat → Prop} {h h1 : mH} {m : Nat} {f q : Int} (s : frm S h h1) (z : ∀ a k, a = m ∧ (k = 16 ∨ k = 17) → ¬ S a k) (H : rfF h m f q) : rfF h1 m f q := ⟨(frm_r s (z _ _ (by omega))).trans H.1, fun n => (frm_r s (z _ _ (by omega))).trans (H.2.1 n), H.2.2⟩
set_option maxHeartbeats 400000 in
theorem zp_X12_fails {ad : mA} {dd : Nat} {h : mH} {Q : mQ} {m : Nat} {T : Int → Int} {L p : Int} (hk : rk h m) (HP : rfP h m T L p)   (pl : L ≤ 600) (kq : ∀ h1, frm (fun a k => a = m ∧ k = 15) h h1 → (rI h1 m 15 = tkS T L p) → Q (some (.int (zI (bZ False)))) h1) : mCal TB0 ad (dd + 1) M_X12_fails [.ref m] h 0 0 Q := by
  refine ⟨Nat.le_of_ble_eq_true rfl, ?_⟩
  show mEv TB0 ad M_X12_fails (dd + 1) (0, 0) (mCal TB0 ad (dd + 0)) (fun v h' z => z.1 = 0 ∧ Q v h') 0 [some (.ref m)] [] h (0, 0)
  have FR0 : frm (fun a k => a = m ∧ k = 15) h h := frm_0 h
  have tb := tk_b (T := T) HP.1.1 HP.1.2
  have p0 := HP.1
  refine e_aload_n dX12_fails_0 rfl ?_
  refine e_aload_n dX12_fails_1 rfl ?_
  refine z_get (tkS T L p) dX12_fails_2 tf_12_133 (rk_s hk) (Or.inl rfl) HP.2.2.2.1 ?_
  have y1 := tk_b (T := T) HP.1.1 HP.1.2
  have y2 := HP.1
  have y3 := ks_p (tkK T L p)
  refine z_put dX12_fails_5 tf_12_146 (rk_s hk) rfl (Or.inl rfl) (fun h4 e5 => ?_)
  have f6 := frm_1 e5
  have k7 := rk_q (frm_s f6) hk
  have H8 := rfP_c f6 (fun a k q => by omega) HP
  have FR9 := frm_t FR0 (frm_m (S' := (fun a k => a = m ∧ k = 15)) f6 (fun a k q => by omega))
  refine z_iconst (0) dX12_fails_8 rfl ?_
  refine z_bret dX12_fails_9 rfl (Or.inl rfl) ⟨rfl, ?_⟩
  refine z_q0 (kq _ FR9 (rI_eq e5 ⟨by omega, by omega⟩)) (fun z => z)
set_option maxHeartbeats 400000 in
theorem zp_X12_later {ad : mA} {dd : Nat} {h : mH} {Q : mQ} {m : Nat} {f q : Int} (hk : rk h m) (HF : rfF h m f q)  (k : Int) (k_r : -2147483648 ≤ k ∧ k < 2147483648) (s : Int) (s_r : -2147483648 ≤ s ∧ s < 2147483648) (pk : 0 ≤ k ∧ k ≤ 4) (pq : f ≠ 0 → q < s) (pz : -1 ≤ q ∧ q ≤ 600) (kq : ∀ h1, frm (fun a k => a = m ∧ (k = 16 ∨ k = 17)) h h1 → (rfF h1 m (ntF True k f) (ntQ True s f q)) → Q none h1) : mCal TB0 ad (dd + 1) M_X12_later [.ref m, .int (zI k), .int (zI s)] h 0 0 Q := by
  refine ⟨Nat.le_of_ble_eq_true rfl, ?_⟩
  show mEv TB0 ad M_X12_later (dd + 1) (0, 0) (mCal TB0 ad (dd + 0)) (fun v h' z => z.1 = 0 ∧ Q v h') 0 [some (.ref m), some (.int (zI k)), some (.int (zI s))] [] h (0, 0)
  have FR0 : frm (fun a k => a = m ∧ (k = 16 ∨ k = 17)) h h := frm_0 h
  have fb := HF.2.2
  refine e_aload_n dX12_later_0 rfl ?_
  refine z_get f dX12_later_1 tf_12_149 (rk_s hk) (Or.inl rfl) HF.1 ?_
  refine z_if_eq 31 dX12_later_4 rfl ⟨by omega, by omega⟩ (fun c1 => ?_) (fun c1 => ?_)
  · skip
    refine e_aload_n dX12_later_31 rfl ?_
    refine e_iload_n dX12_later_32 rfl ?_
    refine z_put dX12_later_33 tf_12_149 (rk_s hk) rfl (Or.inl rfl) (fun h2 e3 => ?_)
    have f4 := frm_1 e3
    have k5 := rk_q (frm_s f4) hk
    have FR6 := frm_t FR0 (frm_m (S' := (fun a k => a = m ∧ (k = 16 ∨ k = 17))) f4 (fun a k q => by omega))
    refine e_aload_n dX12_later_36 rfl ?_
    refine e_iload_n dX12_later_37 rfl ?_
    refine z_put dX12_later_38 tf_12_152 (rk_s k5) rfl (Or.inl rfl) (fun h7 e8 => ?_)
    have f9 := frm_1 e8
    have k10 := rk_q (frm_s f9) k5
    have FR11 := frm_t FR6 (frm_m (S' := (fun a k => a = m ∧ (k = 16 ∨ k = 17))) f9 (fun a k q => by omega))
    refine e_vret dX12_later_41 rfl ⟨rfl, ?_⟩
    exact kq _ FR11 ⟨by unfold ntF; rw [if_pos ⟨trivial, by omega⟩]; exact ((frm_r f9 (by omega)).trans (rI_eq e3 ⟨by omega, by omega⟩)), fun _ => by unfold ntQ; rw [if_pos ⟨trivial, by omega⟩]; exact (rI_eq e8 ⟨by omega, by omega⟩), by unfold ntF; rw [if_pos ⟨trivial, by omega⟩]; exact pk⟩
  · skip
    refine e_iload_n dX12_later_7 rfl ?_
    refine e_aload_n dX12_later_8 rfl ?_
    refine z_get q dX12_later_9 tf_12_152 (rk_s hk) (Or.inl rfl) (HF.2.1 (by omega)) ?_
    refine z_icmp_lt 31 dX12_later_12 rfl ⟨by omega, by omega⟩ ⟨by omega, by omega⟩ (fun c12 => ?_) (fun c12 => ?_)
    · exfalso; omega
    · skip
      refine e_iload_n dX12_later_15 rfl ?_
      refine e_aload_n dX12_later_16 rfl ?_
      refine z_get q dX12_later_17 tf_12_152 (rk_s hk) (Or.inl rfl) (HF.2.1 (by omega)) ?_
      refine z_icmp_ne 41 dX12_later_20 rfl ⟨by omega, by omega⟩ ⟨by omega, by omega⟩ (fun c13 => ?_) (fun c13 => ?_)
      · skip
        refine e_vret dX12_later_41 rfl ⟨rfl, ?_⟩
        exact kq _ FR0 ⟨by unfold ntF; rw [if_neg (by omega)]; exact HF.1, fun z => by unfold ntQ; rw [if_neg (by omega)]; exact HF.2.1 (by omega), by unfold ntF; rw [if_neg (by omega)]; exact fb⟩
      · exfalso; omega
