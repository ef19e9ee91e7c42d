/-! TEXT: the class takes tokens -/
theorem dX6_beginLine_0 : decode cX6_beginLine 0 = .ok (.iload_n 1, 1) := by decide +kernel
theorem dX6_beginLine_1 : decode cX6_beginLine 1 = .ok (.ifCond .eq 12, 3) := by decide +kernel
theorem dX6_beginLine_4 : decode cX6_beginLine 4 = .ok (.aload_n 0, 1) := by decide +kernel
theorem dX6_beginLine_5 : decode cX6_beginLine 5 = .ok (.iconst 3, 1) := by decide +kernel
theorem dX6_beginLine_6 : decode cX6_beginLine 6 = .ok (.aload_n 0, 1) := by decide +kernel
theorem dX6_beginLine_7 : decode cX6_beginLine 7 = .ok (.getfield 56, 3) := by decide +kernel
theorem dX6_beginLine_10 : decode cX6_beginLine 10 = .ok (.invokevirtual 94, 3) := by decide +kernel
theorem dX6_beginLine_13 : decode cX6_beginLine 13 = .ok (.aload_n 0, 1) := by decide +kernel
theorem dX6_beginLine_14 : decode cX6_beginLine 14 = .ok (.getfield 43, 3) := by decide +kernel
theorem dX6_beginLine_17 : decode cX6_beginLine 17 = .ok (.iconst (-1), 1) := by decide +kernel
theorem dX6_beginLine_18 : decode cX6_beginLine 18 = .ok (.invokestatic 227, 3) := by decide +kernel
theorem dX6_beginLine_21 : decode cX6_beginLine 21 = .ok (.aload_n 0, 1) := by decide +kernel
theorem dX6_beginLine_22 : decode cX6_beginLine 22 = .ok (.invokevirtual 118, 3) := by decide +kernel
theorem dX6_beginLine_25 : decode cX6_beginLine 25 = .ok (.return_, 1) := by decide +kernel
theorem dX6_takeNumber_0 : decode cX6_takeNumber 0 = .ok (.aload_n 0, 1) := by decide +kernel
theorem dX6_takeNumber_1 : decode cX6_takeNumber 1 = .ok (.getfield 53, 3) := by decide +kernel
theorem dX6_takeNumber_4 : decode cX6_takeNumber 4 = .ok (.iconst 1, 1) := by decide +kernel
theorem dX6_takeNumber_5 : decode cX6_takeNumber 5 = .ok (.if_icmp .eq 8, 3) := by decide +kernel
theorem dX6_takeNumber_8 : decode cX6_takeNumber 8 = .ok (.aload_n 0, 1) := by decide +kernel
theorem dX6_takeNumber_9 : decode cX6_takeNumber 9 = .ok (.invokevirtual 143, 3) := by decide +kernel
theorem dX6_takeNumber_12 : decode cX6_takeNumber 12 = .ok (.ireturn, 1) := by decide +kernel
theorem dX6_takeNumber_13 : decode cX6_takeNumber 13 = .ok (.aload_n 0, 1) := by decide +kernel
theorem dX6_takeNumber_14 : decode cX6_takeNumber 14 = .ok (.getfield 59, 3) := by decide +kernel
theorem dX6_takeNumber_17 : decode cX6_takeNumber 17 = .ok (.iload_n 2, 1) := by decide +kernel
theorem dX6_takeNumber_18 : decode cX6_takeNumber 18 = .ok (.if_icmp .lt 11, 3) := by decide +kernel
theorem dX6_takeNumber_21 : decode cX6_takeNumber 21 = .ok (.aload_n 0, 1) := by decide +kernel
theorem dX6_takeNumber_22 : decode cX6_takeNumber 22 = .ok (.getfield 59, 3) := by decide +kernel
theorem dX6_takeNumber_25 : decode cX6_takeNumber 25 = .ok (.iload_n 3, 1) := by decide +kernel
theorem dX6_takeNumber_26 : decode cX6_takeNumber 26 = .ok (.if_icmp .le 12, 3) := by decide +kernel
theorem dX6_takeNumber_29 : decode cX6_takeNumber 29 = .ok (.aload_n 0, 1) := by decide +kernel
theorem dX6_takeNumber_30 : decode cX6_takeNumber 30 = .ok (.iconst 2, 1) := by decide +kernel
theorem dX6_takeNumber_31 : decode cX6_takeNumber 31 = .ok (.aload_n 0, 1) := by decide +kernel
theorem dX6_takeNumber_32 : decode cX6_takeNumber 32 = .ok (.getfield 56, 3) := by decide +kernel
theorem dX6_takeNumber_35 : decode cX6_takeNumber 35 = .ok (.invokevirtual 94, 3) := by decide +kernel
theorem dX6_takeNumber_38 : decode cX6_takeNumber 38 = .ok (.iload_n 1, 1) := by decide +kernel
theorem dX6_takeNumber_39 : decode cX6_takeNumber 39 = .ok (.ifCond .lt 22, 3) := by decide +kernel
theorem dX6_takeNumber_42 : decode cX6_takeNumber 42 = .ok (.iload_n 1, 1) := by decide +kernel
theorem dX6_takeNumber_43 : decode cX6_takeNumber 43 = .ok (.aload_n 0, 1) := by decide +kernel
theorem dX6_takeNumber_44 : decode cX6_takeNumber 44 = .ok (.getfield 43, 3) := by decide +kernel
theorem dX6_takeNumber_47 : decode cX6_takeNumber 47 = .ok (.arraylength, 1) := by decide +kernel
theorem dX6_takeNumber_48 : decode cX6_takeNumber 48 = .ok (.if_icmp .ge 13, 3) := by decide +kernel
theorem dX6_takeNumber_51 : decode cX6_takeNumber 51 = .ok (.aload_n 0, 1) := by decide +kernel
theorem dX6_takeNumber_52 : decode cX6_takeNumber 52 = .ok (.getfield 43, 3) := by decide +kernel
theorem dX6_takeNumber_55 : decode cX6_takeNumber 55 = .ok (.iload_n 1, 1) := by decide +kernel
theorem dX6_takeNumber_56 : decode cX6_takeNumber 56 = .ok (.aload_n 0, 1) := by decide +kernel
theorem dX6_takeNumber_57 : decode cX6_takeNumber 57 = .ok (.getfield 59, 3) := by decide +kernel
theorem dX6_takeNumber_60 : decode cX6_takeNumber 60 = .ok (.iastore, 1) := by decide +kernel
theorem dX6_takeNumber_61 : decode cX6_takeNumber 61 = .ok (.aload_n 0, 1) := by decide +kernel
theorem dX6_takeNumber_62 : decode cX6_takeNumber 62 = .ok (.invokevirtual 118, 3) := by decide +kernel
theorem dX6_takeNumber_65 : decode cX6_takeNumber 65 = .ok (.iconst 1, 1) := by decide +kernel
theorem dX6_takeNumber_66 : decode cX6_takeNumber 66 = .ok (.ireturn, 1) := by decide +kernel
theorem dX6_takeStop_0 : decode cX6_takeStop 0 = .ok (.aload_n 0, 1) := by decide +kernel
theorem dX6_takeStop_1 : decode cX6_takeStop 1 = .ok (.getfield 53, 3) := by decide +kernel
theorem dX6_takeStop_4 : decode cX6_takeStop 4 = .ok (.iconst 2, 1) := by decide +kernel
theorem dX6_takeStop_5 : decode cX6_takeStop 5 = .ok (.if_icmp .eq 8, 3) := by decide +kernel
theorem dX6_takeStop_8 : decode cX6_takeStop 8 = .ok (.aload_n 0, 1) := by decide +kernel
theorem dX6_takeStop_9 : decode cX6_takeStop 9 = .ok (.invokevirtual 143, 3) := by decide +kernel
theorem dX6_takeStop_12 : decode cX6_takeStop 12 = .ok (.ireturn, 1) := by decide +kernel
theorem dX6_takeStop_13 : decode cX6_takeStop 13 = .ok (.aload_n 0, 1) := by decide +kernel
theorem dX6_takeStop_14 : decode cX6_takeStop 14 = .ok (.invokevirtual 118, 3) := by decide +kernel
theorem dX6_takeStop_17 : decode cX6_takeStop 17 = .ok (.iconst 1, 1) := by decide +kernel
theorem dX6_takeStop_18 : decode cX6_takeStop 18 = .ok (.ireturn, 1) := by decide +kernel
theorem dX6_refuse_0 : decode cX6_refuse 0 = .ok (.aload_n 0, 1) := by decide +kernel
theorem dX6_refuse_1 : decode cX6_refuse 1 = .ok (.iconst 1, 1) := by decide +kernel
theorem dX6_refuse_2 : decode cX6_refuse 2 = .ok (.putfield 32, 3) := by decide +kernel
theorem dX6_refuse_5 : decode cX6_refuse 5 = .ok (.aload_n 0, 1) := by decide +kernel
theorem dX6_refuse_6 : decode cX6_refuse 6 = .ok (.aload_n 0, 1) := by decide +kernel
theorem dX6_refuse_7 : decode cX6_refuse 7 = .ok (.getfield 56, 3) := by decide +kernel
theorem dX6_refuse_10 : decode cX6_refuse 10 = .ok (.putfield 36, 3) := by decide +kernel
theorem dX6_refuse_13 : decode cX6_refuse 13 = .ok (.iconst 0, 1) := by decide +kernel
theorem dX6_refuse_14 : decode cX6_refuse 14 = .ok (.ireturn, 1) := by decide +kernel
theorem dX6_note_0 : decode cX6_note 0 = .ok (.aload_n 0, 1) := by decide +kernel
theorem dX6_note_1 : decode cX6_note 1 = .ok (.getfield 32, 3) := by decide +kernel
theorem dX6_note_4 : decode cX6_note 4 = .ok (.ifCond .ne 13, 3) := by decide +kernel
theorem dX6_note_7 : decode cX6_note 7 = .ok (.aload_n 0, 1) := by decide +kernel
theorem dX6_note_8 : decode cX6_note 8 = .ok (.iload_n 1, 1) := by decide +kernel
theorem dX6_note_9 : decode cX6_note 9 = .ok (.putfield 32, 3) := by decide +kernel
theorem dX6_note_12 : decode cX6_note 12 = .ok (.aload_n 0, 1) := by decide +kernel
theorem dX6_note_13 : decode cX6_note 13 = .ok (.iload_n 2, 1) := by decide +kernel
theorem dX6_note_14 : decode cX6_note 14 = .ok (.putfield 36, 3) := by decide +kernel
theorem dX6_note_17 : decode cX6_note 17 = .ok (.return_, 1) := by decide +kernel
set_option maxRecDepth 20000 in
theorem tm_6_94 : tMet TB0 6 94 = some (0, M_X6_note) := rfl
set_option maxRecDepth 20000 in
theorem tm_6_118 : tMet TB0 6 118 = some (0, M_X6_advance) := rfl
set_option maxRecDepth 20000 in
theorem tm_6_143 : tMet TB0 6 143 = some (0, M_X6_refuse) := rfl
set_option maxRecDepth 20000 in
theorem tm_6_227 : tMet TB0 6 227 = some (1, M_J7_fill_53178) := rfl
/-! TEXT: the class takes tokens -/
def tnP (h : mH) (y : Nat) (T : Int → Int) (L p f q lo hi i v : Int) : Prop := (v = 1 ∧ tkK T L p = 1 ∧ rdP h y T L (tkE T L p) ∧ rdF h y (ntF (¬ (lo ≤ tkV T L p ∧ tkV T L p ≤ hi)) 2 f) (ntQ (¬ (lo ≤ tkV T L p ∧ tkV T L p ≤ hi)) (tkS T L p) f q) ∧ rI h (y + 26) i = tkV T L p) ∨ (v = 0 ∧ tkK T L p ≠ 1 ∧ rdF h y 1 (tkS T L p))
def spP (h : mH) (y : Nat) (T : Int → Int) (L p f q v : Int) : Prop := (v = 1 ∧ tkK T L p = 2 ∧ rdP h y T L (tkE T L p) ∧ rdF h y f q) ∨ (v = 0 ∧ tkK T L p ≠ 2 ∧ rdF h y 1 (tkS T L p))
def sdP (h : mH) (y : Nat) (T : Int → Int) (L p f q v : Int) : Prop := (v = 1 ∧ (tkW T L p = 1685026670 ∨ tkW T L p = 30064) ∧ rdP h y T L (tkE T L p) ∧ rdF h y f q ∧ rI h (y + 26) 0 = if tkW T L p = 30064 then 1 else 0) ∨ (v = 0 ∧ ¬ (tkW T L p = 1685026670 ∨ tkW T L p = 30064) ∧ rdF h y 1 (tkS T L p))
theorem nt_iff {c c' : Prop} [Decidable c] [Decidable c'] {k s f q : Int} (h : c ↔ c') : ntF c k f = ntF c' k f ∧ ntQ c s f q = ntQ c' s f q := by
  unfold ntF ntQ
  by_cases z : c ∧ f = 0
  · rw [if_pos z, if_pos z, if_pos ⟨h.mp z.1, z.2⟩, if_pos ⟨h.mp z.1, z.2⟩]; exact ⟨rfl, rfl⟩
  · rw [if_neg z, if_neg z, if_neg (fun w => z ⟨h.mpr w.1, w.2⟩), if_neg (fun w => z ⟨h.mpr w.1, w.2⟩)]; exact ⟨rfl, rfl⟩
theorem nt_b {c : Prop} [Decidable c] {k s f q : Int} (h : (0 ≤ f ∧ f ≤ 4) ∧ (-1 ≤ q ∧ q ≤ 600)) (h2 : (0 ≤ k ∧ k ≤ 4) ∧ (-1 ≤ s ∧ s ≤ 600)) : (0 ≤ ntF c k f ∧ ntF c k f ≤ 4) ∧ (-1 ≤ ntQ c s f q ∧ ntQ c s f q ≤ 600) := by
  unfold ntF ntQ
  split <;> omega
set_option maxHeartbeats 400000 in
theorem zp_X6_note {ad : mA} {dd : Nat} {h : mH} {Q : mQ} {y : Nat} {f q : Int} (hk : rdk h y) (HF : rdF h y f q)  (k : Int) (k_r : -2147483648 ≤ k ∧ k < 2147483648) (s : Int) (s_r : -2147483648 ≤ s ∧ s < 2147483648) (pk : (0 ≤ k ∧ k ≤ 4) ∧ (-1 ≤ s ∧ s ≤ 600)) (kq : ∀ h1, frm (fun a k => a = y ∧ (k = 3 ∨ k = 4)) h h1 → (rdF h1 y (ntF True k f) (ntQ True s f q)) → Q none h1) : mCal TB0 ad (dd + 1) M_X6_note [.ref y, .int (zI k), .int (zI s)] h 0 0 Q := by
  refine ⟨Nat.le_of_ble_eq_true rfl, ?_⟩
  show mEv TB0 ad M_X6_note (dd + 1) (0, 0) (mCal TB0 ad (dd + 0)) (fun v h' z => z.1 = 0 ∧ Q v h') 0 [some (.ref y), some (.int (zI k)), some (.int (zI s))] [] h (0, 0)
  have FR0 : frm (fun a k => a = y ∧ (k = 3 ∨ k = 4)) h h := frm_0 h
  refine e_aload_n dX6_note_0 rfl ?_
  refine z_get f dX6_note_1 tf_6_32 (congrArg Prod.fst (rd_s0 hk)) (Or.inl rfl) HF.1 ?_
  have y1 := HF.2.2
  refine z_if_ne 17 dX6_note_4 rfl ⟨by omega, by omega⟩ (fun c2 => ?_) (fun c2 => ?_)
  · skip
    refine e_vret dX6_note_17 rfl ⟨rfl, ?_⟩
    exact kq _ FR0 ⟨by unfold ntF; rw [if_neg (by omega)]; exact HF.1, by unfold ntQ; rw [if_neg (by omega)]; exact HF.2.1, nt_b HF.2.2 pk⟩
  · skip
    refine e_aload_n dX6_note_7 rfl ?_
    refine e_iload_n dX6_note_8 rfl ?_
    refine z_put dX6_note_9 tf_6_32 (congrArg Prod.fst (rd_s0 hk)) rfl (Or.inl rfl) (fun h3 e4 => ?_)
    have f5 := frm_1 e4
    have k6 := lk_q (frm_s f5) hk
    have FR7 := frm_t FR0 (frm_m (S' := (fun a k => a = y ∧ (k = 3 ∨ k = 4))) f5 (fun a k q => by omega))
    refine e_aload_n dX6_note_12 rfl ?_
    refine e_iload_n dX6_note_13 rfl ?_
    refine z_put dX6_note_14 tf_6_36 (congrArg Prod.fst (rd_s0 k6)) rfl (Or.inl rfl) (fun h8 e9 => ?_)
    have f10 := frm_1 e9
    have k11 := lk_q (frm_s f10) k6
    have FR12 := frm_t FR7 (frm_m (S' := (fun a k => a = y ∧ (k = 3 ∨ k = 4))) f10 (fun a k q => by omega))
    refine e_vret dX6_note_17 rfl ⟨rfl, ?_⟩
    exact kq _ FR12 ⟨by unfold ntF; rw [if_pos ⟨trivial, by omega⟩]; exact ((frm_r f10 (by omega)).trans (rI_eq e4 ⟨by omega, by omega⟩)), by unfold ntQ; rw [if_pos ⟨trivial, by omega⟩]; exact (rI_eq e9 ⟨by omega, by omega⟩), nt_b HF.2.2 pk⟩
set_option maxHeartbeats 400000 in
theorem zp_X6_refuse {ad : mA} {dd : Nat} {h : mH} {Q : mQ} {y : Nat} {T : Int → Int} {L p : Int} (hk : rdk h y) (HP : rdP h y T L p)   (pl : L ≤ 600) (kq : ∀ h1, frm (fun a k => a = y ∧ (k = 3 ∨ k = 4)) h h1 → (rdF h1 y 1 (tkS T L p)) → Q (some (.int (zI (bZ False)))) h1) : mCal TB0 ad (dd + 1) M_X6_refuse [.ref y] h 0 0 Q := by
  refine ⟨Nat.le_of_ble_eq_true rfl, ?_⟩
  show mEv TB0 ad M_X6_refuse (dd + 1) (0, 0) (mCal TB0 ad (dd + 0)) (fun v h' z => z.1 = 0 ∧ Q v h') 0 [some (.ref y)] [] h (0, 0)
  have FR0 : frm (fun a k => a = y ∧ (k = 3 ∨ k = 4)) h h := frm_0 h
  have tb := tk_b (T := T) HP.1.1 HP.1.2
  have p0 := HP.1
  refine e_aload_n dX6_refuse_0 rfl ?_
  refine z_iconst (1) dX6_refuse_1 rfl ?_
  refine z_put dX6_refuse_2 tf_6_32 (congrArg Prod.fst (rd_s0 hk)) rfl (Or.inl rfl) (fun h1 e2 => ?_)
  have f3 := frm_1 e2
  have k4 := lk_q (frm_s f3) hk
  have H5 := rdP_c f3 (fun a k q => by omega) HP
  have FR6 := frm_t FR0 (frm_m (S' := (fun a k => a = y ∧ (k = 3 ∨ k = 4))) f3 (fun a k q => by omega))
  refine e_aload_n dX6_refuse_5 rfl ?_
  refine e_aload_n dX6_refuse_6 rfl ?_
  refine z_get (tkS T L p) dX6_refuse_7 tf_6_56 (congrArg Prod.fst (rd_s0 k4)) (Or.inl rfl) H5.2.2.2.1 ?_
  have y7 := tk_b (T := T) H5.1.1 H5.1.2
  have y8 := H5.1
  refine z_put dX6_refuse_10 tf_6_36 (congrArg Prod.fst (rd_s0 k4)) rfl (Or.inl rfl) (fun h9 e10 => ?_)
  have f11 := frm_1 e10
  have k12 := lk_q (frm_s f11) k4
  have H13 := rdP_c f11 (fun a k q => by omega) H5
  have FR14 := frm_t FR6 (frm_m (S' := (fun a k => a = y ∧ (k = 3 ∨ k = 4))) f11 (fun a k q => by omega))
  refine z_iconst (0) dX6_refuse_13 rfl ?_
  refine z_bret dX6_refuse_14 rfl (Or.inl rfl) ⟨rfl, ?_⟩
  refine z_q0 (kq _ FR14 ⟨((frm_r f11 (by omega)).trans (rI_eq e2 ⟨by omega, by omega⟩)), (rI_eq e10 ⟨by omega, by omega⟩), by omega⟩) (fun z => z)
set_option maxHeartbeats 400000 in
theorem zp_X6_beginLine {ad : mA} {dd : Nat} {h : mH} {Q : mQ} {y : Nat} {T : Int → Int} {L p f q : Int} (hk : rdk h y) (HT : rdT h y T L) (HP : rdP h y T L p) (HF : rdF h y f q)  (t : Prop) [Decidable t]  (kq : ∀ h1, frm (fun a k => (a = y ∧ (k = 3 ∨ k = 4 ∨ (8 ≤ k ∧ k ≤ 11))) ∨ a = y + 26) h h1 → (rdP h1 y T L (tkE T L p)) → (rdF h1 y (ntF t 3 f) (ntQ t (tkS T L p) f q)) → (∀ j : Int, 0 ≤ j → j < 4 → rI h1 (y + 26) j = -1) → Q none h1) : mCal TB0 ad (dd + 4) M_X6_beginLine [.ref y, .int (zI (bZ t))] h 0 0 Q := by
  refine ⟨Nat.le_of_ble_eq_true rfl, ?_⟩
  show mEv TB0 ad M_X6_beginLine (dd + 4) (0, 0) (mCal TB0 ad (dd + 3)) (fun v h' z => z.1 = 0 ∧ Q v h') 0 [some (.ref y), some (.int (zI (bZ t)))] [] h (0, 0)
  have FR0 : frm (fun a k => (a = y ∧ (k = 3 ∨ k = 4 ∨ (8 ≤ k ∧ k ≤ 11))) ∨ a = y + 26) h h := frm_0 h
  have w1 := HT.1
  have tb := tk_b (T := T) HP.1.1 HP.1.2
  have p0 := HP.1
  refine e_iload_n dX6_beginLine_0 rfl ?_
  refine z_ifb_eq 13 dX6_beginLine_1 rfl (fun c1 => ?_) (fun c1 => ?_)
  · skip
    refine e_aload_n dX6_beginLine_13 rfl ?_
    refine e_get (.ref (y + 26)) dX6_beginLine_14 tf_6_43 (congrArg Prod.fst (rd_s0 hk)) (congrArg va_rf (rd_r0_6 hk)) ?_
    refine z_iconst (-1) dX6_beginLine_17 rfl ?_
    refine e_callS [.ref _, .int _] dX6_beginLine_18 tm_6_227 rfl (Nat.le_of_ble_eq_true rfl) (Nat.le_refl _) (Nat.le_refl _) rfl (zp_fill (rd_s26 hk) (by decide) ⟨by omega, by omega⟩ (fun h2 f3 e4 => ?_))
    have k5 := lk_q (frm_s f3) hk
    have H6 := rdT_c f3 (fun a k q => by omega) HT
    have H7 := rdP_c f3 (fun a k q => by omega) HP
    have H8 := rdF_c f3 (fun a k q => by omega) HF
    have FR9 := frm_t FR0 (frm_m (S' := (fun a k => (a = y ∧ (k = 3 ∨ k = 4 ∨ (8 ≤ k ∧ k ≤ 11))) ∨ a = y + 26)) f3 (fun a k q => by omega))
    refine e_aload_n dX6_beginLine_21 rfl ?_
    have PA22 := H7.2.1
    refine e_callV [] dX6_beginLine_22 tm_6_118 rfl (Nat.le_of_ble_eq_true rfl) (congrArg Prod.fst (rd_s0 k5)) (Nat.le_of_ble_eq_true rfl) (Nat.le_refl _) (Nat.le_refl _) rfl (zp_X6_advance k5 H6 (tkE T L p) PA22 (by omega) (fun  h10 f11 p12 => ?_))
    have k13 := lk_q (frm_s f11) k5
    have H14 := rdT_c f11 (fun a k q => by omega) H6
    have H15 := rdF_c f11 (fun a k q => by omega) H8
    have FR16 := frm_t FR9 (frm_m (S' := (fun a k => (a = y ∧ (k = 3 ∨ k = 4 ∨ (8 ≤ k ∧ k ≤ 11))) ∨ a = y + 26)) f11 (fun a k q => by omega))
    refine e_vret dX6_beginLine_25 rfl ⟨rfl, ?_⟩
    exact kq _ FR16 p12 (by
      have z := H15
      first | (rw [(nt_iff (c := t) (c' := True) (k := 3) (s := tkS T L p) (f := f) (q := q) ⟨fun _ => trivial, fun _ => by assumption⟩).1, (nt_iff (c := t) (c' := True) (k := 3) (s := tkS T L p) (f := f) (q := q) ⟨fun _ => trivial, fun _ => by assumption⟩).2]; exact z) | (rw [(nt_n (c := t) (k := 3) (s := tkS T L p) (f := f) (q := q) (fun w => absurd w.1 (by assumption))).1, (nt_n (c := t) (k := 3) (s := tkS T L p) (f := f) (q := q) (fun w => absurd w.1 (by assumption))).2]; exact z)) (fun j a c => ((frm_r f11 (by omega))).trans (e4 j a (by omega)))
  · skip
    refine e_aload_n dX6_beginLine_4 rfl ?_
    refine z_iconst (3) dX6_beginLine_5 rfl ?_
    refine e_aload_n dX6_beginLine_6 rfl ?_
    refine z_get (tkS T L p) dX6_beginLine_7 tf_6_56 (congrArg Prod.fst (rd_s0 hk)) (Or.inl rfl) HP.2.2.2.1 ?_
    have y17 := tk_b (T := T) HP.1.1 HP.1.2
    have y18 := HP.1
    refine e_callV [.int _, .int _] dX6_beginLine_10 tm_6_94 rfl (Nat.le_of_ble_eq_true rfl) (congrArg Prod.fst (rd_s0 hk)) (Nat.le_of_ble_eq_true rfl) (Nat.le_refl _) (Nat.le_refl _) rfl (zp_X6_note hk HF 3 ⟨by omega, by omega⟩ (tkS T L p) ⟨by omega, by omega⟩ (by omega) (fun  h19 f20 p21 => ?_))
    have k22 := lk_q (frm_s f20) hk
    have H23 := rdT_c f20 (fun a k q => by omega) HT
    have H24 := rdP_c f20 (fun a k q => by omega) HP
    have FR25 := frm_t FR0 (frm_m (S' := (fun a k => (a = y ∧ (k = 3 ∨ k = 4 ∨ (8 ≤ k ∧ k ≤ 11))) ∨ a = y + 26)) f20 (fun a k q => by omega))
    refine e_aload_n dX6_beginLine_13 rfl ?_
    refine e_get (.ref (y + 26)) dX6_beginLine_14 tf_6_43 (congrArg Prod.fst (rd_s0 k22)) (congrArg va_rf (rd_r0_6 k22)) ?_
    refine z_iconst (-1) dX6_beginLine_17 rfl ?_
    refine e_callS [.ref _, .int _] dX6_beginLine_18 tm_6_227 rfl (Nat.le_of_ble_eq_true rfl) (Nat.le_refl _) (Nat.le_refl _) rfl (zp_fill (rd_s26 k22) (by decide) ⟨by omega, by omega⟩ (fun h26 f27 e28 => ?_))
    have k29 := lk_q (frm_s f27) k22
    have H30 := rdT_c f27 (fun a k q => by omega) H23
    have H31 := rdP_c f27 (fun a k q => by omega) H24
    have H32 := rdF_c f27 (fun a k q => by omega) p21
    have FR33 := frm_t FR25 (frm_m (S' := (fun a k => (a = y ∧ (k = 3 ∨ k = 4 ∨ (8 ≤ k ∧ k ≤ 11))) ∨ a = y + 26)) f27 (fun a k q => by omega))
    refine e_aload_n dX6_beginLine_21 rfl ?_
    have PA22 := H31.2.1
    refine e_callV [] dX6_beginLine_22 tm_6_118 rfl (Nat.le_of_ble_eq_true rfl) (congrArg Prod.fst (rd_s0 k29)) (Nat.le_of_ble_eq_true rfl) (Nat.le_refl _) (Nat.le_refl _) rfl (zp_X6_advance k29 H30 (tkE T L p) PA22 (by omega) (fun  h34 f35 p36 => ?_))
    have k37 := lk_q (frm_s f35) k29
    have H38 := rdT_c f35 (fun a k q => by omega) H30
    have H39 := rdF_c f35 (fun a k q => by omega) H32
    have FR40 := frm_t FR33 (frm_m (S' := (fun a k => (a = y ∧ (k = 3 ∨ k = 4 ∨ (8 ≤ k ∧ k ≤ 11))) ∨ a = y + 26)) f35 (fun a k q => by omega))
    refine e_vret dX6_beginLine_25 rfl ⟨rfl, ?_⟩
    exact kq _ FR40 p36 (by
      have z := H39
      first | (rw [(nt_iff (c := t) (c' := True) (k := 3) (s := tkS T L p) (f := f) (q := q) ⟨fun _ => trivial, fun _ => by assumption⟩).1, (nt_iff (c := t) (c' := True) (k := 3) (s := tkS T L p) (f := f) (q := q) ⟨fun _ => trivial, fun _ => by assumption⟩).2]; exact z) | (rw [(nt_n (c := t) (k := 3) (s := tkS T L p) (f := f) (q := q) (fun w => absurd w.1 (by assumption))).1, (nt_n (c := t) (k := 3) (s := tkS T L p) (f := f) (q := q) (fun w => absurd w.1 (by assumption))).2]; exact z)) (fun j a c => ((frm_r f35 (by omega))).trans (e28 j a (by omega)))
set_option maxHeartbeats 1000000 in
theorem zp_X6_takeNumber {ad : mA} {dd : Nat} {h : mH} {Q : mQ} {y : Nat} {T : Int → Int} {L p f q : Int} (hk : rdk h y) (HT : rdT h y T L) (HP : rdP h y T L p) (HF : rdF h y f q)  (i : Int) (i_r : -2147483648 ≤ i ∧ i < 2147483648) (lo : Int) (lo_r : -2147483648 ≤ lo ∧ lo < 2147483648) (hi : Int) (hi_r : -2147483648 ≤ hi ∧ hi < 2147483648) (pi : 0 ≤ i ∧ i < 4) (kq : ∀ v : Int, (v = 0 ∨ v = 1) → ∀ h1, frm (fun a k => (a = y ∧ (k = 3 ∨ k = 4 ∨ (8 ≤ k ∧ k ≤ 11))) ∨ (a = y + 26 ∧ k = i.toNat)) h h1 → (tnP h1 y T L p f q lo hi i v) → Q (some (.int (zI v))) h1) : mCal TB0 ad (dd + 4) M_X6_takeNumber [.ref y, .int (zI i), .int (zI lo), .int (zI hi)] h 0 0 Q := by
  refine ⟨Nat.le_of_ble_eq_true rfl, ?_⟩
  show mEv TB0 ad M_X6_takeNumber (dd + 4) (0, 0) (mCal TB0 ad (dd + 3)) (fun v h' z => z.1 = 0 ∧ Q v h') 0 [some (.ref y), some (.int (zI i)), some (.int (zI lo)), some (.int (zI hi))] [] h (0, 0)
  have FR0 : frm (fun a k => (a = y ∧ (k = 3 ∨ k = 4 ∨ (8 ≤ k ∧ k ≤ 11))) ∨ (a = y + 26 ∧ k = i.toNat)) h h := frm_0 h
  have w1 := HT.1
  have tb := tk_b (T := T) HP.1.1 HP.1.2
  have p0 := HP.1
  refine e_aload_n dX6_takeNumber_0 rfl ?_
  refine z_get (tkK T L p) dX6_takeNumber_1 tf_6_53 (congrArg Prod.fst (rd_s0 hk)) (Or.inl rfl) HP.2.2.1 ?_
  have y1 := tk_b (T := T) HP.1.1 HP.1.2
  have y2 := HP.1
  refine z_iconst (1) dX6_takeNumber_4 rfl ?_
  refine z_icmp_eq 13 dX6_takeNumber_5 rfl ⟨by omega, by omega⟩ ⟨by omega, by omega⟩ (fun c3 => ?_) (fun c3 => ?_)
  · skip
    have K1 : tkK T L p = 1 := by omega
    refine e_aload_n dX6_takeNumber_13 rfl ?_
    refine z_get (tkV T L p) dX6_takeNumber_14 tf_6_59 (congrArg Prod.fst (rd_s0 hk)) (Or.inl rfl) (HP.2.2.2.2 K1) ?_
    have y4 := tv_b K1
    refine e_iload_n dX6_takeNumber_17 rfl ?_
    refine z_icmp_lt 29 dX6_takeNumber_18 rfl ⟨by omega, by omega⟩ ⟨by omega, by omega⟩ (fun c5 => ?_) (fun c5 => ?_)
    · skip
      refine e_aload_n dX6_takeNumber_29 rfl ?_
      refine z_iconst (2) dX6_takeNumber_30 rfl ?_
      refine e_aload_n dX6_takeNumber_31 rfl ?_
      refine z_get (tkS T L p) dX6_takeNumber_32 tf_6_56 (congrArg Prod.fst (rd_s0 hk)) (Or.inl rfl) HP.2.2.2.1 ?_
      have y6 := tk_b (T := T) HP.1.1 HP.1.2
      have y7 := HP.1
      refine e_callV [.int _, .int _] dX6_takeNumber_35 tm_6_94 rfl (Nat.le_of_ble_eq_true rfl) (congrArg Prod.fst (rd_s0 hk)) (Nat.le_of_ble_eq_true rfl) (Nat.le_refl _) (Nat.le_refl _) rfl (zp_X6_note hk HF 2 ⟨by omega, by omega⟩ (tkS T L p) ⟨by omega, by omega⟩ (by omega) (fun  h8 f9 p10 => ?_))
      have k11 := lk_q (frm_s f9) hk
      have H12 := rdT_c f9 (fun a k q => by omega) HT
      have H13 := rdP_c f9 (fun a k q => by omega) HP
      have FR14 := frm_t FR0 (frm_m (S' := (fun a k => (a = y ∧ (k = 3 ∨ k = 4 ∨ (8 ≤ k ∧ k ≤ 11))) ∨ (a = y + 26 ∧ k = i.toNat))) f9 (fun a k q => by omega))
      refine e_iload_n dX6_takeNumber_38 rfl ?_
      refine z_if_lt 61 dX6_takeNumber_39 rfl ⟨by omega, by omega⟩ (fun c15 => ?_) (fun c15 => ?_)
      · exfalso; omega
      · skip
        refine e_iload_n dX6_takeNumber_42 rfl ?_
        refine e_aload_n dX6_takeNumber_43 rfl ?_
        refine e_get (.ref (y + 26)) dX6_takeNumber_44 tf_6_43 (congrArg Prod.fst (rd_s0 k11)) (congrArg va_rf (rd_r0_6 k11)) ?_
        refine z_alen dX6_takeNumber_47 (rd_s26 k11) (by decide) ?_
        refine z_icmp_ge 61 dX6_takeNumber_48 rfl ⟨by omega, by omega⟩ ⟨by omega, by omega⟩ (fun c16 => ?_) (fun c16 => ?_)
        · exfalso; omega
        · skip
          refine e_aload_n dX6_takeNumber_51 rfl ?_
          refine e_get (.ref (y + 26)) dX6_takeNumber_52 tf_6_43 (congrArg Prod.fst (rd_s0 k11)) (congrArg va_rf (rd_r0_6 k11)) ?_
          refine e_iload_n dX6_takeNumber_55 rfl ?_
          refine e_aload_n dX6_takeNumber_56 rfl ?_
          refine z_get (tkV T L p) dX6_takeNumber_57 tf_6_59 (congrArg Prod.fst (rd_s0 k11)) (Or.inl rfl) (H13.2.2.2.2 K1) ?_
          have y17 := tv_b K1
          refine z_ist dX6_takeNumber_60 (rd_s26 k11) (by decide) (by omega) (by omega) (fun h18 e19 => ?_)
          have f20 := frm_1 e19
          have k21 := lk_q (frm_s f20) k11
          have H22 := rdT_c f20 (fun a k q => by omega) H12
          have H23 := rdP_c f20 (fun a k q => by omega) H13
          have H24 := rdF_c f20 (fun a k q => by omega) p10
          have FR25 := frm_t FR14 (frm_m (S' := (fun a k => (a = y ∧ (k = 3 ∨ k = 4 ∨ (8 ≤ k ∧ k ≤ 11))) ∨ (a = y + 26 ∧ k = i.toNat))) f20 (fun a k q => by omega))
          have n26 : rI h18 (y + 26) i = tkV T L p := rI_eq e19 ⟨by omega, by omega⟩
          refine e_aload_n dX6_takeNumber_61 rfl ?_
          have PA62 := H23.2.1
          refine e_callV [] dX6_takeNumber_62 tm_6_118 rfl (Nat.le_of_ble_eq_true rfl) (congrArg Prod.fst (rd_s0 k21)) (Nat.le_of_ble_eq_true rfl) (Nat.le_refl _) (Nat.le_refl _) rfl (zp_X6_advance k21 H22 (tkE T L p) PA62 (by omega) (fun  h27 f28 p29 => ?_))
          have k30 := lk_q (frm_s f28) k21
          have H31 := rdT_c f28 (fun a k q => by omega) H22
          have H32 := rdF_c f28 (fun a k q => by omega) H24
          have FR33 := frm_t FR25 (frm_m (S' := (fun a k => (a = y ∧ (k = 3 ∨ k = 4 ∨ (8 ≤ k ∧ k ≤ 11))) ∨ (a = y + 26 ∧ k = i.toNat))) f28 (fun a k q => by omega))
          refine z_iconst (1) dX6_takeNumber_65 rfl ?_
          refine z_bret dX6_takeNumber_66 rfl (Or.inr rfl) ⟨rfl, ?_⟩
          exact kq 1 (Or.inr rfl) _ FR33 (Or.inl ⟨rfl, K1, p29, (show rdF h27 y (ntF (¬ (lo ≤ tkV T L p ∧ tkV T L p ≤ hi)) 2 f) (ntQ (¬ (lo ≤ tkV T L p ∧ tkV T L p ≤ hi)) (tkS T L p) f q) by
            have z := H32
            rw [(nt_iff (c := ¬ (lo ≤ tkV T L p ∧ tkV T L p ≤ hi)) (c' := True) (k := 2) (s := tkS T L p) (f := f) (q := q) ⟨fun _ => trivial, fun _ => by omega⟩).1, (nt_iff (c := ¬ (lo ≤ tkV T L p ∧ tkV T L p ≤ hi)) (c' := True) (k := 2) (s := tkS T L p) (f := f) (q := q) ⟨fun _ => trivial, fun _ => by omega⟩).2]; exact z), ((frm_r f28 (by omega))).trans n26⟩)
    · skip
      refine e_aload_n dX6_takeNumber_21 rfl ?_
      refine z_get (tkV T L p) dX6_takeNumber_22 tf_6_59 (congrArg Prod.fst (rd_s0 hk)) (Or.inl rfl) (HP.2.2.2.2 K1) ?_
      have y34 := tv_b K1
      refine e_iload_n dX6_takeNumber_25 rfl ?_
      refine z_icmp_le 38 dX6_takeNumber_26 rfl ⟨by omega, by omega⟩ ⟨by omega, by omega⟩ (fun c35 => ?_) (fun c35 => ?_)
      · skip
        refine e_iload_n dX6_takeNumber_38 rfl ?_
        refine z_if_lt 61 dX6_takeNumber_39 rfl ⟨by omega, by omega⟩ (fun c36 => ?_) (fun c36 => ?_)
        · exfalso; omega
        · skip
          refine e_iload_n dX6_takeNumber_42 rfl ?_
          refine e_aload_n dX6_takeNumber_43 rfl ?_
          refine e_get (.ref (y + 26)) dX6_takeNumber_44 tf_6_43 (congrArg Prod.fst (rd_s0 hk)) (congrArg va_rf (rd_r0_6 hk)) ?_
          refine z_alen dX6_takeNumber_47 (rd_s26 hk) (by decide) ?_
          refine z_icmp_ge 61 dX6_takeNumber_48 rfl ⟨by omega, by omega⟩ ⟨by omega, by omega⟩ (fun c37 => ?_) (fun c37 => ?_)
          · exfalso; omega
          · skip
            refine e_aload_n dX6_takeNumber_51 rfl ?_
            refine e_get (.ref (y + 26)) dX6_takeNumber_52 tf_6_43 (congrArg Prod.fst (rd_s0 hk)) (congrArg va_rf (rd_r0_6 hk)) ?_
            refine e_iload_n dX6_takeNumber_55 rfl ?_
            refine e_aload_n dX6_takeNumber_56 rfl ?_
            refine z_get (tkV T L p) dX6_takeNumber_57 tf_6_59 (congrArg Prod.fst (rd_s0 hk)) (Or.inl rfl) (HP.2.2.2.2 K1) ?_
            have y38 := tv_b K1
            refine z_ist dX6_takeNumber_60 (rd_s26 hk) (by decide) (by omega) (by omega) (fun h39 e40 => ?_)
            have f41 := frm_1 e40
            have k42 := lk_q (frm_s f41) hk
            have H43 := rdT_c f41 (fun a k q => by omega) HT
            have H44 := rdP_c f41 (fun a k q => by omega) HP
            have H45 := rdF_c f41 (fun a k q => by omega) HF
            have FR46 := frm_t FR0 (frm_m (S' := (fun a k => (a = y ∧ (k = 3 ∨ k = 4 ∨ (8 ≤ k ∧ k ≤ 11))) ∨ (a = y + 26 ∧ k = i.toNat))) f41 (fun a k q => by omega))
            have n47 : rI h39 (y + 26) i = tkV T L p := rI_eq e40 ⟨by omega, by omega⟩
            refine e_aload_n dX6_takeNumber_61 rfl ?_
            have PA62 := H44.2.1
            refine e_callV [] dX6_takeNumber_62 tm_6_118 rfl (Nat.le_of_ble_eq_true rfl) (congrArg Prod.fst (rd_s0 k42)) (Nat.le_of_ble_eq_true rfl) (Nat.le_refl _) (Nat.le_refl _) rfl (zp_X6_advance k42 H43 (tkE T L p) PA62 (by omega) (fun  h48 f49 p50 => ?_))
            have k51 := lk_q (frm_s f49) k42
            have H52 := rdT_c f49 (fun a k q => by omega) H43
            have H53 := rdF_c f49 (fun a k q => by omega) H45
            have FR54 := frm_t FR46 (frm_m (S' := (fun a k => (a = y ∧ (k = 3 ∨ k = 4 ∨ (8 ≤ k ∧ k ≤ 11))) ∨ (a = y + 26 ∧ k = i.toNat))) f49 (fun a k q => by omega))
            refine z_iconst (1) dX6_takeNumber_65 rfl ?_
            refine z_bret dX6_takeNumber_66 rfl (Or.inr rfl) ⟨rfl, ?_⟩
            exact kq 1 (Or.inr rfl) _ FR54 (Or.inl ⟨rfl, K1, p50, (show rdF h48 y (ntF (¬ (lo ≤ tkV T L p ∧ tkV T L p ≤ hi)) 2 f) (ntQ (¬ (lo ≤ tkV T L p ∧ tkV T L p ≤ hi)) (tkS T L p) f q) by
              have z := H53
              rw [(nt_n (c := ¬ (lo ≤ tkV T L p ∧ tkV T L p ≤ hi)) (k := 2) (s := tkS T L p) (f := f) (q := q) (fun w => by omega)).1, (nt_n (c := ¬ (lo ≤ tkV T L p ∧ tkV T L p ≤ hi)) (k := 2) (s := tkS T L p) (f := f) (q := q) (fun w => by omega)).2]; exact z), ((frm_r f49 (by omega))).trans n47⟩)
      · skip
        refine e_aload_n dX6_takeNumber_29 rfl ?_
        refine z_iconst (2) dX6_takeNumber_30 rfl ?_
        refine e_aload_n dX6_takeNumber_31 rfl ?_
        refine z_get (tkS T L p) dX6_takeNumber_32 tf_6_56 (congrArg Prod.fst (rd_s0 hk)) (Or.inl rfl) HP.2.2.2.1 ?_
        have y55 := tk_b (T := T) HP.1.1 HP.1.2
        have y56 := HP.1
        refine e_callV [.int _, .int _] dX6_takeNumber_35 tm_6_94 rfl (Nat.le_of_ble_eq_true rfl) (congrArg Prod.fst (rd_s0 hk)) (Nat.le_of_ble_eq_true rfl) (Nat.le_refl _) (Nat.le_refl _) rfl (zp_X6_note hk HF 2 ⟨by omega, by omega⟩ (tkS T L p) ⟨by omega, by omega⟩ (by omega) (fun  h57 f58 p59 => ?_))
        have k60 := lk_q (frm_s f58) hk
        have H61 := rdT_c f58 (fun a k q => by omega) HT
        have H62 := rdP_c f58 (fun a k q => by omega) HP
        have FR63 := frm_t FR0 (frm_m (S' := (fun a k => (a = y ∧ (k = 3 ∨ k = 4 ∨ (8 ≤ k ∧ k ≤ 11))) ∨ (a = y + 26 ∧ k = i.toNat))) f58 (fun a k q => by omega))
        refine e_iload_n dX6_takeNumber_38 rfl ?_
        refine z_if_lt 61 dX6_takeNumber_39 rfl ⟨by omega, by omega⟩ (fun c64 => ?_) (fun c64 => ?_)
        · exfalso; omega
        · skip
          refine e_iload_n dX6_takeNumber_42 rfl ?_
          refine e_aload_n dX6_takeNumber_43 rfl ?_
          refine e_get (.ref (y + 26)) dX6_takeNumber_44 tf_6_43 (congrArg Prod.fst (rd_s0 k60)) (congrArg va_rf (rd_r0_6 k60)) ?_
          refine z_alen dX6_takeNumber_47 (rd_s26 k60) (by decide) ?_
          refine z_icmp_ge 61 dX6_takeNumber_48 rfl ⟨by omega, by omega⟩ ⟨by omega, by omega⟩ (fun c65 => ?_) (fun c65 => ?_)
          · exfalso; omega
          · skip
            refine e_aload_n dX6_takeNumber_51 rfl ?_
            refine e_get (.ref (y + 26)) dX6_takeNumber_52 tf_6_43 (congrArg Prod.fst (rd_s0 k60)) (congrArg va_rf (rd_r0_6 k60)) ?_
            refine e_iload_n dX6_takeNumber_55 rfl ?_
            refine e_aload_n dX6_takeNumber_56 rfl ?_
            refine z_get (tkV T L p) dX6_takeNumber_57 tf_6_59 (congrArg Prod.fst (rd_s0 k60)) (Or.inl rfl) (H62.2.2.2.2 K1) ?_
            have y66 := tv_b K1
            refine z_ist dX6_takeNumber_60 (rd_s26 k60) (by decide) (by omega) (by omega) (fun h67 e68 => ?_)
            have f69 := frm_1 e68
            have k70 := lk_q (frm_s f69) k60
            have H71 := rdT_c f69 (fun a k q => by omega) H61
            have H72 := rdP_c f69 (fun a k q => by omega) H62
            have H73 := rdF_c f69 (fun a k q => by omega) p59
            have FR74 := frm_t FR63 (frm_m (S' := (fun a k => (a = y ∧ (k = 3 ∨ k = 4 ∨ (8 ≤ k ∧ k ≤ 11))) ∨ (a = y + 26 ∧ k = i.toNat))) f69 (fun a k q => by omega))
            have n75 : rI h67 (y + 26) i = tkV T L p := rI_eq e68 ⟨by omega, by omega⟩
            refine e_aload_n dX6_takeNumber_61 rfl ?_
            have PA62 := H72.2.1
            refine e_callV [] dX6_takeNumber_62 tm_6_118 rfl (Nat.le_of_ble_eq_true rfl) (congrArg Prod.fst (rd_s0 k70)) (Nat.le_of_ble_eq_true rfl) (Nat.le_refl _) (Nat.le_refl _) rfl (zp_X6_advance k70 H71 (tkE T L p) PA62 (by omega) (fun  h76 f77 p78 => ?_))
            have k79 := lk_q (frm_s f77) k70
            have H80 := rdT_c f77 (fun a k q => by omega) H71
            have H81 := rdF_c f77 (fun a k q => by omega) H73
            have FR82 := frm_t FR74 (frm_m (S' := (fun a k => (a = y ∧ (k = 3 ∨ k = 4 ∨ (8 ≤ k ∧ k ≤ 11))) ∨ (a = y + 26 ∧ k = i.toNat))) f77 (fun a k q => by omega))
            refine z_iconst (1) dX6_takeNumber_65 rfl ?_
            refine z_bret dX6_takeNumber_66 rfl (Or.inr rfl) ⟨rfl, ?_⟩
            exact kq 1 (Or.inr rfl) _ FR82 (Or.inl ⟨rfl, K1, p78, (show rdF h76 y (ntF (¬ (lo ≤ tkV T L p ∧ tkV T L p ≤ hi)) 2 f) (ntQ (¬ (lo ≤ tkV T L p ∧ tkV T L p ≤ hi)) (tkS T L p) f q) by
              have z := H81
              rw [(nt_iff (c := ¬ (lo ≤ tkV T L p ∧ tkV T L p ≤ hi)) (c' := True) (k := 2) (s := tkS T L p) (f := f) (q := q) ⟨fun _ => trivial, fun _ => by omega⟩).1, (nt_iff (c := ¬ (lo ≤ tkV T L p ∧ tkV T L p ≤ hi)) (c' := True) (k := 2) (s := tkS T L p) (f := f) (q := q) ⟨fun _ => trivial, fun _ => by omega⟩).2]; exact z), ((frm_r f77 (by omega))).trans n75⟩)
  · skip
    refine e_aload_n dX6_takeNumber_8 rfl ?_
    refine e_callV [] dX6_takeNumber_9 tm_6_143 rfl (Nat.le_of_ble_eq_true rfl) (congrArg Prod.fst (rd_s0 hk)) (Nat.le_of_ble_eq_true rfl) (Nat.le_refl _) (Nat.le_refl _) rfl (zp_X6_refuse hk HP (by omega) (fun  h83 f84 p85 => ?_))
    have k86 := lk_q (frm_s f84) hk
    have H87 := rdT_c f84 (fun a k q => by omega) HT
    have H88 := rdP_c f84 (fun a k q => by omega) HP
    have FR89 := frm_t FR0 (frm_m (S' := (fun a k => (a = y ∧ (k = 3 ∨ k = 4 ∨ (8 ≤ k ∧ k ≤ 11))) ∨ (a = y + 26 ∧ k = i.toNat))) f84 (fun a k q => by omega))
    refine z_bret dX6_takeNumber_12 rfl (bZ_01 _) ⟨rfl, ?_⟩
    exact kq 0 (Or.inl rfl) _ FR89 (Or.inr ⟨rfl, by omega, p85⟩)
set_option maxHeartbeats 400000 in
theorem zp_X6_takeStop {ad : mA} {dd : Nat} {h : mH} {Q : mQ} {y : Nat} {T : Int → Int} {L p f q : Int} (hk : rdk h y) (HT : rdT h y T L) (HP : rdP h y T L p) (HF : rdF h y f q)    (kq : ∀ v : Int, (v = 0 ∨ v = 1) → ∀ h1, frm (fun a k => a = y ∧ (k = 3 ∨ k = 4 ∨ (8 ≤ k ∧ k ≤ 11))) h h1 → (spP h1 y T L p f q v) → Q (some (.int (zI v))) h1) : mCal TB0 ad (dd + 4) M_X6_takeStop [.ref y] h 0 0 Q := by
  refine ⟨Nat.le_of_ble_eq_true rfl, ?_⟩
  show mEv TB0 ad M_X6_takeStop (dd + 4) (0, 0) (mCal TB0 ad (dd + 3)) (fun v h' z => z.1 = 0 ∧ Q v h') 0 [some (.ref y)] [] h (0, 0)
  have FR0 : frm (fun a k => a = y ∧ (k = 3 ∨ k = 4 ∨ (8 ≤ k ∧ k ≤ 11))) h h := frm_0 h
  have w1 := HT.1
  have tb := tk_b (T := T) HP.1.1 HP.1.2
  have p0 := HP.1
  refine e_aload_n dX6_takeStop_0 rfl ?_
  refine z_get (tkK T L p) dX6_takeStop_1 tf_6_53 (congrArg Prod.fst (rd_s0 hk)) (Or.inl rfl) HP.2.2.1 ?_
  have y1 := tk_b (T := T) HP.1.1 HP.1.2
  have y2 := HP.1
  refine z_iconst (2) dX6_takeStop_4 rfl ?_
  refine z_icmp_eq 13 dX6_takeStop_5 rfl ⟨by omega, by omega⟩ ⟨by omega, by omega⟩ (fun c3 => ?_) (fun c3 => ?_)
  · skip
    refine e_aload_n dX6_takeStop_13 rfl ?_
    have PA14 := HP.2.1
    refine e_callV [] dX6_takeStop_14 tm_6_118 rfl (Nat.le_of_ble_eq_true rfl) (congrArg Prod.fst (rd_s0 hk)) (Nat.le_of_ble_eq_true rfl) (Nat.le_refl _) (Nat.le_refl _) rfl (zp_X6_advance hk HT (tkE T L p) PA14 (by omega) (fun  h4 f5 p6 => ?_))
    have k7 := lk_q (frm_s f5) hk
    have H8 := rdT_c f5 (fun a k q => by omega) HT
    have H9 := rdF_c f5 (fun a k q => by omega) HF
    have FR10 := frm_t FR0 (frm_m (S' := (fun a k => a = y ∧ (k = 3 ∨ k = 4 ∨ (8 ≤ k ∧ k ≤ 11)))) f5 (fun a k q => by omega))
    refine z_iconst (1) dX6_takeStop_17 rfl ?_
    refine z_bret dX6_takeStop_18 rfl (Or.inr rfl) ⟨rfl, ?_⟩
    exact kq 1 (Or.inr rfl) _ FR10 (Or.inl ⟨rfl, by omega, p6, H9⟩)
  · skip
    refine e_aload_n dX6_takeStop_8 rfl ?_
    refine e_callV [] dX6_takeStop_9 tm_6_143 rfl (Nat.le_of_ble_eq_true rfl) (congrArg Prod.fst (rd_s0 hk)) (Nat.le_of_ble_eq_true rfl) (Nat.le_refl _) (Nat.le_refl _) rfl (zp_X6_refuse hk HP (by omega) (fun  h11 f12 p13 => ?_))
    have k14 := lk_q (frm_s f12) hk
    have H15 := rdT_c f12 (fun a k q => by omega) HT
    have H16 := rdP_c f12 (fun a k q => by omega) HP
    have FR17 := frm_t FR0 (frm_m (S' := (fun a k => a = y ∧ (k = 3 ∨ k = 4 ∨ (8 ≤ k ∧ k ≤ 11)))) f12 (fun a k q => by omega))
    refine z_bret dX6_takeStop_12 rfl (bZ_01 _) ⟨rfl, ?_⟩
    exact kq 0 (Or.inl rfl) _ FR17 (Or.inr ⟨rfl, by omega, p13⟩)
