/-! CALLS THAT CHANGE WHAT IS TOLD; END -/
theorem dX11_end_0 : decode cX11_end 0 = .ok (.iload_n 1, 1) := by decide +kernel
theorem dX11_end_1 : decode cX11_end 1 = .ok (.ifCond .lt 14, 3) := by decide +kernel
theorem dX11_end_4 : decode cX11_end 4 = .ok (.iload_n 1, 1) := by decide +kernel
theorem dX11_end_5 : decode cX11_end 5 = .ok (.aload_n 0, 1) := by decide +kernel
theorem dX11_end_6 : decode cX11_end 6 = .ok (.getfield 10, 3) := by decide +kernel
theorem dX11_end_9 : decode cX11_end 9 = .ok (.getfield 62, 3) := by decide +kernel
theorem dX11_end_12 : decode cX11_end 12 = .ok (.if_icmp .le 5, 3) := by decide +kernel
theorem dX11_end_15 : decode cX11_end 15 = .ok (.iconst (-1), 1) := by decide +kernel
theorem dX11_end_16 : decode cX11_end 16 = .ok (.ireturn, 1) := by decide +kernel
theorem dX11_end_17 : decode cX11_end 17 = .ok (.aload_n 0, 1) := by decide +kernel
theorem dX11_end_18 : decode cX11_end 18 = .ok (.getfield 10, 3) := by decide +kernel
theorem dX11_end_21 : decode cX11_end 21 = .ok (.iload_n 1, 1) := by decide +kernel
theorem dX11_end_22 : decode cX11_end 22 = .ok (.putfield 62, 3) := by decide +kernel
theorem dX11_end_25 : decode cX11_end 25 = .ok (.iload_n 1, 1) := by decide +kernel
theorem dX11_end_26 : decode cX11_end 26 = .ok (.ireturn, 1) := by decide +kernel
theorem tf_11_62 : tFld TB0 11 62 = some (8, 5) := rfl
/-! CALLS THAT CHANGE WHAT IS TOLD -/
def cset (B : Nat) (a : Nat) (_i : Nat) : Prop := (B + 1 ≤ a ∧ a < B + 55) ∨ (B + 56 ≤ a ∧ a < B + 157)
def rset (m : Nat) (a : Nat) (i : Nat) : Prop := a = m ∨ (m + 9 ≤ a ∧ a < m + 30) ∨ (a = m + 1 ∧ i < 600) ∨ (m + 2 ≤ a ∧ a ≤ m + 4 ∧ i = 0) ∨ (a = m + 5 ∧ i < 3) ∨ (a = m + 6 ∧ i < 162) ∨ (a = m + 7 ∧ i < 242) ∨ (a = m + 8 ∧ i < 50)
theorem refT_cs {h h1 : mH} {m : Nat} {s : Int} {σ : Sg} (f : frm (rset m) h h1) (hs : 1 ≤ s) (H : refT h m s σ) : refT h1 m s σ := by
  obtain ⟨w, a, b, ⟨c1, c2, c3⟩, d, y, k⟩ := H
  have wn := wS_n w
  refine ⟨w, fun i p q => (frm_r f (by unfold rset; omega)).trans (a i p q), fun i p q => (frm_r f (by unfold rset; omega)).trans (b i p q), ⟨(frm_r f (by unfold rset; omega)).trans c1, (frm_r f (by unfold rset; omega)).trans c2, (frm_r f (by unfold rset; omega)).trans c3⟩, fun i p q j r t => (frm_r f (by unfold rset; omega)).trans (d i p q j r t), fun i p q j r t => (frm_r f (by unfold rset; omega)).trans (y i p q j r t), fun i p q j r t => (frm_r f (by unfold rset; omega)).trans (k i p q j r t)⟩
theorem Inv_s {B : Nat} {h h1 h2 : mH} {σ : Sg} (I : Inv B h) (f : frm (cset B) h h1) (f' : frm (rset (B + 157)) h1 h2) (C : clsT h1 (B + 1) σ) (R : refT h2 (B + 157) 0 σ) : Inv B h2 := by
  obtain ⟨i1, i2, i3, _, i5, i6⟩ := I
  have eS := eqS_t f'.1 f.1
  refine ⟨bk_q eS i1, rk_q eS i2, by rw [eS.1]; exact i3, ⟨σ, clsT_c f' (fun a k x y q => by unfold rset at q; omega) C, R⟩, fun k a b => ?_, fun k k' t t' a b c d e p q => ?_⟩
  · rcases i5 k a b with ⟨p, q⟩ | ⟨t, σ', p, q, s, u, v, w⟩
    · exact Or.inl ⟨by rw [eS.2.2]; exact p, ((frm_r f' (fun z => by unfold rset at z; omega)).trans (frm_r f (fun z => by unfold cset at z; omega))).trans q⟩
    · refine Or.inr ⟨t, σ', by rw [eS.2.2]; exact p, lk_q eS q, by rw [eS.1]; exact s, ((frm_r f' (fun z => by unfold rset at z; omega)).trans (frm_r f (fun z => by unfold cset at z; omega))).trans u, clsT_c f' (fun a k x y q => by unfold rset at q; omega) (clsT_c f (fun a k x y q => by unfold cset at q; omega) v), refT_cs f' (by omega) (refT_c f (fun a k x y q => by unfold cset at q; omega) w)⟩
  · rw [eS.2.2] at p q
    exact i6 k k' t t' a b c d e p q
theorem opu_I {ad : mA} {B : Nat} {MX MM : mM} {A : List Value} (P : Sg → Sg → Int → Prop) (hu : ∀ σ σ1 σ2 r1 r2, wfS σ → P σ σ1 r1 → P σ σ2 r2 → σ1 = σ2 ∧ r1 = r2) (hx : ∀ (h : mH) (σ : Sg), bk h B → clsT h (B + 1) σ → ∀ Q : mQ, (∀ r σ' h1, frm (cset B) h h1 → clsT h1 (B + 1) σ' → P σ σ' r → Q (some (.int (zI r))) h1) → mCal TB0 ad 799 MX (.ref B :: A) h 0 0 Q) (hm : ∀ (h : mH) (σ : Sg), rk h (B + 157) → refT h (B + 157) 0 σ → ∀ Q : mQ, (∀ r σ' h1, frm (rset (B + 157)) h h1 → refT h1 (B + 157) 0 σ' → P σ σ' r → Q (some (.int (zI r))) h1) → mCal TB0 ad 799 MM (.ref (B + 157) :: A) h 0 0 Q) : opI ad B (Inv B) MX MM A := by
  intro h I
  have I0 := I
  obtain ⟨i1, i2, i3, ⟨σ, c, r⟩, i5, i6⟩ := I
  refine ⟨0, 0, by omega, by omega, hx h σ i1 c _ (fun v σ' h1 f C p => ?_)⟩
  have i2' := rk_q f.1 i2
  have r' := refT_c f (fun a k x y q => by unfold cset at q; omega) r
  refine ⟨_, rfl, rk_s i2', hm h1 σ i2' r' _ (fun v' σ2 h2 f' R p' => ?_)⟩
  obtain ⟨e1, e2⟩ := hu σ σ2 σ' v' v (clsT_w c) p' p
  rw [e1] at R
  rw [e2]
  exact ⟨rfl, Inv_s I0 f f' C R⟩
/-! END -/
def setC (σ : Sg) (k v : Int) : Sg := (setG σ.1 k v, σ.2)
theorem cn_setC (σ : Sg) (k v s : Int) : cn (setC σ k v) s = if s = k then v else cn σ s := rfl
theorem wfS_3 {σ : Sg} (w : wfS σ) {v : Int} (h0 : 0 ≤ v) (h1 : v ≤ 600) : wfS (setC σ 3 v) := by
  have n := wS_n w
  refine ⟨⟨n.1, n.2.1, n.2.2.1, ⟨h0, h1⟩, n.2.2.2.2⟩, w.2⟩
theorem clsT_s3 {h h1 : mH} {t : Nat} {σ : Sg} (H : clsT h t σ) {v : Int} (e : h1 = sI h t ((5 : Nat) : Int) v) (h0 : 0 ≤ v) (h1' : v ≤ 600) : clsT h1 t (setC σ 3 v) := by
  have f := frm_1 e
  obtain ⟨w, a, b, ⟨c1, c2, c3⟩, d, y, k⟩ := H
  refine ⟨wfS_3 w h0 h1', fun i p q => (frm_r f (by omega)).trans (a i p q), fun i p q => ?_, ⟨(show rI h1 t 5 = v from rI_eq e ⟨by omega, by omega⟩), (frm_r f (by omega)).trans c2, (frm_r f (by omega)).trans c3⟩, fun i p q => isF_c f (fun a k x y => by have := fAt_b t i; omega) (d i p q), fun i p q => isY_c f (fun a k x y => by have := yAt_b t i; omega) (y i p q), fun i p q => isK_c f (fun a k x y => by have := kAt_b t i; omega) (k i p q)⟩
  rw [cn_setC, if_neg (by omega)]
  exact (frm_r f (by omega)).trans (b i p q)
theorem refT_s3 {h h1 : mH} {m : Nat} {σ : Sg} (H : refT h m 0 σ) {v : Int} (e : h1 = sI h (m + 2) 0 v) (h0 : 0 ≤ v) (h1' : v ≤ 600) : refT h1 m 0 (setC σ 3 v) := by
  have f := frm_1 e
  obtain ⟨w, a, b, ⟨c1, c2, c3⟩, d, y, k⟩ := H
  refine ⟨wfS_3 w h0 h1', fun i p q => (frm_r f (by omega)).trans (a i p q), fun i p q => ?_, ⟨(show rI h1 (m + 2) 0 = v from rI_eq e ⟨by omega, by omega⟩), (frm_r f (by omega)).trans c2, (frm_r f (by omega)).trans c3⟩, fun i p q j r t => (frm_r f (by omega)).trans (d i p q j r t), fun i p q j r t => (frm_r f (by omega)).trans (y i p q j r t), fun i p q j r t => (frm_r f (by omega)).trans (k i p q j r t)⟩
  rw [cn_setC, if_neg (by omega)]
  exact (frm_r f (by omega)).trans (b i p q)
def edR (σ : Sg) (n : Int) (σ' : Sg) (r : Int) : Prop := ((0 ≤ n ∧ n ≤ cn σ 3) ∧ σ' = setC σ 3 n ∧ r = n) ∨ (¬ (0 ≤ n ∧ n ≤ cn σ 3) ∧ σ' = σ ∧ r = -1)
set_option maxHeartbeats 400000 in
theorem zp_X11_end_in {ad : mA} {dd : Nat} {h : mH} {Q : mQ} {x : Nat} {σ : Sg} (hk : bk h x) (HX : clsT h (x + 1) σ)  (n : Int) (n_r : -2147483648 ≤ n ∧ n < 2147483648) (p1 : 0 ≤ n ∧ n ≤ cn σ 3) (kq : ∀ h1, frm (fun a k => a = x + 1) h h1 → (clsT h1 (x + 1) (setC σ 3 n)) → Q (some (.int (zI n))) h1) : mCal TB0 ad (dd + 1) M_X11_end [.ref x, .int (zI n)] h 0 0 Q := by
  refine ⟨Nat.le_of_ble_eq_true rfl, ?_⟩
  show mEv TB0 ad M_X11_end (dd + 1) (0, 0) (mCal TB0 ad (dd + 0)) (fun v h' z => z.1 = 0 ∧ Q v h') 0 [some (.ref x), some (.int (zI n))] [] h (0, 0)
  have FR0 : frm (fun a k => a = x + 1) h h := frm_0 h
  have w1 := wS_n (clsT_w HX)
  refine e_iload_n dX11_end_0 rfl ?_
  refine z_if_lt 15 dX11_end_1 rfl ⟨by omega, by omega⟩ (fun c1 => ?_) (fun c1 => ?_)
  · exfalso; omega
  · skip
    refine e_iload_n dX11_end_4 rfl ?_
    refine e_aload_n dX11_end_5 rfl ?_
    refine e_get (.ref (x + 1)) dX11_end_6 tf_11_10 (congrArg Prod.fst (bk_s0 hk)) (congrArg va_rf (bk_r0_0 hk)) ?_
    refine z_get (cn σ 3) dX11_end_9 tf_11_62 (congrArg Prod.fst (bk_s1 hk)) (Or.inl rfl) (clsT_3 HX) ?_
    have y2 := wS_n (clsT_w HX)
    refine z_icmp_le 17 dX11_end_12 rfl ⟨by omega, by omega⟩ ⟨by omega, by omega⟩ (fun c3 => ?_) (fun c3 => ?_)
    · skip
      refine e_aload_n dX11_end_17 rfl ?_
      refine e_get (.ref (x + 1)) dX11_end_18 tf_11_10 (congrArg Prod.fst (bk_s0 hk)) (congrArg va_rf (bk_r0_0 hk)) ?_
      refine e_iload_n dX11_end_21 rfl ?_
      refine z_put dX11_end_22 tf_11_62 (congrArg Prod.fst (bk_s1 hk)) rfl (Or.inl rfl) (fun h4 e5 => ?_)
      have f6 := frm_1 e5
      have k7 := bk_q (frm_s f6) hk
      have FR8 := frm_t FR0 (frm_m (S' := (fun a k => a = x + 1)) f6 (fun a k q => by omega))
      refine e_iload_n dX11_end_25 rfl ?_
      refine z_iret dX11_end_26 rfl ⟨rfl, ?_⟩
      exact kq _ FR8 (clsT_s3 HX e5 (by omega) (by omega))
    · exfalso; omega
set_option maxHeartbeats 400000 in
theorem zp_X11_end_out {ad : mA} {dd : Nat} {h : mH} {Q : mQ} {x : Nat} {σ : Sg} (hk : bk h x) (HX : clsT h (x + 1) σ)  (n : Int) (n_r : -2147483648 ≤ n ∧ n < 2147483648) (p1 : ¬ (0 ≤ n ∧ n ≤ cn σ 3)) (kq : Q (some (.int (zI (-1)))) h) : mCal TB0 ad (dd + 1) M_X11_end [.ref x, .int (zI n)] h 0 0 Q := by
  refine ⟨Nat.le_of_ble_eq_true rfl, ?_⟩
  show mEv TB0 ad M_X11_end (dd + 1) (0, 0) (mCal TB0 ad (dd + 0)) (fun v h' z => z.1 = 0 ∧ Q v h') 0 [some (.ref x), some (.int (zI n))] [] h (0, 0)
  have w1 := wS_n (clsT_w HX)
  refine e_iload_n dX11_end_0 rfl ?_
  refine z_if_lt 15 dX11_end_1 rfl ⟨by omega, by omega⟩ (fun c1 => ?_) (fun c1 => ?_)
  · skip
    refine z_iconst (-1) dX11_end_15 rfl ?_
    refine z_iret dX11_end_16 rfl ⟨rfl, ?_⟩
    refine z_q kq ?_
    rfl
  · skip
    refine e_iload_n dX11_end_4 rfl ?_
    refine e_aload_n dX11_end_5 rfl ?_
    refine e_get (.ref (x + 1)) dX11_end_6 tf_11_10 (congrArg Prod.fst (bk_s0 hk)) (congrArg va_rf (bk_r0_0 hk)) ?_
    refine z_get (cn σ 3) dX11_end_9 tf_11_62 (congrArg Prod.fst (bk_s1 hk)) (Or.inl rfl) (clsT_3 HX) ?_
    have y2 := wS_n (clsT_w HX)
    refine z_icmp_le 17 dX11_end_12 rfl ⟨by omega, by omega⟩ ⟨by omega, by omega⟩ (fun c3 => ?_) (fun c3 => ?_)
    · exfalso; omega
    · skip
      refine z_iconst (-1) dX11_end_15 rfl ?_
      refine z_iret dX11_end_16 rfl ⟨rfl, ?_⟩
      refine z_q kq ?_
      rfl
set_option maxHeartbeats 400000 in
theorem zp_X12_end_in {ad : mA} {dd : Nat} {h : mH} {Q : mQ} {m : Nat} {σ : Sg} (hk : rk h m) (HR : refT h m 0 σ)  (n : Int) (n_r : -2147483648 ≤ n ∧ n < 2147483648) (p1 : 0 ≤ n ∧ n ≤ cn σ 3) (kq : ∀ h1, frm (fun a k => (a = m ∧ k = 0) ∨ (a = m + 2 ∧ k = 0)) h h1 → (refT h1 m 0 (setC σ 3 n)) → Q (some (.int (zI n))) h1) : mCal TB0 ad (dd + 2) M_X12_end [.ref m, .int (zI n)] h 0 0 Q := by
  refine ⟨Nat.le_of_ble_eq_true rfl, ?_⟩
  show mEv TB0 ad M_X12_end (dd + 2) (0, 0) (mCal TB0 ad (dd + 1)) (fun v h' z => z.1 = 0 ∧ Q v h') 0 [some (.ref m), some (.int (zI n))] [] h (0, 0)
  have FR0 : frm (fun a k => (a = m ∧ k = 0) ∨ (a = m + 2 ∧ k = 0)) h h := frm_0 h
  have w1 := wS_n (refT_w HR)
  refine e_aload_n dX12_end_0 rfl ?_
  refine z_iconst (0) dX12_end_1 rfl ?_
  refine z_put dX12_end_2 tf_12_103 (rk_s hk) rfl (Or.inl rfl) (fun h1 e2 => ?_)
  have f3 := frm_1 e2
  have k4 := rk_q (frm_s f3) hk
  have H5 := refT_c f3 (fun a k q1 q2 => by omega) HR
  have FR6 := frm_t FR0 (frm_m (S' := (fun a k => (a = m ∧ k = 0) ∨ (a = m + 2 ∧ k = 0))) f3 (fun a k q => by omega))
  refine e_iload_n dX12_end_5 rfl ?_
  refine z_iconst (0) dX12_end_6 rfl ?_
  refine e_aload_n dX12_end_7 rfl ?_
  refine e_get (.ref (m + 2)) dX12_end_8 tf_12_13 (rk_s k4) (congrArg va_rf (rk_r2 k4)) ?_
  refine z_iconst (0) dX12_end_11 rfl ?_
  refine z_ild (cn σ 3) dX12_end_12 (rk_a2 k4) (by decide) (by omega) (by omega) (refT_3 H5) ?_
  have y7 := wS_n (refT_w H5)
  refine e_callS [.int _, .int _, .int _] dX12_end_13 tm_12_115 rfl (Nat.le_of_ble_eq_true rfl) (Nat.le_refl _) (Nat.le_refl _) rfl (zp_X12_in n ⟨by omega, by omega⟩ 0 ⟨by omega, by omega⟩ (cn σ 3) ⟨by omega, by omega⟩ ?_)
  refine z_ifb_ne 21 dX12_end_16 rfl (fun c8 => ?_) (fun c8 => ?_)
  · skip
    refine e_aload_n dX12_end_21 rfl ?_
    refine e_get (.ref (m + 2)) dX12_end_22 tf_12_13 (rk_s k4) (congrArg va_rf (rk_r2 k4)) ?_
    refine z_iconst (0) dX12_end_25 rfl ?_
    refine e_iload_n dX12_end_26 rfl ?_
    skip
    refine z_ist dX12_end_27 (rk_a2 k4) (by decide) (by omega) (by omega) (fun h9 e10 => ?_)
    have f11 := frm_1 e10
    have k12 := rk_q (frm_s f11) k4
    have FR13 := frm_t FR6 (frm_m (S' := (fun a k => (a = m ∧ k = 0) ∨ (a = m + 2 ∧ k = 0))) f11 (fun a k q => by omega))
    refine e_iload_n dX12_end_28 rfl ?_
    refine z_iret dX12_end_29 rfl ⟨rfl, ?_⟩
    exact kq _ FR13 (refT_s3 H5 e10 (by omega) (by omega))
  · exfalso; omega
set_option maxHeartbeats 400000 in
theorem zp_X12_end_out {ad : mA} {dd : Nat} {h : mH} {Q : mQ} {m : Nat} {σ : Sg} (hk : rk h m) (HR : refT h m 0 σ)  (n : Int) (n_r : -2147483648 ≤ n ∧ n < 2147483648) (p1 : ¬ (0 ≤ n ∧ n ≤ cn σ 3)) (kq : ∀ h1, frm (fun a k => (a = m ∧ k = 0)) h h1 → (refT h1 m 0 σ) → Q (some (.int (zI (-1)))) h1) : mCal TB0 ad (dd + 2) M_X12_end [.ref m, .int (zI n)] h 0 0 Q := by
  refine ⟨Nat.le_of_ble_eq_true rfl, ?_⟩
  show mEv TB0 ad M_X12_end (dd + 2) (0, 0) (mCal TB0 ad (dd + 1)) (fun v h' z => z.1 = 0 ∧ Q v h') 0 [some (.ref m), some (.int (zI n))] [] h (0, 0)
  have FR0 : frm (fun a k => (a = m ∧ k = 0)) h h := frm_0 h
  have w1 := wS_n (refT_w HR)
  refine e_aload_n dX12_end_0 rfl ?_
  refine z_iconst (0) dX12_end_1 rfl ?_
  refine z_put dX12_end_2 tf_12_103 (rk_s hk) rfl (Or.inl rfl) (fun h1 e2 => ?_)
  have f3 := frm_1 e2
  have k4 := rk_q (frm_s f3) hk
  have H5 := refT_c f3 (fun a k q1 q2 => by omega) HR
  have FR6 := frm_t FR0 (frm_m (S' := (fun a k => (a = m ∧ k = 0))) f3 (fun a k q => by omega))
  refine e_iload_n dX12_end_5 rfl ?_
  refine z_iconst (0) dX12_end_6 rfl ?_
  refine e_aload_n dX12_end_7 rfl ?_
  refine e_get (.ref (m + 2)) dX12_end_8 tf_12_13 (rk_s k4) (congrArg va_rf (rk_r2 k4)) ?_
  refine z_iconst (0) dX12_end_11 rfl ?_
  refine z_ild (cn σ 3) dX12_end_12 (rk_a2 k4) (by decide) (by omega) (by omega) (refT_3 H5) ?_
  have y7 := wS_n (refT_w H5)
  refine e_callS [.int _, .int _, .int _] dX12_end_13 tm_12_115 rfl (Nat.le_of_ble_eq_true rfl) (Nat.le_refl _) (Nat.le_refl _) rfl (zp_X12_in n ⟨by omega, by omega⟩ 0 ⟨by omega, by omega⟩ (cn σ 3) ⟨by omega, by omega⟩ ?_)
  refine z_ifb_ne 21 dX12_end_16 rfl (fun c8 => ?_) (fun c8 => ?_)
  · exfalso; omega
  · skip
    refine z_iconst (-1) dX12_end_19 rfl ?_
    refine z_iret dX12_end_20 rfl ⟨rfl, ?_⟩
    exact kq _ FR6 H5
theorem op1 {ad : mA} {B : Nat} : op_1 ad B (Inv B) := by
  intro a
  rw [← zI_toInt a]
  have ra := in_of a
  generalize a.toInt = a at *
  refine opu_I (fun σ σ' r => edR σ a σ' r) (fun σ σ1 σ2 r1 r2 _ x y => ?_) (fun h σ hk HX Q kq => ?_) (fun h σ hr HR Q kq => ?_)
  · rcases x with ⟨x1, x2, x3⟩ | ⟨x1, x2, x3⟩ <;> rcases y with ⟨y1, y2, y3⟩ | ⟨y1, y2, y3⟩
    · exact ⟨x2.trans y2.symm, x3.trans y3.symm⟩
    · exact absurd x1 y1
    · exact absurd y1 x1
    · exact ⟨x2.trans y2.symm, x3.trans y3.symm⟩
  · by_cases q : 0 ≤ a ∧ a ≤ cn σ 3
    · exact zp_X11_end_in hk HX a ra q (fun h1 f C => kq _ _ _ (frm_m f (fun a k z => by unfold cset; omega)) C (Or.inl ⟨q, rfl, rfl⟩))
    · exact zp_X11_end_out hk HX a ra q (kq _ _ _ (frm_0 h) HX (Or.inr ⟨q, rfl, rfl⟩))
  · by_cases q : 0 ≤ a ∧ a ≤ cn σ 3
    · exact zp_X12_end_in hr HR a ra q (fun h1 f C => kq _ _ _ (frm_m f (fun a k z => by unfold rset; omega)) C (Or.inl ⟨q, rfl, rfl⟩))
    · exact zp_X12_end_out hr HR a ra q (fun h1 f C => kq _ _ _ (frm_m f (fun a k z => by unfold rset; omega)) C (Or.inr ⟨q, rfl, rfl⟩))
