/-! TRADE of the class -/
theorem dX4_exchange_0 : decode cX4_exchange 0 = .ok (.aload_n 0, 1) := by decide +kernel
theorem dX4_exchange_1 : decode cX4_exchange 1 = .ok (.getfield 9, 3) := by decide +kernel
theorem dX4_exchange_4 : decode cX4_exchange 4 = .ok (.iconst (-1), 1) := by decide +kernel
theorem dX4_exchange_5 : decode cX4_exchange 5 = .ok (.invokestatic 28, 3) := by decide +kernel
theorem dX4_exchange_8 : decode cX4_exchange 8 = .ok (.aload_n 0, 1) := by decide +kernel
theorem dX4_exchange_9 : decode cX4_exchange 9 = .ok (.iconst 0, 1) := by decide +kernel
theorem dX4_exchange_10 : decode cX4_exchange 10 = .ok (.putfield 18, 3) := by decide +kernel
theorem dX4_exchange_13 : decode cX4_exchange 13 = .ok (.iconst 0, 1) := by decide +kernel
theorem dX4_exchange_14 : decode cX4_exchange 14 = .ok (.istore_n 2, 1) := by decide +kernel
theorem dX4_exchange_15 : decode cX4_exchange 15 = .ok (.iconst 0, 1) := by decide +kernel
theorem dX4_exchange_16 : decode cX4_exchange 16 = .ok (.istore_n 3, 1) := by decide +kernel
theorem dX4_exchange_17 : decode cX4_exchange 17 = .ok (.iload_n 3, 1) := by decide +kernel
theorem dX4_exchange_18 : decode cX4_exchange 18 = .ok (.aload_n 1, 1) := by decide +kernel
theorem dX4_exchange_19 : decode cX4_exchange 19 = .ok (.getfield 34, 3) := by decide +kernel
theorem dX4_exchange_22 : decode cX4_exchange 22 = .ok (.getfield 40, 3) := by decide +kernel
theorem dX4_exchange_25 : decode cX4_exchange 25 = .ok (.if_icmp .ge 28, 3) := by decide +kernel
theorem dX4_exchange_28 : decode cX4_exchange 28 = .ok (.iload_n 2, 1) := by decide +kernel
theorem dX4_exchange_29 : decode cX4_exchange 29 = .ok (.aload_n 1, 1) := by decide +kernel
theorem dX4_exchange_30 : decode cX4_exchange 30 = .ok (.iload_n 3, 1) := by decide +kernel
theorem dX4_exchange_31 : decode cX4_exchange 31 = .ok (.invokevirtual 45, 3) := by decide +kernel
theorem dX4_exchange_34 : decode cX4_exchange 34 = .ok (.iconst (-1), 1) := by decide +kernel
theorem dX4_exchange_35 : decode cX4_exchange 35 = .ok (.if_icmp .eq 9, 3) := by decide +kernel
theorem dX4_exchange_38 : decode cX4_exchange 38 = .ok (.iconst 1, 1) := by decide +kernel
theorem dX4_exchange_39 : decode cX4_exchange 39 = .ok (.iload_n 3, 1) := by decide +kernel
theorem dX4_exchange_40 : decode cX4_exchange 40 = .ok (.ishl, 1) := by decide +kernel
theorem dX4_exchange_41 : decode cX4_exchange 41 = .ok (.goto 4, 3) := by decide +kernel
theorem dX4_exchange_44 : decode cX4_exchange 44 = .ok (.iconst 0, 1) := by decide +kernel
theorem dX4_exchange_45 : decode cX4_exchange 45 = .ok (.ior, 1) := by decide +kernel
theorem dX4_exchange_46 : decode cX4_exchange 46 = .ok (.istore_n 2, 1) := by decide +kernel
theorem dX4_exchange_47 : decode cX4_exchange 47 = .ok (.iinc 3 1, 3) := by decide +kernel
theorem dX4_exchange_50 : decode cX4_exchange 50 = .ok (.goto (-33), 3) := by decide +kernel
theorem dX4_exchange_53 : decode cX4_exchange 53 = .ok (.iconst 0, 1) := by decide +kernel
theorem dX4_exchange_54 : decode cX4_exchange 54 = .ok (.istore_n 3, 1) := by decide +kernel
theorem dX4_exchange_55 : decode cX4_exchange 55 = .ok (.iload_n 3, 1) := by decide +kernel
theorem dX4_exchange_56 : decode cX4_exchange 56 = .ok (.bipush 6, 2) := by decide +kernel
theorem dX4_exchange_58 : decode cX4_exchange 58 = .ok (.if_icmp .ge 24, 3) := by decide +kernel
theorem dX4_exchange_61 : decode cX4_exchange 61 = .ok (.iload_n 2, 1) := by decide +kernel
theorem dX4_exchange_62 : decode cX4_exchange 62 = .ok (.ifCond .eq 20, 3) := by decide +kernel
theorem dX4_exchange_65 : decode cX4_exchange 65 = .ok (.iload_n 2, 1) := by decide +kernel
theorem dX4_exchange_66 : decode cX4_exchange 66 = .ok (.aload_n 0, 1) := by decide +kernel
theorem dX4_exchange_67 : decode cX4_exchange 67 = .ok (.aload_n 1, 1) := by decide +kernel
theorem dX4_exchange_68 : decode cX4_exchange 68 = .ok (.iload_n 2, 1) := by decide +kernel
theorem dX4_exchange_69 : decode cX4_exchange 69 = .ok (.invokevirtual 49, 3) := by decide +kernel
theorem dX4_exchange_72 : decode cX4_exchange 72 = .ok (.iconst (-1), 1) := by decide +kernel
theorem dX4_exchange_73 : decode cX4_exchange 73 = .ok (.ixor, 1) := by decide +kernel
theorem dX4_exchange_74 : decode cX4_exchange 74 = .ok (.iand, 1) := by decide +kernel
theorem dX4_exchange_75 : decode cX4_exchange 75 = .ok (.istore_n 2, 1) := by decide +kernel
theorem dX4_exchange_76 : decode cX4_exchange 76 = .ok (.iinc 3 1, 3) := by decide +kernel
theorem dX4_exchange_79 : decode cX4_exchange 79 = .ok (.goto (-24), 3) := by decide +kernel
theorem dX4_exchange_82 : decode cX4_exchange 82 = .ok (.return_, 1) := by decide +kernel
theorem dX4_exchanged_0 : decode cX4_exchanged 0 = .ok (.iconst 0, 1) := by decide +kernel
theorem dX4_exchanged_1 : decode cX4_exchanged 1 = .ok (.istore_n 2, 1) := by decide +kernel
theorem dX4_exchanged_2 : decode cX4_exchanged 2 = .ok (.iconst 0, 1) := by decide +kernel
theorem dX4_exchanged_3 : decode cX4_exchanged 3 = .ok (.istore_n 3, 1) := by decide +kernel
theorem dX4_exchanged_4 : decode cX4_exchanged 4 = .ok (.iload_n 3, 1) := by decide +kernel
theorem dX4_exchanged_5 : decode cX4_exchanged 5 = .ok (.aload_n 1, 1) := by decide +kernel
theorem dX4_exchanged_6 : decode cX4_exchanged 6 = .ok (.getfield 34, 3) := by decide +kernel
theorem dX4_exchanged_9 : decode cX4_exchanged 9 = .ok (.getfield 40, 3) := by decide +kernel
theorem dX4_exchanged_12 : decode cX4_exchanged 12 = .ok (.if_icmp .ge 40, 3) := by decide +kernel
theorem dX4_exchanged_15 : decode cX4_exchanged 15 = .ok (.iload_n 2, 1) := by decide +kernel
theorem dX4_exchanged_16 : decode cX4_exchanged 16 = .ok (.aload_n 1, 1) := by decide +kernel
theorem dX4_exchanged_17 : decode cX4_exchanged 17 = .ok (.iload_n 3, 1) := by decide +kernel
theorem dX4_exchanged_18 : decode cX4_exchanged 18 = .ok (.invokevirtual 45, 3) := by decide +kernel
theorem dX4_exchanged_21 : decode cX4_exchanged 21 = .ok (.iconst (-1), 1) := by decide +kernel
theorem dX4_exchanged_22 : decode cX4_exchanged 22 = .ok (.if_icmp .eq 21, 3) := by decide +kernel
theorem dX4_exchanged_25 : decode cX4_exchanged 25 = .ok (.aload_n 0, 1) := by decide +kernel
theorem dX4_exchanged_26 : decode cX4_exchanged 26 = .ok (.getfield 9, 3) := by decide +kernel
theorem dX4_exchanged_29 : decode cX4_exchanged 29 = .ok (.iload_n 3, 1) := by decide +kernel
theorem dX4_exchanged_30 : decode cX4_exchanged 30 = .ok (.iaload, 1) := by decide +kernel
theorem dX4_exchanged_31 : decode cX4_exchanged 31 = .ok (.aload_n 1, 1) := by decide +kernel
theorem dX4_exchanged_32 : decode cX4_exchanged 32 = .ok (.iload_n 3, 1) := by decide +kernel
theorem dX4_exchanged_33 : decode cX4_exchanged 33 = .ok (.invokevirtual 45, 3) := by decide +kernel
theorem dX4_exchanged_36 : decode cX4_exchanged 36 = .ok (.if_icmp .eq 7, 3) := by decide +kernel
theorem dX4_exchanged_39 : decode cX4_exchanged 39 = .ok (.iconst 1, 1) := by decide +kernel
theorem dX4_exchanged_40 : decode cX4_exchanged 40 = .ok (.goto 4, 3) := by decide +kernel
theorem dX4_exchanged_43 : decode cX4_exchanged 43 = .ok (.iconst 0, 1) := by decide +kernel
theorem dX4_exchanged_44 : decode cX4_exchanged 44 = .ok (.iadd, 1) := by decide +kernel
theorem dX4_exchanged_45 : decode cX4_exchanged 45 = .ok (.istore_n 2, 1) := by decide +kernel
theorem dX4_exchanged_46 : decode cX4_exchanged 46 = .ok (.iinc 3 1, 3) := by decide +kernel
theorem dX4_exchanged_49 : decode cX4_exchanged 49 = .ok (.goto (-45), 3) := by decide +kernel
theorem dX4_exchanged_52 : decode cX4_exchanged 52 = .ok (.iload_n 2, 1) := by decide +kernel
theorem dX4_exchanged_53 : decode cX4_exchanged 53 = .ok (.ireturn, 1) := by decide +kernel
theorem dX11_trade_0 : decode cX11_trade 0 = .ok (.aload_n 0, 1) := by decide +kernel
theorem dX11_trade_1 : decode cX11_trade 1 = .ok (.getfield 10, 3) := by decide +kernel
theorem dX11_trade_4 : decode cX11_trade 4 = .ok (.iload_n 1, 1) := by decide +kernel
theorem dX11_trade_5 : decode cX11_trade 5 = .ok (.invokevirtual 94, 3) := by decide +kernel
theorem dX11_trade_8 : decode cX11_trade 8 = .ok (.astore_n 3, 1) := by decide +kernel
theorem dX11_trade_9 : decode cX11_trade 9 = .ok (.aload_n 3, 1) := by decide +kernel
theorem dX11_trade_10 : decode cX11_trade 10 = .ok (.ifnull 12, 3) := by decide +kernel
theorem dX11_trade_13 : decode cX11_trade 13 = .ok (.aload_n 3, 1) := by decide +kernel
theorem dX11_trade_14 : decode cX11_trade 14 = .ok (.iload_n 2, 1) := by decide +kernel
theorem dX11_trade_15 : decode cX11_trade 15 = .ok (.invokevirtual 159, 3) := by decide +kernel
theorem dX11_trade_18 : decode cX11_trade 18 = .ok (.iconst (-1), 1) := by decide +kernel
theorem dX11_trade_19 : decode cX11_trade 19 = .ok (.if_icmp .ne 5, 3) := by decide +kernel
theorem dX11_trade_22 : decode cX11_trade 22 = .ok (.iconst (-1), 1) := by decide +kernel
theorem dX11_trade_23 : decode cX11_trade 23 = .ok (.ireturn, 1) := by decide +kernel
theorem dX11_trade_24 : decode cX11_trade 24 = .ok (.aload_n 0, 1) := by decide +kernel
theorem dX11_trade_25 : decode cX11_trade 25 = .ok (.getfield 44, 3) := by decide +kernel
theorem dX11_trade_28 : decode cX11_trade 28 = .ok (.aload_n 3, 1) := by decide +kernel
theorem dX11_trade_29 : decode cX11_trade 29 = .ok (.invokevirtual 160, 3) := by decide +kernel
theorem dX11_trade_32 : decode cX11_trade 32 = .ok (.aload_n 0, 1) := by decide +kernel
theorem dX11_trade_33 : decode cX11_trade 33 = .ok (.getfield 44, 3) := by decide +kernel
theorem dX11_trade_36 : decode cX11_trade 36 = .ok (.getfield 164, 3) := by decide +kernel
theorem dX11_trade_39 : decode cX11_trade 39 = .ok (.iload_n 2, 1) := by decide +kernel
theorem dX11_trade_40 : decode cX11_trade 40 = .ok (.iaload, 1) := by decide +kernel
theorem dX11_trade_41 : decode cX11_trade 41 = .ok (.ireturn, 1) := by decide +kernel
theorem dX11_rings_0 : decode cX11_rings 0 = .ok (.aload_n 0, 1) := by decide +kernel
theorem dX11_rings_1 : decode cX11_rings 1 = .ok (.getfield 10, 3) := by decide +kernel
theorem dX11_rings_4 : decode cX11_rings 4 = .ok (.iload_n 1, 1) := by decide +kernel
theorem dX11_rings_5 : decode cX11_rings 5 = .ok (.invokevirtual 94, 3) := by decide +kernel
theorem dX11_rings_8 : decode cX11_rings 8 = .ok (.astore_n 3, 1) := by decide +kernel
theorem dX11_rings_9 : decode cX11_rings 9 = .ok (.aload_n 3, 1) := by decide +kernel
theorem dX11_rings_10 : decode cX11_rings 10 = .ok (.ifnonnull 5, 3) := by decide +kernel
theorem dX11_rings_13 : decode cX11_rings 13 = .ok (.iconst (-1), 1) := by decide +kernel
theorem dX11_rings_14 : decode cX11_rings 14 = .ok (.ireturn, 1) := by decide +kernel
theorem dX11_rings_15 : decode cX11_rings 15 = .ok (.aload_n 0, 1) := by decide +kernel
theorem dX11_rings_16 : decode cX11_rings 16 = .ok (.getfield 44, 3) := by decide +kernel
theorem dX11_rings_19 : decode cX11_rings 19 = .ok (.aload_n 3, 1) := by decide +kernel
theorem dX11_rings_20 : decode cX11_rings 20 = .ok (.invokevirtual 160, 3) := by decide +kernel
theorem dX11_rings_23 : decode cX11_rings 23 = .ok (.iload_n 2, 1) := by decide +kernel
theorem dX11_rings_24 : decode cX11_rings 24 = .ok (.ifCond .eq 14, 3) := by decide +kernel
theorem dX11_rings_27 : decode cX11_rings 27 = .ok (.aload_n 0, 1) := by decide +kernel
theorem dX11_rings_28 : decode cX11_rings 28 = .ok (.getfield 44, 3) := by decide +kernel
theorem dX11_rings_31 : decode cX11_rings 31 = .ok (.aload_n 3, 1) := by decide +kernel
theorem dX11_rings_32 : decode cX11_rings 32 = .ok (.invokevirtual 269, 3) := by decide +kernel
theorem dX11_rings_35 : decode cX11_rings 35 = .ok (.goto 10, 3) := by decide +kernel
theorem dX11_rings_38 : decode cX11_rings 38 = .ok (.aload_n 0, 1) := by decide +kernel
theorem dX11_rings_39 : decode cX11_rings 39 = .ok (.getfield 44, 3) := by decide +kernel
theorem dX11_rings_42 : decode cX11_rings 42 = .ok (.getfield 272, 3) := by decide +kernel
theorem dX11_rings_45 : decode cX11_rings 45 = .ok (.ireturn, 1) := by decide +kernel
theorem tf_11_272 : tFld TB0 11 272 = some (4, 2) := rfl
set_option maxRecDepth 20000 in
theorem tm_4_49 : tMet TB0 4 49 = some (0, M_X4_closeRing) := rfl
set_option maxRecDepth 20000 in
theorem tm_11_160 : tMet TB0 11 160 = some (0, M_X4_exchange) := rfl
set_option maxRecDepth 20000 in
theorem tm_11_269 : tMet TB0 11 269 = some (0, M_X4_exchanged) := rfl
theorem or1_has {c z k : Int} (h0 : 0 ≤ z) (h1 : 0 ≤ k) : hasZ (orZ c (shlZ 1 z)) k ↔ hasZ c k ∨ k = z := by rw [or_has, show shlZ 1 z = b1 z from rfl, has_b1 h0 h1]
/-- the set of those below d with P -/
def prS (P : Int → Prop) (s d : Int) : Prop := (0 ≤ s ∧ s < 64) ∧ ∀ k, 0 ≤ k → k < 6 → (hasZ s k ↔ k < d ∧ P k)
theorem prS_0 (P : Int → Prop) : prS P 0 0 := ⟨⟨by omega, by omega⟩, fun k a c => ⟨fun z => absurd z (has_0 k), fun z => by omega⟩⟩
theorem prS_y {P : Int → Prop} {s d : Int} (H : prS P s d) (h0 : 0 ≤ d) (h1 : d < 6) (p : P d) : prS P (orZ s (shlZ 1 d)) (d + 1) := by
  refine ⟨or_b H.1.2 h1, fun k a c => ?_⟩
  rw [or1_has h0 a, H.2 k a c]
  constructor
  · rintro (z | z)
    · exact ⟨by omega, z.2⟩
    · rw [z]; exact ⟨by omega, p⟩
  · intro z
    by_cases q : k = d
    · exact Or.inr q
    · exact Or.inl ⟨by omega, z.2⟩
theorem prS_n {P : Int → Prop} {s d : Int} (H : prS P s d) (p : ¬ P d) : prS P (orZ s 0) (d + 1) := by
  rw [orZ_0 H.1.1]
  refine ⟨H.1, fun k a c => ?_⟩
  rw [H.2 k a c]
  constructor
  · intro z; exact ⟨by omega, z.2⟩
  · intro z
    refine ⟨?_, z.2⟩
    rcases (show k < d ∨ k = d by omega) with q | q
    · exact q
    · rw [q] at z; exact absurd z.2 p
theorem prS_b {P : Int → Prop} {s d : Int} (H : prS P s d) : 0 ≤ s ∧ s < 64 := H.1
theorem stS_of {g : Int → Int} {s d : Int} {P : Int → Prop} (H : prS P s d) (e : d = nd g) (h : ∀ k, 0 ≤ k → k < nd g → (P k ↔ dm g k ≠ -1)) : stS g s := ⟨H.1, fun k a c => (H.2 k a c).trans (by
  subst e
  exact ⟨fun z => ⟨z.1, (h k a z.1).mp z.2⟩, fun z => ⟨z.1, (h k a z.1).mpr z.2⟩⟩)⟩
def exN (g r : Int → Int) : Int := sumZ (fun d => bZ (upv g d ≠ -1 ∧ r d ≠ upv g d)) (nd g).toNat
def tdP (g : Int → Int) (d v : Int) : Prop := (upv g d = -1 ∧ v = -1) ∨ (upv g d ≠ -1 ∧ ∃ (s0 : Int) (n : Nat) (r : Int → Int), stS g s0 ∧ ttR g n s0 r ∧ v = r d)
theorem tdP_u {g : Int → Int} (w : wfF g) {d v v' : Int} (x : tdP g d v) (y : tdP g d v') : v = v' := by
  rcases x with ⟨x1, x2⟩ | ⟨x1, s0, n, r, x2, x3, x4⟩ <;> rcases y with ⟨y1, y2⟩ | ⟨y1, s1, n', r', y2, y3, y4⟩
  · omega
  · exact absurd x1 y1
  · exact absurd y1 x1
  · have e := stS_u x2 y2
    subst e
    have wn := w.1.1
    rcases upv_s w d with q | q
    · exact absurd q x1
    · rw [x4, y4]
      exact (tt_u _ s0 rfl (stS_ok wn x2) n n' r r' x3 y3).2 d q.1 (by omega) ((x2.2 d q.1 (by omega)).mpr ⟨q.2.1, by omega⟩)
def rgP (g : Int → Int) (p : Prop) [Decidable p] (v : Int) : Prop := ∃ (s0 : Int) (n : Nat) (r : Int → Int), stS g s0 ∧ ttR g n s0 r ∧ v = if p then exN g r else (n : Int)
theorem rgP_u {g : Int → Int} (w : wfF g) {p : Prop} [Decidable p] {v v' : Int} (x : rgP g p v) (y : rgP g p v') : v = v' := by
  obtain ⟨s0, n, r, x2, x3, x4⟩ := x
  obtain ⟨s1, n', r', y2, y3, y4⟩ := y
  have e := stS_u x2 y2
  subst e
  have wn := w.1.1
  obtain ⟨e1, e2⟩ := tt_u _ s0 rfl (stS_ok wn x2) n n' r r' x3 y3
  have e3 : exN g r = exN g r' := sumZ_e (fun d a c => by
    by_cases z : upv g d = -1
    · rw [bZ_0 (fun q => q.1 z), bZ_0 (fun q => q.1 z)]
    · rw [e2 d a (by omega) ((x2.2 d a (by omega)).mpr ⟨by omega, by rw [← upv_in a (by omega)]; exact z⟩)])
  rw [x4, y4, e1, e3]
set_option maxHeartbeats 3000000 in
theorem zp_X4_exchange {ad : mA} {dd : Nat} {h : mH} {Q : mQ} {y f : Nat} {g : Int → Int} (hk : mkk h y) (hk1 : fgk h f) (HF : isF h f g)   (pf : y + 4 ≤ f ∨ f + 16 ≤ y) (kq : ∀ h1, frm (fun a k => (a = y ∧ k = 2) ∨ a = y + 1) h h1 → (exE h1 y g) → Q none h1) : mCal TB0 ad (dd + 6) M_X4_exchange [.ref y, .ref f] h 0 0 Q := by
  refine ⟨Nat.le_of_ble_eq_true rfl, ?_⟩
  show mEv TB0 ad M_X4_exchange (dd + 6) (0, 0) (mCal TB0 ad (dd + 5)) (fun v h' z => z.1 = 0 ∧ Q v h') 0 [some (.ref y), some (.ref f), none, none] [] h (0, 0)
  have FR0 : frm (fun a k => (a = y ∧ k = 2) ∨ a = y + 1) h h := frm_0 h
  have w1 := isF_n HF
  have w2 := isF_nd HF
  have w3 := isF_nu HF
  have w4 := isF_nc HF
  have W := isF_w HF
  refine e_aload_n dX4_exchange_0 rfl ?_
  refine e_get (.ref (y + 1)) dX4_exchange_1 tf_4_9 (congrArg Prod.fst (mk_s0 hk)) (congrArg va_rf (mk_r0_0 hk)) ?_
  refine z_iconst (-1) dX4_exchange_4 rfl ?_
  refine e_callS [.ref _, .int _] dX4_exchange_5 tm_4_28 rfl (Nat.le_of_ble_eq_true rfl) (Nat.le_refl _) (Nat.le_refl _) rfl (zp_fill (mk_s1 hk) (by decide) ⟨by omega, by omega⟩ (fun h1 f2 e3 => ?_))
  have k4 := lk_q (frm_s f2) hk
  have k5 := lk_q (frm_s f2) hk1
  have H6 := isF_c f2 (fun a k q1 q2 => by omega) HF
  have FR7 := frm_t FR0 (frm_m (S' := (fun a k => (a = y ∧ k = 2) ∨ a = y + 1)) f2 (fun a k q => by omega))
  refine e_aload_n dX4_exchange_8 rfl ?_
  refine z_iconst (0) dX4_exchange_9 rfl ?_
  refine z_put dX4_exchange_10 tf_4_18 (congrArg Prod.fst (mk_s0 k4)) rfl (Or.inl rfl) (fun h8 e9 => ?_)
  have f10 := frm_1 e9
  have k11 := lk_q (frm_s f10) k4
  have k12 := lk_q (frm_s f10) k5
  have H13 := isF_c f10 (fun a k q1 q2 => by omega) H6
  have FR14 := frm_t FR7 (frm_m (S' := (fun a k => (a = y ∧ k = 2) ∨ a = y + 1)) f10 (fun a k q => by omega))
  refine z_iconst (0) dX4_exchange_13 rfl ?_
  refine e_istore_n (L' := [_, _, _, _]) dX4_exchange_14 (Nat.le_of_ble_eq_true rfl) rfl ?_
  refine z_iconst (0) dX4_exchange_15 rfl ?_
  refine e_istore_n (L' := [_, _, _, _]) dX4_exchange_16 (Nat.le_of_ble_eq_true rfl) rfl ?_
  have lp15 : ∀ (n15 : Nat) (s d : Int), (nd g - d).toNat = n15 → (0 ≤ d ∧ d ≤ nd g) → (prS (fun k => upv g k ≠ -1) s d) → mEv TB0 ad M_X4_exchange (dd + 6) (0, 0) (mCal TB0 ad (dd + 5)) (fun v h' z => z.1 = 0 ∧ Q v h') 17 [some (.ref y), some (.ref f), some (.int (zI s)), some (.int (zI d))] [] h8 (0, 0) := by
    intro n15
    induction n15 using Nat.strongRecOn with
    | ind n15 ih15 =>
    intro s d  hn15  I1 I3
    refine e_iload_n dX4_exchange_17 rfl ?_
    refine e_aload_n dX4_exchange_18 rfl ?_
    have sb := prS_b I3
    refine e_get (.ref (f + 1)) dX4_exchange_19 tf_4_34 (congrArg Prod.fst (fg_s0 k12)) (congrArg va_rf (fg_r0_0 k12)) ?_
    refine z_get (nd g) dX4_exchange_22 tf_4_40 (congrArg Prod.fst (fg_s1 k12)) (Or.inl rfl) (isF_nd H13) ?_
    have y16 := isF_n H13
    refine z_icmp_ge 53 dX4_exchange_25 rfl ⟨by omega, by omega⟩ ⟨by omega, by omega⟩ (fun c17 => ?_) (fun c17 => ?_)
    · skip
      have s0 : stS g s := stS_of I3 (by omega) (fun k a c => by show upv g k ≠ -1 ↔ _; rw [upv_in a c])
      have o0 := stS_ok (by omega) s0
      refine z_iconst (0) dX4_exchange_53 rfl ?_
      refine e_istore_n (L' := [_, _, _, _]) dX4_exchange_54 (Nat.le_of_ble_eq_true rfl) rfl ?_
      have lp18 : ∀ (n18 : Nat) (t i : Int) (h18 : mH), (6 - i).toNat = n18 → (mkk h18 y) → (fgk h18 f) → (isF h18 f g) → (frm (fun a k => (a = y ∧ k = 2) ∨ a = y + 1) h h18) → (0 ≤ i ∧ i ≤ 6) → (exI h18 y g s t i) → mEv TB0 ad M_X4_exchange (dd + 6) (0, 0) (mCal TB0 ad (dd + 5)) (fun v h' z => z.1 = 0 ∧ Q v h') 55 [some (.ref y), some (.ref f), some (.int (zI t)), some (.int (zI i))] [] h18 (0, 0) := by
        intro n18
        induction n18 using Nat.strongRecOn with
        | ind n18 ih18 =>
        intro t i h18 hn18 k19 k20 H21 FR22 K1 IX
        refine e_iload_n dX4_exchange_55 rfl ?_
        obtain ⟨r, n, G1, G2, G3, G4, G5⟩ := IX
        have tb := G4.2.1
        refine z_bipush (6) dX4_exchange_56 rfl ?_
        refine z_icmp_ge 82 dX4_exchange_58 rfl ⟨by omega, by omega⟩ ⟨by omega, by omega⟩ (fun c23 => ?_) (fun c23 => ?_)
        · skip
          have ne : ¬ nem t := card_0 (by omega)
          refine e_vret dX4_exchange_82 rfl ⟨rfl, ?_⟩
          exact kq _ FR22 ⟨s, r, n, s0, G1, preT_e o0 G2 ne, by omega⟩
        · skip
          refine e_iload_n dX4_exchange_61 rfl ?_
          refine z_if_eq 82 dX4_exchange_62 rfl ⟨by omega, by omega⟩ (fun c24 => ?_) (fun c24 => ?_)
          · skip
            have ne : ¬ nem t := (nem_0 tb.1 tb.2).mp (by omega)
            refine e_vret dX4_exchange_82 rfl ⟨rfl, ?_⟩
            exact kq _ FR22 ⟨s, r, n, s0, G1, preT_e o0 G2 ne, by omega⟩
          · skip
            have nt : nem t := Classical.byContradiction (fun z => absurd ((nem_0 tb.1 tb.2).mpr z) (by omega))
            refine e_iload_n dX4_exchange_65 rfl ?_
            refine e_aload_n dX4_exchange_66 rfl ?_
            refine e_aload_n dX4_exchange_67 rfl ?_
            refine e_iload_n dX4_exchange_68 rfl ?_
            refine e_callV [.ref _, .int _] dX4_exchange_69 tm_4_49 rfl (Nat.le_of_ble_eq_true rfl) (congrArg Prod.fst (mk_s0 k19)) (Nat.le_of_ble_eq_true rfl) (Nat.le_refl _) (Nat.le_refl _) rfl (zp_X4_closeRing k19 k20 H21 G1 t ⟨by omega, by omega⟩ G4 nt (by omega) (by omega) (fun v25 p26 h27 f28 p29 => ?_))
            have k30 := lk_q (frm_s f28) k19
            have k31 := lk_q (frm_s f28) k20
            have H32 := isF_c f28 (fun a k q1 q2 => by omega) H21
            have FR33 := frm_t FR22 (frm_m (S' := (fun a k => (a = y ∧ k = 2) ∨ a = y + 1)) f28 (fun a k q => by omega))
            have w : ring g t v25 := by assumption
            have vb := w.1
            refine z_iconst (-1) dX4_exchange_72 rfl ?_
            refine z_inot dX4_exchange_73 (by omega) ?_
            refine z_iandn dX4_exchange_74 (by omega) (by omega) ?_
            have y34 := subS_b t v25
            refine e_istore_n (L' := [_, _, _, _]) dX4_exchange_75 (Nat.le_of_ble_eq_true rfl) rfl ?_
            refine z_iinc (L' := [_, _, _, _]) dX4_exchange_76 rfl rfl ?_
            refine e_goto 55 dX4_exchange_79 rfl ?_
            exact ih18 _ (by omega) (subS t v25) (i + 1) h27 rfl k30 k31 H32 FR33 (by omega) (⟨mixR g t v25 r, n + 1, p29, by rw [show (n + 1).toNat = n.toNat + 1 by omega]; exact preT_s o0 G4 G5 G2 w, by have := ring_card G4 w; omega, (okS_sub G4 w.1).1, fun k a e p => G5 k a e ((okS_sub G4 w.1).2 k a e p)⟩)
      exact lp18 _ s 0 h8 rfl k11 k12 H13 FR14 (by omega) (⟨fun _ => -1, 0, ⟨fun k a c => ((frm_r f10 (by omega))).trans (e3 k a (by omega)), (show rI h8 y 2 = 0 from (rI_eq e9 ⟨by omega, by omega⟩))⟩, preT_0 o0 _, by have := cardZ_b s; omega, o0, fun k a e p => p⟩)
    · skip
      refine e_iload_n dX4_exchange_28 rfl ?_
      refine e_aload_n dX4_exchange_29 rfl ?_
      refine e_iload_n dX4_exchange_30 rfl ?_
      refine e_callV [.int _] dX4_exchange_31 tm_4_45 rfl (Nat.le_of_ble_eq_true rfl) (congrArg Prod.fst (fg_s0 k12)) (Nat.le_of_ble_eq_true rfl) (Nat.le_refl _) (Nat.le_refl _) rfl (zp_X2_upOf k12 H13 d ⟨by omega, by omega⟩ ?_)
      have y35 := upv_s (isF_w H13) d
      refine z_iconst (-1) dX4_exchange_34 rfl ?_
      refine z_icmp_eq 44 dX4_exchange_35 rfl ⟨by omega, by omega⟩ ⟨by omega, by omega⟩ (fun c36 => ?_) (fun c36 => ?_)
      · skip
        refine z_iconst (0) dX4_exchange_44 rfl ?_
        refine z_ior dX4_exchange_45 (by omega) (by omega) (by omega) (by omega) ?_
        have y37 := orZ_b s 0
        refine e_istore_n (L' := [_, _, _, _]) dX4_exchange_46 (Nat.le_of_ble_eq_true rfl) rfl ?_
        refine z_iinc (L' := [_, _, _, _]) dX4_exchange_47 rfl rfl ?_
        refine e_goto 17 dX4_exchange_50 rfl ?_
        exact ih15 _ (by omega) (orZ s 0) (d + 1)  rfl  (by omega) (by first | exact prS_y I3 (by omega) (by omega) (by assumption) | exact prS_n I3 (fun z => z (by assumption)))
      · skip
        refine z_iconst (1) dX4_exchange_38 rfl ?_
        refine e_iload_n dX4_exchange_39 rfl ?_
        refine z_ishl dX4_exchange_40 (by omega) (by omega) (by omega) (by omega) ?_
        have y38 := shlZ_b 1 d
        refine e_goto 45 dX4_exchange_41 rfl ?_
        refine z_ior dX4_exchange_45 (by omega) (by omega) (by omega) (by omega) ?_
        have y39 := orZ_b s (shlZ 1 d)
        refine e_istore_n (L' := [_, _, _, _]) dX4_exchange_46 (Nat.le_of_ble_eq_true rfl) rfl ?_
        refine z_iinc (L' := [_, _, _, _]) dX4_exchange_47 rfl rfl ?_
        refine e_goto 17 dX4_exchange_50 rfl ?_
        exact ih15 _ (by omega) (orZ s (shlZ 1 d)) (d + 1)  rfl  (by omega) (by first | exact prS_y I3 (by omega) (by omega) (by assumption) | exact prS_n I3 (fun z => z (by assumption)))
  exact lp15 _ 0 0  rfl  (by omega) (prS_0 _)
set_option maxHeartbeats 400000 in
theorem zp_X4_exchanged {ad : mA} {dd : Nat} {h : mH} {Q : mQ} {y f : Nat} {g r : Int → Int} {n : Int} (hk : mkk h y) (hk1 : fgk h f) (HF : isF h f g) (HG : gtC h y r n)    (kq : Q (some (.int (zI (exN g r)))) h) : mCal TB0 ad (dd + 3) M_X4_exchanged [.ref y, .ref f] h 0 0 Q := by
  refine ⟨Nat.le_of_ble_eq_true rfl, ?_⟩
  show mEv TB0 ad M_X4_exchanged (dd + 3) (0, 0) (mCal TB0 ad (dd + 2)) (fun v h' z => z.1 = 0 ∧ Q v h') 0 [some (.ref y), some (.ref f), none, none] [] h (0, 0)
  have w1 := isF_n HF
  have w2 := isF_nd HF
  have w3 := isF_nu HF
  have w4 := isF_nc HF
  have W := isF_w HF
  refine z_iconst (0) dX4_exchanged_0 rfl ?_
  refine e_istore_n (L' := [_, _, _, _]) dX4_exchanged_1 (Nat.le_of_ble_eq_true rfl) rfl ?_
  refine z_iconst (0) dX4_exchanged_2 rfl ?_
  refine e_istore_n (L' := [_, _, _, _]) dX4_exchanged_3 (Nat.le_of_ble_eq_true rfl) rfl ?_
  have lp1 : ∀ (n1 : Nat) (t d : Int), (nd g - d).toNat = n1 → (0 ≤ d ∧ d ≤ nd g) → (0 ≤ t ∧ t ≤ d) → (t = sumZ (fun d => bZ (upv g d ≠ -1 ∧ r d ≠ upv g d)) d.toNat) → mEv TB0 ad M_X4_exchanged (dd + 3) (0, 0) (mCal TB0 ad (dd + 2)) (fun v h' z => z.1 = 0 ∧ Q v h') 4 [some (.ref y), some (.ref f), some (.int (zI t)), some (.int (zI d))] [] h (0, 0) := by
    intro n1
    induction n1 using Nat.strongRecOn with
    | ind n1 ih1 =>
    intro t d  hn1  I1 I2 I3
    refine e_iload_n dX4_exchanged_4 rfl ?_
    refine e_aload_n dX4_exchanged_5 rfl ?_
    refine e_get (.ref (f + 1)) dX4_exchanged_6 tf_4_34 (congrArg Prod.fst (fg_s0 hk1)) (congrArg va_rf (fg_r0_0 hk1)) ?_
    refine z_get (nd g) dX4_exchanged_9 tf_4_40 (congrArg Prod.fst (fg_s1 hk1)) (Or.inl rfl) (isF_nd HF) ?_
    have y2 := isF_n HF
    refine z_icmp_ge 52 dX4_exchanged_12 rfl ⟨by omega, by omega⟩ ⟨by omega, by omega⟩ (fun c3 => ?_) (fun c3 => ?_)
    · skip
      refine e_iload_n dX4_exchanged_52 rfl ?_
      refine z_iret dX4_exchanged_53 rfl ⟨rfl, ?_⟩
      refine z_q kq ?_
      rw [I3, show d = nd g by omega]; rfl
    · skip
      refine e_iload_n dX4_exchanged_15 rfl ?_
      refine e_aload_n dX4_exchanged_16 rfl ?_
      refine e_iload_n dX4_exchanged_17 rfl ?_
      refine e_callV [.int _] dX4_exchanged_18 tm_4_45 rfl (Nat.le_of_ble_eq_true rfl) (congrArg Prod.fst (fg_s0 hk1)) (Nat.le_of_ble_eq_true rfl) (Nat.le_refl _) (Nat.le_refl _) rfl (zp_X2_upOf hk1 HF d ⟨by omega, by omega⟩ ?_)
      have y4 := upv_s (isF_w HF) d
      refine z_iconst (-1) dX4_exchanged_21 rfl ?_
      refine z_icmp_eq 43 dX4_exchanged_22 rfl ⟨by omega, by omega⟩ ⟨by omega, by omega⟩ (fun c5 => ?_) (fun c5 => ?_)
      · skip
        refine z_iconst (0) dX4_exchanged_43 rfl ?_
        refine z_iadd dX4_exchanged_44 ?_
        refine e_istore_n (L' := [_, _, _, _]) dX4_exchanged_45 (Nat.le_of_ble_eq_true rfl) rfl ?_
        refine z_iinc (L' := [_, _, _, _]) dX4_exchanged_46 rfl rfl ?_
        refine e_goto 4 dX4_exchanged_49 rfl ?_
        exact ih1 _ (by omega) (t + 0) (d + 1)  rfl  (by omega) (by omega) (by rw [sumZ_s (by omega)]; first | (rw [bZ_1 (by omega)]; omega) | (rw [bZ_0 (by omega)]; omega))
      · skip
        refine e_aload_n dX4_exchanged_25 rfl ?_
        refine e_get (.ref (y + 1)) dX4_exchanged_26 tf_4_9 (congrArg Prod.fst (mk_s0 hk)) (congrArg va_rf (mk_r0_0 hk)) ?_
        refine e_iload_n dX4_exchanged_29 rfl ?_
        refine z_ild (r d) dX4_exchanged_30 (mk_s1 hk) (by decide) (by omega) (by omega) (HG.1 d (by omega) (by omega)) ?_
        have y6 := rI_r (HG.1 d (by omega) (by omega))
        refine e_aload_n dX4_exchanged_31 rfl ?_
        refine e_iload_n dX4_exchanged_32 rfl ?_
        refine e_callV [.int _] dX4_exchanged_33 tm_4_45 rfl (Nat.le_of_ble_eq_true rfl) (congrArg Prod.fst (fg_s0 hk1)) (Nat.le_of_ble_eq_true rfl) (Nat.le_refl _) (Nat.le_refl _) rfl (zp_X2_upOf hk1 HF d ⟨by omega, by omega⟩ ?_)
        have y7 := upv_s (isF_w HF) d
        refine z_icmp_eq 43 dX4_exchanged_36 rfl ⟨by omega, by omega⟩ ⟨by omega, by omega⟩ (fun c8 => ?_) (fun c8 => ?_)
        · skip
          refine z_iconst (0) dX4_exchanged_43 rfl ?_
          refine z_iadd dX4_exchanged_44 ?_
          refine e_istore_n (L' := [_, _, _, _]) dX4_exchanged_45 (Nat.le_of_ble_eq_true rfl) rfl ?_
          refine z_iinc (L' := [_, _, _, _]) dX4_exchanged_46 rfl rfl ?_
          refine e_goto 4 dX4_exchanged_49 rfl ?_
          exact ih1 _ (by omega) (t + 0) (d + 1)  rfl  (by omega) (by omega) (by rw [sumZ_s (by omega)]; first | (rw [bZ_1 (by omega)]; omega) | (rw [bZ_0 (by omega)]; omega))
        · skip
          refine z_iconst (1) dX4_exchanged_39 rfl ?_
          refine e_goto 44 dX4_exchanged_40 rfl ?_
          refine z_iadd dX4_exchanged_44 ?_
          refine e_istore_n (L' := [_, _, _, _]) dX4_exchanged_45 (Nat.le_of_ble_eq_true rfl) rfl ?_
          refine z_iinc (L' := [_, _, _, _]) dX4_exchanged_46 rfl rfl ?_
          refine e_goto 4 dX4_exchanged_49 rfl ?_
          exact ih1 _ (by omega) (t + 1) (d + 1)  rfl  (by omega) (by omega) (by rw [sumZ_s (by omega)]; first | (rw [bZ_1 (by omega)]; omega) | (rw [bZ_0 (by omega)]; omega))
  exact lp1 _ 0 0  rfl  (by omega) (by omega) rfl
set_option maxHeartbeats 1000000 in
theorem zp_X11_trade_in {ad : mA} {dd : Nat} {h : mH} {Q : mQ} {x : Nat} {σ : Sg} (hk : bk h x) (HX : clsT h (x + 1) σ)  (f : Int) (f_r : -2147483648 ≤ f ∧ f < 2147483648) (d : Int) (d_r : -2147483648 ≤ d ∧ d < 2147483648) (p1 : 0 ≤ f) (p2 : f < cn σ 0) (kq : ∀ v : Int, (tdP (sG σ f) d v) → ∀ h1, frm (fun a i => x + 56 ≤ a ∧ a < x + 157) h h1 → Q (some (.int (zI v))) h1) : mCal TB0 ad (dd + 7) M_X11_trade [.ref x, .int (zI f), .int (zI d)] h 0 0 Q := by
  refine ⟨Nat.le_of_ble_eq_true rfl, ?_⟩
  show mEv TB0 ad M_X11_trade (dd + 7) (0, 0) (mCal TB0 ad (dd + 6)) (fun v h' z => z.1 = 0 ∧ Q v h') 0 [some (.ref x), some (.int (zI f)), some (.int (zI d)), none] [] h (0, 0)
  have FR0 : frm (fun a i => x + 56 ≤ a ∧ a < x + 157) h h := frm_0 h
  have w1 := wS_n (clsT_w HX)
  refine e_aload_n dX11_trade_0 rfl ?_
  refine e_get (.ref (x + 1)) dX11_trade_1 tf_11_10 (congrArg Prod.fst (bk_s0 hk)) (congrArg va_rf (bk_r0_0 hk)) ?_
  refine e_iload_n dX11_trade_4 rfl ?_
  refine e_callV [.int _] dX11_trade_5 tm_11_94 rfl (Nat.le_of_ble_eq_true rfl) (congrArg Prod.fst (bk_s1 hk)) (Nat.le_of_ble_eq_true rfl) (Nat.le_refl _) (Nat.le_refl _) rfl (zp_X8_forgeAt_in (bk_td1 hk) HX f ⟨by omega, by omega⟩ (by omega) (by omega) ?_)
  have k1 := fAt_k (bk_td1 hk) f
  have H2 := clsT_F HX (show 0 ≤ f by omega) (by omega)
  have y3 := fAt_b (x + 1) f
  refine e_astore_n (L' := [_, _, _, _]) dX11_trade_8 (Nat.le_of_ble_eq_true rfl) rfl ?_
  refine e_aload_n dX11_trade_9 rfl ?_
  refine e_ifnull 22 dX11_trade_10 rfl ?_
  have v1 := isF_n H2
  refine e_aload_n dX11_trade_13 rfl ?_
  refine e_iload_n dX11_trade_14 rfl ?_
  refine e_callV [.int _] dX11_trade_15 tm_11_159 rfl (Nat.le_of_ble_eq_true rfl) (congrArg Prod.fst (fg_s0 k1)) (Nat.le_of_ble_eq_true rfl) (Nat.le_refl _) (Nat.le_refl _) rfl (zp_X2_upOf k1 H2 d ⟨by omega, by omega⟩ ?_)
  have y4 := upv_s (isF_w H2) d
  refine z_iconst (-1) dX11_trade_18 rfl ?_
  refine z_icmp_ne 24 dX11_trade_19 rfl ⟨by omega, by omega⟩ ⟨by omega, by omega⟩ (fun c5 => ?_) (fun c5 => ?_)
  · skip
    refine e_aload_n dX11_trade_24 rfl ?_
    refine e_get (.ref (x + 142)) dX11_trade_25 tf_11_44 (congrArg Prod.fst (bk_s0 hk)) (congrArg va_rf (bk_r0_5 hk)) ?_
    refine e_aload_n dX11_trade_28 rfl ?_
    refine e_callV [.ref _] dX11_trade_29 tm_11_160 rfl (Nat.le_of_ble_eq_true rfl) (congrArg Prod.fst (bk_s142 hk)) (Nat.le_of_ble_eq_true rfl) (Nat.le_refl _) (Nat.le_refl _) rfl (zp_X4_exchange (bk_mk142 hk) k1 H2 (by omega) (fun  h6 f7 p8 => ?_))
    have k9 := bk_q (frm_s f7) hk
    have k10 := lk_q (frm_s f7) k1
    have H11 := clsT_c f7 (fun a k q1 q2 => by omega) HX
    have H12 := isF_c f7 (fun a k q1 q2 => by omega) H2
    have FR13 := frm_t FR0 (frm_m (S' := (fun a i => x + 56 ≤ a ∧ a < x + 157)) f7 (fun a k q => by omega))
    obtain ⟨s0, r, n, E1, E2, E3, E4⟩ := p8
    refine e_aload_n dX11_trade_32 rfl ?_
    refine e_get (.ref (x + 142)) dX11_trade_33 tf_11_44 (congrArg Prod.fst (bk_s0 k9)) (congrArg va_rf (bk_r0_5 k9)) ?_
    refine e_get (.ref (x + 143)) dX11_trade_36 tf_11_164 (congrArg Prod.fst (bk_s142 k9)) (congrArg va_rf (bk_r142_0 k9)) ?_
    refine e_iload_n dX11_trade_39 rfl ?_
    refine z_ild (r d) dX11_trade_40 (bk_s143 k9) (by decide) (by omega) (by omega) (E2.1 d (by omega) (by omega)) ?_
    refine z_iret dX11_trade_41 rfl ⟨rfl, ?_⟩
    refine kq _ ?_ _ FR13
    first | exact Or.inl ⟨by omega, rfl⟩ | exact Or.inr ⟨by omega, s0, n.toNat, r, E1, E3, rfl⟩
  · skip
    refine z_iconst (-1) dX11_trade_22 rfl ?_
    refine z_iret dX11_trade_23 rfl ⟨rfl, ?_⟩
    refine kq _ ?_ _ FR0
    first | exact Or.inl ⟨by omega, rfl⟩ | exact Or.inr ⟨by omega, s0, n.toNat, r, E1, E3, rfl⟩
set_option maxHeartbeats 400000 in
theorem zp_X11_trade_out {ad : mA} {dd : Nat} {h : mH} {Q : mQ} {x : Nat} {σ : Sg} (hk : bk h x) (HX : clsT h (x + 1) σ)  (f : Int) (f_r : -2147483648 ≤ f ∧ f < 2147483648) (d : Int) (d_r : -2147483648 ≤ d ∧ d < 2147483648) (p1 : ¬ (0 ≤ f ∧ f < cn σ 0)) (kq : Q (some (.int (zI (-1)))) h) : mCal TB0 ad (dd + 7) M_X11_trade [.ref x, .int (zI f), .int (zI d)] h 0 0 Q := by
  refine ⟨Nat.le_of_ble_eq_true rfl, ?_⟩
  show mEv TB0 ad M_X11_trade (dd + 7) (0, 0) (mCal TB0 ad (dd + 6)) (fun v h' z => z.1 = 0 ∧ Q v h') 0 [some (.ref x), some (.int (zI f)), some (.int (zI d)), none] [] h (0, 0)
  have w1 := wS_n (clsT_w HX)
  refine e_aload_n dX11_trade_0 rfl ?_
  refine e_get (.ref (x + 1)) dX11_trade_1 tf_11_10 (congrArg Prod.fst (bk_s0 hk)) (congrArg va_rf (bk_r0_0 hk)) ?_
  refine e_iload_n dX11_trade_4 rfl ?_
  refine e_callV [.int _] dX11_trade_5 tm_11_94 rfl (Nat.le_of_ble_eq_true rfl) (congrArg Prod.fst (bk_s1 hk)) (Nat.le_of_ble_eq_true rfl) (Nat.le_refl _) (Nat.le_refl _) rfl (zp_X8_forgeAt_out (bk_td1 hk) HX f ⟨by omega, by omega⟩ (by omega) ?_)
  refine e_astore_nN (L' := [_, _, _, _]) dX11_trade_8 (Nat.le_of_ble_eq_true rfl) rfl ?_
  refine e_aload_nN dX11_trade_9 rfl ?_
  refine e_ifnullN 22 dX11_trade_10 rfl ?_
  refine z_iconst (-1) dX11_trade_22 rfl ?_
  refine z_iret dX11_trade_23 rfl ⟨rfl, ?_⟩
  refine z_q kq ?_
  rfl
set_option maxHeartbeats 1000000 in
theorem zp_X11_rings_in {ad : mA} {dd : Nat} {h : mH} {Q : mQ} {x : Nat} {σ : Sg} (hk : bk h x) (HX : clsT h (x + 1) σ)  (f : Int) (f_r : -2147483648 ≤ f ∧ f < 2147483648) (p : Prop) [Decidable p] (p1 : 0 ≤ f) (p2 : f < cn σ 0) (kq : ∀ v : Int, (rgP (sG σ f) p v) → ∀ h1, frm (fun a i => x + 56 ≤ a ∧ a < x + 157) h h1 → Q (some (.int (zI v))) h1) : mCal TB0 ad (dd + 7) M_X11_rings [.ref x, .int (zI f), .int (zI (bZ p))] h 0 0 Q := by
  refine ⟨Nat.le_of_ble_eq_true rfl, ?_⟩
  show mEv TB0 ad M_X11_rings (dd + 7) (0, 0) (mCal TB0 ad (dd + 6)) (fun v h' z => z.1 = 0 ∧ Q v h') 0 [some (.ref x), some (.int (zI f)), some (.int (zI (bZ p))), none] [] h (0, 0)
  have FR0 : frm (fun a i => x + 56 ≤ a ∧ a < x + 157) h h := frm_0 h
  have w1 := wS_n (clsT_w HX)
  refine e_aload_n dX11_rings_0 rfl ?_
  refine e_get (.ref (x + 1)) dX11_rings_1 tf_11_10 (congrArg Prod.fst (bk_s0 hk)) (congrArg va_rf (bk_r0_0 hk)) ?_
  refine e_iload_n dX11_rings_4 rfl ?_
  refine e_callV [.int _] dX11_rings_5 tm_11_94 rfl (Nat.le_of_ble_eq_true rfl) (congrArg Prod.fst (bk_s1 hk)) (Nat.le_of_ble_eq_true rfl) (Nat.le_refl _) (Nat.le_refl _) rfl (zp_X8_forgeAt_in (bk_td1 hk) HX f ⟨by omega, by omega⟩ (by omega) (by omega) ?_)
  have k1 := fAt_k (bk_td1 hk) f
  have H2 := clsT_F HX (show 0 ≤ f by omega) (by omega)
  have y3 := fAt_b (x + 1) f
  refine e_astore_n (L' := [_, _, _, _]) dX11_rings_8 (Nat.le_of_ble_eq_true rfl) rfl ?_
  refine e_aload_n dX11_rings_9 rfl ?_
  refine e_ifnonnull 15 dX11_rings_10 rfl ?_
  have v1 := isF_n H2
  refine e_aload_n dX11_rings_15 rfl ?_
  refine e_get (.ref (x + 142)) dX11_rings_16 tf_11_44 (congrArg Prod.fst (bk_s0 hk)) (congrArg va_rf (bk_r0_5 hk)) ?_
  refine e_aload_n dX11_rings_19 rfl ?_
  refine e_callV [.ref _] dX11_rings_20 tm_11_160 rfl (Nat.le_of_ble_eq_true rfl) (congrArg Prod.fst (bk_s142 hk)) (Nat.le_of_ble_eq_true rfl) (Nat.le_refl _) (Nat.le_refl _) rfl (zp_X4_exchange (bk_mk142 hk) k1 H2 (by omega) (fun  h4 f5 p6 => ?_))
  have k7 := bk_q (frm_s f5) hk
  have k8 := lk_q (frm_s f5) k1
  have H9 := clsT_c f5 (fun a k q1 q2 => by omega) HX
  have H10 := isF_c f5 (fun a k q1 q2 => by omega) H2
  have FR11 := frm_t FR0 (frm_m (S' := (fun a i => x + 56 ≤ a ∧ a < x + 157)) f5 (fun a k q => by omega))
  obtain ⟨s0, r, n, E1, E2, E3, E4⟩ := p6
  refine e_iload_n dX11_rings_23 rfl ?_
  refine z_ifb_eq 38 dX11_rings_24 rfl (fun c12 => ?_) (fun c12 => ?_)
  · skip
    refine e_aload_n dX11_rings_38 rfl ?_
    refine e_get (.ref (x + 142)) dX11_rings_39 tf_11_44 (congrArg Prod.fst (bk_s0 k7)) (congrArg va_rf (bk_r0_5 k7)) ?_
    refine z_get n dX11_rings_42 tf_11_272 (congrArg Prod.fst (bk_s142 k7)) (Or.inl rfl) E2.2 ?_
    refine z_iret dX11_rings_45 rfl ⟨rfl, ?_⟩
    refine kq _ ?_ _ FR11
    first | exact ⟨s0, n.toNat, r, E1, E3, by rw [if_pos (by assumption)]⟩ | exact ⟨s0, n.toNat, r, E1, E3, by rw [if_neg (by assumption)]; omega⟩
  · skip
    refine e_aload_n dX11_rings_27 rfl ?_
    refine e_get (.ref (x + 142)) dX11_rings_28 tf_11_44 (congrArg Prod.fst (bk_s0 k7)) (congrArg va_rf (bk_r0_5 k7)) ?_
    refine e_aload_n dX11_rings_31 rfl ?_
    refine e_callV [.ref _] dX11_rings_32 tm_11_269 rfl (Nat.le_of_ble_eq_true rfl) (congrArg Prod.fst (bk_s142 k7)) (Nat.le_of_ble_eq_true rfl) (Nat.le_refl _) (Nat.le_refl _) rfl (zp_X4_exchanged (bk_mk142 k7) k8 H10 E2 ?_)
    refine e_goto 45 dX11_rings_35 rfl ?_
    refine z_iret dX11_rings_45 rfl ⟨rfl, ?_⟩
    refine kq _ ?_ _ FR11
    first | exact ⟨s0, n.toNat, r, E1, E3, by rw [if_pos (by assumption)]⟩ | exact ⟨s0, n.toNat, r, E1, E3, by rw [if_neg (by assumption)]; omega⟩
set_option maxHeartbeats 400000 in
theorem zp_X11_rings_out {ad : mA} {dd : Nat} {h : mH} {Q : mQ} {x : Nat} {σ : Sg} (hk : bk h x) (HX : clsT h (x + 1) σ)  (f : Int) (f_r : -2147483648 ≤ f ∧ f < 2147483648) (p : Prop) [Decidable p] (p1 : ¬ (0 ≤ f ∧ f < cn σ 0)) (kq : Q (some (.int (zI (-1)))) h) : mCal TB0 ad (dd + 7) M_X11_rings [.ref x, .int (zI f), .int (zI (bZ p))] h 0 0 Q := by
  refine ⟨Nat.le_of_ble_eq_true rfl, ?_⟩
  show mEv TB0 ad M_X11_rings (dd + 7) (0, 0) (mCal TB0 ad (dd + 6)) (fun v h' z => z.1 = 0 ∧ Q v h') 0 [some (.ref x), some (.int (zI f)), some (.int (zI (bZ p))), none] [] h (0, 0)
  have w1 := wS_n (clsT_w HX)
  refine e_aload_n dX11_rings_0 rfl ?_
  refine e_get (.ref (x + 1)) dX11_rings_1 tf_11_10 (congrArg Prod.fst (bk_s0 hk)) (congrArg va_rf (bk_r0_0 hk)) ?_
  refine e_iload_n dX11_rings_4 rfl ?_
  refine e_callV [.int _] dX11_rings_5 tm_11_94 rfl (Nat.le_of_ble_eq_true rfl) (congrArg Prod.fst (bk_s1 hk)) (Nat.le_of_ble_eq_true rfl) (Nat.le_refl _) (Nat.le_refl _) rfl (zp_X8_forgeAt_out (bk_td1 hk) HX f ⟨by omega, by omega⟩ (by omega) ?_)
  refine e_astore_nN (L' := [_, _, _, _]) dX11_rings_8 (Nat.le_of_ble_eq_true rfl) rfl ?_
  refine e_aload_nN dX11_rings_9 rfl ?_
  refine e_ifnonnullN 15 dX11_rings_10 rfl ?_
  refine z_iconst (-1) dX11_rings_13 rfl ?_
  refine z_iret dX11_rings_14 rfl ⟨rfl, ?_⟩
  refine z_q kq ?_
  rfl
