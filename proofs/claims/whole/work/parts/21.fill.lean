/-! Arrays.fill -/
theorem dJ7_fill_53178_0 : decode cJ7_fill_53178 0 = .ok (.iconst 0, 1) := by decide +kernel
theorem dJ7_fill_53178_1 : decode cJ7_fill_53178 1 = .ok (.istore_n 2, 1) := by decide +kernel
theorem dJ7_fill_53178_2 : decode cJ7_fill_53178 2 = .ok (.aload_n 0, 1) := by decide +kernel
theorem dJ7_fill_53178_3 : decode cJ7_fill_53178 3 = .ok (.arraylength, 1) := by decide +kernel
theorem dJ7_fill_53178_4 : decode cJ7_fill_53178 4 = .ok (.istore_n 3, 1) := by decide +kernel
theorem dJ7_fill_53178_5 : decode cJ7_fill_53178 5 = .ok (.iload_n 2, 1) := by decide +kernel
theorem dJ7_fill_53178_6 : decode cJ7_fill_53178 6 = .ok (.iload_n 3, 1) := by decide +kernel
theorem dJ7_fill_53178_7 : decode cJ7_fill_53178 7 = .ok (.if_icmp .ge 13, 3) := by decide +kernel
theorem dJ7_fill_53178_10 : decode cJ7_fill_53178 10 = .ok (.aload_n 0, 1) := by decide +kernel
theorem dJ7_fill_53178_11 : decode cJ7_fill_53178 11 = .ok (.iload_n 2, 1) := by decide +kernel
theorem dJ7_fill_53178_12 : decode cJ7_fill_53178 12 = .ok (.iload_n 1, 1) := by decide +kernel
theorem dJ7_fill_53178_13 : decode cJ7_fill_53178 13 = .ok (.iastore, 1) := by decide +kernel
theorem dJ7_fill_53178_14 : decode cJ7_fill_53178 14 = .ok (.iinc 2 1, 3) := by decide +kernel
theorem dJ7_fill_53178_17 : decode cJ7_fill_53178 17 = .ok (.goto (-12), 3) := by decide +kernel
theorem dJ7_fill_53178_20 : decode cJ7_fill_53178 20 = .ok (.return_, 1) := by decide +kernel
def fillI (h : mH) (a n : Nat) (v : Int32) : mH := wA h a (fun k => if k < n then v else mI h a k)
theorem fillI_0 (h : mH) (a : Nat) (v : Int32) : fillI h a 0 v = h := by
  obtain ⟨e, s, i, j, r⟩ := h
  have : (fun b => if b = a then (fun k => if k < 0 then v else i a k) else i b) = i := by
    funext b k
    by_cases hb : b = a
    · subst hb
      simp
    · rw [if_neg hb]
  show (e, s, (fun b => if b = a then (fun k => if k < 0 then v else i a k) else i b), j, r) = (e, s, i, j, r)
  rw [this]
theorem fillI_s (h : mH) (a n : Nat) (v : Int32) : wI (fillI h a n v) a n v = fillI h a (n + 1) v := by
  obtain ⟨e, s, i, j, r⟩ := h
  have : (fun b => if b = a then upd ((fun b => if b = a then (fun k => if k < n then v else i a k) else i b) b) n v else (fun b => if b = a then (fun k => if k < n then v else i a k) else i b) b) = (fun b => if b = a then (fun k => if k < n + 1 then v else i a k) else i b) := by
    funext b k
    by_cases hb : b = a
    · subst hb
      simp only [if_pos, upd]
      by_cases hk : k = n
      · subst hk
        simp
      · rw [if_neg hk]
        by_cases h2 : k < n
        · rw [if_pos h2, if_pos (by omega)]
        · rw [if_neg h2, if_neg (by omega)]
    · simp only [if_neg hb]
  show (e, s, (fun b => if b = a then upd ((fun b => if b = a then (fun k => if k < n then v else i a k) else i b) b) n v else (fun b => if b = a then (fun k => if k < n then v else i a k) else i b) b), j, r) = (e, s, (fun b => if b = a then (fun k => if k < n + 1 then v else i a k) else i b), j, r)
  rw [this]
theorem sp_fill {ad : mA} {d : Nat} {h : mH} {Q : mQ} {a n : Nat} {v : Int32} (hs : mS h a = (14, n)) (hn : n < 2 ^ 31) (kq : Q none (fillI h a n v)) : mCal TB0 ad (d + 1) M_J7_fill_53178 [.ref a, .int v] h 0 0 Q := by
  refine ⟨Nat.le_of_ble_eq_true rfl, ?_⟩
  show mEv _ _ _ _ _ _ _ 0 [some (.ref a), some (.int v), none, none] [] _ _
  refine e_iconst (nI 0) dJ7_fill_53178_0 rfl ?_
  refine e_istore_n (L' := [_, _, _, _]) dJ7_fill_53178_1 (Nat.le_of_ble_eq_true rfl) rfl ?_
  refine e_aload_n dJ7_fill_53178_2 rfl ?_
  refine e_alen dJ7_fill_53178_3 hs ⟨Nat.le_of_ble_eq_true rfl, Nat.le_of_ble_eq_true rfl⟩ ?_
  refine e_istore_n (L' := [_, _, _, _]) dJ7_fill_53178_4 (Nat.le_of_ble_eq_true rfl) rfl ?_
  have loop : ∀ t i, i + t = n → mEv TB0 ad M_J7_fill_53178 (d + 1) (0, 0) (mCal TB0 ad d) (fun v h' z => z.1 = 0 ∧ Q v h') 5 [some (.ref a), some (.int v), some (.int (nI i)), some (.int (nI n))] [] (fillI h a i v) (0, 0) := by
    intro t
    induction t with
    | zero =>
      intro i hi
      obtain rfl : i = n := by omega
      refine e_iload_n dJ7_fill_53178_5 rfl ?_
      refine e_iload_n dJ7_fill_53178_6 rfl ?_
      refine e_icmpN_ge 20 dJ7_fill_53178_7 rfl hn hn (fun _ => ?_) (fun c => absurd c (by omega))
      exact e_vret dJ7_fill_53178_20 rfl ⟨rfl, kq⟩
    | succ t ih =>
      intro i hi
      refine e_iload_n dJ7_fill_53178_5 rfl ?_
      refine e_iload_n dJ7_fill_53178_6 rfl ?_
      refine e_icmpN_ge 20 dJ7_fill_53178_7 rfl (by omega) hn (fun c => absurd c (by omega)) (fun _ => ?_)
      refine e_aload_n dJ7_fill_53178_10 rfl ?_
      refine e_iload_n dJ7_fill_53178_11 rfl ?_
      refine e_iload_n dJ7_fill_53178_12 rfl ?_
      refine e_ist i dJ7_fill_53178_13 hs (vp_in_nI (by omega) (by omega)) (nI_clamp (by omega)) ?_
      refine e_iincN (n := 1) (L' := [_, _, _, _]) dJ7_fill_53178_14 rfl rfl rfl ?_
      refine e_goto 5 dJ7_fill_53178_17 rfl ?_
      rw [fillI_s]
      exact ih (i + 1) (by omega)
  have := loop n 0 (by omega)
  rw [fillI_0] at this
  exact this
