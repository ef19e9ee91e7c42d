/-! TEXT: line by line -/
theorem dX6_begin_0 : decode cX6_begin 0 = .ok (.aload_n 0, 1) := by decide +kernel
theorem dX6_begin_1 : decode cX6_begin 1 = .ok (.iconst 0, 1) := by decide +kernel
theorem dX6_begin_2 : decode cX6_begin 2 = .ok (.iload_n 2, 1) := by decide +kernel
theorem dX6_begin_3 : decode cX6_begin 3 = .ok (.aload_n 1, 1) := by decide +kernel
theorem dX6_begin_4 : decode cX6_begin 4 = .ok (.arraylength, 1) := by decide +kernel
theorem dX6_begin_5 : decode cX6_begin 5 = .ok (.invokestatic 98, 3) := by decide +kernel
theorem dX6_begin_8 : decode cX6_begin 8 = .ok (.sipush 600, 3) := by decide +kernel
theorem dX6_begin_11 : decode cX6_begin 11 = .ok (.invokestatic 98, 3) := by decide +kernel
theorem dX6_begin_14 : decode cX6_begin 14 = .ok (.invokestatic 104, 3) := by decide +kernel
theorem dX6_begin_17 : decode cX6_begin 17 = .ok (.putfield 47, 3) := by decide +kernel
theorem dX6_begin_20 : decode cX6_begin 20 = .ok (.aload_n 1, 1) := by decide +kernel
theorem dX6_begin_21 : decode cX6_begin 21 = .ok (.iconst 0, 1) := by decide +kernel
theorem dX6_begin_22 : decode cX6_begin 22 = .ok (.aload_n 0, 1) := by decide +kernel
theorem dX6_begin_23 : decode cX6_begin 23 = .ok (.getfield 39, 3) := by decide +kernel
theorem dX6_begin_26 : decode cX6_begin 26 = .ok (.iconst 0, 1) := by decide +kernel
theorem dX6_begin_27 : decode cX6_begin 27 = .ok (.aload_n 0, 1) := by decide +kernel
theorem dX6_begin_28 : decode cX6_begin 28 = .ok (.getfield 47, 3) := by decide +kernel
theorem dX6_begin_31 : decode cX6_begin 31 = .ok (.invokestatic 107, 3) := by decide +kernel
theorem dX6_begin_34 : decode cX6_begin 34 = .ok (.aload_n 0, 1) := by decide +kernel
theorem dX6_begin_35 : decode cX6_begin 35 = .ok (.getfield 12, 3) := by decide +kernel
theorem dX6_begin_38 : decode cX6_begin 38 = .ok (.invokevirtual 113, 3) := by decide +kernel
theorem dX6_begin_41 : decode cX6_begin 41 = .ok (.aload_n 0, 1) := by decide +kernel
theorem dX6_begin_42 : decode cX6_begin 42 = .ok (.getfield 21, 3) := by decide +kernel
theorem dX6_begin_45 : decode cX6_begin 45 = .ok (.iconst 0, 1) := by decide +kernel
theorem dX6_begin_46 : decode cX6_begin 46 = .ok (.putfield 116, 3) := by decide +kernel
theorem dX6_begin_49 : decode cX6_begin 49 = .ok (.aload_n 0, 1) := by decide +kernel
theorem dX6_begin_50 : decode cX6_begin 50 = .ok (.getfield 28, 3) := by decide +kernel
theorem dX6_begin_53 : decode cX6_begin 53 = .ok (.iconst 0, 1) := by decide +kernel
theorem dX6_begin_54 : decode cX6_begin 54 = .ok (.putfield 117, 3) := by decide +kernel
theorem dX6_begin_57 : decode cX6_begin 57 = .ok (.aload_n 0, 1) := by decide +kernel
theorem dX6_begin_58 : decode cX6_begin 58 = .ok (.iconst 0, 1) := by decide +kernel
theorem dX6_begin_59 : decode cX6_begin 59 = .ok (.putfield 32, 3) := by decide +kernel
theorem dX6_begin_62 : decode cX6_begin 62 = .ok (.aload_n 0, 1) := by decide +kernel
theorem dX6_begin_63 : decode cX6_begin 63 = .ok (.iconst (-1), 1) := by decide +kernel
theorem dX6_begin_64 : decode cX6_begin 64 = .ok (.putfield 36, 3) := by decide +kernel
theorem dX6_begin_67 : decode cX6_begin 67 = .ok (.aload_n 0, 1) := by decide +kernel
theorem dX6_begin_68 : decode cX6_begin 68 = .ok (.iconst 0, 1) := by decide +kernel
theorem dX6_begin_69 : decode cX6_begin 69 = .ok (.putfield 50, 3) := by decide +kernel
theorem dX6_begin_72 : decode cX6_begin 72 = .ok (.aload_n 0, 1) := by decide +kernel
theorem dX6_begin_73 : decode cX6_begin 73 = .ok (.iconst 0, 1) := by decide +kernel
theorem dX6_begin_74 : decode cX6_begin 74 = .ok (.putfield 62, 3) := by decide +kernel
theorem dX6_begin_77 : decode cX6_begin 77 = .ok (.aload_n 0, 1) := by decide +kernel
theorem dX6_begin_78 : decode cX6_begin 78 = .ok (.iconst 0, 1) := by decide +kernel
theorem dX6_begin_79 : decode cX6_begin 79 = .ok (.putfield 65, 3) := by decide +kernel
theorem dX6_begin_82 : decode cX6_begin 82 = .ok (.aload_n 0, 1) := by decide +kernel
theorem dX6_begin_83 : decode cX6_begin 83 = .ok (.invokevirtual 118, 3) := by decide +kernel
theorem dX6_begin_86 : decode cX6_begin 86 = .ok (.return_, 1) := by decide +kernel
set_option maxRecDepth 20000 in
theorem tm_6_104 : tMet TB0 6 104 = some (10, M_none) := rfl
set_option maxRecDepth 20000 in
theorem tm_6_107 : tMet TB0 6 107 = some (5, M_none) := rfl
set_option maxRecDepth 20000 in
theorem tm_6_113 : tMet TB0 6 113 = some (0, M_X2_clear) := rfl
/-! TEXT: line by line -/
section
variable {T : mTb} {ad : mA} {M : mM} {dp : Nat} {lim : Nat × Nat} {cal : mC} {Q : mZ} {pc : Nat} {L L' : mL} {h : mH} {zz : Nat × Nat} {r st : List Value}
theorem z_ishrX {x y : Int} (hd : decode (mMc M) pc = .ok (.ishr, 1)) (k : ∀ v : Int, inI v → mEv T ad M dp lim cal Q (pc + 1) L (.int (zI v) :: r) h zz) : mEv T ad M dp lim cal Q pc L (.int (zI y) :: .int (zI x) :: r) h zz := e_ishr hd (by
  obtain ⟨v, hv, e⟩ := zI_ex (zI x >>> (zI y &&& 31))
  rw [e]; exact k v hv)
end
def ini0 (s : Int) : Int → Int := fun k => if s = 0 ∧ ((27 ≤ k ∧ k < 33) ∨ (57 ≤ k ∧ k < 63)) then -1 else 0
theorem ini_0 {s k : Int} (n : ¬ (s = 0 ∧ ((27 ≤ k ∧ k < 33) ∨ (57 ≤ k ∧ k < 63)))) : ini0 s k = 0 := if_neg n
def runP (s : Int) (T : Int → Int) (L : Int) : Nat → Int
  | 0 => 0
  | n + 1 => lnE s T L (runP s T L n)
def runC (s : Int) (T : Int → Int) (L : Int) : Nat → (Int → Int)
  | 0 => ini0 s
  | n + 1 => lcL s T L (runP s T L n) (runC s T L n)
noncomputable def runF (s : Int) (T : Int → Int) (L : Int) : Nat → Int
  | 0 => 0
  | n + 1 => lfL s T L (runP s T L n) (runC s T L n) (runF s T L n)
noncomputable def runQ (s : Int) (T : Int → Int) (L : Int) : Nat → Int
  | 0 => -1
  | n + 1 => lqL s T L (runP s T L n) (runC s T L n) (runF s T L n) (runQ s T L n)
def runD (s : Int) (T : Int → Int) (L : Int) : Nat → Int
  | 0 => 0
  | n + 1 => if s = 0 then ldL T L (runP s T L n) (runD s T L n) else runD s T L n
def runU (s : Int) (T : Int → Int) (L : Int) : Nat → Int
  | 0 => 0
  | n + 1 => if s = 0 then luL T L (runP s T L n) (runU s T L n) else runU s T L n
def okN (s : Int) (T : Int → Int) (L : Int) (n : Nat) : Prop := ∀ j, j < n → tkK T L (runP s T L j) ≠ 3 ∧ lnA s T L (runP s T L j)
theorem okN_s {s : Int} {T : Int → Int} {L : Int} {n : Nat} (h : okN s T L n) (k : tkK T L (runP s T L n) ≠ 3) (a : lnA s T L (runP s T L n)) : okN s T L (n + 1) := fun j hj => by
  by_cases q : j = n
  · rw [q]; exact ⟨k, a⟩
  · exact h j (by omega)
theorem okN_p {s : Int} {T : Int → Int} {L : Int} {n : Nat} (h : okN s T L (n + 1)) : okN s T L n ∧ tkK T L (runP s T L n) ≠ 3 ∧ lnA s T L (runP s T L n) := ⟨fun j hj => h j (by omega), h n (by omega)⟩
theorem en_b {T : Int → Int} {L : Int} : ∀ (bs : List (Int × Int)) (p : Int), 0 ≤ p → p ≤ L → acL T L bs p → p < enL T L bs p ∧ enL T L bs p ≤ L := by
  intro bs
  induction bs with
  | nil =>
    intro p a e h
    have h : tkK T L p = 2 := h
    have t := tk_b (T := T) a e
    show p < tkE T L p ∧ tkE T L p ≤ L
    omega
  | cons x bs ih =>
    intro p a e h
    have t := tk_b (T := T) a e
    have i := ih (tkE T L p) (by omega) (by omega) h.2
    show p < enL T L bs (tkE T L p) ∧ enL T L bs (tkE T L p) ≤ L
    omega
theorem kn_w {s : Int} {T : Int → Int} {L p : Int} (h : knL s (tkW T L p)) : tkK T L p = 0 := Classical.byContradiction (fun q => by
  rw [tw_0 q] at h
  unfold knL at h
  omega)
theorem ln_b {s : Int} {T : Int → Int} {L p : Int} (p0 : 0 ≤ p) (p1 : p ≤ L) (h : lnA s T L p) : p + 2 ≤ lnE s T L p ∧ lnE s T L p ≤ L := by
  have k := kn_w h.1
  have t := tk_b (T := T) p0 p1
  have t2 := tk_b (T := T) (show 0 ≤ tkE T L p by omega) (show tkE T L p ≤ L by omega)
  have np : npL s T L p = tkE T L p ∨ npL s T L p = tkE T L (tkE T L p) := by
    unfold npL
    split
    · exact Or.inr rfl
    · exact Or.inl rfl
  have e := en_b (bsL s (tkW T L p)) (npL s T L p) (by omega) (by omega) h.2.2
  unfold lnE
  omega
theorem okN_b {s : Int} {T : Int → Int} {L : Int} (l : 0 ≤ L) : ∀ n : Nat, okN s T L n → 0 ≤ runP s T L n ∧ runP s T L n ≤ L ∧ 2 * (n : Int) ≤ runP s T L n := by
  intro n
  induction n with
  | zero => intro _; show (0 : Int) ≤ 0 ∧ (0 : Int) ≤ L ∧ 2 * ((0 : Nat) : Int) ≤ 0; omega
  | succ n ih =>
    intro h
    have q := okN_p h
    have i := ih q.1
    have e := ln_b (s := s) i.1 i.2.1 q.2.2
    show 0 ≤ lnE s T L (runP s T L n) ∧ lnE s T L (runP s T L n) ≤ L ∧ 2 * ((n + 1 : Nat) : Int) ≤ lnE s T L (runP s T L n)
    omega
theorem rn_0 {s : Int} {T : Int → Int} {L : Int} (z : s ≠ 0) (n : Nat) : runD s T L n = 0 ∧ runU s T L n = 0 := by
  induction n with
  | zero => exact ⟨rfl, rfl⟩
  | succ n ih =>
    show (if s = 0 then _ else runD s T L n) = 0 ∧ (if s = 0 then _ else runU s T L n) = 0
    rw [if_neg z, if_neg z]; exact ih
theorem ini0_w : wfR (ini0 0) := by
  have e : ∀ j, 0 ≤ j → j < 6 → dm (ini0 0) j = -1 := fun j a e => if_pos ⟨rfl, Or.inl ⟨by omega, by omega⟩⟩
  have e2 : ∀ j, 0 ≤ j → j < 6 → um (ini0 0) j = -1 := fun j a e => if_pos ⟨rfl, Or.inr ⟨by omega, by omega⟩⟩
  refine ⟨?_, ?_, ?_, fun d a e1 => Or.inl (e d a e1), fun u a e1 => Or.inl (e2 u a e1)⟩
  · show 0 ≤ ini0 0 0 ∧ ini0 0 0 ≤ 6; rw [show ini0 0 0 = 0 from if_neg (by omega)]; omega
  · show 0 ≤ ini0 0 1 ∧ ini0 0 1 ≤ 6; rw [show ini0 0 1 = 0 from if_neg (by omega)]; omega
  · show 0 ≤ ini0 0 2 ∧ ini0 0 2 ≤ 6; rw [show ini0 0 2 = 0 from if_neg (by omega)]; omega
theorem wf_lc {T C : Int → Int} {L p : Int} (w : wfR C) (h : lnA 0 T L p) : wfR (lcL 0 T L p C) := by
  have kn := h.1
  by_cases z1 : tkW T L p = 1685026670
  · rw [(kn_0down (C := C) z1).2.2.2.2]; exact wfR_a0 w
  by_cases z2 : tkW T L p = 30064
  · rw [(kn_0up (C := C) z2).2.2.2.2]; exact wfR_a1 w
  by_cases z3 : tkW T L p = 427021005928
  · rw [(kn_0cloth (C := C) z3).2.2.2.2]; exact wfR_cl w
  have z4 : tkW T L p = 491395638644 := by unfold knL at kn; omega
  have K := kn_0rivet (C := C) z4
  rw [K.2.2.2.2]
  have a := h.2.2
  rw [K.2.1, K.2.2.1] at a
  have v1 := tv_b a.1
  have v2 := tv_b a.2.1
  by_cases q : (tkV T L (tkE T L p)) < 6 ∧ (tkV T L (tkE T L (tkE T L p))) < 6
  · rw [if_pos q]; exact wfR_jn (by omega) (by omega) w
  · rw [if_neg q]; exact w
theorem rn_wf {T : Int → Int} {L : Int} : ∀ n : Nat, okN 0 T L n → wfR (runC 0 T L n) := by
  intro n
  induction n with
  | zero => intro _; exact ini0_w
  | succ n ih =>
    intro h
    have q := okN_p h
    exact wf_lc (ih q.1) q.2.2
theorem ay_b {mx : Int} {Y : Int → Int} {a d e : Int} (h : 0 ≤ Y 0 ∧ Y 0 ≤ mx) : 0 ≤ adY mx Y a d e 0 ∧ adY mx Y a d e 0 ≤ mx := by
  by_cases q : Y 0 < mx
  · rw [(ay_3 q h.1).1]; omega
  · rw [ay_f q]; exact h
theorem rn_y {T : Int → Int} {L : Int} (n : Nat) : (0 ≤ runC 1 T L n 0 ∧ runC 1 T L n 0 ≤ 40) ∧ (0 ≤ runC 2 T L n 0 ∧ runC 2 T L n 0 ≤ 8) := by
  induction n with
  | zero =>
    have e1 : runC 1 T L 0 0 = 0 := (show runC 1 T L 0 0 = ini0 1 0 from rfl).trans (ini_0 (by omega))
    have e2 : runC 2 T L 0 0 = 0 := (show runC 2 T L 0 0 = ini0 2 0 from rfl).trans (ini_0 (by omega))
    rw [e1, e2]; omega
  | succ n ih =>
    refine ⟨?_, ?_⟩
    · show 0 ≤ lcL 1 T L (runP 1 T L n) (runC 1 T L n) 0 ∧ lcL 1 T L (runP 1 T L n) (runC 1 T L n) 0 ≤ 40
      unfold lcL
      rw [if_neg (by omega), if_pos rfl]
      split
      · exact ay_b ih.1
      split
      · exact ay_b ih.1
      split
      · exact ay_b ih.1
      split
      · exact ay_b ih.1
      split
      · exact ay_b ih.1
      split
      · exact ay_b ih.1
      · exact ay_b ih.1
    · show 0 ≤ lcL 2 T L (runP 2 T L n) (runC 2 T L n) 0 ∧ lcL 2 T L (runP 2 T L n) (runC 2 T L n) 0 ≤ 8
      unfold lcL
      rw [if_neg (by omega), if_neg (by omega)]
      exact ay_b ih.2
theorem rwF_0 {h : mH} {f : Nat} (H : clF h f) : rwF h f (ini0 0) := by
  have n0 : nd (ini0 0) = 0 := (show nd (ini0 0) = ini0 0 0 from rfl).trans (ini_0 (by omega))
  have n1 : nu (ini0 0) = 0 := (show nu (ini0 0) = ini0 0 1 from rfl).trans (ini_0 (by omega))
  have n2 : nc (ini0 0) = 0 := (show nc (ini0 0) = ini0 0 2 from rfl).trans (ini_0 (by omega))
  refine ⟨⟨by rw [n0]; exact H.1.1, by rw [n1]; exact H.1.2.1, by rw [n2]; exact H.1.2.2⟩, fun i a e => by rw [n0] at e; omega, fun i a e => by rw [n1] at e; omega, fun i a e => ?_, fun i a e => by rw [n2] at e; omega⟩
  rw [show dm (ini0 0) i = -1 from if_pos ⟨rfl, Or.inl ⟨by omega, by omega⟩⟩, show um (ini0 0) i = -1 from if_pos ⟨rfl, Or.inr ⟨by omega, by omega⟩⟩]
  exact H.2 i a e
theorem rwY_0 {h : mH} {f : Nat} {s : Int} (z : s ≠ 0) (e : rI h f 3 = 0) : rwY h f (ini0 s) := by
  have n0 : ini0 s 0 = 0 := if_neg (by omega)
  exact ⟨e.trans n0.symm, fun k a q => by rw [n0] at q; omega⟩
set_option maxHeartbeats 1000000 in
theorem zp_X6_begin {ad : mA} {dd : Nat} {h : mH} {Q : mQ} {y t : Nat} {T : Int → Int} (hk : rdk h y) (hk1 : mS h t = (13, 600))  (n : Int) (n_r : -2147483648 ≤ n ∧ n < 2147483648) (pn : 0 ≤ n ∧ n ≤ 600) (pd : t + 1 ≤ y ∨ y + 27 ≤ t) (pt : ∀ j : Int, 0 ≤ j → j < 600 → rI h t j = T j) (pb : ∀ j : Int, 0 ≤ j → j < 600 → -128 ≤ T j ∧ T j < 128) (kq : ∀ h1, frm (fun a k => y ≤ a ∧ a < y + 27) h h1 → (rdT h1 y T n) → (rdP h1 y T n 0) → (rdF h1 y 0 (-1)) → (rwF h1 (y + 1) (ini0 0)) → (rwY h1 (y + 17) (ini0 1)) → (rwY h1 (y + 21) (ini0 2)) → (rdB h1 y 0 0) → Q none h1) : mCal TB0 ad (dd + 4) M_X6_begin [.ref y, .ref t, .int (zI n)] h 0 0 Q := by
  refine ⟨Nat.le_of_ble_eq_true rfl, ?_⟩
  show mEv TB0 ad M_X6_begin (dd + 4) (0, 0) (mCal TB0 ad (dd + 3)) (fun v h' z => z.1 = 0 ∧ Q v h') 0 [some (.ref y), some (.ref t), some (.int (zI n))] [] h (0, 0)
  have FR0 : frm (fun a k => y ≤ a ∧ a < y + 27) h h := frm_0 h
  refine e_aload_n dX6_begin_0 rfl ?_
  refine z_iconst (0) dX6_begin_1 rfl ?_
  refine e_iload_n dX6_begin_2 rfl ?_
  refine e_aload_n dX6_begin_3 rfl ?_
  refine z_alen dX6_begin_4 hk1 (by decide) ?_
  refine z_mmin dX6_begin_5 tm_6_98 (Nat.le_of_ble_eq_true rfl) ⟨by omega, by omega⟩ ⟨by omega, by omega⟩ ?_
  refine z_sipush (600) dX6_begin_8 rfl ?_
  refine z_mmin dX6_begin_11 tm_6_98 (Nat.le_of_ble_eq_true rfl) ⟨by omega, by omega⟩ ⟨by omega, by omega⟩ ?_
  refine z_mmax dX6_begin_14 tm_6_104 (Nat.le_of_ble_eq_true rfl) ⟨by omega, by omega⟩ ⟨by omega, by omega⟩ ?_
  refine z_put dX6_begin_17 tf_6_47 (congrArg Prod.fst (rd_s0 hk)) rfl (Or.inl rfl) (fun h1 e2 => ?_)
  have f3 := frm_1 e2
  have k4 := lk_q (frm_s f3) hk
  have k5 := cgS (frm_s f3) hk1
  have FR6 := frm_t FR0 (frm_m (S' := (fun a k => y ≤ a ∧ a < y + 27)) f3 (fun a k q => by omega))
  refine e_aload_n dX6_begin_20 rfl ?_
  refine z_iconst (0) dX6_begin_21 rfl ?_
  refine e_aload_n dX6_begin_22 rfl ?_
  refine e_get (.ref (y + 25)) dX6_begin_23 tf_6_39 (congrArg Prod.fst (rd_s0 k4)) (congrArg va_rf (rd_r0_5 k4)) ?_
  refine z_iconst (0) dX6_begin_26 rfl ?_
  refine e_aload_n dX6_begin_27 rfl ?_
  refine z_get n dX6_begin_28 tf_6_47 (congrArg Prod.fst (rd_s0 k4)) (Or.inl rfl) (((rI_eq e2 ⟨by omega, by omega⟩)).trans (by omega)) ?_
  have BY : ∀ j : Int, 0 ≤ j → j < 600 → rI h1 t j = T j := fun j a c => ((frm_r f3 (by omega))).trans (pt j a c)
  refine z_cpyB dX6_begin_31 tm_6_107 (Nat.le_of_ble_eq_true rfl) (rd_s25 k4) k5 (by decide) (by decide) (by omega) (by omega) (by omega) (by omega) (by omega) (fun j a c => by rw [BY j (by omega) (by omega)]; exact pb j (by omega) (by omega)) (fun h7 f8 e9 => ?_)
  have k10 := lk_q (frm_s f8) k4
  have k11 := cgS (frm_s f8) k5
  have FR12 := frm_t FR6 (frm_m (S' := (fun a k => y ≤ a ∧ a < y + 27)) f8 (fun a k q => by omega))
  have CB : ∀ j : Int, 0 ≤ j → j < n → rI h7 (y + 25) j = T j := fun j a c => by rw [e9 j a, if_pos (by omega), show j - 0 + 0 = j by omega]; exact BY j a (by omega)
  refine e_aload_n dX6_begin_34 rfl ?_
  refine e_get (.ref (y + 1)) dX6_begin_35 tf_6_12 (congrArg Prod.fst (rd_s0 k10)) (congrArg va_rf (rd_r0_0 k10)) ?_
  refine e_callV [] dX6_begin_38 tm_6_113 rfl (Nat.le_of_ble_eq_true rfl) (congrArg Prod.fst (rd_s1 k10)) (Nat.le_of_ble_eq_true rfl) (Nat.le_refl _) (Nat.le_refl _) rfl (zp_X2_clear (rd_fg1 k10) (fun  h13 f14 p15 => ?_))
  have k16 := lk_q (frm_s f14) k10
  have k17 := cgS (frm_s f14) k11
  have FR18 := frm_t FR12 (frm_m (S' := (fun a k => y ≤ a ∧ a < y + 27)) f14 (fun a k q => by omega))
  have G0 := rwF_0 p15
  refine e_aload_n dX6_begin_41 rfl ?_
  refine e_get (.ref (y + 17)) dX6_begin_42 tf_6_21 (congrArg Prod.fst (rd_s0 k16)) (congrArg va_rf (rd_r0_1 k16)) ?_
  refine z_iconst (0) dX6_begin_45 rfl ?_
  refine z_put dX6_begin_46 tf_6_116 (congrArg Prod.fst (rd_s17 k16)) rfl (Or.inl rfl) (fun h19 e20 => ?_)
  have f21 := frm_1 e20
  have k22 := lk_q (frm_s f21) k16
  have k23 := cgS (frm_s f21) k17
  have H24 := rwF_c f21 (fun a k q1 q2 => by omega) G0
  have FR25 := frm_t FR18 (frm_m (S' := (fun a k => y ≤ a ∧ a < y + 27)) f21 (fun a k q => by omega))
  have Y0 : rwY h19 (y + 17) (ini0 1) := rwY_0 (by omega) (rI_eq e20 ⟨by omega, by omega⟩)
  refine e_aload_n dX6_begin_49 rfl ?_
  refine e_get (.ref (y + 21)) dX6_begin_50 tf_6_28 (congrArg Prod.fst (rd_s0 k22)) (congrArg va_rf (rd_r0_2 k22)) ?_
  refine z_iconst (0) dX6_begin_53 rfl ?_
  refine z_put dX6_begin_54 tf_6_117 (congrArg Prod.fst (rd_s21 k22)) rfl (Or.inl rfl) (fun h26 e27 => ?_)
  have f28 := frm_1 e27
  have k29 := lk_q (frm_s f28) k22
  have k30 := cgS (frm_s f28) k23
  have H31 := rwF_c f28 (fun a k q1 q2 => by omega) H24
  have H32 := rwY_c f28 (fun a k q1 q2 => by omega) Y0
  have FR33 := frm_t FR25 (frm_m (S' := (fun a k => y ≤ a ∧ a < y + 27)) f28 (fun a k q => by omega))
  have Y1 : rwY h26 (y + 21) (ini0 2) := rwY_0 (by omega) (rI_eq e27 ⟨by omega, by omega⟩)
  refine e_aload_n dX6_begin_57 rfl ?_
  refine z_iconst (0) dX6_begin_58 rfl ?_
  refine z_put dX6_begin_59 tf_6_32 (congrArg Prod.fst (rd_s0 k29)) rfl (Or.inl rfl) (fun h34 e35 => ?_)
  have f36 := frm_1 e35
  have k37 := lk_q (frm_s f36) k29
  have k38 := cgS (frm_s f36) k30
  have H39 := rwF_c f36 (fun a k q1 q2 => by omega) H31
  have H40 := rwY_c f36 (fun a k q1 q2 => by omega) H32
  have H41 := rwY_c f36 (fun a k q1 q2 => by omega) Y1
  have FR42 := frm_t FR33 (frm_m (S' := (fun a k => y ≤ a ∧ a < y + 27)) f36 (fun a k q => by omega))
  refine e_aload_n dX6_begin_62 rfl ?_
  refine z_iconst (-1) dX6_begin_63 rfl ?_
  refine z_put dX6_begin_64 tf_6_36 (congrArg Prod.fst (rd_s0 k37)) rfl (Or.inl rfl) (fun h43 e44 => ?_)
  have f45 := frm_1 e44
  have k46 := lk_q (frm_s f45) k37
  have k47 := cgS (frm_s f45) k38
  have H48 := rwF_c f45 (fun a k q1 q2 => by omega) H39
  have H49 := rwY_c f45 (fun a k q1 q2 => by omega) H40
  have H50 := rwY_c f45 (fun a k q1 q2 => by omega) H41
  have FR51 := frm_t FR42 (frm_m (S' := (fun a k => y ≤ a ∧ a < y + 27)) f45 (fun a k q => by omega))
  refine e_aload_n dX6_begin_67 rfl ?_
  refine z_iconst (0) dX6_begin_68 rfl ?_
  refine z_put dX6_begin_69 tf_6_50 (congrArg Prod.fst (rd_s0 k46)) rfl (Or.inl rfl) (fun h52 e53 => ?_)
  have f54 := frm_1 e53
  have k55 := lk_q (frm_s f54) k46
  have k56 := cgS (frm_s f54) k47
  have H57 := rwF_c f54 (fun a k q1 q2 => by omega) H48
  have H58 := rwY_c f54 (fun a k q1 q2 => by omega) H49
  have H59 := rwY_c f54 (fun a k q1 q2 => by omega) H50
  have FR60 := frm_t FR51 (frm_m (S' := (fun a k => y ≤ a ∧ a < y + 27)) f54 (fun a k q => by omega))
  refine e_aload_n dX6_begin_72 rfl ?_
  refine z_iconst (0) dX6_begin_73 rfl ?_
  refine z_put dX6_begin_74 tf_6_62 (congrArg Prod.fst (rd_s0 k55)) rfl (Or.inl rfl) (fun h61 e62 => ?_)
  have f63 := frm_1 e62
  have k64 := lk_q (frm_s f63) k55
  have k65 := cgS (frm_s f63) k56
  have H66 := rwF_c f63 (fun a k q1 q2 => by omega) H57
  have H67 := rwY_c f63 (fun a k q1 q2 => by omega) H58
  have H68 := rwY_c f63 (fun a k q1 q2 => by omega) H59
  have FR69 := frm_t FR60 (frm_m (S' := (fun a k => y ≤ a ∧ a < y + 27)) f63 (fun a k q => by omega))
  refine e_aload_n dX6_begin_77 rfl ?_
  refine z_iconst (0) dX6_begin_78 rfl ?_
  refine z_put dX6_begin_79 tf_6_65 (congrArg Prod.fst (rd_s0 k64)) rfl (Or.inl rfl) (fun h70 e71 => ?_)
  have f72 := frm_1 e71
  have k73 := lk_q (frm_s f72) k64
  have k74 := cgS (frm_s f72) k65
  have H75 := rwF_c f72 (fun a k q1 q2 => by omega) H66
  have H76 := rwY_c f72 (fun a k q1 q2 => by omega) H67
  have H77 := rwY_c f72 (fun a k q1 q2 => by omega) H68
  have FR78 := frm_t FR69 (frm_m (S' := (fun a k => y ≤ a ∧ a < y + 27)) f72 (fun a k q => by omega))
  refine e_aload_n dX6_begin_82 rfl ?_
  have RT : rdT h70 y T n := ⟨pn, ((((frm_r f72 (by omega)).trans ((frm_r f63 (by omega)).trans ((frm_r f54 (by omega)).trans ((frm_r f45 (by omega)).trans ((frm_r f36 (by omega)).trans ((frm_r f28 (by omega)).trans ((frm_r f21 (by omega)).trans ((frm_r f14 (by omega)).trans (frm_r f8 (by omega)))))))))).trans (rI_eq e2 ⟨by omega, by omega⟩))).trans (by omega), fun k a c => (((frm_r f72 (by omega)).trans ((frm_r f63 (by omega)).trans ((frm_r f54 (by omega)).trans ((frm_r f45 (by omega)).trans ((frm_r f36 (by omega)).trans ((frm_r f28 (by omega)).trans ((frm_r f21 (by omega)).trans (frm_r f14 (by omega)))))))))).trans (CB k a c), fun k a c => pb k a (by omega)⟩
  have PA : rI h70 y 8 = 0 := (((frm_r f72 (by omega)).trans (frm_r f63 (by omega))).trans (rI_eq e53 ⟨by omega, by omega⟩))
  refine e_callV [] dX6_begin_83 tm_6_118 rfl (Nat.le_of_ble_eq_true rfl) (congrArg Prod.fst (rd_s0 k73)) (Nat.le_of_ble_eq_true rfl) (Nat.le_refl _) (Nat.le_refl _) rfl (zp_X6_advance k73 RT 0 PA (by omega) (fun  h79 f80 p81 => ?_))
  have k82 := lk_q (frm_s f80) k73
  have k83 := cgS (frm_s f80) k74
  have H84 := rwF_c f80 (fun a k q1 q2 => by omega) H75
  have H85 := rwY_c f80 (fun a k q1 q2 => by omega) H76
  have H86 := rwY_c f80 (fun a k q1 q2 => by omega) H77
  have H87 := rdT_c f80 (fun a k q => by omega) RT
  have FR88 := frm_t FR78 (frm_m (S' := (fun a k => y ≤ a ∧ a < y + 27)) f80 (fun a k q => by omega))
  refine e_vret dX6_begin_86 rfl ⟨rfl, ?_⟩
  exact kq _ FR88 H87 p81 ⟨(((frm_r f80 (by omega)).trans ((frm_r f72 (by omega)).trans ((frm_r f63 (by omega)).trans ((frm_r f54 (by omega)).trans (frm_r f45 (by omega)))))).trans (rI_eq e35 ⟨by omega, by omega⟩)), (((frm_r f80 (by omega)).trans ((frm_r f72 (by omega)).trans ((frm_r f63 (by omega)).trans (frm_r f54 (by omega))))).trans (rI_eq e44 ⟨by omega, by omega⟩)), by omega⟩ H84 H85 H86 ⟨(((frm_r f80 (by omega)).trans (frm_r f72 (by omega))).trans (rI_eq e62 ⟨by omega, by omega⟩)), ((frm_r f80 (by omega)).trans (rI_eq e71 ⟨by omega, by omega⟩)), by omega⟩
