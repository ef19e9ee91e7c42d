/-! TEXT: line by line in the reference -/
theorem dX12_lineOf_0 : decode cX12_lineOf 0 = .ok (.iload_n 1, 1) := by decide +kernel
theorem dX12_lineOf_1 : decode cX12_lineOf 1 = .ok (.ifCond .ne 13, 3) := by decide +kernel
theorem dX12_lineOf_4 : decode cX12_lineOf 4 = .ok (.aload_n 0, 1) := by decide +kernel
theorem dX12_lineOf_5 : decode cX12_lineOf 5 = .ok (.lload_n 2, 1) := by decide +kernel
theorem dX12_lineOf_6 : decode cX12_lineOf 6 = .ok (.iload 4, 2) := by decide +kernel
theorem dX12_lineOf_8 : decode cX12_lineOf 8 = .ok (.invokevirtual 237, 3) := by decide +kernel
theorem dX12_lineOf_11 : decode cX12_lineOf 11 = .ok (.goto 25, 3) := by decide +kernel
theorem dX12_lineOf_14 : decode cX12_lineOf 14 = .ok (.iload_n 1, 1) := by decide +kernel
theorem dX12_lineOf_15 : decode cX12_lineOf 15 = .ok (.iconst 1, 1) := by decide +kernel
theorem dX12_lineOf_16 : decode cX12_lineOf 16 = .ok (.if_icmp .ne 13, 3) := by decide +kernel
theorem dX12_lineOf_19 : decode cX12_lineOf 19 = .ok (.aload_n 0, 1) := by decide +kernel
theorem dX12_lineOf_20 : decode cX12_lineOf 20 = .ok (.lload_n 2, 1) := by decide +kernel
theorem dX12_lineOf_21 : decode cX12_lineOf 21 = .ok (.iload 4, 2) := by decide +kernel
theorem dX12_lineOf_23 : decode cX12_lineOf 23 = .ok (.invokevirtual 241, 3) := by decide +kernel
theorem dX12_lineOf_26 : decode cX12_lineOf 26 = .ok (.goto 10, 3) := by decide +kernel
theorem dX12_lineOf_29 : decode cX12_lineOf 29 = .ok (.aload_n 0, 1) := by decide +kernel
theorem dX12_lineOf_30 : decode cX12_lineOf 30 = .ok (.lload_n 2, 1) := by decide +kernel
theorem dX12_lineOf_31 : decode cX12_lineOf 31 = .ok (.iload 4, 2) := by decide +kernel
theorem dX12_lineOf_33 : decode cX12_lineOf 33 = .ok (.invokevirtual 244, 3) := by decide +kernel
theorem dX12_lineOf_36 : decode cX12_lineOf 36 = .ok (.ireturn, 1) := by decide +kernel
theorem dX12_lines_0 : decode cX12_lines 0 = .ok (.iconst 1, 1) := by decide +kernel
theorem dX12_lines_1 : decode cX12_lines 1 = .ok (.istore_n 2, 1) := by decide +kernel
theorem dX12_lines_2 : decode cX12_lines 2 = .ok (.iload_n 2, 1) := by decide +kernel
theorem dX12_lines_3 : decode cX12_lines 3 = .ok (.ifCond .eq 71, 3) := by decide +kernel
theorem dX12_lines_6 : decode cX12_lines 6 = .ok (.aload_n 0, 1) := by decide +kernel
theorem dX12_lines_7 : decode cX12_lines 7 = .ok (.getfield 140, 3) := by decide +kernel
theorem dX12_lines_10 : decode cX12_lines 10 = .ok (.ifCond .eq 64, 3) := by decide +kernel
theorem dX12_lines_13 : decode cX12_lines 13 = .ok (.aload_n 0, 1) := by decide +kernel
theorem dX12_lines_14 : decode cX12_lines 14 = .ok (.getfield 133, 3) := by decide +kernel
theorem dX12_lines_17 : decode cX12_lines 17 = .ok (.istore_n 3, 1) := by decide +kernel
theorem dX12_lines_18 : decode cX12_lines 18 = .ok (.aload_n 0, 1) := by decide +kernel
theorem dX12_lines_19 : decode cX12_lines 19 = .ok (.iconst 1, 1) := by decide +kernel
theorem dX12_lines_20 : decode cX12_lines 20 = .ok (.putfield 163, 3) := by decide +kernel
theorem dX12_lines_23 : decode cX12_lines 23 = .ok (.aload_n 0, 1) := by decide +kernel
theorem dX12_lines_24 : decode cX12_lines 24 = .ok (.iload_n 1, 1) := by decide +kernel
theorem dX12_lines_25 : decode cX12_lines 25 = .ok (.aload_n 0, 1) := by decide +kernel
theorem dX12_lines_26 : decode cX12_lines 26 = .ok (.getfield 140, 3) := by decide +kernel
theorem dX12_lines_29 : decode cX12_lines 29 = .ok (.iconst 2, 1) := by decide +kernel
theorem dX12_lines_30 : decode cX12_lines 30 = .ok (.if_icmp .ne 10, 3) := by decide +kernel
theorem dX12_lines_33 : decode cX12_lines 33 = .ok (.aload_n 0, 1) := by decide +kernel
theorem dX12_lines_34 : decode cX12_lines 34 = .ok (.getfield 136, 3) := by decide +kernel
theorem dX12_lines_37 : decode cX12_lines 37 = .ok (.goto 4, 3) := by decide +kernel
theorem dX12_lines_40 : decode cX12_lines 40 = .ok (.lconst 0, 1) := by decide +kernel
theorem dX12_lines_41 : decode cX12_lines 41 = .ok (.iload_n 3, 1) := by decide +kernel
theorem dX12_lines_42 : decode cX12_lines 42 = .ok (.invokevirtual 247, 3) := by decide +kernel
theorem dX12_lines_45 : decode cX12_lines 45 = .ok (.istore_n 2, 1) := by decide +kernel
theorem dX12_lines_46 : decode cX12_lines 46 = .ok (.iload_n 2, 1) := by decide +kernel
theorem dX12_lines_47 : decode cX12_lines 47 = .ok (.ifCond .eq 16, 3) := by decide +kernel
theorem dX12_lines_50 : decode cX12_lines 50 = .ok (.aload_n 0, 1) := by decide +kernel
theorem dX12_lines_51 : decode cX12_lines 51 = .ok (.getfield 140, 3) := by decide +kernel
theorem dX12_lines_54 : decode cX12_lines 54 = .ok (.iconst 4, 1) := by decide +kernel
theorem dX12_lines_55 : decode cX12_lines 55 = .ok (.if_icmp .eq 8, 3) := by decide +kernel
theorem dX12_lines_58 : decode cX12_lines 58 = .ok (.aload_n 0, 1) := by decide +kernel
theorem dX12_lines_59 : decode cX12_lines 59 = .ok (.invokevirtual 155, 3) := by decide +kernel
theorem dX12_lines_62 : decode cX12_lines 62 = .ok (.istore_n 2, 1) := by decide +kernel
theorem dX12_lines_63 : decode cX12_lines 63 = .ok (.iload_n 2, 1) := by decide +kernel
theorem dX12_lines_64 : decode cX12_lines 64 = .ok (.ifCond .eq 7, 3) := by decide +kernel
theorem dX12_lines_67 : decode cX12_lines 67 = .ok (.aload_n 0, 1) := by decide +kernel
theorem dX12_lines_68 : decode cX12_lines 68 = .ok (.invokevirtual 167, 3) := by decide +kernel
theorem dX12_lines_71 : decode cX12_lines 71 = .ok (.goto (-69), 3) := by decide +kernel
theorem dX12_lines_74 : decode cX12_lines 74 = .ok (.iload_n 2, 1) := by decide +kernel
theorem dX12_lines_75 : decode cX12_lines 75 = .ok (.ireturn, 1) := by decide +kernel
set_option maxRecDepth 20000 in
theorem tm_12_237 : tMet TB0 12 237 = some (0, M_X12_forgeLine) := rfl
set_option maxRecDepth 20000 in
theorem tm_12_241 : tMet TB0 12 241 = some (0, M_X12_yearLine) := rfl
set_option maxRecDepth 20000 in
theorem tm_12_244 : tMet TB0 12 244 = some (0, M_X12_clueLine) := rfl
set_option maxRecDepth 20000 in
theorem tm_12_247 : tMet TB0 12 247 = some (0, M_X12_lineOf) := rfl
/-! TEXT: line by line in the reference -/
theorem nt_0 {c : Prop} [Decidable c] {k s f q : Int} (k0 : k ≠ 0) (h : ntF c k f = 0) : f = 0 ∧ ¬ c ∧ ntQ c s f q = q := by
  unfold ntF at h
  unfold ntQ
  by_cases z : c ∧ f = 0
  · rw [if_pos z] at h; exact absurd h k0
  · rw [if_neg z] at h; exact ⟨h, fun x => z ⟨x, h⟩, if_neg z⟩
theorem ff_0 {T : Int → Int} {L : Int} : ∀ (bs : List (Int × Int)) (p f q : Int), ffL T L bs p f = 0 → f = 0 ∧ fqL T L bs p f q = q := by
  intro bs
  induction bs with
  | nil => intro p f q h; exact ⟨h, rfl⟩
  | cons x bs ih =>
    intro p f q h
    have i := ih _ _ (ntQ (¬ (x.1 ≤ tkV T L p ∧ tkV T L p ≤ x.2)) (tkS T L p) f q) h
    have n := nt_0 (s := tkS T L p) (q := q) (by omega) i.1
    exact ⟨n.1, i.2.trans n.2.2⟩
theorem ff_in {T : Int → Int} {L p f lo hi : Int} {bs : List (Int × Int)} (h : ffL T L ((lo, hi) :: bs) p f = 0) : (lo ≤ tkV T L p ∧ tkV T L p ≤ hi) ∧ ffL T L bs (tkE T L p) 0 = 0 := by
  have h : ffL T L bs (tkE T L p) (ntF (¬ (lo ≤ tkV T L p ∧ tkV T L p ≤ hi)) 2 f) = 0 := h
  have i := (ff_0 _ _ _ 0 h).1
  have n := nt_0 (s := 0) (q := 0) (by omega) i
  rw [i] at h
  exact ⟨Decidable.byContradiction n.2.1, h⟩
theorem lfl_0 {s : Int} {T C : Int → Int} {L p f q : Int} (h : lfL s T L p C f = 0) : f = 0 ∧ ¬ fuL s (tkW T L p) C ∧ lqL s T L p C f q = q ∧ ffL T L (bsL s (tkW T L p)) (npL s T L p) 0 = 0 := by
  have h : ffL T L (bsL s (tkW T L p)) (npL s T L p) (f1L s T L p C f) = 0 := h
  have i := ff_0 _ _ _ (q1L s T L p C f q) h
  have n := @nt_0 _ (Classical.propDecidable _) 3 (tkS T L p) f q (by omega) i.1
  rw [i.1] at h
  exact ⟨n.1, n.2.1, i.2.trans n.2.2, h⟩
theorem rn_f {s : Int} {T : Int → Int} {L : Int} {n : Nat} (h : runF s T L (n + 1) = 0) : runF s T L n = 0 ∧ runQ s T L (n + 1) = runQ s T L n ∧ ¬ fuL s (tkW T L (runP s T L n)) (runC s T L n) ∧ ffL T L (bsL s (tkW T L (runP s T L n))) (npL s T L (runP s T L n)) 0 = 0 := by
  have k := lfl_0 (q := runQ s T L n) (show lfL s T L (runP s T L n) (runC s T L n) (runF s T L n) = 0 from h)
  exact ⟨k.1, k.2.2.1, k.2.1, k.2.2.2⟩
theorem rn_q {s : Int} {T : Int → Int} {L : Int} : ∀ n : Nat, runF s T L n = 0 → runQ s T L n = -1 := by
  intro n
  induction n with
  | zero => intro _; rfl
  | succ n ih => intro h; have k := rn_f h; rw [k.2.1]; exact ih k.1
theorem nq_i {s : Int} : nqB 0 (-1) s := ⟨by omega, by omega, fun z => absurd rfl z⟩
theorem np_b {s : Int} {T : Int → Int} {L : Int} {p : Int} (p0 : 0 ≤ p) (p1 : p ≤ L) : tkE T L p ≤ npL s T L p ∧ npL s T L p ≤ L := by
  have t := tk_b (T := T) p0 p1
  have t2 := tk_b (T := T) (show 0 ≤ tkE T L p by omega) (show tkE T L p ≤ L by omega)
  unfold npL
  split
  · omega
  · omega
theorem ls_nq {s : Int} {T C : Int → Int} {L p f q : Int} (l : L ≤ 600) (p0 : 0 ≤ p) (p1 : p ≤ L) (A : lnN s T L p) (h : nqB f q (tkS T L p)) : nqB (lfL s T L p C f) (lqL s T L p C f q) (tkS T L (enS s T L p)) ∧ (0 ≤ enS s T L p ∧ enS s T L p ≤ L) := by
  have t := tk_b (T := T) p0 p1
  have k := kn_w A.1
  have nb := np_b (s := s) (T := T) p0 p1
  have t2 := tk_b (T := T) (show 0 ≤ npL s T L p by omega) nb.2
  exact nq_N l _ _ _ _ (by omega) nb.2 A.2.2 (@nqB_t _ (Classical.propDecidable _) 3 f q (tkS T L p) _ h (by omega) (by omega) (by omega))
def faD (T : Int → Int) (L : Int) : Nat → Int
  | 0 => -1
  | n + 1 => fdL T L (runP 0 T L n) (faD T L n)
def faU (T : Int → Int) (L : Int) : Nat → Int
  | 0 => -1
  | n + 1 => fpL T L (runP 0 T L n) (faU T L n)
def rlY (h : mH) (m : Nat) (s : Int) (T : Int → Int) (L : Int) : Prop := ∃ n, okN s T L n ∧ tkK T L (runP s T L n) ≠ 3 ∧ ¬ lnA s T L (runP s T L n) ∧ rI h m 15 = lnX s T L (runP s T L n)
def lsR (h : mH) (m : Nat) (s : Int) (T : Int → Int) (L : Int) (n : Nat) (b : Int) : Prop := (b = 1 ∧ okN s T L n ∧ rfP h m T L (runP s T L n) ∧ rfF h m (runF s T L n) (runQ s T L n) ∧ nqB (runF s T L n) (runQ s T L n) (tkS T L (runP s T L n)) ∧ rfC h m (runC s T L n) ∧ (s = 0 → rfD h m (faD T L n) (faU T L n))) ∨ (b = 0 ∧ rlY h m s T L)
def lsO (h : mH) (m : Nat) (s : Int) (T : Int → Int) (L : Int) (v : Int) : Prop := (v = 1 ∧ ∃ n, okN s T L n ∧ tkK T L (runP s T L n) = 3 ∧ rfP h m T L (runP s T L n) ∧ rfF h m (runF s T L n) (runQ s T L n) ∧ nqB (runF s T L n) (runQ s T L n) (tkS T L (runP s T L n)) ∧ rfC h m (runC s T L n) ∧ (s = 0 → rfD h m (faD T L n) (faU T L n))) ∨ (v = 0 ∧ rlY h m s T L)
theorem ls_b {h : mH} {m : Nat} {s : Int} {T : Int → Int} {L : Int} {n : Nat} {b : Int} (H : lsR h m s T L n b) : b = 0 ∨ b = 1 := by
  rcases H with z | z
  · exact Or.inr z.1
  · exact Or.inl z.1
theorem ls_1 {h : mH} {m : Nat} {s : Int} {T : Int → Int} {L : Int} {n : Nat} {b : Int} (H : lsR h m s T L n b) (z : b ≠ 0) : okN s T L n ∧ rfP h m T L (runP s T L n) ∧ rfF h m (runF s T L n) (runQ s T L n) ∧ nqB (runF s T L n) (runQ s T L n) (tkS T L (runP s T L n)) ∧ rfC h m (runC s T L n) ∧ (s = 0 → rfD h m (faD T L n) (faU T L n)) := by
  rcases H with w | w
  · exact w.2
  · exact absurd w.1 z
theorem ls_0 {h : mH} {m : Nat} {s : Int} {T : Int → Int} {L : Int} {n : Nat} {b : Int} (H : lsR h m s T L n b) (z : b = 0) : rlY h m s T L := by
  rcases H with w | w
  · exact absurd w.1 (by omega)
  · exact w.2
theorem lso_1 {h : mH} {m : Nat} {s : Int} {T : Int → Int} {L : Int} {v : Int} (H : lsO h m s T L v) (z : v ≠ 0) : ∃ n, okN s T L n ∧ tkK T L (runP s T L n) = 3 ∧ rfP h m T L (runP s T L n) ∧ rfF h m (runF s T L n) (runQ s T L n) ∧ nqB (runF s T L n) (runQ s T L n) (tkS T L (runP s T L n)) ∧ rfC h m (runC s T L n) ∧ (s = 0 → rfD h m (faD T L n) (faU T L n)) := by
  rcases H with w | w
  · exact w.2
  · exact absurd w.1 z
theorem lso_0 {h : mH} {m : Nat} {s : Int} {T : Int → Int} {L : Int} {v : Int} (H : lsO h m s T L v) (z : v = 0) : rlY h m s T L := by
  rcases H with w | w
  · exact absurd w.1 (by omega)
  · exact w.2
theorem fo_1 {h1 : mH} {m : Nat} {T : Int → Int} {L s p f q : Int} {C : Int → Int} {v : Int} {X : Prop} (H : rfO h1 m T L s p f q C v X) (z : v ≠ 0) : lnN s T L p ∧ rfP h1 m T L (enS s T L p) ∧ rfF h1 m (lfL s T L p C f) (lqL s T L p C f q) ∧ X := by
  rcases H with w | w
  · exact w.2
  · exact absurd w.1 z
theorem fo_0 {h1 : mH} {m : Nat} {T : Int → Int} {L s p f q : Int} {C : Int → Int} {v : Int} {X : Prop} (H : rfO h1 m T L s p f q C v X) (z : v = 0) : ¬ lnA s T L p ∧ rI h1 m 15 = lnX s T L p := by
  rcases H with w | w
  · exact absurd w.1 (by omega)
  · exact ⟨fun a => w.2.1 (lnA_N.mp a).1, w.2.2⟩
theorem ls_n {h : mH} {m : Nat} {s : Int} {T : Int → Int} {L : Int} {i : Nat} {v : Int} (l : 0 ≤ L ∧ L ≤ 600) (e : v = 1) (ok : okN s T L i) (k : tkK T L (runP s T L i) ≠ 3) (A : lnN s T L (runP s T L i)) (st : tkK T L (enS s T L (runP s T L i)) = 2) (P : rfP h m T L (tkE T L (enS s T L (runP s T L i)))) (F : rfF h m (runF s T L (i + 1)) (runQ s T L (i + 1))) (B : nqB (runF s T L i) (runQ s T L i) (tkS T L (runP s T L i))) (C : rfC h m (runC s T L (i + 1))) (D : s = 0 → rfD h m (faD T L (i + 1)) (faU T L (i + 1))) : lsR h m s T L (i + 1) v := by
  have ob := okN_b l.1 i ok
  have nq := ls_nq (C := runC s T L i) l.2 ob.1 ob.2.1 A B
  have t := tk_b (T := T) nq.2.1 nq.2.2
  have t2 := tk_b (T := T) (L := L) (p := tkE T L (enS s T L (runP s T L i))) (by omega) (by omega)
  have ep : runP s T L (i + 1) = tkE T L (enS s T L (runP s T L i)) := lnE_N
  refine Or.inl ⟨e, okN_s ok k (lnA_N.mpr ⟨A, st⟩), by rw [ep]; exact P, F, ?_, C, D⟩
  rw [ep]
  exact nqB_m nq.1 (by omega)
set_option maxHeartbeats 400000 in
theorem zp_X12_lineOf_0 {ad : mA} {dd : Nat} {h : mH} {Q : mQ} {m : Nat} {T C : Int → Int} {L p f q : Int} {d u : Int} (hk : rk h m) (HT : rfT h m T L) (HP : rfP h m T L p) (HF : rfF h m f q) (HC : rfC h m C) (HD : rfD h m d u)   (pn : nqB f q (tkS T L p)) (pg : rI h m 22 = 1) (pw : wfR C) (kq : ∀ v : Int, (v = 0 ∨ v = 1) → ∀ h1, frm (fun a j => (a = m ∧ (j = 9 ∨ (11 ≤ j ∧ j ≤ 17) ∨ (20 ≤ j ∧ j ≤ 22))) ∨ a = m + 9 ∨ a = m + 10) h h1 → (rfO h1 m T L 0 p f q C v (rfC h1 m (lcL 0 T L p C) ∧ rfD h1 m (fdL T L p d) (fpL T L p u))) → Q (some (.int (zI v))) h1) : mCal TB0 ad (dd + 6) M_X12_lineOf [.ref m, .int (zI 0), .long (zJ (tkW T L p)), .int (zI (tkS T L p))] h 0 0 Q := by
  refine ⟨Nat.le_of_ble_eq_true rfl, ?_⟩
  show mEv TB0 ad M_X12_lineOf (dd + 6) (0, 0) (mCal TB0 ad (dd + 5)) (fun v h' z => z.1 = 0 ∧ Q v h') 0 [some (.ref m), some (.int (zI 0)), some (.long (zJ (tkW T L p))), none, some (.int (zI (tkS T L p)))] [] h (0, 0)
  have FR0 : frm (fun a j => (a = m ∧ (j = 9 ∨ (11 ≤ j ∧ j ≤ 17) ∨ (20 ≤ j ∧ j ≤ 22))) ∨ a = m + 9 ∨ a = m + 10) h h := frm_0 h
  refine e_iload_n dX12_lineOf_0 rfl ?_
  refine z_if_ne 14 dX12_lineOf_1 rfl ⟨by omega, by omega⟩ (fun c1 => ?_) (fun c1 => ?_)
  · exfalso; omega
  · skip
    refine e_aload_n dX12_lineOf_4 rfl ?_
    refine e_lload_n dX12_lineOf_5 rfl ?_
    refine e_iload dX12_lineOf_6 rfl ?_
    refine e_callV [.long _, .int _] dX12_lineOf_8 tm_12_237 rfl (Nat.le_of_ble_eq_true rfl) (rk_s hk) (Nat.le_of_ble_eq_true rfl) (Nat.le_refl _) (Nat.le_refl _) rfl (zp_X12_forgeLine hk HT HP HF HC HD pn pg pw (fun v2 p3 h4 f5 p6 => ?_))
    have k7 := rk_q (frm_s f5) hk
    have H8 := rfT_c f5 (fun a k q => by omega) HT
    have FR9 := frm_t FR0 (frm_m (S' := (fun a j => (a = m ∧ (j = 9 ∨ (11 ≤ j ∧ j ≤ 17) ∨ (20 ≤ j ∧ j ≤ 22))) ∨ a = m + 9 ∨ a = m + 10)) f5 (fun a k q => by omega))
    skip
    refine e_goto 36 dX12_lineOf_11 rfl ?_
    refine z_bret dX12_lineOf_36 rfl (by omega) ⟨rfl, ?_⟩
    exact kq _ (by assumption) _ FR9 p6
set_option maxHeartbeats 400000 in
theorem zp_X12_lineOf_1 {ad : mA} {dd : Nat} {h : mH} {Q : mQ} {m : Nat} {T C : Int → Int} {L p f q : Int} (hk : rk h m) (HT : rfT h m T L) (HP : rfP h m T L p) (HF : rfF h m f q) (HC : rfC h m C)   (pn : nqB f q (tkS T L p)) (py : 0 ≤ C 0 ∧ C 0 ≤ 40) (kq : ∀ v : Int, (v = 0 ∨ v = 1) → ∀ h1, frm (fun a j => (a = m ∧ (j = 9 ∨ (11 ≤ j ∧ j ≤ 17) ∨ j = 22)) ∨ a = m + 9 ∨ a = m + 10) h h1 → (rfO h1 m T L 1 p f q C v (rfC h1 m (lcL 1 T L p C))) → Q (some (.int (zI v))) h1) : mCal TB0 ad (dd + 6) M_X12_lineOf [.ref m, .int (zI 1), .long (zJ (tkW T L p)), .int (zI (tkS T L p))] h 0 0 Q := by
  refine ⟨Nat.le_of_ble_eq_true rfl, ?_⟩
  show mEv TB0 ad M_X12_lineOf (dd + 6) (0, 0) (mCal TB0 ad (dd + 5)) (fun v h' z => z.1 = 0 ∧ Q v h') 0 [some (.ref m), some (.int (zI 1)), some (.long (zJ (tkW T L p))), none, some (.int (zI (tkS T L p)))] [] h (0, 0)
  have FR0 : frm (fun a j => (a = m ∧ (j = 9 ∨ (11 ≤ j ∧ j ≤ 17) ∨ j = 22)) ∨ a = m + 9 ∨ a = m + 10) h h := frm_0 h
  refine e_iload_n dX12_lineOf_0 rfl ?_
  refine z_if_ne 14 dX12_lineOf_1 rfl ⟨by omega, by omega⟩ (fun c1 => ?_) (fun c1 => ?_)
  · skip
    refine e_iload_n dX12_lineOf_14 rfl ?_
    refine z_iconst (1) dX12_lineOf_15 rfl ?_
    refine z_icmp_ne 29 dX12_lineOf_16 rfl ⟨by omega, by omega⟩ ⟨by omega, by omega⟩ (fun c2 => ?_) (fun c2 => ?_)
    · exfalso; omega
    · skip
      refine e_aload_n dX12_lineOf_19 rfl ?_
      refine e_lload_n dX12_lineOf_20 rfl ?_
      refine e_iload dX12_lineOf_21 rfl ?_
      refine e_callV [.long _, .int _] dX12_lineOf_23 tm_12_241 rfl (Nat.le_of_ble_eq_true rfl) (rk_s hk) (Nat.le_of_ble_eq_true rfl) (Nat.le_refl _) (Nat.le_refl _) rfl (zp_X12_yearLine hk HT HP HF HC pn py (fun v3 p4 h5 f6 p7 => ?_))
      have k8 := rk_q (frm_s f6) hk
      have H9 := rfT_c f6 (fun a k q => by omega) HT
      have FR10 := frm_t FR0 (frm_m (S' := (fun a j => (a = m ∧ (j = 9 ∨ (11 ≤ j ∧ j ≤ 17) ∨ j = 22)) ∨ a = m + 9 ∨ a = m + 10)) f6 (fun a k q => by omega))
      skip
      refine e_goto 36 dX12_lineOf_26 rfl ?_
      refine z_bret dX12_lineOf_36 rfl (by omega) ⟨rfl, ?_⟩
      exact kq _ (by assumption) _ FR10 p7
  · exfalso; omega
set_option maxHeartbeats 400000 in
theorem zp_X12_lineOf_2 {ad : mA} {dd : Nat} {h : mH} {Q : mQ} {m : Nat} {T C : Int → Int} {L p f q : Int} (hk : rk h m) (HT : rfT h m T L) (HP : rfP h m T L p) (HF : rfF h m f q) (HC : rfC h m C)   (pn : nqB f q (tkS T L p)) (py : 0 ≤ C 0 ∧ C 0 ≤ 8) (kq : ∀ v : Int, (v = 0 ∨ v = 1) → ∀ h1, frm (fun a j => (a = m ∧ (j = 9 ∨ (11 ≤ j ∧ j ≤ 17) ∨ j = 22)) ∨ a = m + 9 ∨ a = m + 10) h h1 → (rfO h1 m T L 2 p f q C v (rfC h1 m (lcL 2 T L p C))) → Q (some (.int (zI v))) h1) : mCal TB0 ad (dd + 6) M_X12_lineOf [.ref m, .int (zI 2), .long (zJ (tkW T L p)), .int (zI (tkS T L p))] h 0 0 Q := by
  refine ⟨Nat.le_of_ble_eq_true rfl, ?_⟩
  show mEv TB0 ad M_X12_lineOf (dd + 6) (0, 0) (mCal TB0 ad (dd + 5)) (fun v h' z => z.1 = 0 ∧ Q v h') 0 [some (.ref m), some (.int (zI 2)), some (.long (zJ (tkW T L p))), none, some (.int (zI (tkS T L p)))] [] h (0, 0)
  have FR0 : frm (fun a j => (a = m ∧ (j = 9 ∨ (11 ≤ j ∧ j ≤ 17) ∨ j = 22)) ∨ a = m + 9 ∨ a = m + 10) h h := frm_0 h
  refine e_iload_n dX12_lineOf_0 rfl ?_
  refine z_if_ne 14 dX12_lineOf_1 rfl ⟨by omega, by omega⟩ (fun c1 => ?_) (fun c1 => ?_)
  · skip
    refine e_iload_n dX12_lineOf_14 rfl ?_
    refine z_iconst (1) dX12_lineOf_15 rfl ?_
    refine z_icmp_ne 29 dX12_lineOf_16 rfl ⟨by omega, by omega⟩ ⟨by omega, by omega⟩ (fun c2 => ?_) (fun c2 => ?_)
    · skip
      refine e_aload_n dX12_lineOf_29 rfl ?_
      refine e_lload_n dX12_lineOf_30 rfl ?_
      refine e_iload dX12_lineOf_31 rfl ?_
      refine e_callV [.long _, .int _] dX12_lineOf_33 tm_12_244 rfl (Nat.le_of_ble_eq_true rfl) (rk_s hk) (Nat.le_of_ble_eq_true rfl) (Nat.le_refl _) (Nat.le_refl _) rfl (zp_X12_clueLine hk HT HP HF HC pn py (fun v3 p4 h5 f6 p7 => ?_))
      have k8 := rk_q (frm_s f6) hk
      have H9 := rfT_c f6 (fun a k q => by omega) HT
      have FR10 := frm_t FR0 (frm_m (S' := (fun a j => (a = m ∧ (j = 9 ∨ (11 ≤ j ∧ j ≤ 17) ∨ j = 22)) ∨ a = m + 9 ∨ a = m + 10)) f6 (fun a k q => by omega))
      skip
      refine z_bret dX12_lineOf_36 rfl (by omega) ⟨rfl, ?_⟩
      exact kq _ (by assumption) _ FR10 p7
    · exfalso; omega
  · exfalso; omega
set_option maxHeartbeats 4000000 in
theorem zp_X12_lines_0 {ad : mA} {dd : Nat} {h : mH} {Q : mQ} {m : Nat} {T : Int → Int} {L : Int} (hk : rk h m) (HT : rfT h m T L) (HP : rfP h m T L 0) (HF : rfF h m 0 (-1)) (HC : rfC h m (ini0 0)) (HD : rfD h m (-1) (-1))    (kq : ∀ v : Int, (v = 0 ∨ v = 1) → ∀ h1, frm (fun a j => (a = m ∧ (j = 9 ∨ (11 ≤ j ∧ j ≤ 17) ∨ (20 ≤ j ∧ j ≤ 22))) ∨ a = m + 9 ∨ a = m + 10) h h1 → (lsO h1 m 0 T L v) → Q (some (.int (zI v))) h1) : mCal TB0 ad (dd + 7) M_X12_lines [.ref m, .int (zI 0)] h 0 0 Q := by
  refine ⟨Nat.le_of_ble_eq_true rfl, ?_⟩
  show mEv TB0 ad M_X12_lines (dd + 7) (0, 0) (mCal TB0 ad (dd + 6)) (fun v h' z => z.1 = 0 ∧ Q v h') 0 [some (.ref m), some (.int (zI 0)), none, none] [] h (0, 0)
  have FR0 : frm (fun a j => (a = m ∧ (j = 9 ∨ (11 ≤ j ∧ j ≤ 17) ∨ (20 ≤ j ∧ j ≤ 22))) ∨ a = m + 9 ∨ a = m + 10) h h := frm_0 h
  have w1 := HT.1
  refine z_iconst (1) dX12_lines_0 rfl ?_
  refine e_istore_n (L' := [_, _, _, _]) dX12_lines_1 (Nat.le_of_ble_eq_true rfl) rfl ?_
  have lp1 : ∀ (n1 : Nat) (b i : Int) (h1 : mH), (302 - i).toNat = n1 → (rk h1 m) → (rfT h1 m T L) → (frm (fun a j => (a = m ∧ (j = 9 ∨ (11 ≤ j ∧ j ≤ 17) ∨ (20 ≤ j ∧ j ≤ 22))) ∨ a = m + 9 ∨ a = m + 10) h h1) → (0 ≤ i ∧ i ≤ 301) → (lsR h1 m 0 T L i.toNat b) → mEv TB0 ad M_X12_lines (dd + 7) (0, 0) (mCal TB0 ad (dd + 6)) (fun v h' z => z.1 = 0 ∧ Q v h') 2 [some (.ref m), some (.int (zI 0)), some (.int (zI b)), none] [] h1 (0, 0) := by
    intro n1
    induction n1 using Nat.strongRecOn with
    | ind n1 ih1 =>
    intro b i h1 hn1 k2 H3 FR4 I1 I2
    refine e_iload_n dX12_lines_2 rfl ?_
    have KB := ls_b I2
    refine z_if_eq 74 dX12_lines_3 rfl ⟨by omega, by omega⟩ (fun c5 => ?_) (fun c5 => ?_)
    · skip
      refine e_iload_n dX12_lines_74 rfl ?_
      refine z_bret dX12_lines_75 rfl (by omega) ⟨rfl, ?_⟩
      exact kq _ (by omega) _ FR4 (Or.inr ⟨by omega, ls_0 I2 (by omega)⟩)
    · skip
      obtain ⟨OK, P1, F1, N1, C1, D0⟩ := ls_1 I2 (by omega)
      have ob := okN_b w1.1 i.toNat OK
      have D1 := D0 rfl
      have WF := rn_wf i.toNat OK
      refine e_aload_n dX12_lines_6 rfl ?_
      refine z_get (ksZ (tkK T L (runP 0 T L i.toNat))) dX12_lines_7 tf_12_140 (rk_s k2) (Or.inl rfl) P1.2.2.1 ?_
      have y6 := tk_b (T := T) P1.1.1 P1.1.2
      have y7 := P1.1
      have y8 := ks_p (tkK T L (runP 0 T L i.toNat))
      refine z_if_eq 74 dX12_lines_10 rfl ⟨by omega, by omega⟩ (fun c9 => ?_) (fun c9 => ?_)
      · skip
        skip
        refine e_iload_n dX12_lines_74 rfl ?_
        refine z_bret dX12_lines_75 rfl (by omega) ⟨rfl, ?_⟩
        exact kq _ (by omega) _ FR4 (Or.inl ⟨by omega, i.toNat, OK, by omega, P1, F1, N1, C1, D0⟩)
      · skip
        refine e_aload_n dX12_lines_13 rfl ?_
        refine z_get (tkS T L (runP 0 T L i.toNat)) dX12_lines_14 tf_12_133 (rk_s k2) (Or.inl rfl) P1.2.2.2.1 ?_
        have y10 := tk_b (T := T) P1.1.1 P1.1.2
        have y11 := P1.1
        have y12 := ks_p (tkK T L (runP 0 T L i.toNat))
        refine e_istore_n (L' := [_, _, _, _]) dX12_lines_17 (Nat.le_of_ble_eq_true rfl) rfl ?_
        refine e_aload_n dX12_lines_18 rfl ?_
        refine z_iconst (1) dX12_lines_19 rfl ?_
        refine z_putZ dX12_lines_20 tf_12_163 (rk_s k2) rfl (Or.inr rfl) (Or.inl rfl) (fun h13 e14 => ?_)
        have f15 := frm_1 e14
        have k16 := rk_q (frm_s f15) k2
        have H17 := rfT_c f15 (fun a k q => by omega) H3
        have H18 := rfP_c f15 (fun a k q => by omega) P1
        have H19 := rfF_c f15 (fun a k q => by omega) F1
        have H20 := rfC_c f15 (fun a k q => by omega) C1
        have H21 := rfD_c f15 (fun a k q => by omega) D1
        have FR22 := frm_t FR4 (frm_m (S' := (fun a j => (a = m ∧ (j = 9 ∨ (11 ≤ j ∧ j ≤ 17) ∨ (20 ≤ j ∧ j ≤ 22))) ∨ a = m + 9 ∨ a = m + 10)) f15 (fun a k q => by omega))
        refine e_aload_n dX12_lines_23 rfl ?_
        refine e_iload_n dX12_lines_24 rfl ?_
        refine e_aload_n dX12_lines_25 rfl ?_
        refine z_get (ksZ (tkK T L (runP 0 T L i.toNat))) dX12_lines_26 tf_12_140 (rk_s k16) (Or.inl rfl) H18.2.2.1 ?_
        have y23 := tk_b (T := T) H18.1.1 H18.1.2
        have y24 := H18.1
        have y25 := ks_p (tkK T L (runP 0 T L i.toNat))
        refine z_iconst (2) dX12_lines_29 rfl ?_
        refine z_icmp_ne 40 dX12_lines_30 rfl ⟨by omega, by omega⟩ ⟨by omega, by omega⟩ (fun c26 => ?_) (fun c26 => ?_)
        · skip
          refine z_lconst (0) dX12_lines_40 rfl ?_
          rw [show zJ 0 = zJ (tkW T L (runP 0 T L i.toNat)) by rw [tw_0 (T := T) (L := L) (p := (runP 0 T L i.toNat)) (by omega)]]
          refine e_iload_n dX12_lines_41 rfl ?_
          refine e_callV [.int _, .long _, .int _] dX12_lines_42 tm_12_247 rfl (Nat.le_of_ble_eq_true rfl) (rk_s k16) (Nat.le_of_ble_eq_true rfl) (Nat.le_refl _) (Nat.le_refl _) rfl (zp_X12_lineOf_0 k16 H17 H18 H19 H20 H21 N1 (rI_eq e14 ⟨by omega, by omega⟩) WF (fun v27 p28 h29 f30 p31 => ?_))
          have k32 := rk_q (frm_s f30) k16
          have H33 := rfT_c f30 (fun a k q => by omega) H17
          have FR34 := frm_t FR22 (frm_m (S' := (fun a j => (a = m ∧ (j = 9 ∨ (11 ≤ j ∧ j ≤ 17) ∨ (20 ≤ j ∧ j ≤ 22))) ∨ a = m + 9 ∨ a = m + 10)) f30 (fun a k q => by omega))
          skip
          refine e_istore_n (L' := [_, _, _, _]) dX12_lines_45 (Nat.le_of_ble_eq_true rfl) rfl ?_
          refine e_iload_n dX12_lines_46 rfl ?_
          refine z_if_eq 63 dX12_lines_47 rfl ⟨by omega, by omega⟩ (fun c35 => ?_) (fun c35 => ?_)
          · skip
            refine e_iload_n dX12_lines_63 rfl ?_
            refine z_if_eq 71 dX12_lines_64 rfl ⟨by omega, by omega⟩ (fun c36 => ?_) (fun c36 => ?_)
            · skip
              refine e_goto 2 dX12_lines_71 rfl ?_
              exact mEv_wk (by exact ⟨Or.inr rfl, Or.inr rfl, Or.inr rfl, Or.inl rfl, trivial⟩) (ih1 _ (by omega) v27 (i + 1) h29 rfl k32 H33 FR34 (by omega) (by rw [show (i + 1).toNat = i.toNat + 1 by omega]; exact Or.inr ⟨by omega, i.toNat, OK, by omega, (fo_0 p31 (by omega)).1, (fo_0 p31 (by omega)).2⟩))
            · exfalso; omega
          · skip
            obtain ⟨A1, P2, F2, X2, D2⟩ := fo_1 p31 (by omega)
            have eb := P2.1
            refine e_aload_n dX12_lines_50 rfl ?_
            refine z_get (ksZ (tkK T L (enS 0 T L (runP 0 T L i.toNat)))) dX12_lines_51 tf_12_140 (rk_s k32) (Or.inl rfl) P2.2.2.1 ?_
            have y37 := tk_b (T := T) P2.1.1 P2.1.2
            have y38 := P2.1
            have y39 := ks_p (tkK T L (enS 0 T L (runP 0 T L i.toNat)))
            refine z_iconst (4) dX12_lines_54 rfl ?_
            refine z_icmp_eq 63 dX12_lines_55 rfl ⟨by omega, by omega⟩ ⟨by omega, by omega⟩ (fun c40 => ?_) (fun c40 => ?_)
            · skip
              skip
              refine e_iload_n dX12_lines_63 rfl ?_
              refine z_if_eq 71 dX12_lines_64 rfl ⟨by omega, by omega⟩ (fun c41 => ?_) (fun c41 => ?_)
              · exfalso; omega
              · skip
                refine e_aload_n dX12_lines_67 rfl ?_
                refine e_callV [] dX12_lines_68 tm_12_167 rfl (Nat.le_of_ble_eq_true rfl) (rk_s k32) (Nat.le_of_ble_eq_true rfl) (Nat.le_refl _) (Nat.le_refl _) rfl (zp_X12_token k32 H33 (tkE T L (enS 0 T L (runP 0 T L i.toNat))) P2.2.1 (by have tz := tk_b (T := T) eb.1 eb.2; omega) (fun  h42 f43 p44 => ?_))
                have k45 := rk_q (frm_s f43) k32
                have H46 := rfT_c f43 (fun a k q => by omega) H33
                have H47 := rfF_c f43 (fun a k q => by omega) F2
                have H48 := rfC_c f43 (fun a k q => by omega) X2
                have H49 := rfD_c f43 (fun a k q => by omega) D2
                have FR50 := frm_t FR34 (frm_m (S' := (fun a j => (a = m ∧ (j = 9 ∨ (11 ≤ j ∧ j ≤ 17) ∨ (20 ≤ j ∧ j ≤ 22))) ∨ a = m + 9 ∨ a = m + 10)) f43 (fun a k q => by omega))
                refine e_goto 2 dX12_lines_71 rfl ?_
                exact mEv_wk (by exact ⟨Or.inr rfl, Or.inr rfl, Or.inr rfl, Or.inl rfl, trivial⟩) (ih1 _ (by omega) v27 (i + 1) h42 rfl k45 H46 FR50 (by omega) (by rw [show (i + 1).toNat = i.toNat + 1 by omega]; exact ls_n w1 (by omega) OK (by omega) A1 (by omega) p44 H47 N1 H48 (fun _ => H49)))
            · skip
              skip
              refine e_aload_n dX12_lines_58 rfl ?_
              refine e_callV [] dX12_lines_59 tm_12_155 rfl (Nat.le_of_ble_eq_true rfl) (rk_s k32) (Nat.le_of_ble_eq_true rfl) (Nat.le_refl _) (Nat.le_refl _) rfl (zp_X12_fails k32 P2 (by omega) (fun  h51 f52 p53 => ?_))
              have k54 := rk_q (frm_s f52) k32
              have H55 := rfT_c f52 (fun a k q => by omega) H33
              have H56 := rfP_c f52 (fun a k q => by omega) P2
              have H57 := rfF_c f52 (fun a k q => by omega) F2
              have H58 := rfC_c f52 (fun a k q => by omega) X2
              have H59 := rfD_c f52 (fun a k q => by omega) D2
              have FR60 := frm_t FR34 (frm_m (S' := (fun a j => (a = m ∧ (j = 9 ∨ (11 ≤ j ∧ j ≤ 17) ∨ (20 ≤ j ∧ j ≤ 22))) ∨ a = m + 9 ∨ a = m + 10)) f52 (fun a k q => by omega))
              skip
              refine e_istore_n (L' := [_, _, _, _]) dX12_lines_62 (Nat.le_of_ble_eq_true rfl) rfl ?_
              refine e_iload_n dX12_lines_63 rfl ?_
              refine z_ifb_eq 71 dX12_lines_64 rfl (fun c61 => ?_) (fun c61 => ?_)
              · skip
                refine e_goto 2 dX12_lines_71 rfl ?_
                exact mEv_wk (by exact ⟨Or.inr rfl, Or.inr rfl, Or.inr rfl, Or.inl rfl, trivial⟩) (ih1 _ (by omega) (bZ False) (i + 1) h51 rfl k54 H55 FR60 (by omega) (by rw [show (i + 1).toNat = i.toNat + 1 by omega]; exact Or.inr ⟨rfl, i.toNat, OK, by omega, fun a => absurd (lnA_N.mp a).2 (by omega), p53.trans (lnX_N A1).symm⟩))
              · exact c61.elim
        · skip
          refine e_aload_n dX12_lines_33 rfl ?_
          refine z_getJ (tkW T L (runP 0 T L i.toNat)) dX12_lines_34 tf_12_136 (rk_s k16) rfl (H18.2.2.2.2.2) ?_
          have y62 := tw_b (T := T) (L := L) (p := (runP 0 T L i.toNat))
          refine e_goto 41 dX12_lines_37 rfl ?_
          skip
          refine e_iload_n dX12_lines_41 rfl ?_
          refine e_callV [.int _, .long _, .int _] dX12_lines_42 tm_12_247 rfl (Nat.le_of_ble_eq_true rfl) (rk_s k16) (Nat.le_of_ble_eq_true rfl) (Nat.le_refl _) (Nat.le_refl _) rfl (zp_X12_lineOf_0 k16 H17 H18 H19 H20 H21 N1 (rI_eq e14 ⟨by omega, by omega⟩) WF (fun v63 p64 h65 f66 p67 => ?_))
          have k68 := rk_q (frm_s f66) k16
          have H69 := rfT_c f66 (fun a k q => by omega) H17
          have FR70 := frm_t FR22 (frm_m (S' := (fun a j => (a = m ∧ (j = 9 ∨ (11 ≤ j ∧ j ≤ 17) ∨ (20 ≤ j ∧ j ≤ 22))) ∨ a = m + 9 ∨ a = m + 10)) f66 (fun a k q => by omega))
          skip
          refine e_istore_n (L' := [_, _, _, _]) dX12_lines_45 (Nat.le_of_ble_eq_true rfl) rfl ?_
          refine e_iload_n dX12_lines_46 rfl ?_
          refine z_if_eq 63 dX12_lines_47 rfl ⟨by omega, by omega⟩ (fun c71 => ?_) (fun c71 => ?_)
          · skip
            refine e_iload_n dX12_lines_63 rfl ?_
            refine z_if_eq 71 dX12_lines_64 rfl ⟨by omega, by omega⟩ (fun c72 => ?_) (fun c72 => ?_)
            · skip
              refine e_goto 2 dX12_lines_71 rfl ?_
              exact mEv_wk (by exact ⟨Or.inr rfl, Or.inr rfl, Or.inr rfl, Or.inl rfl, trivial⟩) (ih1 _ (by omega) v63 (i + 1) h65 rfl k68 H69 FR70 (by omega) (by rw [show (i + 1).toNat = i.toNat + 1 by omega]; exact Or.inr ⟨by omega, i.toNat, OK, by omega, (fo_0 p67 (by omega)).1, (fo_0 p67 (by omega)).2⟩))
            · exfalso; omega
          · skip
            obtain ⟨A1, P2, F2, X2, D2⟩ := fo_1 p67 (by omega)
            have eb := P2.1
            refine e_aload_n dX12_lines_50 rfl ?_
            refine z_get (ksZ (tkK T L (enS 0 T L (runP 0 T L i.toNat)))) dX12_lines_51 tf_12_140 (rk_s k68) (Or.inl rfl) P2.2.2.1 ?_
            have y73 := tk_b (T := T) P2.1.1 P2.1.2
            have y74 := P2.1
            have y75 := ks_p (tkK T L (enS 0 T L (runP 0 T L i.toNat)))
            refine z_iconst (4) dX12_lines_54 rfl ?_
            refine z_icmp_eq 63 dX12_lines_55 rfl ⟨by omega, by omega⟩ ⟨by omega, by omega⟩ (fun c76 => ?_) (fun c76 => ?_)
            · skip
              skip
              refine e_iload_n dX12_lines_63 rfl ?_
              refine z_if_eq 71 dX12_lines_64 rfl ⟨by omega, by omega⟩ (fun c77 => ?_) (fun c77 => ?_)
              · exfalso; omega
              · skip
                refine e_aload_n dX12_lines_67 rfl ?_
                refine e_callV [] dX12_lines_68 tm_12_167 rfl (Nat.le_of_ble_eq_true rfl) (rk_s k68) (Nat.le_of_ble_eq_true rfl) (Nat.le_refl _) (Nat.le_refl _) rfl (zp_X12_token k68 H69 (tkE T L (enS 0 T L (runP 0 T L i.toNat))) P2.2.1 (by have tz := tk_b (T := T) eb.1 eb.2; omega) (fun  h78 f79 p80 => ?_))
                have k81 := rk_q (frm_s f79) k68
                have H82 := rfT_c f79 (fun a k q => by omega) H69
                have H83 := rfF_c f79 (fun a k q => by omega) F2
                have H84 := rfC_c f79 (fun a k q => by omega) X2
                have H85 := rfD_c f79 (fun a k q => by omega) D2
                have FR86 := frm_t FR70 (frm_m (S' := (fun a j => (a = m ∧ (j = 9 ∨ (11 ≤ j ∧ j ≤ 17) ∨ (20 ≤ j ∧ j ≤ 22))) ∨ a = m + 9 ∨ a = m + 10)) f79 (fun a k q => by omega))
                refine e_goto 2 dX12_lines_71 rfl ?_
                exact mEv_wk (by exact ⟨Or.inr rfl, Or.inr rfl, Or.inr rfl, Or.inl rfl, trivial⟩) (ih1 _ (by omega) v63 (i + 1) h78 rfl k81 H82 FR86 (by omega) (by rw [show (i + 1).toNat = i.toNat + 1 by omega]; exact ls_n w1 (by omega) OK (by omega) A1 (by omega) p80 H83 N1 H84 (fun _ => H85)))
            · skip
              skip
              refine e_aload_n dX12_lines_58 rfl ?_
              refine e_callV [] dX12_lines_59 tm_12_155 rfl (Nat.le_of_ble_eq_true rfl) (rk_s k68) (Nat.le_of_ble_eq_true rfl) (Nat.le_refl _) (Nat.le_refl _) rfl (zp_X12_fails k68 P2 (by omega) (fun  h87 f88 p89 => ?_))
              have k90 := rk_q (frm_s f88) k68
              have H91 := rfT_c f88 (fun a k q => by omega) H69
              have H92 := rfP_c f88 (fun a k q => by omega) P2
              have H93 := rfF_c f88 (fun a k q => by omega) F2
              have H94 := rfC_c f88 (fun a k q => by omega) X2
              have H95 := rfD_c f88 (fun a k q => by omega) D2
              have FR96 := frm_t FR70 (frm_m (S' := (fun a j => (a = m ∧ (j = 9 ∨ (11 ≤ j ∧ j ≤ 17) ∨ (20 ≤ j ∧ j ≤ 22))) ∨ a = m + 9 ∨ a = m + 10)) f88 (fun a k q => by omega))
              skip
              refine e_istore_n (L' := [_, _, _, _]) dX12_lines_62 (Nat.le_of_ble_eq_true rfl) rfl ?_
              refine e_iload_n dX12_lines_63 rfl ?_
              refine z_ifb_eq 71 dX12_lines_64 rfl (fun c97 => ?_) (fun c97 => ?_)
              · skip
                refine e_goto 2 dX12_lines_71 rfl ?_
                exact mEv_wk (by exact ⟨Or.inr rfl, Or.inr rfl, Or.inr rfl, Or.inl rfl, trivial⟩) (ih1 _ (by omega) (bZ False) (i + 1) h87 rfl k90 H91 FR96 (by omega) (by rw [show (i + 1).toNat = i.toNat + 1 by omega]; exact Or.inr ⟨rfl, i.toNat, OK, by omega, fun a => absurd (lnA_N.mp a).2 (by omega), p89.trans (lnX_N A1).symm⟩))
              · exact c97.elim
  exact lp1 _ 1 0 h rfl hk HT FR0 (by omega) (Or.inl ⟨rfl, fun j hj => absurd hj (Nat.not_lt_zero _), HP, HF, nq_i, HC, fun _ => HD⟩)
set_option maxHeartbeats 4000000 in
theorem zp_X12_lines_1 {ad : mA} {dd : Nat} {h : mH} {Q : mQ} {m : Nat} {T : Int → Int} {L : Int} (hk : rk h m) (HT : rfT h m T L) (HP : rfP h m T L 0) (HF : rfF h m 0 (-1)) (HC : rfC h m (ini0 1))    (kq : ∀ v : Int, (v = 0 ∨ v = 1) → ∀ h1, frm (fun a j => (a = m ∧ (j = 9 ∨ (11 ≤ j ∧ j ≤ 17) ∨ (20 ≤ j ∧ j ≤ 22))) ∨ a = m + 9 ∨ a = m + 10) h h1 → (lsO h1 m 1 T L v) → Q (some (.int (zI v))) h1) : mCal TB0 ad (dd + 7) M_X12_lines [.ref m, .int (zI 1)] h 0 0 Q := by
  refine ⟨Nat.le_of_ble_eq_true rfl, ?_⟩
  show mEv TB0 ad M_X12_lines (dd + 7) (0, 0) (mCal TB0 ad (dd + 6)) (fun v h' z => z.1 = 0 ∧ Q v h') 0 [some (.ref m), some (.int (zI 1)), none, none] [] h (0, 0)
  have FR0 : frm (fun a j => (a = m ∧ (j = 9 ∨ (11 ≤ j ∧ j ≤ 17) ∨ (20 ≤ j ∧ j ≤ 22))) ∨ a = m + 9 ∨ a = m + 10) h h := frm_0 h
  have w1 := HT.1
  refine z_iconst (1) dX12_lines_0 rfl ?_
  refine e_istore_n (L' := [_, _, _, _]) dX12_lines_1 (Nat.le_of_ble_eq_true rfl) rfl ?_
  have lp1 : ∀ (n1 : Nat) (b i : Int) (h1 : mH), (302 - i).toNat = n1 → (rk h1 m) → (rfT h1 m T L) → (frm (fun a j => (a = m ∧ (j = 9 ∨ (11 ≤ j ∧ j ≤ 17) ∨ (20 ≤ j ∧ j ≤ 22))) ∨ a = m + 9 ∨ a = m + 10) h h1) → (0 ≤ i ∧ i ≤ 301) → (lsR h1 m 1 T L i.toNat b) → mEv TB0 ad M_X12_lines (dd + 7) (0, 0) (mCal TB0 ad (dd + 6)) (fun v h' z => z.1 = 0 ∧ Q v h') 2 [some (.ref m), some (.int (zI 1)), some (.int (zI b)), none] [] h1 (0, 0) := by
    intro n1
    induction n1 using Nat.strongRecOn with
    | ind n1 ih1 =>
    intro b i h1 hn1 k2 H3 FR4 I1 I2
    refine e_iload_n dX12_lines_2 rfl ?_
    have KB := ls_b I2
    refine z_if_eq 74 dX12_lines_3 rfl ⟨by omega, by omega⟩ (fun c5 => ?_) (fun c5 => ?_)
    · skip
      refine e_iload_n dX12_lines_74 rfl ?_
      refine z_bret dX12_lines_75 rfl (by omega) ⟨rfl, ?_⟩
      exact kq _ (by omega) _ FR4 (Or.inr ⟨by omega, ls_0 I2 (by omega)⟩)
    · skip
      obtain ⟨OK, P1, F1, N1, C1, D0⟩ := ls_1 I2 (by omega)
      have ob := okN_b w1.1 i.toNat OK
      have RY := rn_y (T := T) (L := L) i.toNat
      refine e_aload_n dX12_lines_6 rfl ?_
      refine z_get (ksZ (tkK T L (runP 1 T L i.toNat))) dX12_lines_7 tf_12_140 (rk_s k2) (Or.inl rfl) P1.2.2.1 ?_
      have y6 := tk_b (T := T) P1.1.1 P1.1.2
      have y7 := P1.1
      have y8 := ks_p (tkK T L (runP 1 T L i.toNat))
      refine z_if_eq 74 dX12_lines_10 rfl ⟨by omega, by omega⟩ (fun c9 => ?_) (fun c9 => ?_)
      · skip
        skip
        refine e_iload_n dX12_lines_74 rfl ?_
        refine z_bret dX12_lines_75 rfl (by omega) ⟨rfl, ?_⟩
        exact kq _ (by omega) _ FR4 (Or.inl ⟨by omega, i.toNat, OK, by omega, P1, F1, N1, C1, D0⟩)
      · skip
        refine e_aload_n dX12_lines_13 rfl ?_
        refine z_get (tkS T L (runP 1 T L i.toNat)) dX12_lines_14 tf_12_133 (rk_s k2) (Or.inl rfl) P1.2.2.2.1 ?_
        have y10 := tk_b (T := T) P1.1.1 P1.1.2
        have y11 := P1.1
        have y12 := ks_p (tkK T L (runP 1 T L i.toNat))
        refine e_istore_n (L' := [_, _, _, _]) dX12_lines_17 (Nat.le_of_ble_eq_true rfl) rfl ?_
        refine e_aload_n dX12_lines_18 rfl ?_
        refine z_iconst (1) dX12_lines_19 rfl ?_
        refine z_putZ dX12_lines_20 tf_12_163 (rk_s k2) rfl (Or.inr rfl) (Or.inl rfl) (fun h13 e14 => ?_)
        have f15 := frm_1 e14
        have k16 := rk_q (frm_s f15) k2
        have H17 := rfT_c f15 (fun a k q => by omega) H3
        have H18 := rfP_c f15 (fun a k q => by omega) P1
        have H19 := rfF_c f15 (fun a k q => by omega) F1
        have H20 := rfC_c f15 (fun a k q => by omega) C1
        have FR21 := frm_t FR4 (frm_m (S' := (fun a j => (a = m ∧ (j = 9 ∨ (11 ≤ j ∧ j ≤ 17) ∨ (20 ≤ j ∧ j ≤ 22))) ∨ a = m + 9 ∨ a = m + 10)) f15 (fun a k q => by omega))
        refine e_aload_n dX12_lines_23 rfl ?_
        refine e_iload_n dX12_lines_24 rfl ?_
        refine e_aload_n dX12_lines_25 rfl ?_
        refine z_get (ksZ (tkK T L (runP 1 T L i.toNat))) dX12_lines_26 tf_12_140 (rk_s k16) (Or.inl rfl) H18.2.2.1 ?_
        have y22 := tk_b (T := T) H18.1.1 H18.1.2
        have y23 := H18.1
        have y24 := ks_p (tkK T L (runP 1 T L i.toNat))
        refine z_iconst (2) dX12_lines_29 rfl ?_
        refine z_icmp_ne 40 dX12_lines_30 rfl ⟨by omega, by omega⟩ ⟨by omega, by omega⟩ (fun c25 => ?_) (fun c25 => ?_)
        · skip
          refine z_lconst (0) dX12_lines_40 rfl ?_
          rw [show zJ 0 = zJ (tkW T L (runP 1 T L i.toNat)) by rw [tw_0 (T := T) (L := L) (p := (runP 1 T L i.toNat)) (by omega)]]
          refine e_iload_n dX12_lines_41 rfl ?_
          refine e_callV [.int _, .long _, .int _] dX12_lines_42 tm_12_247 rfl (Nat.le_of_ble_eq_true rfl) (rk_s k16) (Nat.le_of_ble_eq_true rfl) (Nat.le_refl _) (Nat.le_refl _) rfl (zp_X12_lineOf_1 k16 H17 H18 H19 H20 N1 RY.1 (fun v26 p27 h28 f29 p30 => ?_))
          have k31 := rk_q (frm_s f29) k16
          have H32 := rfT_c f29 (fun a k q => by omega) H17
          have FR33 := frm_t FR21 (frm_m (S' := (fun a j => (a = m ∧ (j = 9 ∨ (11 ≤ j ∧ j ≤ 17) ∨ (20 ≤ j ∧ j ≤ 22))) ∨ a = m + 9 ∨ a = m + 10)) f29 (fun a k q => by omega))
          skip
          refine e_istore_n (L' := [_, _, _, _]) dX12_lines_45 (Nat.le_of_ble_eq_true rfl) rfl ?_
          refine e_iload_n dX12_lines_46 rfl ?_
          refine z_if_eq 63 dX12_lines_47 rfl ⟨by omega, by omega⟩ (fun c34 => ?_) (fun c34 => ?_)
          · skip
            refine e_iload_n dX12_lines_63 rfl ?_
            refine z_if_eq 71 dX12_lines_64 rfl ⟨by omega, by omega⟩ (fun c35 => ?_) (fun c35 => ?_)
            · skip
              refine e_goto 2 dX12_lines_71 rfl ?_
              exact mEv_wk (by exact ⟨Or.inr rfl, Or.inr rfl, Or.inr rfl, Or.inl rfl, trivial⟩) (ih1 _ (by omega) v26 (i + 1) h28 rfl k31 H32 FR33 (by omega) (by rw [show (i + 1).toNat = i.toNat + 1 by omega]; exact Or.inr ⟨by omega, i.toNat, OK, by omega, (fo_0 p30 (by omega)).1, (fo_0 p30 (by omega)).2⟩))
            · exfalso; omega
          · skip
            obtain ⟨A1, P2, F2, X2⟩ := fo_1 p30 (by omega)
            have eb := P2.1
            refine e_aload_n dX12_lines_50 rfl ?_
            refine z_get (ksZ (tkK T L (enS 1 T L (runP 1 T L i.toNat)))) dX12_lines_51 tf_12_140 (rk_s k31) (Or.inl rfl) P2.2.2.1 ?_
            have y36 := tk_b (T := T) P2.1.1 P2.1.2
            have y37 := P2.1
            have y38 := ks_p (tkK T L (enS 1 T L (runP 1 T L i.toNat)))
            refine z_iconst (4) dX12_lines_54 rfl ?_
            refine z_icmp_eq 63 dX12_lines_55 rfl ⟨by omega, by omega⟩ ⟨by omega, by omega⟩ (fun c39 => ?_) (fun c39 => ?_)
            · skip
              skip
              refine e_iload_n dX12_lines_63 rfl ?_
              refine z_if_eq 71 dX12_lines_64 rfl ⟨by omega, by omega⟩ (fun c40 => ?_) (fun c40 => ?_)
              · exfalso; omega
              · skip
                refine e_aload_n dX12_lines_67 rfl ?_
                refine e_callV [] dX12_lines_68 tm_12_167 rfl (Nat.le_of_ble_eq_true rfl) (rk_s k31) (Nat.le_of_ble_eq_true rfl) (Nat.le_refl _) (Nat.le_refl _) rfl (zp_X12_token k31 H32 (tkE T L (enS 1 T L (runP 1 T L i.toNat))) P2.2.1 (by have tz := tk_b (T := T) eb.1 eb.2; omega) (fun  h41 f42 p43 => ?_))
                have k44 := rk_q (frm_s f42) k31
                have H45 := rfT_c f42 (fun a k q => by omega) H32
                have H46 := rfF_c f42 (fun a k q => by omega) F2
                have H47 := rfC_c f42 (fun a k q => by omega) X2
                have FR48 := frm_t FR33 (frm_m (S' := (fun a j => (a = m ∧ (j = 9 ∨ (11 ≤ j ∧ j ≤ 17) ∨ (20 ≤ j ∧ j ≤ 22))) ∨ a = m + 9 ∨ a = m + 10)) f42 (fun a k q => by omega))
                refine e_goto 2 dX12_lines_71 rfl ?_
                exact mEv_wk (by exact ⟨Or.inr rfl, Or.inr rfl, Or.inr rfl, Or.inl rfl, trivial⟩) (ih1 _ (by omega) v26 (i + 1) h41 rfl k44 H45 FR48 (by omega) (by rw [show (i + 1).toNat = i.toNat + 1 by omega]; exact ls_n w1 (by omega) OK (by omega) A1 (by omega) p43 H46 N1 H47 (fun z => absurd z (by omega))))
            · skip
              skip
              refine e_aload_n dX12_lines_58 rfl ?_
              refine e_callV [] dX12_lines_59 tm_12_155 rfl (Nat.le_of_ble_eq_true rfl) (rk_s k31) (Nat.le_of_ble_eq_true rfl) (Nat.le_refl _) (Nat.le_refl _) rfl (zp_X12_fails k31 P2 (by omega) (fun  h49 f50 p51 => ?_))
              have k52 := rk_q (frm_s f50) k31
              have H53 := rfT_c f50 (fun a k q => by omega) H32
              have H54 := rfP_c f50 (fun a k q => by omega) P2
              have H55 := rfF_c f50 (fun a k q => by omega) F2
              have H56 := rfC_c f50 (fun a k q => by omega) X2
              have FR57 := frm_t FR33 (frm_m (S' := (fun a j => (a = m ∧ (j = 9 ∨ (11 ≤ j ∧ j ≤ 17) ∨ (20 ≤ j ∧ j ≤ 22))) ∨ a = m + 9 ∨ a = m + 10)) f50 (fun a k q => by omega))
              skip
              refine e_istore_n (L' := [_, _, _, _]) dX12_lines_62 (Nat.le_of_ble_eq_true rfl) rfl ?_
              refine e_iload_n dX12_lines_63 rfl ?_
              refine z_ifb_eq 71 dX12_lines_64 rfl (fun c58 => ?_) (fun c58 => ?_)
              · skip
                refine e_goto 2 dX12_lines_71 rfl ?_
                exact mEv_wk (by exact ⟨Or.inr rfl, Or.inr rfl, Or.inr rfl, Or.inl rfl, trivial⟩) (ih1 _ (by omega) (bZ False) (i + 1) h49 rfl k52 H53 FR57 (by omega) (by rw [show (i + 1).toNat = i.toNat + 1 by omega]; exact Or.inr ⟨rfl, i.toNat, OK, by omega, fun a => absurd (lnA_N.mp a).2 (by omega), p51.trans (lnX_N A1).symm⟩))
              · exact c58.elim
        · skip
          refine e_aload_n dX12_lines_33 rfl ?_
          refine z_getJ (tkW T L (runP 1 T L i.toNat)) dX12_lines_34 tf_12_136 (rk_s k16) rfl (H18.2.2.2.2.2) ?_
          have y59 := tw_b (T := T) (L := L) (p := (runP 1 T L i.toNat))
          refine e_goto 41 dX12_lines_37 rfl ?_
          skip
          refine e_iload_n dX12_lines_41 rfl ?_
          refine e_callV [.int _, .long _, .int _] dX12_lines_42 tm_12_247 rfl (Nat.le_of_ble_eq_true rfl) (rk_s k16) (Nat.le_of_ble_eq_true rfl) (Nat.le_refl _) (Nat.le_refl _) rfl (zp_X12_lineOf_1 k16 H17 H18 H19 H20 N1 RY.1 (fun v60 p61 h62 f63 p64 => ?_))
          have k65 := rk_q (frm_s f63) k16
          have H66 := rfT_c f63 (fun a k q => by omega) H17
          have FR67 := frm_t FR21 (frm_m (S' := (fun a j => (a = m ∧ (j = 9 ∨ (11 ≤ j ∧ j ≤ 17) ∨ (20 ≤ j ∧ j ≤ 22))) ∨ a = m + 9 ∨ a = m + 10)) f63 (fun a k q => by omega))
          skip
          refine e_istore_n (L' := [_, _, _, _]) dX12_lines_45 (Nat.le_of_ble_eq_true rfl) rfl ?_
          refine e_iload_n dX12_lines_46 rfl ?_
          refine z_if_eq 63 dX12_lines_47 rfl ⟨by omega, by omega⟩ (fun c68 => ?_) (fun c68 => ?_)
          · skip
            refine e_iload_n dX12_lines_63 rfl ?_
            refine z_if_eq 71 dX12_lines_64 rfl ⟨by omega, by omega⟩ (fun c69 => ?_) (fun c69 => ?_)
            · skip
              refine e_goto 2 dX12_lines_71 rfl ?_
              exact mEv_wk (by exact ⟨Or.inr rfl, Or.inr rfl, Or.inr rfl, Or.inl rfl, trivial⟩) (ih1 _ (by omega) v60 (i + 1) h62 rfl k65 H66 FR67 (by omega) (by rw [show (i + 1).toNat = i.toNat + 1 by omega]; exact Or.inr ⟨by omega, i.toNat, OK, by omega, (fo_0 p64 (by omega)).1, (fo_0 p64 (by omega)).2⟩))
            · exfalso; omega
          · skip
            obtain ⟨A1, P2, F2, X2⟩ := fo_1 p64 (by omega)
            have eb := P2.1
            refine e_aload_n dX12_lines_50 rfl ?_
            refine z_get (ksZ (tkK T L (enS 1 T L (runP 1 T L i.toNat)))) dX12_lines_51 tf_12_140 (rk_s k65) (Or.inl rfl) P2.2.2.1 ?_
            have y70 := tk_b (T := T) P2.1.1 P2.1.2
            have y71 := P2.1
            have y72 := ks_p (tkK T L (enS 1 T L (runP 1 T L i.toNat)))
            refine z_iconst (4) dX12_lines_54 rfl ?_
            refine z_icmp_eq 63 dX12_lines_55 rfl ⟨by omega, by omega⟩ ⟨by omega, by omega⟩ (fun c73 => ?_) (fun c73 => ?_)
            · skip
              skip
              refine e_iload_n dX12_lines_63 rfl ?_
              refine z_if_eq 71 dX12_lines_64 rfl ⟨by omega, by omega⟩ (fun c74 => ?_) (fun c74 => ?_)
              · exfalso; omega
              · skip
                refine e_aload_n dX12_lines_67 rfl ?_
                refine e_callV [] dX12_lines_68 tm_12_167 rfl (Nat.le_of_ble_eq_true rfl) (rk_s k65) (Nat.le_of_ble_eq_true rfl) (Nat.le_refl _) (Nat.le_refl _) rfl (zp_X12_token k65 H66 (tkE T L (enS 1 T L (runP 1 T L i.toNat))) P2.2.1 (by have tz := tk_b (T := T) eb.1 eb.2; omega) (fun  h75 f76 p77 => ?_))
                have k78 := rk_q (frm_s f76) k65
                have H79 := rfT_c f76 (fun a k q => by omega) H66
                have H80 := rfF_c f76 (fun a k q => by omega) F2
                have H81 := rfC_c f76 (fun a k q => by omega) X2
                have FR82 := frm_t FR67 (frm_m (S' := (fun a j => (a = m ∧ (j = 9 ∨ (11 ≤ j ∧ j ≤ 17) ∨ (20 ≤ j ∧ j ≤ 22))) ∨ a = m + 9 ∨ a = m + 10)) f76 (fun a k q => by omega))
                refine e_goto 2 dX12_lines_71 rfl ?_
                exact mEv_wk (by exact ⟨Or.inr rfl, Or.inr rfl, Or.inr rfl, Or.inl rfl, trivial⟩) (ih1 _ (by omega) v60 (i + 1) h75 rfl k78 H79 FR82 (by omega) (by rw [show (i + 1).toNat = i.toNat + 1 by omega]; exact ls_n w1 (by omega) OK (by omega) A1 (by omega) p77 H80 N1 H81 (fun z => absurd z (by omega))))
            · skip
              skip
              refine e_aload_n dX12_lines_58 rfl ?_
              refine e_callV [] dX12_lines_59 tm_12_155 rfl (Nat.le_of_ble_eq_true rfl) (rk_s k65) (Nat.le_of_ble_eq_true rfl) (Nat.le_refl _) (Nat.le_refl _) rfl (zp_X12_fails k65 P2 (by omega) (fun  h83 f84 p85 => ?_))
              have k86 := rk_q (frm_s f84) k65
              have H87 := rfT_c f84 (fun a k q => by omega) H66
              have H88 := rfP_c f84 (fun a k q => by omega) P2
              have H89 := rfF_c f84 (fun a k q => by omega) F2
              have H90 := rfC_c f84 (fun a k q => by omega) X2
              have FR91 := frm_t FR67 (frm_m (S' := (fun a j => (a = m ∧ (j = 9 ∨ (11 ≤ j ∧ j ≤ 17) ∨ (20 ≤ j ∧ j ≤ 22))) ∨ a = m + 9 ∨ a = m + 10)) f84 (fun a k q => by omega))
              skip
              refine e_istore_n (L' := [_, _, _, _]) dX12_lines_62 (Nat.le_of_ble_eq_true rfl) rfl ?_
              refine e_iload_n dX12_lines_63 rfl ?_
              refine z_ifb_eq 71 dX12_lines_64 rfl (fun c92 => ?_) (fun c92 => ?_)
              · skip
                refine e_goto 2 dX12_lines_71 rfl ?_
                exact mEv_wk (by exact ⟨Or.inr rfl, Or.inr rfl, Or.inr rfl, Or.inl rfl, trivial⟩) (ih1 _ (by omega) (bZ False) (i + 1) h83 rfl k86 H87 FR91 (by omega) (by rw [show (i + 1).toNat = i.toNat + 1 by omega]; exact Or.inr ⟨rfl, i.toNat, OK, by omega, fun a => absurd (lnA_N.mp a).2 (by omega), p85.trans (lnX_N A1).symm⟩))
              · exact c92.elim
  exact lp1 _ 1 0 h rfl hk HT FR0 (by omega) (Or.inl ⟨rfl, fun j hj => absurd hj (Nat.not_lt_zero _), HP, HF, nq_i, HC, fun z => absurd z (by omega)⟩)
set_option maxHeartbeats 4000000 in
theorem zp_X12_lines_2 {ad : mA} {dd : Nat} {h : mH} {Q : mQ} {m : Nat} {T : Int → Int} {L : Int} (hk : rk h m) (HT : rfT h m T L) (HP : rfP h m T L 0) (HF : rfF h m 0 (-1)) (HC : rfC h m (ini0 2))    (kq : ∀ v : Int, (v = 0 ∨ v = 1) → ∀ h1, frm (fun a j => (a = m ∧ (j = 9 ∨ (11 ≤ j ∧ j ≤ 17) ∨ (20 ≤ j ∧ j ≤ 22))) ∨ a = m + 9 ∨ a = m + 10) h h1 → (lsO h1 m 2 T L v) → Q (some (.int (zI v))) h1) : mCal TB0 ad (dd + 7) M_X12_lines [.ref m, .int (zI 2)] h 0 0 Q := by
  refine ⟨Nat.le_of_ble_eq_true rfl, ?_⟩
  show mEv TB0 ad M_X12_lines (dd + 7) (0, 0) (mCal TB0 ad (dd + 6)) (fun v h' z => z.1 = 0 ∧ Q v h') 0 [some (.ref m), some (.int (zI 2)), none, none] [] h (0, 0)
  have FR0 : frm (fun a j => (a = m ∧ (j = 9 ∨ (11 ≤ j ∧ j ≤ 17) ∨ (20 ≤ j ∧ j ≤ 22))) ∨ a = m + 9 ∨ a = m + 10) h h := frm_0 h
  have w1 := HT.1
  refine z_iconst (1) dX12_lines_0 rfl ?_
  refine e_istore_n (L' := [_, _, _, _]) dX12_lines_1 (Nat.le_of_ble_eq_true rfl) rfl ?_
  have lp1 : ∀ (n1 : Nat) (b i : Int) (h1 : mH), (302 - i).toNat = n1 → (rk h1 m) → (rfT h1 m T L) → (frm (fun a j => (a = m ∧ (j = 9 ∨ (11 ≤ j ∧ j ≤ 17) ∨ (20 ≤ j ∧ j ≤ 22))) ∨ a = m + 9 ∨ a = m + 10) h h1) → (0 ≤ i ∧ i ≤ 301) → (lsR h1 m 2 T L i.toNat b) → mEv TB0 ad M_X12_lines (dd + 7) (0, 0) (mCal TB0 ad (dd + 6)) (fun v h' z => z.1 = 0 ∧ Q v h') 2 [some (.ref m), some (.int (zI 2)), some (.int (zI b)), none] [] h1 (0, 0) := by
    intro n1
    induction n1 using Nat.strongRecOn with
    | ind n1 ih1 =>
    intro b i h1 hn1 k2 H3 FR4 I1 I2
    refine e_iload_n dX12_lines_2 rfl ?_
    have KB := ls_b I2
    refine z_if_eq 74 dX12_lines_3 rfl ⟨by omega, by omega⟩ (fun c5 => ?_) (fun c5 => ?_)
    · skip
      refine e_iload_n dX12_lines_74 rfl ?_
      refine z_bret dX12_lines_75 rfl (by omega) ⟨rfl, ?_⟩
      exact kq _ (by omega) _ FR4 (Or.inr ⟨by omega, ls_0 I2 (by omega)⟩)
    · skip
      obtain ⟨OK, P1, F1, N1, C1, D0⟩ := ls_1 I2 (by omega)
      have ob := okN_b w1.1 i.toNat OK
      have RY := rn_y (T := T) (L := L) i.toNat
      refine e_aload_n dX12_lines_6 rfl ?_
      refine z_get (ksZ (tkK T L (runP 2 T L i.toNat))) dX12_lines_7 tf_12_140 (rk_s k2) (Or.inl rfl) P1.2.2.1 ?_
      have y6 := tk_b (T := T) P1.1.1 P1.1.2
      have y7 := P1.1
      have y8 := ks_p (tkK T L (runP 2 T L i.toNat))
      refine z_if_eq 74 dX12_lines_10 rfl ⟨by omega, by omega⟩ (fun c9 => ?_) (fun c9 => ?_)
      · skip
        skip
        refine e_iload_n dX12_lines_74 rfl ?_
        refine z_bret dX12_lines_75 rfl (by omega) ⟨rfl, ?_⟩
        exact kq _ (by omega) _ FR4 (Or.inl ⟨by omega, i.toNat, OK, by omega, P1, F1, N1, C1, D0⟩)
      · skip
        refine e_aload_n dX12_lines_13 rfl ?_
        refine z_get (tkS T L (runP 2 T L i.toNat)) dX12_lines_14 tf_12_133 (rk_s k2) (Or.inl rfl) P1.2.2.2.1 ?_
        have y10 := tk_b (T := T) P1.1.1 P1.1.2
        have y11 := P1.1
        have y12 := ks_p (tkK T L (runP 2 T L i.toNat))
        refine e_istore_n (L' := [_, _, _, _]) dX12_lines_17 (Nat.le_of_ble_eq_true rfl) rfl ?_
        refine e_aload_n dX12_lines_18 rfl ?_
        refine z_iconst (1) dX12_lines_19 rfl ?_
        refine z_putZ dX12_lines_20 tf_12_163 (rk_s k2) rfl (Or.inr rfl) (Or.inl rfl) (fun h13 e14 => ?_)
        have f15 := frm_1 e14
        have k16 := rk_q (frm_s f15) k2
        have H17 := rfT_c f15 (fun a k q => by omega) H3
        have H18 := rfP_c f15 (fun a k q => by omega) P1
        have H19 := rfF_c f15 (fun a k q => by omega) F1
        have H20 := rfC_c f15 (fun a k q => by omega) C1
        have FR21 := frm_t FR4 (frm_m (S' := (fun a j => (a = m ∧ (j = 9 ∨ (11 ≤ j ∧ j ≤ 17) ∨ (20 ≤ j ∧ j ≤ 22))) ∨ a = m + 9 ∨ a = m + 10)) f15 (fun a k q => by omega))
        refine e_aload_n dX12_lines_23 rfl ?_
        refine e_iload_n dX12_lines_24 rfl ?_
        refine e_aload_n dX12_lines_25 rfl ?_
        refine z_get (ksZ (tkK T L (runP 2 T L i.toNat))) dX12_lines_26 tf_12_140 (rk_s k16) (Or.inl rfl) H18.2.2.1 ?_
        have y22 := tk_b (T := T) H18.1.1 H18.1.2
        have y23 := H18.1
        have y24 := ks_p (tkK T L (runP 2 T L i.toNat))
        refine z_iconst (2) dX12_lines_29 rfl ?_
        refine z_icmp_ne 40 dX12_lines_30 rfl ⟨by omega, by omega⟩ ⟨by omega, by omega⟩ (fun c25 => ?_) (fun c25 => ?_)
        · skip
          refine z_lconst (0) dX12_lines_40 rfl ?_
          rw [show zJ 0 = zJ (tkW T L (runP 2 T L i.toNat)) by rw [tw_0 (T := T) (L := L) (p := (runP 2 T L i.toNat)) (by omega)]]
          refine e_iload_n dX12_lines_41 rfl ?_
          refine e_callV [.int _, .long _, .int _] dX12_lines_42 tm_12_247 rfl (Nat.le_of_ble_eq_true rfl) (rk_s k16) (Nat.le_of_ble_eq_true rfl) (Nat.le_refl _) (Nat.le_refl _) rfl (zp_X12_lineOf_2 k16 H17 H18 H19 H20 N1 RY.2 (fun v26 p27 h28 f29 p30 => ?_))
          have k31 := rk_q (frm_s f29) k16
          have H32 := rfT_c f29 (fun a k q => by omega) H17
          have FR33 := frm_t FR21 (frm_m (S' := (fun a j => (a = m ∧ (j = 9 ∨ (11 ≤ j ∧ j ≤ 17) ∨ (20 ≤ j ∧ j ≤ 22))) ∨ a = m + 9 ∨ a = m + 10)) f29 (fun a k q => by omega))
          skip
          refine e_istore_n (L' := [_, _, _, _]) dX12_lines_45 (Nat.le_of_ble_eq_true rfl) rfl ?_
          refine e_iload_n dX12_lines_46 rfl ?_
          refine z_if_eq 63 dX12_lines_47 rfl ⟨by omega, by omega⟩ (fun c34 => ?_) (fun c34 => ?_)
          · skip
            refine e_iload_n dX12_lines_63 rfl ?_
            refine z_if_eq 71 dX12_lines_64 rfl ⟨by omega, by omega⟩ (fun c35 => ?_) (fun c35 => ?_)
            · skip
              refine e_goto 2 dX12_lines_71 rfl ?_
              exact mEv_wk (by exact ⟨Or.inr rfl, Or.inr rfl, Or.inr rfl, Or.inl rfl, trivial⟩) (ih1 _ (by omega) v26 (i + 1) h28 rfl k31 H32 FR33 (by omega) (by rw [show (i + 1).toNat = i.toNat + 1 by omega]; exact Or.inr ⟨by omega, i.toNat, OK, by omega, (fo_0 p30 (by omega)).1, (fo_0 p30 (by omega)).2⟩))
            · exfalso; omega
          · skip
            obtain ⟨A1, P2, F2, X2⟩ := fo_1 p30 (by omega)
            have eb := P2.1
            refine e_aload_n dX12_lines_50 rfl ?_
            refine z_get (ksZ (tkK T L (enS 2 T L (runP 2 T L i.toNat)))) dX12_lines_51 tf_12_140 (rk_s k31) (Or.inl rfl) P2.2.2.1 ?_
            have y36 := tk_b (T := T) P2.1.1 P2.1.2
            have y37 := P2.1
            have y38 := ks_p (tkK T L (enS 2 T L (runP 2 T L i.toNat)))
            refine z_iconst (4) dX12_lines_54 rfl ?_
            refine z_icmp_eq 63 dX12_lines_55 rfl ⟨by omega, by omega⟩ ⟨by omega, by omega⟩ (fun c39 => ?_) (fun c39 => ?_)
            · skip
              skip
              refine e_iload_n dX12_lines_63 rfl ?_
              refine z_if_eq 71 dX12_lines_64 rfl ⟨by omega, by omega⟩ (fun c40 => ?_) (fun c40 => ?_)
              · exfalso; omega
              · skip
                refine e_aload_n dX12_lines_67 rfl ?_
                refine e_callV [] dX12_lines_68 tm_12_167 rfl (Nat.le_of_ble_eq_true rfl) (rk_s k31) (Nat.le_of_ble_eq_true rfl) (Nat.le_refl _) (Nat.le_refl _) rfl (zp_X12_token k31 H32 (tkE T L (enS 2 T L (runP 2 T L i.toNat))) P2.2.1 (by have tz := tk_b (T := T) eb.1 eb.2; omega) (fun  h41 f42 p43 => ?_))
                have k44 := rk_q (frm_s f42) k31
                have H45 := rfT_c f42 (fun a k q => by omega) H32
                have H46 := rfF_c f42 (fun a k q => by omega) F2
                have H47 := rfC_c f42 (fun a k q => by omega) X2
                have FR48 := frm_t FR33 (frm_m (S' := (fun a j => (a = m ∧ (j = 9 ∨ (11 ≤ j ∧ j ≤ 17) ∨ (20 ≤ j ∧ j ≤ 22))) ∨ a = m + 9 ∨ a = m + 10)) f42 (fun a k q => by omega))
                refine e_goto 2 dX12_lines_71 rfl ?_
                exact mEv_wk (by exact ⟨Or.inr rfl, Or.inr rfl, Or.inr rfl, Or.inl rfl, trivial⟩) (ih1 _ (by omega) v26 (i + 1) h41 rfl k44 H45 FR48 (by omega) (by rw [show (i + 1).toNat = i.toNat + 1 by omega]; exact ls_n w1 (by omega) OK (by omega) A1 (by omega) p43 H46 N1 H47 (fun z => absurd z (by omega))))
            · skip
              skip
              refine e_aload_n dX12_lines_58 rfl ?_
              refine e_callV [] dX12_lines_59 tm_12_155 rfl (Nat.le_of_ble_eq_true rfl) (rk_s k31) (Nat.le_of_ble_eq_true rfl) (Nat.le_refl _) (Nat.le_refl _) rfl (zp_X12_fails k31 P2 (by omega) (fun  h49 f50 p51 => ?_))
              have k52 := rk_q (frm_s f50) k31
              have H53 := rfT_c f50 (fun a k q => by omega) H32
              have H54 := rfP_c f50 (fun a k q => by omega) P2
              have H55 := rfF_c f50 (fun a k q => by omega) F2
              have H56 := rfC_c f50 (fun a k q => by omega) X2
              have FR57 := frm_t FR33 (frm_m (S' := (fun a j => (a = m ∧ (j = 9 ∨ (11 ≤ j ∧ j ≤ 17) ∨ (20 ≤ j ∧ j ≤ 22))) ∨ a = m + 9 ∨ a = m + 10)) f50 (fun a k q => by omega))
              skip
              refine e_istore_n (L' := [_, _, _, _]) dX12_lines_62 (Nat.le_of_ble_eq_true rfl) rfl ?_
              refine e_iload_n dX12_lines_63 rfl ?_
              refine z_ifb_eq 71 dX12_lines_64 rfl (fun c58 => ?_) (fun c58 => ?_)
              · skip
                refine e_goto 2 dX12_lines_71 rfl ?_
                exact mEv_wk (by exact ⟨Or.inr rfl, Or.inr rfl, Or.inr rfl, Or.inl rfl, trivial⟩) (ih1 _ (by omega) (bZ False) (i + 1) h49 rfl k52 H53 FR57 (by omega) (by rw [show (i + 1).toNat = i.toNat + 1 by omega]; exact Or.inr ⟨rfl, i.toNat, OK, by omega, fun a => absurd (lnA_N.mp a).2 (by omega), p51.trans (lnX_N A1).symm⟩))
              · exact c58.elim
        · skip
          refine e_aload_n dX12_lines_33 rfl ?_
          refine z_getJ (tkW T L (runP 2 T L i.toNat)) dX12_lines_34 tf_12_136 (rk_s k16) rfl (H18.2.2.2.2.2) ?_
          have y59 := tw_b (T := T) (L := L) (p := (runP 2 T L i.toNat))
          refine e_goto 41 dX12_lines_37 rfl ?_
          skip
          refine e_iload_n dX12_lines_41 rfl ?_
          refine e_callV [.int _, .long _, .int _] dX12_lines_42 tm_12_247 rfl (Nat.le_of_ble_eq_true rfl) (rk_s k16) (Nat.le_of_ble_eq_true rfl) (Nat.le_refl _) (Nat.le_refl _) rfl (zp_X12_lineOf_2 k16 H17 H18 H19 H20 N1 RY.2 (fun v60 p61 h62 f63 p64 => ?_))
          have k65 := rk_q (frm_s f63) k16
          have H66 := rfT_c f63 (fun a k q => by omega) H17
          have FR67 := frm_t FR21 (frm_m (S' := (fun a j => (a = m ∧ (j = 9 ∨ (11 ≤ j ∧ j ≤ 17) ∨ (20 ≤ j ∧ j ≤ 22))) ∨ a = m + 9 ∨ a = m + 10)) f63 (fun a k q => by omega))
          skip
          refine e_istore_n (L' := [_, _, _, _]) dX12_lines_45 (Nat.le_of_ble_eq_true rfl) rfl ?_
          refine e_iload_n dX12_lines_46 rfl ?_
          refine z_if_eq 63 dX12_lines_47 rfl ⟨by omega, by omega⟩ (fun c68 => ?_) (fun c68 => ?_)
          · skip
            refine e_iload_n dX12_lines_63 rfl ?_
            refine z_if_eq 71 dX12_lines_64 rfl ⟨by omega, by omega⟩ (fun c69 => ?_) (fun c69 => ?_)
            · skip
              refine e_goto 2 dX12_lines_71 rfl ?_
              exact mEv_wk (by exact ⟨Or.inr rfl, Or.inr rfl, Or.inr rfl, Or.inl rfl, trivial⟩) (ih1 _ (by omega) v60 (i + 1) h62 rfl k65 H66 FR67 (by omega) (by rw [show (i + 1).toNat = i.toNat + 1 by omega]; exact Or.inr ⟨by omega, i.toNat, OK, by omega, (fo_0 p64 (by omega)).1, (fo_0 p64 (by omega)).2⟩))
            · exfalso; omega
          · skip
            obtain ⟨A1, P2, F2, X2⟩ := fo_1 p64 (by omega)
            have eb := P2.1
            refine e_aload_n dX12_lines_50 rfl ?_
            refine z_get (ksZ (tkK T L (enS 2 T L (runP 2 T L i.toNat)))) dX12_lines_51 tf_12_140 (rk_s k65) (Or.inl rfl) P2.2.2.1 ?_
            have y70 := tk_b (T := T) P2.1.1 P2.1.2
            have y71 := P2.1
            have y72 := ks_p (tkK T L (enS 2 T L (runP 2 T L i.toNat)))
            refine z_iconst (4) dX12_lines_54 rfl ?_
            refine z_icmp_eq 63 dX12_lines_55 rfl ⟨by omega, by omega⟩ ⟨by omega, by omega⟩ (fun c73 => ?_) (fun c73 => ?_)
            · skip
              skip
              refine e_iload_n dX12_lines_63 rfl ?_
              refine z_if_eq 71 dX12_lines_64 rfl ⟨by omega, by omega⟩ (fun c74 => ?_) (fun c74 => ?_)
              · exfalso; omega
              · skip
                refine e_aload_n dX12_lines_67 rfl ?_
                refine e_callV [] dX12_lines_68 tm_12_167 rfl (Nat.le_of_ble_eq_true rfl) (rk_s k65) (Nat.le_of_ble_eq_true rfl) (Nat.le_refl _) (Nat.le_refl _) rfl (zp_X12_token k65 H66 (tkE T L (enS 2 T L (runP 2 T L i.toNat))) P2.2.1 (by have tz := tk_b (T := T) eb.1 eb.2; omega) (fun  h75 f76 p77 => ?_))
                have k78 := rk_q (frm_s f76) k65
                have H79 := rfT_c f76 (fun a k q => by omega) H66
                have H80 := rfF_c f76 (fun a k q => by omega) F2
                have H81 := rfC_c f76 (fun a k q => by omega) X2
                have FR82 := frm_t FR67 (frm_m (S' := (fun a j => (a = m ∧ (j = 9 ∨ (11 ≤ j ∧ j ≤ 17) ∨ (20 ≤ j ∧ j ≤ 22))) ∨ a = m + 9 ∨ a = m + 10)) f76 (fun a k q => by omega))
                refine e_goto 2 dX12_lines_71 rfl ?_
                exact mEv_wk (by exact ⟨Or.inr rfl, Or.inr rfl, Or.inr rfl, Or.inl rfl, trivial⟩) (ih1 _ (by omega) v60 (i + 1) h75 rfl k78 H79 FR82 (by omega) (by rw [show (i + 1).toNat = i.toNat + 1 by omega]; exact ls_n w1 (by omega) OK (by omega) A1 (by omega) p77 H80 N1 H81 (fun z => absurd z (by omega))))
            · skip
              skip
              refine e_aload_n dX12_lines_58 rfl ?_
              refine e_callV [] dX12_lines_59 tm_12_155 rfl (Nat.le_of_ble_eq_true rfl) (rk_s k65) (Nat.le_of_ble_eq_true rfl) (Nat.le_refl _) (Nat.le_refl _) rfl (zp_X12_fails k65 P2 (by omega) (fun  h83 f84 p85 => ?_))
              have k86 := rk_q (frm_s f84) k65
              have H87 := rfT_c f84 (fun a k q => by omega) H66
              have H88 := rfP_c f84 (fun a k q => by omega) P2
              have H89 := rfF_c f84 (fun a k q => by omega) F2
              have H90 := rfC_c f84 (fun a k q => by omega) X2
              have FR91 := frm_t FR67 (frm_m (S' := (fun a j => (a = m ∧ (j = 9 ∨ (11 ≤ j ∧ j ≤ 17) ∨ (20 ≤ j ∧ j ≤ 22))) ∨ a = m + 9 ∨ a = m + 10)) f84 (fun a k q => by omega))
              skip
              refine e_istore_n (L' := [_, _, _, _]) dX12_lines_62 (Nat.le_of_ble_eq_true rfl) rfl ?_
              refine e_iload_n dX12_lines_63 rfl ?_
              refine z_ifb_eq 71 dX12_lines_64 rfl (fun c92 => ?_) (fun c92 => ?_)
              · skip
                refine e_goto 2 dX12_lines_71 rfl ?_
                exact mEv_wk (by exact ⟨Or.inr rfl, Or.inr rfl, Or.inr rfl, Or.inl rfl, trivial⟩) (ih1 _ (by omega) (bZ False) (i + 1) h83 rfl k86 H87 FR91 (by omega) (by rw [show (i + 1).toNat = i.toNat + 1 by omega]; exact Or.inr ⟨rfl, i.toNat, OK, by omega, fun a => absurd (lnA_N.mp a).2 (by omega), p85.trans (lnX_N A1).symm⟩))
              · exact c92.elim
  exact lp1 _ 1 0 h rfl hk HT FR0 (by omega) (Or.inl ⟨rfl, fun j hj => absurd hj (Nat.not_lt_zero _), HP, HF, nq_i, HC, fun z => absurd z (by omega)⟩)
