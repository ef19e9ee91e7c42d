/-! TEXT: the reference's call -/
theorem dX12_text_0 : decode cX12_text 0 = .ok (.aload_n 0, 1) := by decide +kernel
theorem dX12_text_1 : decode cX12_text 1 = .ok (.iconst 0, 1) := by decide +kernel
theorem dX12_text_2 : decode cX12_text 2 = .ok (.putfield 103, 3) := by decide +kernel
theorem dX12_text_5 : decode cX12_text 5 = .ok (.aload_n 0, 1) := by decide +kernel
theorem dX12_text_6 : decode cX12_text 6 = .ok (.aload_n 0, 1) := by decide +kernel
theorem dX12_text_7 : decode cX12_text 7 = .ok (.getfield 13, 3) := by decide +kernel
theorem dX12_text_10 : decode cX12_text 10 = .ok (.iconst 0, 1) := by decide +kernel
theorem dX12_text_11 : decode cX12_text 11 = .ok (.iaload, 1) := by decide +kernel
theorem dX12_text_12 : decode cX12_text 12 = .ok (.putfield 126, 3) := by decide +kernel
theorem dX12_text_15 : decode cX12_text 15 = .ok (.aload_n 0, 1) := by decide +kernel
theorem dX12_text_16 : decode cX12_text 16 = .ok (.getfield 13, 3) := by decide +kernel
theorem dX12_text_19 : decode cX12_text 19 = .ok (.iconst 0, 1) := by decide +kernel
theorem dX12_text_20 : decode cX12_text 20 = .ok (.iconst 0, 1) := by decide +kernel
theorem dX12_text_21 : decode cX12_text 21 = .ok (.iastore, 1) := by decide +kernel
theorem dX12_text_22 : decode cX12_text 22 = .ok (.aload_n 0, 1) := by decide +kernel
theorem dX12_text_23 : decode cX12_text 23 = .ok (.getfield 17, 3) := by decide +kernel
theorem dX12_text_26 : decode cX12_text 26 = .ok (.iconst 0, 1) := by decide +kernel
theorem dX12_text_27 : decode cX12_text 27 = .ok (.iconst 0, 1) := by decide +kernel
theorem dX12_text_28 : decode cX12_text 28 = .ok (.iastore, 1) := by decide +kernel
theorem dX12_text_29 : decode cX12_text 29 = .ok (.aload_n 0, 1) := by decide +kernel
theorem dX12_text_30 : decode cX12_text 30 = .ok (.getfield 20, 3) := by decide +kernel
theorem dX12_text_33 : decode cX12_text 33 = .ok (.iconst 0, 1) := by decide +kernel
theorem dX12_text_34 : decode cX12_text 34 = .ok (.iconst (-1), 1) := by decide +kernel
theorem dX12_text_35 : decode cX12_text 35 = .ok (.iastore, 1) := by decide +kernel
theorem dX12_text_36 : decode cX12_text 36 = .ok (.iload_n 1, 1) := by decide +kernel
theorem dX12_text_37 : decode cX12_text 37 = .ok (.iconst 0, 1) := by decide +kernel
theorem dX12_text_38 : decode cX12_text 38 = .ok (.iconst 2, 1) := by decide +kernel
theorem dX12_text_39 : decode cX12_text 39 = .ok (.invokestatic 115, 3) := by decide +kernel
theorem dX12_text_42 : decode cX12_text 42 = .ok (.ifCond .eq 30, 3) := by decide +kernel
theorem dX12_text_45 : decode cX12_text 45 = .ok (.iload_n 2, 1) := by decide +kernel
theorem dX12_text_46 : decode cX12_text 46 = .ok (.iconst (-1), 1) := by decide +kernel
theorem dX12_text_47 : decode cX12_text 47 = .ok (.if_icmp .ne 16, 3) := by decide +kernel
theorem dX12_text_50 : decode cX12_text 50 = .ok (.aload_n 0, 1) := by decide +kernel
theorem dX12_text_51 : decode cX12_text 51 = .ok (.getfield 23, 3) := by decide +kernel
theorem dX12_text_54 : decode cX12_text 54 = .ok (.iload_n 1, 1) := by decide +kernel
theorem dX12_text_55 : decode cX12_text 55 = .ok (.iaload, 1) := by decide +kernel
theorem dX12_text_56 : decode cX12_text 56 = .ok (.iconst 2, 1) := by decide +kernel
theorem dX12_text_57 : decode cX12_text 57 = .ok (.if_icmp .ne 18, 3) := by decide +kernel
theorem dX12_text_60 : decode cX12_text 60 = .ok (.goto 12, 3) := by decide +kernel
theorem dX12_text_63 : decode cX12_text 63 = .ok (.aload_n 0, 1) := by decide +kernel
theorem dX12_text_64 : decode cX12_text 64 = .ok (.iload_n 1, 1) := by decide +kernel
theorem dX12_text_65 : decode cX12_text 65 = .ok (.iload_n 2, 1) := by decide +kernel
theorem dX12_text_66 : decode cX12_text 66 = .ok (.invokevirtual 254, 3) := by decide +kernel
theorem dX12_text_69 : decode cX12_text 69 = .ok (.ifCond .ne 6, 3) := by decide +kernel
theorem dX12_text_72 : decode cX12_text 72 = .ok (.bipush (-2), 2) := by decide +kernel
theorem dX12_text_74 : decode cX12_text 74 = .ok (.ireturn, 1) := by decide +kernel
theorem dX12_text_75 : decode cX12_text 75 = .ok (.aload_n 0, 1) := by decide +kernel
theorem dX12_text_76 : decode cX12_text 76 = .ok (.iload_n 1, 1) := by decide +kernel
theorem dX12_text_77 : decode cX12_text 77 = .ok (.invokevirtual 257, 3) := by decide +kernel
theorem dX12_text_80 : decode cX12_text 80 = .ok (.ifCond .ne 5, 3) := by decide +kernel
theorem dX12_text_83 : decode cX12_text 83 = .ok (.iconst (-1), 1) := by decide +kernel
theorem dX12_text_84 : decode cX12_text 84 = .ok (.ireturn, 1) := by decide +kernel
theorem dX12_text_85 : decode cX12_text 85 = .ok (.iload_n 2, 1) := by decide +kernel
theorem dX12_text_86 : decode cX12_text 86 = .ok (.iconst (-1), 1) := by decide +kernel
theorem dX12_text_87 : decode cX12_text 87 = .ok (.if_icmp .ne 12, 3) := by decide +kernel
theorem dX12_text_90 : decode cX12_text 90 = .ok (.aload_n 0, 1) := by decide +kernel
theorem dX12_text_91 : decode cX12_text 91 = .ok (.getfield 23, 3) := by decide +kernel
theorem dX12_text_94 : decode cX12_text 94 = .ok (.iload_n 1, 1) := by decide +kernel
theorem dX12_text_95 : decode cX12_text 95 = .ok (.iaload, 1) := by decide +kernel
theorem dX12_text_96 : decode cX12_text 96 = .ok (.goto 4, 3) := by decide +kernel
theorem dX12_text_99 : decode cX12_text 99 = .ok (.iload_n 2, 1) := by decide +kernel
theorem dX12_text_100 : decode cX12_text 100 = .ok (.istore_n 3, 1) := by decide +kernel
theorem dX12_text_101 : decode cX12_text 101 = .ok (.aload_n 0, 1) := by decide +kernel
theorem dX12_text_102 : decode cX12_text 102 = .ok (.getfield 23, 3) := by decide +kernel
theorem dX12_text_105 : decode cX12_text 105 = .ok (.iload_n 1, 1) := by decide +kernel
theorem dX12_text_106 : decode cX12_text 106 = .ok (.dup2, 1) := by decide +kernel
theorem dX12_text_107 : decode cX12_text 107 = .ok (.iaload, 1) := by decide +kernel
theorem dX12_text_108 : decode cX12_text 108 = .ok (.iload_n 2, 1) := by decide +kernel
theorem dX12_text_109 : decode cX12_text 109 = .ok (.iconst (-1), 1) := by decide +kernel
theorem dX12_text_110 : decode cX12_text 110 = .ok (.if_icmp .ne 7, 3) := by decide +kernel
theorem dX12_text_113 : decode cX12_text 113 = .ok (.iconst 1, 1) := by decide +kernel
theorem dX12_text_114 : decode cX12_text 114 = .ok (.goto 4, 3) := by decide +kernel
theorem dX12_text_117 : decode cX12_text 117 = .ok (.iconst 0, 1) := by decide +kernel
theorem dX12_text_118 : decode cX12_text 118 = .ok (.iadd, 1) := by decide +kernel
theorem dX12_text_119 : decode cX12_text 119 = .ok (.iastore, 1) := by decide +kernel
theorem dX12_text_120 : decode cX12_text 120 = .ok (.iload_n 1, 1) := by decide +kernel
theorem dX12_text_121 : decode cX12_text 121 = .ok (.ifCond .ne 17, 3) := by decide +kernel
theorem dX12_text_124 : decode cX12_text 124 = .ok (.aload_n 0, 1) := by decide +kernel
theorem dX12_text_125 : decode cX12_text 125 = .ok (.aload_n 0, 1) := by decide +kernel
theorem dX12_text_126 : decode cX12_text 126 = .ok (.getfield 26, 3) := by decide +kernel
theorem dX12_text_129 : decode cX12_text 129 = .ok (.bipush 81, 2) := by decide +kernel
theorem dX12_text_131 : decode cX12_text 131 = .ok (.iload_n 3, 1) := by decide +kernel
theorem dX12_text_132 : decode cX12_text 132 = .ok (.invokevirtual 260, 3) := by decide +kernel
theorem dX12_text_135 : decode cX12_text 135 = .ok (.goto 33, 3) := by decide +kernel
theorem dX12_text_138 : decode cX12_text 138 = .ok (.iload_n 1, 1) := by decide +kernel
theorem dX12_text_139 : decode cX12_text 139 = .ok (.iconst 1, 1) := by decide +kernel
theorem dX12_text_140 : decode cX12_text 140 = .ok (.if_icmp .ne 17, 3) := by decide +kernel
theorem dX12_text_143 : decode cX12_text 143 = .ok (.aload_n 0, 1) := by decide +kernel
theorem dX12_text_144 : decode cX12_text 144 = .ok (.aload_n 0, 1) := by decide +kernel
theorem dX12_text_145 : decode cX12_text 145 = .ok (.getfield 29, 3) := by decide +kernel
theorem dX12_text_148 : decode cX12_text 148 = .ok (.bipush 121, 2) := by decide +kernel
theorem dX12_text_150 : decode cX12_text 150 = .ok (.iload_n 3, 1) := by decide +kernel
theorem dX12_text_151 : decode cX12_text 151 = .ok (.invokevirtual 260, 3) := by decide +kernel
theorem dX12_text_154 : decode cX12_text 154 = .ok (.goto 14, 3) := by decide +kernel
theorem dX12_text_157 : decode cX12_text 157 = .ok (.aload_n 0, 1) := by decide +kernel
theorem dX12_text_158 : decode cX12_text 158 = .ok (.aload_n 0, 1) := by decide +kernel
theorem dX12_text_159 : decode cX12_text 159 = .ok (.getfield 32, 3) := by decide +kernel
theorem dX12_text_162 : decode cX12_text 162 = .ok (.bipush 25, 2) := by decide +kernel
theorem dX12_text_164 : decode cX12_text 164 = .ok (.iload_n 3, 1) := by decide +kernel
theorem dX12_text_165 : decode cX12_text 165 = .ok (.invokevirtual 260, 3) := by decide +kernel
theorem dX12_text_168 : decode cX12_text 168 = .ok (.iload_n 3, 1) := by decide +kernel
theorem dX12_text_169 : decode cX12_text 169 = .ok (.ireturn, 1) := by decide +kernel
set_option maxRecDepth 20000 in
theorem tm_12_257 : tMet TB0 12 257 = some (0, M_X12_readText) := rfl
set_option maxRecDepth 20000 in
theorem tm_12_260 : tMet TB0 12 260 = some (0, M_X12_store) := rfl
/-! TEXT -/
def gdC (c b : Int) : Prop := (b = -1 ∧ c < 2) ∨ (0 ≤ b ∧ b < c)
def ixC (c b : Int) : Int := if b = -1 then c else b
def txR (σ : Sg) (s b : Int) (σ' : Sg) (r : Int) : Prop := (¬ ((0 ≤ s ∧ s ≤ 2) ∧ gdC (cn σ s) b) ∧ σ' = sgA σ 0 (-1) ∧ r = -2) ∨ (((0 ≤ s ∧ s ≤ 2) ∧ gdC (cn σ s) b) ∧ ((r = -1 ∧ ∃ n, okN s (sT σ) (cn σ 3) n ∧ tkK (sT σ) (cn σ 3) (runP s (sT σ) (cn σ 3) n) = 3 ∧ feF s (sT σ) (cn σ 3) n ≠ 0 ∧ σ' = sgA σ (feF s (sT σ) (cn σ 3) n) (feQ s (sT σ) (cn σ 3) n)) ∨ (r = -1 ∧ ∃ n, okN s (sT σ) (cn σ 3) n ∧ tkK (sT σ) (cn σ 3) (runP s (sT σ) (cn σ 3) n) ≠ 3 ∧ ¬ lnA s (sT σ) (cn σ 3) (runP s (sT σ) (cn σ 3) n) ∧ σ' = sgA σ 1 (lnX s (sT σ) (cn σ 3) (runP s (sT σ) (cn σ 3) n))) ∨ (r = ixC (cn σ s) b ∧ ∃ n, okN s (sT σ) (cn σ 3) n ∧ tkK (sT σ) (cn σ 3) (runP s (sT σ) (cn σ 3) n) = 3 ∧ feF s (sT σ) (cn σ 3) n = 0 ∧ σ' = keS (sgA σ 0 (-1)) s r (runC s (sT σ) (cn σ 3) n))))
theorem txR_u {σ σ1 σ2 : Sg} {s b r1 r2 : Int} (x : txR σ s b σ1 r1) (y : txR σ s b σ2 r2) : σ1 = σ2 ∧ r1 = r2 := by
  rcases x with ⟨x1, x2, x3⟩ | ⟨x1, x2⟩ <;> rcases y with ⟨y1, y2, y3⟩ | ⟨y1, y2⟩
  · exact ⟨x2.trans y2.symm, x3.trans y3.symm⟩
  · exact absurd y1 x1
  · exact absurd x1 y1
  · rcases x2 with ⟨xr, n, o1, o2, o3, o4⟩ | ⟨xr, n, o1, o2, o3, o4⟩ | ⟨xr, n, o1, o2, o3, o4⟩ <;> rcases y2 with ⟨yr, k, q1, q2, q3, q4⟩ | ⟨yr, k, q1, q2, q3, q4⟩ | ⟨yr, k, q1, q2, q3, q4⟩
    · have e := ok_u o1 q1 (Or.inl o2) (Or.inl q2)
      subst e
      exact ⟨o4.trans q4.symm, xr.trans yr.symm⟩
    · have e := ok_u o1 q1 (Or.inl o2) (Or.inr q3)
      subst e
      exact absurd o2 q2
    · have e := ok_u o1 q1 (Or.inl o2) (Or.inl q2)
      subst e
      exact absurd q3 o3
    · have e := ok_u o1 q1 (Or.inr o3) (Or.inl q2)
      subst e
      exact absurd q2 o2
    · have e := ok_u o1 q1 (Or.inr o3) (Or.inr q3)
      subst e
      exact ⟨o4.trans q4.symm, xr.trans yr.symm⟩
    · have e := ok_u o1 q1 (Or.inr o3) (Or.inl q2)
      subst e
      exact absurd q2 o2
    · have e := ok_u o1 q1 (Or.inl o2) (Or.inl q2)
      subst e
      exact absurd o3 q3
    · have e := ok_u o1 q1 (Or.inl o2) (Or.inr q3)
      subst e
      exact absurd o2 q2
    · have e := ok_u o1 q1 (Or.inl o2) (Or.inl q2)
      subst e
      have er := xr.trans yr.symm
      subst er
      exact ⟨o4.trans q4.symm, rfl⟩
theorem ix_b {c b : Int} (g : gdC c b) (c0 : 0 ≤ c ∧ c ≤ 2) : (0 ≤ ixC c b ∧ ixC c b < 2) ∧ ixC c b ≤ c ∧ (b = -1 → ixC c b = c) ∧ (b ≠ -1 → ixC c b = b) := by
  unfold gdC at g
  unfold ixC
  by_cases q : b = -1
  · rw [if_pos q]; omega
  · rw [if_neg q]; omega
theorem fe_b {s : Int} {T : Int → Int} {L : Int} {n : Nat} (h : nqB (runF s T L n) (runQ s T L n) (tkS T L (runP s T L n))) (l : 0 ≤ L ∧ L ≤ 600) : (0 ≤ feF s T L n ∧ feF s T L n ≤ 4) ∧ (-1 ≤ feQ s T L n ∧ feQ s T L n ≤ 600) := @nt_b _ (Classical.propDecidable _) 4 L (runF s T L n) (runQ s T L n) ⟨h.1, h.2.1⟩ ⟨by omega, by omega⟩
theorem rn_nq {s : Int} {T : Int → Int} {L : Int} (l : 0 ≤ L ∧ L ≤ 600) : ∀ n : Nat, okN s T L n → nqB (runF s T L n) (runQ s T L n) (tkS T L (runP s T L n)) := by
  intro n
  induction n with
  | zero => intro _; exact nq_i
  | succ n ih =>
    intro ok
    have q := okN_p ok
    have ob := okN_b l.1 n q.1
    have A := lnA_N.mp q.2.2
    have nq := ls_nq (C := runC s T L n) l.2 ob.1 ob.2.1 A.1 (ih q.1)
    have t := tk_b (T := T) nq.2.1 nq.2.2
    have t2 := tk_b (T := T) (L := L) (p := tkE T L (enS s T L (runP s T L n))) (by omega) (by omega)
    have k2 := A.2
    have ep : runP s T L (n + 1) = tkE T L (enS s T L (runP s T L n)) := lnE_N
    rw [ep]
    exact nqB_m nq.1 (by omega)
def rsE (h : mH) (y : Nat) (s : Int) (T : Int → Int) (L f q : Int) : Prop := (∃ n, okN s T L n ∧ tkK T L (runP s T L n) = 3 ∧ (f = feF s T L n ∧ q = feQ s T L n) ∧ ctC h y s (runC s T L n)) ∨ (f = 1 ∧ ∃ n, okN s T L n ∧ tkK T L (runP s T L n) ≠ 3 ∧ ¬ lnA s T L (runP s T L n) ∧ q = lnX s T L (runP s T L n))
theorem rs_x {h : mH} {y : Nat} {s : Int} {T : Int → Int} {L : Int} (H : rsO h y s T L) : ∃ f q, rdF h y f q ∧ rsE h y s T L f q := by
  rcases H with ⟨n, a, c, d, e⟩ | ⟨n, a, c, d, e⟩
  · exact ⟨_, _, d, Or.inl ⟨n, a, c, ⟨rfl, rfl⟩, e⟩⟩
  · exact ⟨_, _, e, Or.inr ⟨rfl, n, a, c, d, rfl⟩⟩
theorem rs_0 {h : mH} {y : Nat} {s : Int} {T : Int → Int} {L f q : Int} (H : rsE h y s T L f q) (z : f = 0) : ∃ n, okN s T L n ∧ tkK T L (runP s T L n) = 3 ∧ (feF s T L n = 0 ∧ q = -1) ∧ ctC h y s (runC s T L n) := by
  rcases H with ⟨n, a, c, d, e⟩ | ⟨d, _⟩
  · have e0 : feF s T L n = 0 := d.1.symm.trans z
    exact ⟨n, a, c, ⟨e0, d.2.trans (fe_0 e0).2.2⟩, e⟩
  · omega
theorem rs_1 {h : mH} {y : Nat} {σ : Sg} {s b f q : Int} (H : rsE h y s (sT σ) (cn σ 3) f q) (z : f ≠ 0) (g : (0 ≤ s ∧ s ≤ 2) ∧ gdC (cn σ s) b) : txR σ s b (sgA σ f q) (-1) := by
  rcases H with ⟨n, a, c, d, e⟩ | ⟨d, n, a, c, e, k⟩
  · exact Or.inr ⟨g, Or.inl ⟨rfl, n, a, c, by rw [← d.1]; exact z, by rw [← d.1, ← d.2]⟩⟩
  · exact Or.inr ⟨g, Or.inr (Or.inl ⟨rfl, n, a, c, e, by rw [d, k]⟩)⟩
theorem fe_w0 {T : Int → Int} {L : Int} {n : Nat} (o : okN 0 T L n) (h : feF 0 T L n = 0) : wfF (runC 0 T L n) := fe_F o h
theorem fe_w1 {T : Int → Int} {L : Int} {n : Nat} (o : okN 1 T L n) (h : feF 1 T L n = 0) : wfY (runC 1 T L n) := rn_wY n o (fe_0 h).1
theorem fe_w2 {T : Int → Int} {L : Int} {n : Nat} (o : okN 2 T L n) (h : feF 2 T L n = 0) : wfK (runC 2 T L n) := rn_wK n o (fe_0 h).1
set_option maxHeartbeats 4000000 in
theorem zp_X12_text_0 {ad : mA} {dd : Nat} {h : mH} {Q : mQ} {m : Nat} {σ : Sg} (hk : rk h m) (HR : refT h m 0 σ)  (b : Int) (b_r : -2147483648 ≤ b ∧ b < 2147483648)  (kq : ∀ v : Int, True → ∀ h1, frm (fun a j => a = m ∨ a = m + 9 ∨ a = m + 10 ∨ ((a = m + 2 ∨ a = m + 3 ∨ a = m + 4) ∧ j = 0) ∨ (a = m + 5 ∧ j < 3) ∨ (a = m + 6 ∧ j < 162) ∨ (a = m + 7 ∧ j < 242) ∨ (a = m + 8 ∧ j < 50)) h h1 → (∃ σ1, refT h1 m 0 σ1 ∧ txR σ 0 b σ1 v) → Q (some (.int (zI v))) h1) : mCal TB0 ad (dd + 9) M_X12_text [.ref m, .int (zI 0), .int (zI b)] h 0 0 Q := by
  refine ⟨Nat.le_of_ble_eq_true rfl, ?_⟩
  show mEv TB0 ad M_X12_text (dd + 9) (0, 0) (mCal TB0 ad (dd + 8)) (fun v h' z => z.1 = 0 ∧ Q v h') 0 [some (.ref m), some (.int (zI 0)), some (.int (zI b)), none] [] h (0, 0)
  have FR0 : frm (fun a j => a = m ∨ a = m + 9 ∨ a = m + 10 ∨ ((a = m + 2 ∨ a = m + 3 ∨ a = m + 4) ∧ j = 0) ∨ (a = m + 5 ∧ j < 3) ∨ (a = m + 6 ∧ j < 162) ∨ (a = m + 7 ∧ j < 242) ∨ (a = m + 8 ∧ j < 50)) h h := frm_0 h
  have w1 := wS_n (refT_w HR)
  refine e_aload_n dX12_text_0 rfl ?_
  refine z_iconst (0) dX12_text_1 rfl ?_
  refine z_put dX12_text_2 tf_12_103 (rk_s hk) rfl (Or.inl rfl) (fun h1 e2 => ?_)
  have f3 := frm_1 e2
  have k4 := rk_q (frm_s f3) hk
  have H5 := refT_c f3 (fun a k q1 q2 => by omega) HR
  have FR6 := frm_t FR0 (frm_m (S' := (fun a j => a = m ∨ a = m + 9 ∨ a = m + 10 ∨ ((a = m + 2 ∨ a = m + 3 ∨ a = m + 4) ∧ j = 0) ∨ (a = m + 5 ∧ j < 3) ∨ (a = m + 6 ∧ j < 162) ∨ (a = m + 7 ∧ j < 242) ∨ (a = m + 8 ∧ j < 50))) f3 (fun a k q => by omega))
  refine e_aload_n dX12_text_5 rfl ?_
  refine e_aload_n dX12_text_6 rfl ?_
  refine e_get (.ref (m + 2)) dX12_text_7 tf_12_13 (rk_s k4) (congrArg va_rf (rk_r2 k4)) ?_
  refine z_iconst (0) dX12_text_10 rfl ?_
  refine z_ild (cn σ 3) dX12_text_11 (rk_a2 k4) (by decide) (by omega) (by omega) (((frm_r f3 (by omega))).trans (refT_3 HR)) ?_
  refine z_put dX12_text_12 tf_12_126 (rk_s k4) rfl (Or.inl rfl) (fun h7 e8 => ?_)
  have f9 := frm_1 e8
  have k10 := rk_q (frm_s f9) k4
  have H11 := refT_c f9 (fun a k q1 q2 => by omega) H5
  have FR12 := frm_t FR6 (frm_m (S' := (fun a j => a = m ∨ a = m + 9 ∨ a = m + 10 ∨ ((a = m + 2 ∨ a = m + 3 ∨ a = m + 4) ∧ j = 0) ∨ (a = m + 5 ∧ j < 3) ∨ (a = m + 6 ∧ j < 162) ∨ (a = m + 7 ∧ j < 242) ∨ (a = m + 8 ∧ j < 50))) f9 (fun a k q => by omega))
  refine e_aload_n dX12_text_15 rfl ?_
  refine e_get (.ref (m + 2)) dX12_text_16 tf_12_13 (rk_s k10) (congrArg va_rf (rk_r2 k10)) ?_
  refine z_iconst (0) dX12_text_19 rfl ?_
  refine z_iconst (0) dX12_text_20 rfl ?_
  refine z_ist dX12_text_21 (rk_a2 k10) (by decide) (by omega) (by omega) (fun h13 e14 => ?_)
  have f15 := frm_1 e14
  have k16 := rk_q (frm_s f15) k10
  have FR17 := frm_t FR12 (frm_m (S' := (fun a j => a = m ∨ a = m + 9 ∨ a = m + 10 ∨ ((a = m + 2 ∨ a = m + 3 ∨ a = m + 4) ∧ j = 0) ∨ (a = m + 5 ∧ j < 3) ∨ (a = m + 6 ∧ j < 162) ∨ (a = m + 7 ∧ j < 242) ∨ (a = m + 8 ∧ j < 50))) f15 (fun a k q => by omega))
  refine e_aload_n dX12_text_22 rfl ?_
  refine e_get (.ref (m + 3)) dX12_text_23 tf_12_17 (rk_s k16) (congrArg va_rf (rk_r3 k16)) ?_
  refine z_iconst (0) dX12_text_26 rfl ?_
  refine z_iconst (0) dX12_text_27 rfl ?_
  refine z_ist dX12_text_28 (rk_a3 k16) (by decide) (by omega) (by omega) (fun h18 e19 => ?_)
  have f20 := frm_1 e19
  have k21 := rk_q (frm_s f20) k16
  have FR22 := frm_t FR17 (frm_m (S' := (fun a j => a = m ∨ a = m + 9 ∨ a = m + 10 ∨ ((a = m + 2 ∨ a = m + 3 ∨ a = m + 4) ∧ j = 0) ∨ (a = m + 5 ∧ j < 3) ∨ (a = m + 6 ∧ j < 162) ∨ (a = m + 7 ∧ j < 242) ∨ (a = m + 8 ∧ j < 50))) f20 (fun a k q => by omega))
  refine e_aload_n dX12_text_29 rfl ?_
  refine e_get (.ref (m + 4)) dX12_text_30 tf_12_20 (rk_s k21) (congrArg va_rf (rk_r4 k21)) ?_
  refine z_iconst (0) dX12_text_33 rfl ?_
  refine z_iconst (-1) dX12_text_34 rfl ?_
  refine z_ist dX12_text_35 (rk_a4 k21) (by decide) (by omega) (by omega) (fun h23 e24 => ?_)
  have f25 := frm_1 e24
  have k26 := rk_q (frm_s f25) k21
  have FR27 := frm_t FR22 (frm_m (S' := (fun a j => a = m ∨ a = m + 9 ∨ a = m + 10 ∨ ((a = m + 2 ∨ a = m + 3 ∨ a = m + 4) ∧ j = 0) ∨ (a = m + 5 ∧ j < 3) ∨ (a = m + 6 ∧ j < 162) ∨ (a = m + 7 ∧ j < 242) ∨ (a = m + 8 ∧ j < 50))) f25 (fun a k q => by omega))
  refine e_iload_n dX12_text_36 rfl ?_
  refine z_iconst (0) dX12_text_37 rfl ?_
  refine z_iconst (2) dX12_text_38 rfl ?_
  refine e_callS [.int _, .int _, .int _] dX12_text_39 tm_12_115 rfl (Nat.le_of_ble_eq_true rfl) (Nat.le_refl _) (Nat.le_refl _) rfl (zp_X12_in 0 ⟨by omega, by omega⟩ 0 ⟨by omega, by omega⟩ 2 ⟨by omega, by omega⟩ ?_)
  refine z_ifb_eq 72 dX12_text_42 rfl (fun c28 => ?_) (fun c28 => ?_)
  · exfalso; omega
  · skip
    refine e_iload_n dX12_text_45 rfl ?_
    refine z_iconst (-1) dX12_text_46 rfl ?_
    refine z_icmp_ne 63 dX12_text_47 rfl ⟨by omega, by omega⟩ ⟨by omega, by omega⟩ (fun c29 => ?_) (fun c29 => ?_)
    · skip
      refine e_aload_n dX12_text_63 rfl ?_
      refine e_iload_n dX12_text_64 rfl ?_
      refine e_iload_n dX12_text_65 rfl ?_
      have CQ : rI h23 (m + 5) 0 = cn σ 0 := (((frm_r f25 (by omega)).trans ((frm_r f20 (by omega)).trans ((frm_r f15 (by omega)).trans ((frm_r f9 (by omega)).trans (frm_r f3 (by omega))))))).trans (refT_cn HR (by omega) (by omega))
      refine e_callV [.int _, .int _] dX12_text_66 tm_12_254 rfl (Nat.le_of_ble_eq_true rfl) (rk_s k26) (Nat.le_of_ble_eq_true rfl) (Nat.le_refl _) (Nat.le_refl _) rfl (zp_X12_is k26 0 ⟨by omega, by omega⟩ b ⟨by omega, by omega⟩ (by omega) (by omega) (by omega) ?_)
      refine z_ifb_ne 75 dX12_text_69 rfl (fun c30 => ?_) (fun c30 => ?_)
      · skip
        have RT : rfT h23 m (sT σ) (cn σ 3) := ⟨by omega, (((frm_r f25 (by omega)).trans ((frm_r f20 (by omega)).trans (frm_r f15 (by omega)))).trans (rI_eq e8 ⟨by omega, by omega⟩)), fun k a z => (((frm_r f25 (by omega)).trans ((frm_r f20 (by omega)).trans ((frm_r f15 (by omega)).trans ((frm_r f9 (by omega)).trans (frm_r f3 (by omega))))))).trans (refT_t HR a (by omega)), fun k a z => wS_t (refT_w HR) a (by omega)⟩
        have GD : (0 ≤ (0 : Int) ∧ (0 : Int) ≤ 2) ∧ gdC (cn σ 0) b := ⟨by omega, by unfold gdC; omega⟩
        have ixb := ix_b GD.2 (by omega)
        refine e_aload_n dX12_text_75 rfl ?_
        refine e_iload_n dX12_text_76 rfl ?_
        refine e_callV [.int _] dX12_text_77 tm_12_257 rfl (Nat.le_of_ble_eq_true rfl) (rk_s k26) (Nat.le_of_ble_eq_true rfl) (Nat.le_refl _) (Nat.le_refl _) rfl (zp_X12_readText_0 k26 RT (fun v31 p32 h33 f34 p35 => ?_))
        have k36 := rk_q (frm_s f34) k26
        have H37 := rfT_c f34 (fun a k q => by omega) RT
        have FR38 := frm_t FR27 (frm_m (S' := (fun a j => a = m ∨ a = m + 9 ∨ a = m + 10 ∨ ((a = m + 2 ∨ a = m + 3 ∨ a = m + 4) ∧ j = 0) ∨ (a = m + 5 ∧ j < 3) ∨ (a = m + 6 ∧ j < 162) ∨ (a = m + 7 ∧ j < 242) ∨ (a = m + 8 ∧ j < 50))) f34 (fun a k q => by omega))
        skip
        refine z_if_ne 85 dX12_text_80 rfl ⟨by omega, by omega⟩ (fun c39 => ?_) (fun c39 => ?_)
        · skip
          obtain ⟨n, O1, O2, ⟨t1, t2⟩, C9, O5⟩ : ∃ n, okN 0 (sT σ) (cn σ 3) n ∧ tkK (sT σ) (cn σ 3) (runP 0 (sT σ) (cn σ 3) n) = 3 ∧ (rI h33 (m + 3) 0 = 0 ∧ rI h33 (m + 4) 0 = -1) ∧ rfC h33 m (runC 0 (sT σ) (cn σ 3) n) ∧ feF 0 (sT σ) (cn σ 3) n = 0 := by
            rcases p35 with ⟨n, o1, o2, o3, o4, o5⟩ | ⟨z, _⟩
            · have e0 : feF 0 (sT σ) (cn σ 3) n = 0 := by omega
              exact ⟨n, o1, o2, ⟨o3.1.trans e0, o3.2.trans (fe_0 e0).2.2⟩, o4, e0⟩
            · omega
          have RA : refT h33 m 0 (sgA σ 0 (-1)) := refT_a HR (fun a u v z n => ((frm_r f34 (by omega)).trans ((frm_r f25 (by omega)).trans ((frm_r f20 (by omega)).trans ((frm_r f15 (by omega)).trans ((frm_r f9 (by omega)).trans (frm_r f3 (by omega)))))))) (((frm_r f34 (by omega)).trans ((frm_r f25 (by omega)).trans (frm_r f20 (by omega)))).trans (rI_eq e14 ⟨by omega, by omega⟩)) t1 t2 (by omega) (by omega)
          refine e_iload_n dX12_text_85 rfl ?_
          refine z_iconst (-1) dX12_text_86 rfl ?_
          refine z_icmp_ne 99 dX12_text_87 rfl ⟨by omega, by omega⟩ ⟨by omega, by omega⟩ (fun c40 => ?_) (fun c40 => ?_)
          · skip
            refine e_iload_n dX12_text_99 rfl ?_
            refine e_istore_n (L' := [_, _, _, _]) dX12_text_100 (Nat.le_of_ble_eq_true rfl) rfl ?_
            refine e_aload_n dX12_text_101 rfl ?_
            refine e_get (.ref (m + 5)) dX12_text_102 tf_12_23 (rk_s k36) (congrArg va_rf (rk_r5 k36)) ?_
            refine e_iload_n dX12_text_105 rfl ?_
            refine e_dup2 dX12_text_106 rfl rfl ?_
            refine z_ild (cn σ 0) dX12_text_107 (rk_a5 k36) (by decide) (by omega) (by omega) ((((frm_r f34 (by omega)).trans ((frm_r f25 (by omega)).trans ((frm_r f20 (by omega)).trans ((frm_r f15 (by omega)).trans ((frm_r f9 (by omega)).trans (frm_r f3 (by omega)))))))).trans (refT_cn HR (by omega) (by omega))) ?_
            refine e_iload_n dX12_text_108 rfl ?_
            refine z_iconst (-1) dX12_text_109 rfl ?_
            refine z_icmp_ne 117 dX12_text_110 rfl ⟨by omega, by omega⟩ ⟨by omega, by omega⟩ (fun c41 => ?_) (fun c41 => ?_)
            · skip
              refine z_iconst (0) dX12_text_117 rfl ?_
              refine z_iadd dX12_text_118 ?_
              refine z_ist dX12_text_119 (rk_a5 k36) (by decide) (by omega) (by omega) (fun h42 e43 => ?_)
              have f44 := frm_1 e43
              have k45 := rk_q (frm_s f44) k36
              have H46 := rfT_c f44 (fun a k q => by omega) H37
              have H47 := rfC_c f44 (fun a k q => by omega) C9
              have FR48 := frm_t FR38 (frm_m (S' := (fun a j => a = m ∨ a = m + 9 ∨ a = m + 10 ∨ ((a = m + 2 ∨ a = m + 3 ∨ a = m + 4) ∧ j = 0) ∨ (a = m + 5 ∧ j < 3) ∨ (a = m + 6 ∧ j < 162) ∨ (a = m + 7 ∧ j < 242) ∨ (a = m + 8 ∧ j < 50))) f44 (fun a k q => by omega))
              refine e_iload_n dX12_text_120 rfl ?_
              refine z_if_ne 138 dX12_text_121 rfl ⟨by omega, by omega⟩ (fun c49 => ?_) (fun c49 => ?_)
              · exfalso; omega
              · skip
                refine e_aload_n dX12_text_124 rfl ?_
                refine e_aload_n dX12_text_125 rfl ?_
                refine e_get (.ref (m + 6)) dX12_text_126 tf_12_26 (rk_s k45) (congrArg va_rf (rk_r6 k45)) ?_
                refine z_bipush (81) dX12_text_129 rfl ?_
                refine e_iload_n dX12_text_131 rfl ?_
                refine e_callV [.ref _, .int _, .int _] dX12_text_132 tm_12_260 rfl (Nat.le_of_ble_eq_true rfl) (rk_s k45) (Nat.le_of_ble_eq_true rfl) (Nat.le_refl _) (Nat.le_refl _) rfl (zp_X12_store_0 k45 H47 b ⟨by omega, by omega⟩ (by omega) (fun  h50 f51 p52 => ?_))
                have k53 := rk_q (frm_s f51) k45
                have H54 := rfT_c f51 (fun a k q => by omega) H46
                have H55 := rfC_c f51 (fun a k q => by omega) H47
                have FR56 := frm_t FR48 (frm_m (S' := (fun a j => a = m ∨ a = m + 9 ∨ a = m + 10 ∨ ((a = m + 2 ∨ a = m + 3 ∨ a = m + 4) ∧ j = 0) ∨ (a = m + 5 ∧ j < 3) ∨ (a = m + 6 ∧ j < 162) ∨ (a = m + 7 ∧ j < 242) ∨ (a = m + 8 ∧ j < 50))) f51 (fun a k q => by omega))
                skip
                refine e_goto 168 dX12_text_135 rfl ?_
                refine e_iload_n dX12_text_168 rfl ?_
                refine z_iret dX12_text_169 rfl ⟨rfl, ?_⟩
                have EX : b = ixC (cn σ 0) b := by omega
                have FA : frm (fun a k => (a = m + 6 ∧ 81 * ixC (cn σ 0) b ≤ (k : Int) ∧ (k : Int) < 81 * ixC (cn σ 0) b + 81) ∨ (a = m + 5 ∧ k = 0)) h33 h50 := frm_t (frm_m f44 (fun a k q => by omega)) (frm_m f51 (fun a k q => by omega))
                have W9 := fe_w0 O1 O5
                have ST := p52
                rw [EX] at ST
                have e5 : rI h50 (m + 5) 0 = max (cn (sgA σ 0 (-1)) 0) (ixC (cn σ 0) b + 1) := by rw [sgA_cn (by omega)]; exact (((frm_r f51 (by omega)).trans (rI_eq e43 ⟨by omega, by omega⟩))).trans (by omega)
                exact kq _ trivial _ FR56 ⟨_, refT_k0 RA FA ST e5 W9 ixb.1 (by rw [sgA_cn (by omega)]; exact ixb.2.1), Or.inr ⟨GD, Or.inr (Or.inr ⟨EX, n, O1, O2, O5, by rw [keS_0, ← EX]⟩)⟩⟩
            · skip
              refine z_iconst (1) dX12_text_113 rfl ?_
              refine e_goto 118 dX12_text_114 rfl ?_
              refine z_iadd dX12_text_118 ?_
              refine z_ist dX12_text_119 (rk_a5 k36) (by decide) (by omega) (by omega) (fun h57 e58 => ?_)
              have f59 := frm_1 e58
              have k60 := rk_q (frm_s f59) k36
              have H61 := rfT_c f59 (fun a k q => by omega) H37
              have H62 := rfC_c f59 (fun a k q => by omega) C9
              have FR63 := frm_t FR38 (frm_m (S' := (fun a j => a = m ∨ a = m + 9 ∨ a = m + 10 ∨ ((a = m + 2 ∨ a = m + 3 ∨ a = m + 4) ∧ j = 0) ∨ (a = m + 5 ∧ j < 3) ∨ (a = m + 6 ∧ j < 162) ∨ (a = m + 7 ∧ j < 242) ∨ (a = m + 8 ∧ j < 50))) f59 (fun a k q => by omega))
              refine e_iload_n dX12_text_120 rfl ?_
              refine z_if_ne 138 dX12_text_121 rfl ⟨by omega, by omega⟩ (fun c64 => ?_) (fun c64 => ?_)
              · exfalso; omega
              · skip
                refine e_aload_n dX12_text_124 rfl ?_
                refine e_aload_n dX12_text_125 rfl ?_
                refine e_get (.ref (m + 6)) dX12_text_126 tf_12_26 (rk_s k60) (congrArg va_rf (rk_r6 k60)) ?_
                refine z_bipush (81) dX12_text_129 rfl ?_
                refine e_iload_n dX12_text_131 rfl ?_
                refine e_callV [.ref _, .int _, .int _] dX12_text_132 tm_12_260 rfl (Nat.le_of_ble_eq_true rfl) (rk_s k60) (Nat.le_of_ble_eq_true rfl) (Nat.le_refl _) (Nat.le_refl _) rfl (zp_X12_store_0 k60 H62 b ⟨by omega, by omega⟩ (by omega) (fun  h65 f66 p67 => ?_))
                have k68 := rk_q (frm_s f66) k60
                have H69 := rfT_c f66 (fun a k q => by omega) H61
                have H70 := rfC_c f66 (fun a k q => by omega) H62
                have FR71 := frm_t FR63 (frm_m (S' := (fun a j => a = m ∨ a = m + 9 ∨ a = m + 10 ∨ ((a = m + 2 ∨ a = m + 3 ∨ a = m + 4) ∧ j = 0) ∨ (a = m + 5 ∧ j < 3) ∨ (a = m + 6 ∧ j < 162) ∨ (a = m + 7 ∧ j < 242) ∨ (a = m + 8 ∧ j < 50))) f66 (fun a k q => by omega))
                skip
                refine e_goto 168 dX12_text_135 rfl ?_
                refine e_iload_n dX12_text_168 rfl ?_
                refine z_iret dX12_text_169 rfl ⟨rfl, ?_⟩
                have EX : b = ixC (cn σ 0) b := by omega
                have FA : frm (fun a k => (a = m + 6 ∧ 81 * ixC (cn σ 0) b ≤ (k : Int) ∧ (k : Int) < 81 * ixC (cn σ 0) b + 81) ∨ (a = m + 5 ∧ k = 0)) h33 h65 := frm_t (frm_m f59 (fun a k q => by omega)) (frm_m f66 (fun a k q => by omega))
                have W9 := fe_w0 O1 O5
                have ST := p67
                rw [EX] at ST
                have e5 : rI h65 (m + 5) 0 = max (cn (sgA σ 0 (-1)) 0) (ixC (cn σ 0) b + 1) := by rw [sgA_cn (by omega)]; exact (((frm_r f66 (by omega)).trans (rI_eq e58 ⟨by omega, by omega⟩))).trans (by omega)
                exact kq _ trivial _ FR71 ⟨_, refT_k0 RA FA ST e5 W9 ixb.1 (by rw [sgA_cn (by omega)]; exact ixb.2.1), Or.inr ⟨GD, Or.inr (Or.inr ⟨EX, n, O1, O2, O5, by rw [keS_0, ← EX]⟩)⟩⟩
          · skip
            refine e_aload_n dX12_text_90 rfl ?_
            refine e_get (.ref (m + 5)) dX12_text_91 tf_12_23 (rk_s k36) (congrArg va_rf (rk_r5 k36)) ?_
            refine e_iload_n dX12_text_94 rfl ?_
            refine z_ild (cn σ 0) dX12_text_95 (rk_a5 k36) (by decide) (by omega) (by omega) ((((frm_r f34 (by omega)).trans ((frm_r f25 (by omega)).trans ((frm_r f20 (by omega)).trans ((frm_r f15 (by omega)).trans ((frm_r f9 (by omega)).trans (frm_r f3 (by omega)))))))).trans (refT_cn HR (by omega) (by omega))) ?_
            refine e_goto 100 dX12_text_96 rfl ?_
            refine e_istore_n (L' := [_, _, _, _]) dX12_text_100 (Nat.le_of_ble_eq_true rfl) rfl ?_
            refine e_aload_n dX12_text_101 rfl ?_
            refine e_get (.ref (m + 5)) dX12_text_102 tf_12_23 (rk_s k36) (congrArg va_rf (rk_r5 k36)) ?_
            refine e_iload_n dX12_text_105 rfl ?_
            refine e_dup2 dX12_text_106 rfl rfl ?_
            refine z_ild (cn σ 0) dX12_text_107 (rk_a5 k36) (by decide) (by omega) (by omega) ((((frm_r f34 (by omega)).trans ((frm_r f25 (by omega)).trans ((frm_r f20 (by omega)).trans ((frm_r f15 (by omega)).trans ((frm_r f9 (by omega)).trans (frm_r f3 (by omega)))))))).trans (refT_cn HR (by omega) (by omega))) ?_
            refine e_iload_n dX12_text_108 rfl ?_
            refine z_iconst (-1) dX12_text_109 rfl ?_
            refine z_icmp_ne 117 dX12_text_110 rfl ⟨by omega, by omega⟩ ⟨by omega, by omega⟩ (fun c72 => ?_) (fun c72 => ?_)
            · skip
              refine z_iconst (0) dX12_text_117 rfl ?_
              refine z_iadd dX12_text_118 ?_
              refine z_ist dX12_text_119 (rk_a5 k36) (by decide) (by omega) (by omega) (fun h73 e74 => ?_)
              have f75 := frm_1 e74
              have k76 := rk_q (frm_s f75) k36
              have H77 := rfT_c f75 (fun a k q => by omega) H37
              have H78 := rfC_c f75 (fun a k q => by omega) C9
              have FR79 := frm_t FR38 (frm_m (S' := (fun a j => a = m ∨ a = m + 9 ∨ a = m + 10 ∨ ((a = m + 2 ∨ a = m + 3 ∨ a = m + 4) ∧ j = 0) ∨ (a = m + 5 ∧ j < 3) ∨ (a = m + 6 ∧ j < 162) ∨ (a = m + 7 ∧ j < 242) ∨ (a = m + 8 ∧ j < 50))) f75 (fun a k q => by omega))
              refine e_iload_n dX12_text_120 rfl ?_
              refine z_if_ne 138 dX12_text_121 rfl ⟨by omega, by omega⟩ (fun c80 => ?_) (fun c80 => ?_)
              · exfalso; omega
              · skip
                refine e_aload_n dX12_text_124 rfl ?_
                refine e_aload_n dX12_text_125 rfl ?_
                refine e_get (.ref (m + 6)) dX12_text_126 tf_12_26 (rk_s k76) (congrArg va_rf (rk_r6 k76)) ?_
                refine z_bipush (81) dX12_text_129 rfl ?_
                refine e_iload_n dX12_text_131 rfl ?_
                refine e_callV [.ref _, .int _, .int _] dX12_text_132 tm_12_260 rfl (Nat.le_of_ble_eq_true rfl) (rk_s k76) (Nat.le_of_ble_eq_true rfl) (Nat.le_refl _) (Nat.le_refl _) rfl (zp_X12_store_0 k76 H78 (cn σ 0) ⟨by omega, by omega⟩ (by omega) (fun  h81 f82 p83 => ?_))
                have k84 := rk_q (frm_s f82) k76
                have H85 := rfT_c f82 (fun a k q => by omega) H77
                have H86 := rfC_c f82 (fun a k q => by omega) H78
                have FR87 := frm_t FR79 (frm_m (S' := (fun a j => a = m ∨ a = m + 9 ∨ a = m + 10 ∨ ((a = m + 2 ∨ a = m + 3 ∨ a = m + 4) ∧ j = 0) ∨ (a = m + 5 ∧ j < 3) ∨ (a = m + 6 ∧ j < 162) ∨ (a = m + 7 ∧ j < 242) ∨ (a = m + 8 ∧ j < 50))) f82 (fun a k q => by omega))
                skip
                refine e_goto 168 dX12_text_135 rfl ?_
                refine e_iload_n dX12_text_168 rfl ?_
                refine z_iret dX12_text_169 rfl ⟨rfl, ?_⟩
                have EX : (cn σ 0) = ixC (cn σ 0) b := by omega
                have FA : frm (fun a k => (a = m + 6 ∧ 81 * ixC (cn σ 0) b ≤ (k : Int) ∧ (k : Int) < 81 * ixC (cn σ 0) b + 81) ∨ (a = m + 5 ∧ k = 0)) h33 h81 := frm_t (frm_m f75 (fun a k q => by omega)) (frm_m f82 (fun a k q => by omega))
                have W9 := fe_w0 O1 O5
                have ST := p83
                rw [EX] at ST
                have e5 : rI h81 (m + 5) 0 = max (cn (sgA σ 0 (-1)) 0) (ixC (cn σ 0) b + 1) := by rw [sgA_cn (by omega)]; exact (((frm_r f82 (by omega)).trans (rI_eq e74 ⟨by omega, by omega⟩))).trans (by omega)
                exact kq _ trivial _ FR87 ⟨_, refT_k0 RA FA ST e5 W9 ixb.1 (by rw [sgA_cn (by omega)]; exact ixb.2.1), Or.inr ⟨GD, Or.inr (Or.inr ⟨EX, n, O1, O2, O5, by rw [keS_0, ← EX]⟩)⟩⟩
            · skip
              refine z_iconst (1) dX12_text_113 rfl ?_
              refine e_goto 118 dX12_text_114 rfl ?_
              refine z_iadd dX12_text_118 ?_
              refine z_ist dX12_text_119 (rk_a5 k36) (by decide) (by omega) (by omega) (fun h88 e89 => ?_)
              have f90 := frm_1 e89
              have k91 := rk_q (frm_s f90) k36
              have H92 := rfT_c f90 (fun a k q => by omega) H37
              have H93 := rfC_c f90 (fun a k q => by omega) C9
              have FR94 := frm_t FR38 (frm_m (S' := (fun a j => a = m ∨ a = m + 9 ∨ a = m + 10 ∨ ((a = m + 2 ∨ a = m + 3 ∨ a = m + 4) ∧ j = 0) ∨ (a = m + 5 ∧ j < 3) ∨ (a = m + 6 ∧ j < 162) ∨ (a = m + 7 ∧ j < 242) ∨ (a = m + 8 ∧ j < 50))) f90 (fun a k q => by omega))
              refine e_iload_n dX12_text_120 rfl ?_
              refine z_if_ne 138 dX12_text_121 rfl ⟨by omega, by omega⟩ (fun c95 => ?_) (fun c95 => ?_)
              · exfalso; omega
              · skip
                refine e_aload_n dX12_text_124 rfl ?_
                refine e_aload_n dX12_text_125 rfl ?_
                refine e_get (.ref (m + 6)) dX12_text_126 tf_12_26 (rk_s k91) (congrArg va_rf (rk_r6 k91)) ?_
                refine z_bipush (81) dX12_text_129 rfl ?_
                refine e_iload_n dX12_text_131 rfl ?_
                refine e_callV [.ref _, .int _, .int _] dX12_text_132 tm_12_260 rfl (Nat.le_of_ble_eq_true rfl) (rk_s k91) (Nat.le_of_ble_eq_true rfl) (Nat.le_refl _) (Nat.le_refl _) rfl (zp_X12_store_0 k91 H93 (cn σ 0) ⟨by omega, by omega⟩ (by omega) (fun  h96 f97 p98 => ?_))
                have k99 := rk_q (frm_s f97) k91
                have H100 := rfT_c f97 (fun a k q => by omega) H92
                have H101 := rfC_c f97 (fun a k q => by omega) H93
                have FR102 := frm_t FR94 (frm_m (S' := (fun a j => a = m ∨ a = m + 9 ∨ a = m + 10 ∨ ((a = m + 2 ∨ a = m + 3 ∨ a = m + 4) ∧ j = 0) ∨ (a = m + 5 ∧ j < 3) ∨ (a = m + 6 ∧ j < 162) ∨ (a = m + 7 ∧ j < 242) ∨ (a = m + 8 ∧ j < 50))) f97 (fun a k q => by omega))
                skip
                refine e_goto 168 dX12_text_135 rfl ?_
                refine e_iload_n dX12_text_168 rfl ?_
                refine z_iret dX12_text_169 rfl ⟨rfl, ?_⟩
                have EX : (cn σ 0) = ixC (cn σ 0) b := by omega
                have FA : frm (fun a k => (a = m + 6 ∧ 81 * ixC (cn σ 0) b ≤ (k : Int) ∧ (k : Int) < 81 * ixC (cn σ 0) b + 81) ∨ (a = m + 5 ∧ k = 0)) h33 h96 := frm_t (frm_m f90 (fun a k q => by omega)) (frm_m f97 (fun a k q => by omega))
                have W9 := fe_w0 O1 O5
                have ST := p98
                rw [EX] at ST
                have e5 : rI h96 (m + 5) 0 = max (cn (sgA σ 0 (-1)) 0) (ixC (cn σ 0) b + 1) := by rw [sgA_cn (by omega)]; exact (((frm_r f97 (by omega)).trans (rI_eq e89 ⟨by omega, by omega⟩))).trans (by omega)
                exact kq _ trivial _ FR102 ⟨_, refT_k0 RA FA ST e5 W9 ixb.1 (by rw [sgA_cn (by omega)]; exact ixb.2.1), Or.inr ⟨GD, Or.inr (Or.inr ⟨EX, n, O1, O2, O5, by rw [keS_0, ← EX]⟩)⟩⟩
        · skip
          skip
          refine z_iconst (-1) dX12_text_83 rfl ?_
          refine z_iret dX12_text_84 rfl ⟨rfl, ?_⟩
          rcases p35 with ⟨n, o1, o2, t1, o4, o5⟩ | ⟨z, n, o1, o2, o3, t1, t2⟩
          · have fb := fe_b (rn_nq (by omega) n o1) (by omega)
            exact kq _ trivial _ FR38 ⟨_, refT_a HR (fun a u v z n => ((frm_r f34 (by omega)).trans ((frm_r f25 (by omega)).trans ((frm_r f20 (by omega)).trans ((frm_r f15 (by omega)).trans ((frm_r f9 (by omega)).trans (frm_r f3 (by omega)))))))) (((frm_r f34 (by omega)).trans ((frm_r f25 (by omega)).trans (frm_r f20 (by omega)))).trans (rI_eq e14 ⟨by omega, by omega⟩)) t1.1 t1.2 fb.1 fb.2, Or.inr ⟨GD, Or.inl ⟨rfl, n, o1, o2, by omega, rfl⟩⟩⟩
          · have ob := okN_b (by omega) n o1
            have lb := lx_b (s := 0) (T := sT σ) (L := cn σ 3) ⟨ob.1, ob.2.1⟩
            exact kq _ trivial _ FR38 ⟨_, refT_a HR (fun a u v z n => ((frm_r f34 (by omega)).trans ((frm_r f25 (by omega)).trans ((frm_r f20 (by omega)).trans ((frm_r f15 (by omega)).trans ((frm_r f9 (by omega)).trans (frm_r f3 (by omega)))))))) (((frm_r f34 (by omega)).trans ((frm_r f25 (by omega)).trans (frm_r f20 (by omega)))).trans (rI_eq e14 ⟨by omega, by omega⟩)) t1 t2 ⟨by omega, by omega⟩ ⟨by omega, by omega⟩, Or.inr ⟨GD, Or.inr (Or.inl ⟨rfl, n, o1, o2, o3, rfl⟩)⟩⟩
      · skip
        refine z_bipush (-2) dX12_text_72 rfl ?_
        refine z_iret dX12_text_74 rfl ⟨rfl, ?_⟩
        exact kq _ trivial _ FR27 ⟨_, refT_a HR (fun a u v z n => ((frm_r f25 (by omega)).trans ((frm_r f20 (by omega)).trans ((frm_r f15 (by omega)).trans ((frm_r f9 (by omega)).trans (frm_r f3 (by omega))))))) (((frm_r f25 (by omega)).trans (frm_r f20 (by omega))).trans (rI_eq e14 ⟨by omega, by omega⟩)) ((frm_r f25 (by omega)).trans (rI_eq e19 ⟨by omega, by omega⟩)) (rI_eq e24 ⟨by omega, by omega⟩) (by omega) (by omega), Or.inl ⟨fun z => by have z2 := z.2; unfold gdC at z2; omega, rfl, rfl⟩⟩
    · skip
      refine e_aload_n dX12_text_50 rfl ?_
      refine e_get (.ref (m + 5)) dX12_text_51 tf_12_23 (rk_s k26) (congrArg va_rf (rk_r5 k26)) ?_
      refine e_iload_n dX12_text_54 rfl ?_
      refine z_ild (cn σ 0) dX12_text_55 (rk_a5 k26) (by decide) (by omega) (by omega) ((((frm_r f25 (by omega)).trans ((frm_r f20 (by omega)).trans ((frm_r f15 (by omega)).trans ((frm_r f9 (by omega)).trans (frm_r f3 (by omega))))))).trans (refT_cn HR (by omega) (by omega))) ?_
      refine z_iconst (2) dX12_text_56 rfl ?_
      refine z_icmp_ne 75 dX12_text_57 rfl ⟨by omega, by omega⟩ ⟨by omega, by omega⟩ (fun c103 => ?_) (fun c103 => ?_)
      · skip
        have RT : rfT h23 m (sT σ) (cn σ 3) := ⟨by omega, (((frm_r f25 (by omega)).trans ((frm_r f20 (by omega)).trans (frm_r f15 (by omega)))).trans (rI_eq e8 ⟨by omega, by omega⟩)), fun k a z => (((frm_r f25 (by omega)).trans ((frm_r f20 (by omega)).trans ((frm_r f15 (by omega)).trans ((frm_r f9 (by omega)).trans (frm_r f3 (by omega))))))).trans (refT_t HR a (by omega)), fun k a z => wS_t (refT_w HR) a (by omega)⟩
        have GD : (0 ≤ (0 : Int) ∧ (0 : Int) ≤ 2) ∧ gdC (cn σ 0) b := ⟨by omega, by unfold gdC; omega⟩
        have ixb := ix_b GD.2 (by omega)
        refine e_aload_n dX12_text_75 rfl ?_
        refine e_iload_n dX12_text_76 rfl ?_
        refine e_callV [.int _] dX12_text_77 tm_12_257 rfl (Nat.le_of_ble_eq_true rfl) (rk_s k26) (Nat.le_of_ble_eq_true rfl) (Nat.le_refl _) (Nat.le_refl _) rfl (zp_X12_readText_0 k26 RT (fun v104 p105 h106 f107 p108 => ?_))
        have k109 := rk_q (frm_s f107) k26
        have H110 := rfT_c f107 (fun a k q => by omega) RT
        have FR111 := frm_t FR27 (frm_m (S' := (fun a j => a = m ∨ a = m + 9 ∨ a = m + 10 ∨ ((a = m + 2 ∨ a = m + 3 ∨ a = m + 4) ∧ j = 0) ∨ (a = m + 5 ∧ j < 3) ∨ (a = m + 6 ∧ j < 162) ∨ (a = m + 7 ∧ j < 242) ∨ (a = m + 8 ∧ j < 50))) f107 (fun a k q => by omega))
        skip
        refine z_if_ne 85 dX12_text_80 rfl ⟨by omega, by omega⟩ (fun c112 => ?_) (fun c112 => ?_)
        · skip
          obtain ⟨n, O1, O2, ⟨t1, t2⟩, C9, O5⟩ : ∃ n, okN 0 (sT σ) (cn σ 3) n ∧ tkK (sT σ) (cn σ 3) (runP 0 (sT σ) (cn σ 3) n) = 3 ∧ (rI h106 (m + 3) 0 = 0 ∧ rI h106 (m + 4) 0 = -1) ∧ rfC h106 m (runC 0 (sT σ) (cn σ 3) n) ∧ feF 0 (sT σ) (cn σ 3) n = 0 := by
            rcases p108 with ⟨n, o1, o2, o3, o4, o5⟩ | ⟨z, _⟩
            · have e0 : feF 0 (sT σ) (cn σ 3) n = 0 := by omega
              exact ⟨n, o1, o2, ⟨o3.1.trans e0, o3.2.trans (fe_0 e0).2.2⟩, o4, e0⟩
            · omega
          have RA : refT h106 m 0 (sgA σ 0 (-1)) := refT_a HR (fun a u v z n => ((frm_r f107 (by omega)).trans ((frm_r f25 (by omega)).trans ((frm_r f20 (by omega)).trans ((frm_r f15 (by omega)).trans ((frm_r f9 (by omega)).trans (frm_r f3 (by omega)))))))) (((frm_r f107 (by omega)).trans ((frm_r f25 (by omega)).trans (frm_r f20 (by omega)))).trans (rI_eq e14 ⟨by omega, by omega⟩)) t1 t2 (by omega) (by omega)
          refine e_iload_n dX12_text_85 rfl ?_
          refine z_iconst (-1) dX12_text_86 rfl ?_
          refine z_icmp_ne 99 dX12_text_87 rfl ⟨by omega, by omega⟩ ⟨by omega, by omega⟩ (fun c113 => ?_) (fun c113 => ?_)
          · skip
            refine e_iload_n dX12_text_99 rfl ?_
            refine e_istore_n (L' := [_, _, _, _]) dX12_text_100 (Nat.le_of_ble_eq_true rfl) rfl ?_
            refine e_aload_n dX12_text_101 rfl ?_
            refine e_get (.ref (m + 5)) dX12_text_102 tf_12_23 (rk_s k109) (congrArg va_rf (rk_r5 k109)) ?_
            refine e_iload_n dX12_text_105 rfl ?_
            refine e_dup2 dX12_text_106 rfl rfl ?_
            refine z_ild (cn σ 0) dX12_text_107 (rk_a5 k109) (by decide) (by omega) (by omega) ((((frm_r f107 (by omega)).trans ((frm_r f25 (by omega)).trans ((frm_r f20 (by omega)).trans ((frm_r f15 (by omega)).trans ((frm_r f9 (by omega)).trans (frm_r f3 (by omega)))))))).trans (refT_cn HR (by omega) (by omega))) ?_
            refine e_iload_n dX12_text_108 rfl ?_
            refine z_iconst (-1) dX12_text_109 rfl ?_
            refine z_icmp_ne 117 dX12_text_110 rfl ⟨by omega, by omega⟩ ⟨by omega, by omega⟩ (fun c114 => ?_) (fun c114 => ?_)
            · skip
              refine z_iconst (0) dX12_text_117 rfl ?_
              refine z_iadd dX12_text_118 ?_
              refine z_ist dX12_text_119 (rk_a5 k109) (by decide) (by omega) (by omega) (fun h115 e116 => ?_)
              have f117 := frm_1 e116
              have k118 := rk_q (frm_s f117) k109
              have H119 := rfT_c f117 (fun a k q => by omega) H110
              have H120 := rfC_c f117 (fun a k q => by omega) C9
              have FR121 := frm_t FR111 (frm_m (S' := (fun a j => a = m ∨ a = m + 9 ∨ a = m + 10 ∨ ((a = m + 2 ∨ a = m + 3 ∨ a = m + 4) ∧ j = 0) ∨ (a = m + 5 ∧ j < 3) ∨ (a = m + 6 ∧ j < 162) ∨ (a = m + 7 ∧ j < 242) ∨ (a = m + 8 ∧ j < 50))) f117 (fun a k q => by omega))
              refine e_iload_n dX12_text_120 rfl ?_
              refine z_if_ne 138 dX12_text_121 rfl ⟨by omega, by omega⟩ (fun c122 => ?_) (fun c122 => ?_)
              · exfalso; omega
              · skip
                refine e_aload_n dX12_text_124 rfl ?_
                refine e_aload_n dX12_text_125 rfl ?_
                refine e_get (.ref (m + 6)) dX12_text_126 tf_12_26 (rk_s k118) (congrArg va_rf (rk_r6 k118)) ?_
                refine z_bipush (81) dX12_text_129 rfl ?_
                refine e_iload_n dX12_text_131 rfl ?_
                refine e_callV [.ref _, .int _, .int _] dX12_text_132 tm_12_260 rfl (Nat.le_of_ble_eq_true rfl) (rk_s k118) (Nat.le_of_ble_eq_true rfl) (Nat.le_refl _) (Nat.le_refl _) rfl (zp_X12_store_0 k118 H120 b ⟨by omega, by omega⟩ (by omega) (fun  h123 f124 p125 => ?_))
                have k126 := rk_q (frm_s f124) k118
                have H127 := rfT_c f124 (fun a k q => by omega) H119
                have H128 := rfC_c f124 (fun a k q => by omega) H120
                have FR129 := frm_t FR121 (frm_m (S' := (fun a j => a = m ∨ a = m + 9 ∨ a = m + 10 ∨ ((a = m + 2 ∨ a = m + 3 ∨ a = m + 4) ∧ j = 0) ∨ (a = m + 5 ∧ j < 3) ∨ (a = m + 6 ∧ j < 162) ∨ (a = m + 7 ∧ j < 242) ∨ (a = m + 8 ∧ j < 50))) f124 (fun a k q => by omega))
                skip
                refine e_goto 168 dX12_text_135 rfl ?_
                refine e_iload_n dX12_text_168 rfl ?_
                refine z_iret dX12_text_169 rfl ⟨rfl, ?_⟩
                have EX : b = ixC (cn σ 0) b := by omega
                have FA : frm (fun a k => (a = m + 6 ∧ 81 * ixC (cn σ 0) b ≤ (k : Int) ∧ (k : Int) < 81 * ixC (cn σ 0) b + 81) ∨ (a = m + 5 ∧ k = 0)) h106 h123 := frm_t (frm_m f117 (fun a k q => by omega)) (frm_m f124 (fun a k q => by omega))
                have W9 := fe_w0 O1 O5
                have ST := p125
                rw [EX] at ST
                have e5 : rI h123 (m + 5) 0 = max (cn (sgA σ 0 (-1)) 0) (ixC (cn σ 0) b + 1) := by rw [sgA_cn (by omega)]; exact (((frm_r f124 (by omega)).trans (rI_eq e116 ⟨by omega, by omega⟩))).trans (by omega)
                exact kq _ trivial _ FR129 ⟨_, refT_k0 RA FA ST e5 W9 ixb.1 (by rw [sgA_cn (by omega)]; exact ixb.2.1), Or.inr ⟨GD, Or.inr (Or.inr ⟨EX, n, O1, O2, O5, by rw [keS_0, ← EX]⟩)⟩⟩
            · skip
              refine z_iconst (1) dX12_text_113 rfl ?_
              refine e_goto 118 dX12_text_114 rfl ?_
              refine z_iadd dX12_text_118 ?_
              refine z_ist dX12_text_119 (rk_a5 k109) (by decide) (by omega) (by omega) (fun h130 e131 => ?_)
              have f132 := frm_1 e131
              have k133 := rk_q (frm_s f132) k109
              have H134 := rfT_c f132 (fun a k q => by omega) H110
              have H135 := rfC_c f132 (fun a k q => by omega) C9
              have FR136 := frm_t FR111 (frm_m (S' := (fun a j => a = m ∨ a = m + 9 ∨ a = m + 10 ∨ ((a = m + 2 ∨ a = m + 3 ∨ a = m + 4) ∧ j = 0) ∨ (a = m + 5 ∧ j < 3) ∨ (a = m + 6 ∧ j < 162) ∨ (a = m + 7 ∧ j < 242) ∨ (a = m + 8 ∧ j < 50))) f132 (fun a k q => by omega))
              refine e_iload_n dX12_text_120 rfl ?_
              refine z_if_ne 138 dX12_text_121 rfl ⟨by omega, by omega⟩ (fun c137 => ?_) (fun c137 => ?_)
              · exfalso; omega
              · skip
                refine e_aload_n dX12_text_124 rfl ?_
                refine e_aload_n dX12_text_125 rfl ?_
                refine e_get (.ref (m + 6)) dX12_text_126 tf_12_26 (rk_s k133) (congrArg va_rf (rk_r6 k133)) ?_
                refine z_bipush (81) dX12_text_129 rfl ?_
                refine e_iload_n dX12_text_131 rfl ?_
                refine e_callV [.ref _, .int _, .int _] dX12_text_132 tm_12_260 rfl (Nat.le_of_ble_eq_true rfl) (rk_s k133) (Nat.le_of_ble_eq_true rfl) (Nat.le_refl _) (Nat.le_refl _) rfl (zp_X12_store_0 k133 H135 b ⟨by omega, by omega⟩ (by omega) (fun  h138 f139 p140 => ?_))
                have k141 := rk_q (frm_s f139) k133
                have H142 := rfT_c f139 (fun a k q => by omega) H134
                have H143 := rfC_c f139 (fun a k q => by omega) H135
                have FR144 := frm_t FR136 (frm_m (S' := (fun a j => a = m ∨ a = m + 9 ∨ a = m + 10 ∨ ((a = m + 2 ∨ a = m + 3 ∨ a = m + 4) ∧ j = 0) ∨ (a = m + 5 ∧ j < 3) ∨ (a = m + 6 ∧ j < 162) ∨ (a = m + 7 ∧ j < 242) ∨ (a = m + 8 ∧ j < 50))) f139 (fun a k q => by omega))
                skip
                refine e_goto 168 dX12_text_135 rfl ?_
                refine e_iload_n dX12_text_168 rfl ?_
                refine z_iret dX12_text_169 rfl ⟨rfl, ?_⟩
                have EX : b = ixC (cn σ 0) b := by omega
                have FA : frm (fun a k => (a = m + 6 ∧ 81 * ixC (cn σ 0) b ≤ (k : Int) ∧ (k : Int) < 81 * ixC (cn σ 0) b + 81) ∨ (a = m + 5 ∧ k = 0)) h106 h138 := frm_t (frm_m f132 (fun a k q => by omega)) (frm_m f139 (fun a k q => by omega))
                have W9 := fe_w0 O1 O5
                have ST := p140
                rw [EX] at ST
                have e5 : rI h138 (m + 5) 0 = max (cn (sgA σ 0 (-1)) 0) (ixC (cn σ 0) b + 1) := by rw [sgA_cn (by omega)]; exact (((frm_r f139 (by omega)).trans (rI_eq e131 ⟨by omega, by omega⟩))).trans (by omega)
                exact kq _ trivial _ FR144 ⟨_, refT_k0 RA FA ST e5 W9 ixb.1 (by rw [sgA_cn (by omega)]; exact ixb.2.1), Or.inr ⟨GD, Or.inr (Or.inr ⟨EX, n, O1, O2, O5, by rw [keS_0, ← EX]⟩)⟩⟩
          · skip
            refine e_aload_n dX12_text_90 rfl ?_
            refine e_get (.ref (m + 5)) dX12_text_91 tf_12_23 (rk_s k109) (congrArg va_rf (rk_r5 k109)) ?_
            refine e_iload_n dX12_text_94 rfl ?_
            refine z_ild (cn σ 0) dX12_text_95 (rk_a5 k109) (by decide) (by omega) (by omega) ((((frm_r f107 (by omega)).trans ((frm_r f25 (by omega)).trans ((frm_r f20 (by omega)).trans ((frm_r f15 (by omega)).trans ((frm_r f9 (by omega)).trans (frm_r f3 (by omega)))))))).trans (refT_cn HR (by omega) (by omega))) ?_
            refine e_goto 100 dX12_text_96 rfl ?_
            refine e_istore_n (L' := [_, _, _, _]) dX12_text_100 (Nat.le_of_ble_eq_true rfl) rfl ?_
            refine e_aload_n dX12_text_101 rfl ?_
            refine e_get (.ref (m + 5)) dX12_text_102 tf_12_23 (rk_s k109) (congrArg va_rf (rk_r5 k109)) ?_
            refine e_iload_n dX12_text_105 rfl ?_
            refine e_dup2 dX12_text_106 rfl rfl ?_
            refine z_ild (cn σ 0) dX12_text_107 (rk_a5 k109) (by decide) (by omega) (by omega) ((((frm_r f107 (by omega)).trans ((frm_r f25 (by omega)).trans ((frm_r f20 (by omega)).trans ((frm_r f15 (by omega)).trans ((frm_r f9 (by omega)).trans (frm_r f3 (by omega)))))))).trans (refT_cn HR (by omega) (by omega))) ?_
            refine e_iload_n dX12_text_108 rfl ?_
            refine z_iconst (-1) dX12_text_109 rfl ?_
            refine z_icmp_ne 117 dX12_text_110 rfl ⟨by omega, by omega⟩ ⟨by omega, by omega⟩ (fun c145 => ?_) (fun c145 => ?_)
            · skip
              refine z_iconst (0) dX12_text_117 rfl ?_
              refine z_iadd dX12_text_118 ?_
              refine z_ist dX12_text_119 (rk_a5 k109) (by decide) (by omega) (by omega) (fun h146 e147 => ?_)
              have f148 := frm_1 e147
              have k149 := rk_q (frm_s f148) k109
              have H150 := rfT_c f148 (fun a k q => by omega) H110
              have H151 := rfC_c f148 (fun a k q => by omega) C9
              have FR152 := frm_t FR111 (frm_m (S' := (fun a j => a = m ∨ a = m + 9 ∨ a = m + 10 ∨ ((a = m + 2 ∨ a = m + 3 ∨ a = m + 4) ∧ j = 0) ∨ (a = m + 5 ∧ j < 3) ∨ (a = m + 6 ∧ j < 162) ∨ (a = m + 7 ∧ j < 242) ∨ (a = m + 8 ∧ j < 50))) f148 (fun a k q => by omega))
              refine e_iload_n dX12_text_120 rfl ?_
              refine z_if_ne 138 dX12_text_121 rfl ⟨by omega, by omega⟩ (fun c153 => ?_) (fun c153 => ?_)
              · exfalso; omega
              · skip
                refine e_aload_n dX12_text_124 rfl ?_
                refine e_aload_n dX12_text_125 rfl ?_
                refine e_get (.ref (m + 6)) dX12_text_126 tf_12_26 (rk_s k149) (congrArg va_rf (rk_r6 k149)) ?_
                refine z_bipush (81) dX12_text_129 rfl ?_
                refine e_iload_n dX12_text_131 rfl ?_
                refine e_callV [.ref _, .int _, .int _] dX12_text_132 tm_12_260 rfl (Nat.le_of_ble_eq_true rfl) (rk_s k149) (Nat.le_of_ble_eq_true rfl) (Nat.le_refl _) (Nat.le_refl _) rfl (zp_X12_store_0 k149 H151 (cn σ 0) ⟨by omega, by omega⟩ (by omega) (fun  h154 f155 p156 => ?_))
                have k157 := rk_q (frm_s f155) k149
                have H158 := rfT_c f155 (fun a k q => by omega) H150
                have H159 := rfC_c f155 (fun a k q => by omega) H151
                have FR160 := frm_t FR152 (frm_m (S' := (fun a j => a = m ∨ a = m + 9 ∨ a = m + 10 ∨ ((a = m + 2 ∨ a = m + 3 ∨ a = m + 4) ∧ j = 0) ∨ (a = m + 5 ∧ j < 3) ∨ (a = m + 6 ∧ j < 162) ∨ (a = m + 7 ∧ j < 242) ∨ (a = m + 8 ∧ j < 50))) f155 (fun a k q => by omega))
                skip
                refine e_goto 168 dX12_text_135 rfl ?_
                refine e_iload_n dX12_text_168 rfl ?_
                refine z_iret dX12_text_169 rfl ⟨rfl, ?_⟩
                have EX : (cn σ 0) = ixC (cn σ 0) b := by omega
                have FA : frm (fun a k => (a = m + 6 ∧ 81 * ixC (cn σ 0) b ≤ (k : Int) ∧ (k : Int) < 81 * ixC (cn σ 0) b + 81) ∨ (a = m + 5 ∧ k = 0)) h106 h154 := frm_t (frm_m f148 (fun a k q => by omega)) (frm_m f155 (fun a k q => by omega))
                have W9 := fe_w0 O1 O5
                have ST := p156
                rw [EX] at ST
                have e5 : rI h154 (m + 5) 0 = max (cn (sgA σ 0 (-1)) 0) (ixC (cn σ 0) b + 1) := by rw [sgA_cn (by omega)]; exact (((frm_r f155 (by omega)).trans (rI_eq e147 ⟨by omega, by omega⟩))).trans (by omega)
                exact kq _ trivial _ FR160 ⟨_, refT_k0 RA FA ST e5 W9 ixb.1 (by rw [sgA_cn (by omega)]; exact ixb.2.1), Or.inr ⟨GD, Or.inr (Or.inr ⟨EX, n, O1, O2, O5, by rw [keS_0, ← EX]⟩)⟩⟩
            · skip
              refine z_iconst (1) dX12_text_113 rfl ?_
              refine e_goto 118 dX12_text_114 rfl ?_
              refine z_iadd dX12_text_118 ?_
              refine z_ist dX12_text_119 (rk_a5 k109) (by decide) (by omega) (by omega) (fun h161 e162 => ?_)
              have f163 := frm_1 e162
              have k164 := rk_q (frm_s f163) k109
              have H165 := rfT_c f163 (fun a k q => by omega) H110
              have H166 := rfC_c f163 (fun a k q => by omega) C9
              have FR167 := frm_t FR111 (frm_m (S' := (fun a j => a = m ∨ a = m + 9 ∨ a = m + 10 ∨ ((a = m + 2 ∨ a = m + 3 ∨ a = m + 4) ∧ j = 0) ∨ (a = m + 5 ∧ j < 3) ∨ (a = m + 6 ∧ j < 162) ∨ (a = m + 7 ∧ j < 242) ∨ (a = m + 8 ∧ j < 50))) f163 (fun a k q => by omega))
              refine e_iload_n dX12_text_120 rfl ?_
              refine z_if_ne 138 dX12_text_121 rfl ⟨by omega, by omega⟩ (fun c168 => ?_) (fun c168 => ?_)
              · exfalso; omega
              · skip
                refine e_aload_n dX12_text_124 rfl ?_
                refine e_aload_n dX12_text_125 rfl ?_
                refine e_get (.ref (m + 6)) dX12_text_126 tf_12_26 (rk_s k164) (congrArg va_rf (rk_r6 k164)) ?_
                refine z_bipush (81) dX12_text_129 rfl ?_
                refine e_iload_n dX12_text_131 rfl ?_
                refine e_callV [.ref _, .int _, .int _] dX12_text_132 tm_12_260 rfl (Nat.le_of_ble_eq_true rfl) (rk_s k164) (Nat.le_of_ble_eq_true rfl) (Nat.le_refl _) (Nat.le_refl _) rfl (zp_X12_store_0 k164 H166 (cn σ 0) ⟨by omega, by omega⟩ (by omega) (fun  h169 f170 p171 => ?_))
                have k172 := rk_q (frm_s f170) k164
                have H173 := rfT_c f170 (fun a k q => by omega) H165
                have H174 := rfC_c f170 (fun a k q => by omega) H166
                have FR175 := frm_t FR167 (frm_m (S' := (fun a j => a = m ∨ a = m + 9 ∨ a = m + 10 ∨ ((a = m + 2 ∨ a = m + 3 ∨ a = m + 4) ∧ j = 0) ∨ (a = m + 5 ∧ j < 3) ∨ (a = m + 6 ∧ j < 162) ∨ (a = m + 7 ∧ j < 242) ∨ (a = m + 8 ∧ j < 50))) f170 (fun a k q => by omega))
                skip
                refine e_goto 168 dX12_text_135 rfl ?_
                refine e_iload_n dX12_text_168 rfl ?_
                refine z_iret dX12_text_169 rfl ⟨rfl, ?_⟩
                have EX : (cn σ 0) = ixC (cn σ 0) b := by omega
                have FA : frm (fun a k => (a = m + 6 ∧ 81 * ixC (cn σ 0) b ≤ (k : Int) ∧ (k : Int) < 81 * ixC (cn σ 0) b + 81) ∨ (a = m + 5 ∧ k = 0)) h106 h169 := frm_t (frm_m f163 (fun a k q => by omega)) (frm_m f170 (fun a k q => by omega))
                have W9 := fe_w0 O1 O5
                have ST := p171
                rw [EX] at ST
                have e5 : rI h169 (m + 5) 0 = max (cn (sgA σ 0 (-1)) 0) (ixC (cn σ 0) b + 1) := by rw [sgA_cn (by omega)]; exact (((frm_r f170 (by omega)).trans (rI_eq e162 ⟨by omega, by omega⟩))).trans (by omega)
                exact kq _ trivial _ FR175 ⟨_, refT_k0 RA FA ST e5 W9 ixb.1 (by rw [sgA_cn (by omega)]; exact ixb.2.1), Or.inr ⟨GD, Or.inr (Or.inr ⟨EX, n, O1, O2, O5, by rw [keS_0, ← EX]⟩)⟩⟩
        · skip
          skip
          refine z_iconst (-1) dX12_text_83 rfl ?_
          refine z_iret dX12_text_84 rfl ⟨rfl, ?_⟩
          rcases p108 with ⟨n, o1, o2, t1, o4, o5⟩ | ⟨z, n, o1, o2, o3, t1, t2⟩
          · have fb := fe_b (rn_nq (by omega) n o1) (by omega)
            exact kq _ trivial _ FR111 ⟨_, refT_a HR (fun a u v z n => ((frm_r f107 (by omega)).trans ((frm_r f25 (by omega)).trans ((frm_r f20 (by omega)).trans ((frm_r f15 (by omega)).trans ((frm_r f9 (by omega)).trans (frm_r f3 (by omega)))))))) (((frm_r f107 (by omega)).trans ((frm_r f25 (by omega)).trans (frm_r f20 (by omega)))).trans (rI_eq e14 ⟨by omega, by omega⟩)) t1.1 t1.2 fb.1 fb.2, Or.inr ⟨GD, Or.inl ⟨rfl, n, o1, o2, by omega, rfl⟩⟩⟩
          · have ob := okN_b (by omega) n o1
            have lb := lx_b (s := 0) (T := sT σ) (L := cn σ 3) ⟨ob.1, ob.2.1⟩
            exact kq _ trivial _ FR111 ⟨_, refT_a HR (fun a u v z n => ((frm_r f107 (by omega)).trans ((frm_r f25 (by omega)).trans ((frm_r f20 (by omega)).trans ((frm_r f15 (by omega)).trans ((frm_r f9 (by omega)).trans (frm_r f3 (by omega)))))))) (((frm_r f107 (by omega)).trans ((frm_r f25 (by omega)).trans (frm_r f20 (by omega)))).trans (rI_eq e14 ⟨by omega, by omega⟩)) t1 t2 ⟨by omega, by omega⟩ ⟨by omega, by omega⟩, Or.inr ⟨GD, Or.inr (Or.inl ⟨rfl, n, o1, o2, o3, rfl⟩)⟩⟩
      · skip
        refine e_goto 72 dX12_text_60 rfl ?_
        refine z_bipush (-2) dX12_text_72 rfl ?_
        refine z_iret dX12_text_74 rfl ⟨rfl, ?_⟩
        exact kq _ trivial _ FR27 ⟨_, refT_a HR (fun a u v z n => ((frm_r f25 (by omega)).trans ((frm_r f20 (by omega)).trans ((frm_r f15 (by omega)).trans ((frm_r f9 (by omega)).trans (frm_r f3 (by omega))))))) (((frm_r f25 (by omega)).trans (frm_r f20 (by omega))).trans (rI_eq e14 ⟨by omega, by omega⟩)) ((frm_r f25 (by omega)).trans (rI_eq e19 ⟨by omega, by omega⟩)) (rI_eq e24 ⟨by omega, by omega⟩) (by omega) (by omega), Or.inl ⟨fun z => by have z2 := z.2; unfold gdC at z2; omega, rfl, rfl⟩⟩
set_option maxHeartbeats 4000000 in
theorem zp_X12_text_1 {ad : mA} {dd : Nat} {h : mH} {Q : mQ} {m : Nat} {σ : Sg} (hk : rk h m) (HR : refT h m 0 σ)  (b : Int) (b_r : -2147483648 ≤ b ∧ b < 2147483648)  (kq : ∀ v : Int, True → ∀ h1, frm (fun a j => a = m ∨ a = m + 9 ∨ a = m + 10 ∨ ((a = m + 2 ∨ a = m + 3 ∨ a = m + 4) ∧ j = 0) ∨ (a = m + 5 ∧ j < 3) ∨ (a = m + 6 ∧ j < 162) ∨ (a = m + 7 ∧ j < 242) ∨ (a = m + 8 ∧ j < 50)) h h1 → (∃ σ1, refT h1 m 0 σ1 ∧ txR σ 1 b σ1 v) → Q (some (.int (zI v))) h1) : mCal TB0 ad (dd + 9) M_X12_text [.ref m, .int (zI 1), .int (zI b)] h 0 0 Q := by
  refine ⟨Nat.le_of_ble_eq_true rfl, ?_⟩
  show mEv TB0 ad M_X12_text (dd + 9) (0, 0) (mCal TB0 ad (dd + 8)) (fun v h' z => z.1 = 0 ∧ Q v h') 0 [some (.ref m), some (.int (zI 1)), some (.int (zI b)), none] [] h (0, 0)
  have FR0 : frm (fun a j => a = m ∨ a = m + 9 ∨ a = m + 10 ∨ ((a = m + 2 ∨ a = m + 3 ∨ a = m + 4) ∧ j = 0) ∨ (a = m + 5 ∧ j < 3) ∨ (a = m + 6 ∧ j < 162) ∨ (a = m + 7 ∧ j < 242) ∨ (a = m + 8 ∧ j < 50)) h h := frm_0 h
  have w1 := wS_n (refT_w HR)
  refine e_aload_n dX12_text_0 rfl ?_
  refine z_iconst (0) dX12_text_1 rfl ?_
  refine z_put dX12_text_2 tf_12_103 (rk_s hk) rfl (Or.inl rfl) (fun h1 e2 => ?_)
  have f3 := frm_1 e2
  have k4 := rk_q (frm_s f3) hk
  have H5 := refT_c f3 (fun a k q1 q2 => by omega) HR
  have FR6 := frm_t FR0 (frm_m (S' := (fun a j => a = m ∨ a = m + 9 ∨ a = m + 10 ∨ ((a = m + 2 ∨ a = m + 3 ∨ a = m + 4) ∧ j = 0) ∨ (a = m + 5 ∧ j < 3) ∨ (a = m + 6 ∧ j < 162) ∨ (a = m + 7 ∧ j < 242) ∨ (a = m + 8 ∧ j < 50))) f3 (fun a k q => by omega))
  refine e_aload_n dX12_text_5 rfl ?_
  refine e_aload_n dX12_text_6 rfl ?_
  refine e_get (.ref (m + 2)) dX12_text_7 tf_12_13 (rk_s k4) (congrArg va_rf (rk_r2 k4)) ?_
  refine z_iconst (0) dX12_text_10 rfl ?_
  refine z_ild (cn σ 3) dX12_text_11 (rk_a2 k4) (by decide) (by omega) (by omega) (((frm_r f3 (by omega))).trans (refT_3 HR)) ?_
  refine z_put dX12_text_12 tf_12_126 (rk_s k4) rfl (Or.inl rfl) (fun h7 e8 => ?_)
  have f9 := frm_1 e8
  have k10 := rk_q (frm_s f9) k4
  have H11 := refT_c f9 (fun a k q1 q2 => by omega) H5
  have FR12 := frm_t FR6 (frm_m (S' := (fun a j => a = m ∨ a = m + 9 ∨ a = m + 10 ∨ ((a = m + 2 ∨ a = m + 3 ∨ a = m + 4) ∧ j = 0) ∨ (a = m + 5 ∧ j < 3) ∨ (a = m + 6 ∧ j < 162) ∨ (a = m + 7 ∧ j < 242) ∨ (a = m + 8 ∧ j < 50))) f9 (fun a k q => by omega))
  refine e_aload_n dX12_text_15 rfl ?_
  refine e_get (.ref (m + 2)) dX12_text_16 tf_12_13 (rk_s k10) (congrArg va_rf (rk_r2 k10)) ?_
  refine z_iconst (0) dX12_text_19 rfl ?_
  refine z_iconst (0) dX12_text_20 rfl ?_
  refine z_ist dX12_text_21 (rk_a2 k10) (by decide) (by omega) (by omega) (fun h13 e14 => ?_)
  have f15 := frm_1 e14
  have k16 := rk_q (frm_s f15) k10
  have FR17 := frm_t FR12 (frm_m (S' := (fun a j => a = m ∨ a = m + 9 ∨ a = m + 10 ∨ ((a = m + 2 ∨ a = m + 3 ∨ a = m + 4) ∧ j = 0) ∨ (a = m + 5 ∧ j < 3) ∨ (a = m + 6 ∧ j < 162) ∨ (a = m + 7 ∧ j < 242) ∨ (a = m + 8 ∧ j < 50))) f15 (fun a k q => by omega))
  refine e_aload_n dX12_text_22 rfl ?_
  refine e_get (.ref (m + 3)) dX12_text_23 tf_12_17 (rk_s k16) (congrArg va_rf (rk_r3 k16)) ?_
  refine z_iconst (0) dX12_text_26 rfl ?_
  refine z_iconst (0) dX12_text_27 rfl ?_
  refine z_ist dX12_text_28 (rk_a3 k16) (by decide) (by omega) (by omega) (fun h18 e19 => ?_)
  have f20 := frm_1 e19
  have k21 := rk_q (frm_s f20) k16
  have FR22 := frm_t FR17 (frm_m (S' := (fun a j => a = m ∨ a = m + 9 ∨ a = m + 10 ∨ ((a = m + 2 ∨ a = m + 3 ∨ a = m + 4) ∧ j = 0) ∨ (a = m + 5 ∧ j < 3) ∨ (a = m + 6 ∧ j < 162) ∨ (a = m + 7 ∧ j < 242) ∨ (a = m + 8 ∧ j < 50))) f20 (fun a k q => by omega))
  refine e_aload_n dX12_text_29 rfl ?_
  refine e_get (.ref (m + 4)) dX12_text_30 tf_12_20 (rk_s k21) (congrArg va_rf (rk_r4 k21)) ?_
  refine z_iconst (0) dX12_text_33 rfl ?_
  refine z_iconst (-1) dX12_text_34 rfl ?_
  refine z_ist dX12_text_35 (rk_a4 k21) (by decide) (by omega) (by omega) (fun h23 e24 => ?_)
  have f25 := frm_1 e24
  have k26 := rk_q (frm_s f25) k21
  have FR27 := frm_t FR22 (frm_m (S' := (fun a j => a = m ∨ a = m + 9 ∨ a = m + 10 ∨ ((a = m + 2 ∨ a = m + 3 ∨ a = m + 4) ∧ j = 0) ∨ (a = m + 5 ∧ j < 3) ∨ (a = m + 6 ∧ j < 162) ∨ (a = m + 7 ∧ j < 242) ∨ (a = m + 8 ∧ j < 50))) f25 (fun a k q => by omega))
  refine e_iload_n dX12_text_36 rfl ?_
  refine z_iconst (0) dX12_text_37 rfl ?_
  refine z_iconst (2) dX12_text_38 rfl ?_
  refine e_callS [.int _, .int _, .int _] dX12_text_39 tm_12_115 rfl (Nat.le_of_ble_eq_true rfl) (Nat.le_refl _) (Nat.le_refl _) rfl (zp_X12_in 1 ⟨by omega, by omega⟩ 0 ⟨by omega, by omega⟩ 2 ⟨by omega, by omega⟩ ?_)
  refine z_ifb_eq 72 dX12_text_42 rfl (fun c28 => ?_) (fun c28 => ?_)
  · exfalso; omega
  · skip
    refine e_iload_n dX12_text_45 rfl ?_
    refine z_iconst (-1) dX12_text_46 rfl ?_
    refine z_icmp_ne 63 dX12_text_47 rfl ⟨by omega, by omega⟩ ⟨by omega, by omega⟩ (fun c29 => ?_) (fun c29 => ?_)
    · skip
      refine e_aload_n dX12_text_63 rfl ?_
      refine e_iload_n dX12_text_64 rfl ?_
      refine e_iload_n dX12_text_65 rfl ?_
      have CQ : rI h23 (m + 5) 1 = cn σ 1 := (((frm_r f25 (by omega)).trans ((frm_r f20 (by omega)).trans ((frm_r f15 (by omega)).trans ((frm_r f9 (by omega)).trans (frm_r f3 (by omega))))))).trans (refT_cn HR (by omega) (by omega))
      refine e_callV [.int _, .int _] dX12_text_66 tm_12_254 rfl (Nat.le_of_ble_eq_true rfl) (rk_s k26) (Nat.le_of_ble_eq_true rfl) (Nat.le_refl _) (Nat.le_refl _) rfl (zp_X12_is k26 1 ⟨by omega, by omega⟩ b ⟨by omega, by omega⟩ (by omega) (by omega) (by omega) ?_)
      refine z_ifb_ne 75 dX12_text_69 rfl (fun c30 => ?_) (fun c30 => ?_)
      · skip
        have RT : rfT h23 m (sT σ) (cn σ 3) := ⟨by omega, (((frm_r f25 (by omega)).trans ((frm_r f20 (by omega)).trans (frm_r f15 (by omega)))).trans (rI_eq e8 ⟨by omega, by omega⟩)), fun k a z => (((frm_r f25 (by omega)).trans ((frm_r f20 (by omega)).trans ((frm_r f15 (by omega)).trans ((frm_r f9 (by omega)).trans (frm_r f3 (by omega))))))).trans (refT_t HR a (by omega)), fun k a z => wS_t (refT_w HR) a (by omega)⟩
        have GD : (0 ≤ (1 : Int) ∧ (1 : Int) ≤ 2) ∧ gdC (cn σ 1) b := ⟨by omega, by unfold gdC; omega⟩
        have ixb := ix_b GD.2 (by omega)
        refine e_aload_n dX12_text_75 rfl ?_
        refine e_iload_n dX12_text_76 rfl ?_
        refine e_callV [.int _] dX12_text_77 tm_12_257 rfl (Nat.le_of_ble_eq_true rfl) (rk_s k26) (Nat.le_of_ble_eq_true rfl) (Nat.le_refl _) (Nat.le_refl _) rfl (zp_X12_readText_1 k26 RT (fun v31 p32 h33 f34 p35 => ?_))
        have k36 := rk_q (frm_s f34) k26
        have H37 := rfT_c f34 (fun a k q => by omega) RT
        have FR38 := frm_t FR27 (frm_m (S' := (fun a j => a = m ∨ a = m + 9 ∨ a = m + 10 ∨ ((a = m + 2 ∨ a = m + 3 ∨ a = m + 4) ∧ j = 0) ∨ (a = m + 5 ∧ j < 3) ∨ (a = m + 6 ∧ j < 162) ∨ (a = m + 7 ∧ j < 242) ∨ (a = m + 8 ∧ j < 50))) f34 (fun a k q => by omega))
        skip
        refine z_if_ne 85 dX12_text_80 rfl ⟨by omega, by omega⟩ (fun c39 => ?_) (fun c39 => ?_)
        · skip
          obtain ⟨n, O1, O2, ⟨t1, t2⟩, C9, O5⟩ : ∃ n, okN 1 (sT σ) (cn σ 3) n ∧ tkK (sT σ) (cn σ 3) (runP 1 (sT σ) (cn σ 3) n) = 3 ∧ (rI h33 (m + 3) 0 = 0 ∧ rI h33 (m + 4) 0 = -1) ∧ rfC h33 m (runC 1 (sT σ) (cn σ 3) n) ∧ feF 1 (sT σ) (cn σ 3) n = 0 := by
            rcases p35 with ⟨n, o1, o2, o3, o4, o5⟩ | ⟨z, _⟩
            · have e0 : feF 1 (sT σ) (cn σ 3) n = 0 := by omega
              exact ⟨n, o1, o2, ⟨o3.1.trans e0, o3.2.trans (fe_0 e0).2.2⟩, o4, e0⟩
            · omega
          have RA : refT h33 m 0 (sgA σ 0 (-1)) := refT_a HR (fun a u v z n => ((frm_r f34 (by omega)).trans ((frm_r f25 (by omega)).trans ((frm_r f20 (by omega)).trans ((frm_r f15 (by omega)).trans ((frm_r f9 (by omega)).trans (frm_r f3 (by omega)))))))) (((frm_r f34 (by omega)).trans ((frm_r f25 (by omega)).trans (frm_r f20 (by omega)))).trans (rI_eq e14 ⟨by omega, by omega⟩)) t1 t2 (by omega) (by omega)
          refine e_iload_n dX12_text_85 rfl ?_
          refine z_iconst (-1) dX12_text_86 rfl ?_
          refine z_icmp_ne 99 dX12_text_87 rfl ⟨by omega, by omega⟩ ⟨by omega, by omega⟩ (fun c40 => ?_) (fun c40 => ?_)
          · skip
            refine e_iload_n dX12_text_99 rfl ?_
            refine e_istore_n (L' := [_, _, _, _]) dX12_text_100 (Nat.le_of_ble_eq_true rfl) rfl ?_
            refine e_aload_n dX12_text_101 rfl ?_
            refine e_get (.ref (m + 5)) dX12_text_102 tf_12_23 (rk_s k36) (congrArg va_rf (rk_r5 k36)) ?_
            refine e_iload_n dX12_text_105 rfl ?_
            refine e_dup2 dX12_text_106 rfl rfl ?_
            refine z_ild (cn σ 1) dX12_text_107 (rk_a5 k36) (by decide) (by omega) (by omega) ((((frm_r f34 (by omega)).trans ((frm_r f25 (by omega)).trans ((frm_r f20 (by omega)).trans ((frm_r f15 (by omega)).trans ((frm_r f9 (by omega)).trans (frm_r f3 (by omega)))))))).trans (refT_cn HR (by omega) (by omega))) ?_
            refine e_iload_n dX12_text_108 rfl ?_
            refine z_iconst (-1) dX12_text_109 rfl ?_
            refine z_icmp_ne 117 dX12_text_110 rfl ⟨by omega, by omega⟩ ⟨by omega, by omega⟩ (fun c41 => ?_) (fun c41 => ?_)
            · skip
              refine z_iconst (0) dX12_text_117 rfl ?_
              refine z_iadd dX12_text_118 ?_
              refine z_ist dX12_text_119 (rk_a5 k36) (by decide) (by omega) (by omega) (fun h42 e43 => ?_)
              have f44 := frm_1 e43
              have k45 := rk_q (frm_s f44) k36
              have H46 := rfT_c f44 (fun a k q => by omega) H37
              have H47 := rfC_c f44 (fun a k q => by omega) C9
              have FR48 := frm_t FR38 (frm_m (S' := (fun a j => a = m ∨ a = m + 9 ∨ a = m + 10 ∨ ((a = m + 2 ∨ a = m + 3 ∨ a = m + 4) ∧ j = 0) ∨ (a = m + 5 ∧ j < 3) ∨ (a = m + 6 ∧ j < 162) ∨ (a = m + 7 ∧ j < 242) ∨ (a = m + 8 ∧ j < 50))) f44 (fun a k q => by omega))
              refine e_iload_n dX12_text_120 rfl ?_
              refine z_if_ne 138 dX12_text_121 rfl ⟨by omega, by omega⟩ (fun c49 => ?_) (fun c49 => ?_)
              · skip
                refine e_iload_n dX12_text_138 rfl ?_
                refine z_iconst (1) dX12_text_139 rfl ?_
                refine z_icmp_ne 157 dX12_text_140 rfl ⟨by omega, by omega⟩ ⟨by omega, by omega⟩ (fun c50 => ?_) (fun c50 => ?_)
                · exfalso; omega
                · skip
                  refine e_aload_n dX12_text_143 rfl ?_
                  refine e_aload_n dX12_text_144 rfl ?_
                  refine e_get (.ref (m + 7)) dX12_text_145 tf_12_29 (rk_s k45) (congrArg va_rf (rk_r7 k45)) ?_
                  refine z_bipush (121) dX12_text_148 rfl ?_
                  refine e_iload_n dX12_text_150 rfl ?_
                  refine e_callV [.ref _, .int _, .int _] dX12_text_151 tm_12_260 rfl (Nat.le_of_ble_eq_true rfl) (rk_s k45) (Nat.le_of_ble_eq_true rfl) (Nat.le_refl _) (Nat.le_refl _) rfl (zp_X12_store_1 k45 H47 b ⟨by omega, by omega⟩ (by omega) (fun  h51 f52 p53 => ?_))
                  have k54 := rk_q (frm_s f52) k45
                  have H55 := rfT_c f52 (fun a k q => by omega) H46
                  have H56 := rfC_c f52 (fun a k q => by omega) H47
                  have FR57 := frm_t FR48 (frm_m (S' := (fun a j => a = m ∨ a = m + 9 ∨ a = m + 10 ∨ ((a = m + 2 ∨ a = m + 3 ∨ a = m + 4) ∧ j = 0) ∨ (a = m + 5 ∧ j < 3) ∨ (a = m + 6 ∧ j < 162) ∨ (a = m + 7 ∧ j < 242) ∨ (a = m + 8 ∧ j < 50))) f52 (fun a k q => by omega))
                  skip
                  refine e_goto 168 dX12_text_154 rfl ?_
                  refine e_iload_n dX12_text_168 rfl ?_
                  refine z_iret dX12_text_169 rfl ⟨rfl, ?_⟩
                  have EX : b = ixC (cn σ 1) b := by omega
                  have FA : frm (fun a k => (a = m + 7 ∧ 121 * ixC (cn σ 1) b ≤ (k : Int) ∧ (k : Int) < 121 * ixC (cn σ 1) b + 121) ∨ (a = m + 5 ∧ k = 1)) h33 h51 := frm_t (frm_m f44 (fun a k q => by omega)) (frm_m f52 (fun a k q => by omega))
                  have W9 := fe_w1 O1 O5
                  have ST := p53
                  rw [EX] at ST
                  have e5 : rI h51 (m + 5) 1 = max (cn (sgA σ 0 (-1)) 1) (ixC (cn σ 1) b + 1) := by rw [sgA_cn (by omega)]; exact (((frm_r f52 (by omega)).trans (rI_eq e43 ⟨by omega, by omega⟩))).trans (by omega)
                  exact kq _ trivial _ FR57 ⟨_, refT_k1 RA FA ST e5 W9 ixb.1 (by rw [sgA_cn (by omega)]; exact ixb.2.1), Or.inr ⟨GD, Or.inr (Or.inr ⟨EX, n, O1, O2, O5, by rw [keS_1, ← EX]⟩)⟩⟩
              · exfalso; omega
            · skip
              refine z_iconst (1) dX12_text_113 rfl ?_
              refine e_goto 118 dX12_text_114 rfl ?_
              refine z_iadd dX12_text_118 ?_
              refine z_ist dX12_text_119 (rk_a5 k36) (by decide) (by omega) (by omega) (fun h58 e59 => ?_)
              have f60 := frm_1 e59
              have k61 := rk_q (frm_s f60) k36
              have H62 := rfT_c f60 (fun a k q => by omega) H37
              have H63 := rfC_c f60 (fun a k q => by omega) C9
              have FR64 := frm_t FR38 (frm_m (S' := (fun a j => a = m ∨ a = m + 9 ∨ a = m + 10 ∨ ((a = m + 2 ∨ a = m + 3 ∨ a = m + 4) ∧ j = 0) ∨ (a = m + 5 ∧ j < 3) ∨ (a = m + 6 ∧ j < 162) ∨ (a = m + 7 ∧ j < 242) ∨ (a = m + 8 ∧ j < 50))) f60 (fun a k q => by omega))
              refine e_iload_n dX12_text_120 rfl ?_
              refine z_if_ne 138 dX12_text_121 rfl ⟨by omega, by omega⟩ (fun c65 => ?_) (fun c65 => ?_)
              · skip
                refine e_iload_n dX12_text_138 rfl ?_
                refine z_iconst (1) dX12_text_139 rfl ?_
                refine z_icmp_ne 157 dX12_text_140 rfl ⟨by omega, by omega⟩ ⟨by omega, by omega⟩ (fun c66 => ?_) (fun c66 => ?_)
                · exfalso; omega
                · skip
                  refine e_aload_n dX12_text_143 rfl ?_
                  refine e_aload_n dX12_text_144 rfl ?_
                  refine e_get (.ref (m + 7)) dX12_text_145 tf_12_29 (rk_s k61) (congrArg va_rf (rk_r7 k61)) ?_
                  refine z_bipush (121) dX12_text_148 rfl ?_
                  refine e_iload_n dX12_text_150 rfl ?_
                  refine e_callV [.ref _, .int _, .int _] dX12_text_151 tm_12_260 rfl (Nat.le_of_ble_eq_true rfl) (rk_s k61) (Nat.le_of_ble_eq_true rfl) (Nat.le_refl _) (Nat.le_refl _) rfl (zp_X12_store_1 k61 H63 b ⟨by omega, by omega⟩ (by omega) (fun  h67 f68 p69 => ?_))
                  have k70 := rk_q (frm_s f68) k61
                  have H71 := rfT_c f68 (fun a k q => by omega) H62
                  have H72 := rfC_c f68 (fun a k q => by omega) H63
                  have FR73 := frm_t FR64 (frm_m (S' := (fun a j => a = m ∨ a = m + 9 ∨ a = m + 10 ∨ ((a = m + 2 ∨ a = m + 3 ∨ a = m + 4) ∧ j = 0) ∨ (a = m + 5 ∧ j < 3) ∨ (a = m + 6 ∧ j < 162) ∨ (a = m + 7 ∧ j < 242) ∨ (a = m + 8 ∧ j < 50))) f68 (fun a k q => by omega))
                  skip
                  refine e_goto 168 dX12_text_154 rfl ?_
                  refine e_iload_n dX12_text_168 rfl ?_
                  refine z_iret dX12_text_169 rfl ⟨rfl, ?_⟩
                  have EX : b = ixC (cn σ 1) b := by omega
                  have FA : frm (fun a k => (a = m + 7 ∧ 121 * ixC (cn σ 1) b ≤ (k : Int) ∧ (k : Int) < 121 * ixC (cn σ 1) b + 121) ∨ (a = m + 5 ∧ k = 1)) h33 h67 := frm_t (frm_m f60 (fun a k q => by omega)) (frm_m f68 (fun a k q => by omega))
                  have W9 := fe_w1 O1 O5
                  have ST := p69
                  rw [EX] at ST
                  have e5 : rI h67 (m + 5) 1 = max (cn (sgA σ 0 (-1)) 1) (ixC (cn σ 1) b + 1) := by rw [sgA_cn (by omega)]; exact (((frm_r f68 (by omega)).trans (rI_eq e59 ⟨by omega, by omega⟩))).trans (by omega)
                  exact kq _ trivial _ FR73 ⟨_, refT_k1 RA FA ST e5 W9 ixb.1 (by rw [sgA_cn (by omega)]; exact ixb.2.1), Or.inr ⟨GD, Or.inr (Or.inr ⟨EX, n, O1, O2, O5, by rw [keS_1, ← EX]⟩)⟩⟩
              · exfalso; omega
          · skip
            refine e_aload_n dX12_text_90 rfl ?_
            refine e_get (.ref (m + 5)) dX12_text_91 tf_12_23 (rk_s k36) (congrArg va_rf (rk_r5 k36)) ?_
            refine e_iload_n dX12_text_94 rfl ?_
            refine z_ild (cn σ 1) dX12_text_95 (rk_a5 k36) (by decide) (by omega) (by omega) ((((frm_r f34 (by omega)).trans ((frm_r f25 (by omega)).trans ((frm_r f20 (by omega)).trans ((frm_r f15 (by omega)).trans ((frm_r f9 (by omega)).trans (frm_r f3 (by omega)))))))).trans (refT_cn HR (by omega) (by omega))) ?_
            refine e_goto 100 dX12_text_96 rfl ?_
            refine e_istore_n (L' := [_, _, _, _]) dX12_text_100 (Nat.le_of_ble_eq_true rfl) rfl ?_
            refine e_aload_n dX12_text_101 rfl ?_
            refine e_get (.ref (m + 5)) dX12_text_102 tf_12_23 (rk_s k36) (congrArg va_rf (rk_r5 k36)) ?_
            refine e_iload_n dX12_text_105 rfl ?_
            refine e_dup2 dX12_text_106 rfl rfl ?_
            refine z_ild (cn σ 1) dX12_text_107 (rk_a5 k36) (by decide) (by omega) (by omega) ((((frm_r f34 (by omega)).trans ((frm_r f25 (by omega)).trans ((frm_r f20 (by omega)).trans ((frm_r f15 (by omega)).trans ((frm_r f9 (by omega)).trans (frm_r f3 (by omega)))))))).trans (refT_cn HR (by omega) (by omega))) ?_
            refine e_iload_n dX12_text_108 rfl ?_
            refine z_iconst (-1) dX12_text_109 rfl ?_
            refine z_icmp_ne 117 dX12_text_110 rfl ⟨by omega, by omega⟩ ⟨by omega, by omega⟩ (fun c74 => ?_) (fun c74 => ?_)
            · skip
              refine z_iconst (0) dX12_text_117 rfl ?_
              refine z_iadd dX12_text_118 ?_
              refine z_ist dX12_text_119 (rk_a5 k36) (by decide) (by omega) (by omega) (fun h75 e76 => ?_)
              have f77 := frm_1 e76
              have k78 := rk_q (frm_s f77) k36
              have H79 := rfT_c f77 (fun a k q => by omega) H37
              have H80 := rfC_c f77 (fun a k q => by omega) C9
              have FR81 := frm_t FR38 (frm_m (S' := (fun a j => a = m ∨ a = m + 9 ∨ a = m + 10 ∨ ((a = m + 2 ∨ a = m + 3 ∨ a = m + 4) ∧ j = 0) ∨ (a = m + 5 ∧ j < 3) ∨ (a = m + 6 ∧ j < 162) ∨ (a = m + 7 ∧ j < 242) ∨ (a = m + 8 ∧ j < 50))) f77 (fun a k q => by omega))
              refine e_iload_n dX12_text_120 rfl ?_
              refine z_if_ne 138 dX12_text_121 rfl ⟨by omega, by omega⟩ (fun c82 => ?_) (fun c82 => ?_)
              · skip
                refine e_iload_n dX12_text_138 rfl ?_
                refine z_iconst (1) dX12_text_139 rfl ?_
                refine z_icmp_ne 157 dX12_text_140 rfl ⟨by omega, by omega⟩ ⟨by omega, by omega⟩ (fun c83 => ?_) (fun c83 => ?_)
                · exfalso; omega
                · skip
                  refine e_aload_n dX12_text_143 rfl ?_
                  refine e_aload_n dX12_text_144 rfl ?_
                  refine e_get (.ref (m + 7)) dX12_text_145 tf_12_29 (rk_s k78) (congrArg va_rf (rk_r7 k78)) ?_
                  refine z_bipush (121) dX12_text_148 rfl ?_
                  refine e_iload_n dX12_text_150 rfl ?_
                  refine e_callV [.ref _, .int _, .int _] dX12_text_151 tm_12_260 rfl (Nat.le_of_ble_eq_true rfl) (rk_s k78) (Nat.le_of_ble_eq_true rfl) (Nat.le_refl _) (Nat.le_refl _) rfl (zp_X12_store_1 k78 H80 (cn σ 1) ⟨by omega, by omega⟩ (by omega) (fun  h84 f85 p86 => ?_))
                  have k87 := rk_q (frm_s f85) k78
                  have H88 := rfT_c f85 (fun a k q => by omega) H79
                  have H89 := rfC_c f85 (fun a k q => by omega) H80
                  have FR90 := frm_t FR81 (frm_m (S' := (fun a j => a = m ∨ a = m + 9 ∨ a = m + 10 ∨ ((a = m + 2 ∨ a = m + 3 ∨ a = m + 4) ∧ j = 0) ∨ (a = m + 5 ∧ j < 3) ∨ (a = m + 6 ∧ j < 162) ∨ (a = m + 7 ∧ j < 242) ∨ (a = m + 8 ∧ j < 50))) f85 (fun a k q => by omega))
                  skip
                  refine e_goto 168 dX12_text_154 rfl ?_
                  refine e_iload_n dX12_text_168 rfl ?_
                  refine z_iret dX12_text_169 rfl ⟨rfl, ?_⟩
                  have EX : (cn σ 1) = ixC (cn σ 1) b := by omega
                  have FA : frm (fun a k => (a = m + 7 ∧ 121 * ixC (cn σ 1) b ≤ (k : Int) ∧ (k : Int) < 121 * ixC (cn σ 1) b + 121) ∨ (a = m + 5 ∧ k = 1)) h33 h84 := frm_t (frm_m f77 (fun a k q => by omega)) (frm_m f85 (fun a k q => by omega))
                  have W9 := fe_w1 O1 O5
                  have ST := p86
                  rw [EX] at ST
                  have e5 : rI h84 (m + 5) 1 = max (cn (sgA σ 0 (-1)) 1) (ixC (cn σ 1) b + 1) := by rw [sgA_cn (by omega)]; exact (((frm_r f85 (by omega)).trans (rI_eq e76 ⟨by omega, by omega⟩))).trans (by omega)
                  exact kq _ trivial _ FR90 ⟨_, refT_k1 RA FA ST e5 W9 ixb.1 (by rw [sgA_cn (by omega)]; exact ixb.2.1), Or.inr ⟨GD, Or.inr (Or.inr ⟨EX, n, O1, O2, O5, by rw [keS_1, ← EX]⟩)⟩⟩
              · exfalso; omega
            · skip
              refine z_iconst (1) dX12_text_113 rfl ?_
              refine e_goto 118 dX12_text_114 rfl ?_
              refine z_iadd dX12_text_118 ?_
              refine z_ist dX12_text_119 (rk_a5 k36) (by decide) (by omega) (by omega) (fun h91 e92 => ?_)
              have f93 := frm_1 e92
              have k94 := rk_q (frm_s f93) k36
              have H95 := rfT_c f93 (fun a k q => by omega) H37
              have H96 := rfC_c f93 (fun a k q => by omega) C9
              have FR97 := frm_t FR38 (frm_m (S' := (fun a j => a = m ∨ a = m + 9 ∨ a = m + 10 ∨ ((a = m + 2 ∨ a = m + 3 ∨ a = m + 4) ∧ j = 0) ∨ (a = m + 5 ∧ j < 3) ∨ (a = m + 6 ∧ j < 162) ∨ (a = m + 7 ∧ j < 242) ∨ (a = m + 8 ∧ j < 50))) f93 (fun a k q => by omega))
              refine e_iload_n dX12_text_120 rfl ?_
              refine z_if_ne 138 dX12_text_121 rfl ⟨by omega, by omega⟩ (fun c98 => ?_) (fun c98 => ?_)
              · skip
                refine e_iload_n dX12_text_138 rfl ?_
                refine z_iconst (1) dX12_text_139 rfl ?_
                refine z_icmp_ne 157 dX12_text_140 rfl ⟨by omega, by omega⟩ ⟨by omega, by omega⟩ (fun c99 => ?_) (fun c99 => ?_)
                · exfalso; omega
                · skip
                  refine e_aload_n dX12_text_143 rfl ?_
                  refine e_aload_n dX12_text_144 rfl ?_
                  refine e_get (.ref (m + 7)) dX12_text_145 tf_12_29 (rk_s k94) (congrArg va_rf (rk_r7 k94)) ?_
                  refine z_bipush (121) dX12_text_148 rfl ?_
                  refine e_iload_n dX12_text_150 rfl ?_
                  refine e_callV [.ref _, .int _, .int _] dX12_text_151 tm_12_260 rfl (Nat.le_of_ble_eq_true rfl) (rk_s k94) (Nat.le_of_ble_eq_true rfl) (Nat.le_refl _) (Nat.le_refl _) rfl (zp_X12_store_1 k94 H96 (cn σ 1) ⟨by omega, by omega⟩ (by omega) (fun  h100 f101 p102 => ?_))
                  have k103 := rk_q (frm_s f101) k94
                  have H104 := rfT_c f101 (fun a k q => by omega) H95
                  have H105 := rfC_c f101 (fun a k q => by omega) H96
                  have FR106 := frm_t FR97 (frm_m (S' := (fun a j => a = m ∨ a = m + 9 ∨ a = m + 10 ∨ ((a = m + 2 ∨ a = m + 3 ∨ a = m + 4) ∧ j = 0) ∨ (a = m + 5 ∧ j < 3) ∨ (a = m + 6 ∧ j < 162) ∨ (a = m + 7 ∧ j < 242) ∨ (a = m + 8 ∧ j < 50))) f101 (fun a k q => by omega))
                  skip
                  refine e_goto 168 dX12_text_154 rfl ?_
                  refine e_iload_n dX12_text_168 rfl ?_
                  refine z_iret dX12_text_169 rfl ⟨rfl, ?_⟩
                  have EX : (cn σ 1) = ixC (cn σ 1) b := by omega
                  have FA : frm (fun a k => (a = m + 7 ∧ 121 * ixC (cn σ 1) b ≤ (k : Int) ∧ (k : Int) < 121 * ixC (cn σ 1) b + 121) ∨ (a = m + 5 ∧ k = 1)) h33 h100 := frm_t (frm_m f93 (fun a k q => by omega)) (frm_m f101 (fun a k q => by omega))
                  have W9 := fe_w1 O1 O5
                  have ST := p102
                  rw [EX] at ST
                  have e5 : rI h100 (m + 5) 1 = max (cn (sgA σ 0 (-1)) 1) (ixC (cn σ 1) b + 1) := by rw [sgA_cn (by omega)]; exact (((frm_r f101 (by omega)).trans (rI_eq e92 ⟨by omega, by omega⟩))).trans (by omega)
                  exact kq _ trivial _ FR106 ⟨_, refT_k1 RA FA ST e5 W9 ixb.1 (by rw [sgA_cn (by omega)]; exact ixb.2.1), Or.inr ⟨GD, Or.inr (Or.inr ⟨EX, n, O1, O2, O5, by rw [keS_1, ← EX]⟩)⟩⟩
              · exfalso; omega
        · skip
          skip
          refine z_iconst (-1) dX12_text_83 rfl ?_
          refine z_iret dX12_text_84 rfl ⟨rfl, ?_⟩
          rcases p35 with ⟨n, o1, o2, t1, o4, o5⟩ | ⟨z, n, o1, o2, o3, t1, t2⟩
          · have fb := fe_b (rn_nq (by omega) n o1) (by omega)
            exact kq _ trivial _ FR38 ⟨_, refT_a HR (fun a u v z n => ((frm_r f34 (by omega)).trans ((frm_r f25 (by omega)).trans ((frm_r f20 (by omega)).trans ((frm_r f15 (by omega)).trans ((frm_r f9 (by omega)).trans (frm_r f3 (by omega)))))))) (((frm_r f34 (by omega)).trans ((frm_r f25 (by omega)).trans (frm_r f20 (by omega)))).trans (rI_eq e14 ⟨by omega, by omega⟩)) t1.1 t1.2 fb.1 fb.2, Or.inr ⟨GD, Or.inl ⟨rfl, n, o1, o2, by omega, rfl⟩⟩⟩
          · have ob := okN_b (by omega) n o1
            have lb := lx_b (s := 1) (T := sT σ) (L := cn σ 3) ⟨ob.1, ob.2.1⟩
            exact kq _ trivial _ FR38 ⟨_, refT_a HR (fun a u v z n => ((frm_r f34 (by omega)).trans ((frm_r f25 (by omega)).trans ((frm_r f20 (by omega)).trans ((frm_r f15 (by omega)).trans ((frm_r f9 (by omega)).trans (frm_r f3 (by omega)))))))) (((frm_r f34 (by omega)).trans ((frm_r f25 (by omega)).trans (frm_r f20 (by omega)))).trans (rI_eq e14 ⟨by omega, by omega⟩)) t1 t2 ⟨by omega, by omega⟩ ⟨by omega, by omega⟩, Or.inr ⟨GD, Or.inr (Or.inl ⟨rfl, n, o1, o2, o3, rfl⟩)⟩⟩
      · skip
        refine z_bipush (-2) dX12_text_72 rfl ?_
        refine z_iret dX12_text_74 rfl ⟨rfl, ?_⟩
        exact kq _ trivial _ FR27 ⟨_, refT_a HR (fun a u v z n => ((frm_r f25 (by omega)).trans ((frm_r f20 (by omega)).trans ((frm_r f15 (by omega)).trans ((frm_r f9 (by omega)).trans (frm_r f3 (by omega))))))) (((frm_r f25 (by omega)).trans (frm_r f20 (by omega))).trans (rI_eq e14 ⟨by omega, by omega⟩)) ((frm_r f25 (by omega)).trans (rI_eq e19 ⟨by omega, by omega⟩)) (rI_eq e24 ⟨by omega, by omega⟩) (by omega) (by omega), Or.inl ⟨fun z => by have z2 := z.2; unfold gdC at z2; omega, rfl, rfl⟩⟩
    · skip
      refine e_aload_n dX12_text_50 rfl ?_
      refine e_get (.ref (m + 5)) dX12_text_51 tf_12_23 (rk_s k26) (congrArg va_rf (rk_r5 k26)) ?_
      refine e_iload_n dX12_text_54 rfl ?_
      refine z_ild (cn σ 1) dX12_text_55 (rk_a5 k26) (by decide) (by omega) (by omega) ((((frm_r f25 (by omega)).trans ((frm_r f20 (by omega)).trans ((frm_r f15 (by omega)).trans ((frm_r f9 (by omega)).trans (frm_r f3 (by omega))))))).trans (refT_cn HR (by omega) (by omega))) ?_
      refine z_iconst (2) dX12_text_56 rfl ?_
      refine z_icmp_ne 75 dX12_text_57 rfl ⟨by omega, by omega⟩ ⟨by omega, by omega⟩ (fun c107 => ?_) (fun c107 => ?_)
      · skip
        have RT : rfT h23 m (sT σ) (cn σ 3) := ⟨by omega, (((frm_r f25 (by omega)).trans ((frm_r f20 (by omega)).trans (frm_r f15 (by omega)))).trans (rI_eq e8 ⟨by omega, by omega⟩)), fun k a z => (((frm_r f25 (by omega)).trans ((frm_r f20 (by omega)).trans ((frm_r f15 (by omega)).trans ((frm_r f9 (by omega)).trans (frm_r f3 (by omega))))))).trans (refT_t HR a (by omega)), fun k a z => wS_t (refT_w HR) a (by omega)⟩
        have GD : (0 ≤ (1 : Int) ∧ (1 : Int) ≤ 2) ∧ gdC (cn σ 1) b := ⟨by omega, by unfold gdC; omega⟩
        have ixb := ix_b GD.2 (by omega)
        refine e_aload_n dX12_text_75 rfl ?_
        refine e_iload_n dX12_text_76 rfl ?_
        refine e_callV [.int _] dX12_text_77 tm_12_257 rfl (Nat.le_of_ble_eq_true rfl) (rk_s k26) (Nat.le_of_ble_eq_true rfl) (Nat.le_refl _) (Nat.le_refl _) rfl (zp_X12_readText_1 k26 RT (fun v108 p109 h110 f111 p112 => ?_))
        have k113 := rk_q (frm_s f111) k26
        have H114 := rfT_c f111 (fun a k q => by omega) RT
        have FR115 := frm_t FR27 (frm_m (S' := (fun a j => a = m ∨ a = m + 9 ∨ a = m + 10 ∨ ((a = m + 2 ∨ a = m + 3 ∨ a = m + 4) ∧ j = 0) ∨ (a = m + 5 ∧ j < 3) ∨ (a = m + 6 ∧ j < 162) ∨ (a = m + 7 ∧ j < 242) ∨ (a = m + 8 ∧ j < 50))) f111 (fun a k q => by omega))
        skip
        refine z_if_ne 85 dX12_text_80 rfl ⟨by omega, by omega⟩ (fun c116 => ?_) (fun c116 => ?_)
        · skip
          obtain ⟨n, O1, O2, ⟨t1, t2⟩, C9, O5⟩ : ∃ n, okN 1 (sT σ) (cn σ 3) n ∧ tkK (sT σ) (cn σ 3) (runP 1 (sT σ) (cn σ 3) n) = 3 ∧ (rI h110 (m + 3) 0 = 0 ∧ rI h110 (m + 4) 0 = -1) ∧ rfC h110 m (runC 1 (sT σ) (cn σ 3) n) ∧ feF 1 (sT σ) (cn σ 3) n = 0 := by
            rcases p112 with ⟨n, o1, o2, o3, o4, o5⟩ | ⟨z, _⟩
            · have e0 : feF 1 (sT σ) (cn σ 3) n = 0 := by omega
              exact ⟨n, o1, o2, ⟨o3.1.trans e0, o3.2.trans (fe_0 e0).2.2⟩, o4, e0⟩
            · omega
          have RA : refT h110 m 0 (sgA σ 0 (-1)) := refT_a HR (fun a u v z n => ((frm_r f111 (by omega)).trans ((frm_r f25 (by omega)).trans ((frm_r f20 (by omega)).trans ((frm_r f15 (by omega)).trans ((frm_r f9 (by omega)).trans (frm_r f3 (by omega)))))))) (((frm_r f111 (by omega)).trans ((frm_r f25 (by omega)).trans (frm_r f20 (by omega)))).trans (rI_eq e14 ⟨by omega, by omega⟩)) t1 t2 (by omega) (by omega)
          refine e_iload_n dX12_text_85 rfl ?_
          refine z_iconst (-1) dX12_text_86 rfl ?_
          refine z_icmp_ne 99 dX12_text_87 rfl ⟨by omega, by omega⟩ ⟨by omega, by omega⟩ (fun c117 => ?_) (fun c117 => ?_)
          · skip
            refine e_iload_n dX12_text_99 rfl ?_
            refine e_istore_n (L' := [_, _, _, _]) dX12_text_100 (Nat.le_of_ble_eq_true rfl) rfl ?_
            refine e_aload_n dX12_text_101 rfl ?_
            refine e_get (.ref (m + 5)) dX12_text_102 tf_12_23 (rk_s k113) (congrArg va_rf (rk_r5 k113)) ?_
            refine e_iload_n dX12_text_105 rfl ?_
            refine e_dup2 dX12_text_106 rfl rfl ?_
            refine z_ild (cn σ 1) dX12_text_107 (rk_a5 k113) (by decide) (by omega) (by omega) ((((frm_r f111 (by omega)).trans ((frm_r f25 (by omega)).trans ((frm_r f20 (by omega)).trans ((frm_r f15 (by omega)).trans ((frm_r f9 (by omega)).trans (frm_r f3 (by omega)))))))).trans (refT_cn HR (by omega) (by omega))) ?_
            refine e_iload_n dX12_text_108 rfl ?_
            refine z_iconst (-1) dX12_text_109 rfl ?_
            refine z_icmp_ne 117 dX12_text_110 rfl ⟨by omega, by omega⟩ ⟨by omega, by omega⟩ (fun c118 => ?_) (fun c118 => ?_)
            · skip
              refine z_iconst (0) dX12_text_117 rfl ?_
              refine z_iadd dX12_text_118 ?_
              refine z_ist dX12_text_119 (rk_a5 k113) (by decide) (by omega) (by omega) (fun h119 e120 => ?_)
              have f121 := frm_1 e120
              have k122 := rk_q (frm_s f121) k113
              have H123 := rfT_c f121 (fun a k q => by omega) H114
              have H124 := rfC_c f121 (fun a k q => by omega) C9
              have FR125 := frm_t FR115 (frm_m (S' := (fun a j => a = m ∨ a = m + 9 ∨ a = m + 10 ∨ ((a = m + 2 ∨ a = m + 3 ∨ a = m + 4) ∧ j = 0) ∨ (a = m + 5 ∧ j < 3) ∨ (a = m + 6 ∧ j < 162) ∨ (a = m + 7 ∧ j < 242) ∨ (a = m + 8 ∧ j < 50))) f121 (fun a k q => by omega))
              refine e_iload_n dX12_text_120 rfl ?_
              refine z_if_ne 138 dX12_text_121 rfl ⟨by omega, by omega⟩ (fun c126 => ?_) (fun c126 => ?_)
              · skip
                refine e_iload_n dX12_text_138 rfl ?_
                refine z_iconst (1) dX12_text_139 rfl ?_
                refine z_icmp_ne 157 dX12_text_140 rfl ⟨by omega, by omega⟩ ⟨by omega, by omega⟩ (fun c127 => ?_) (fun c127 => ?_)
                · exfalso; omega
                · skip
                  refine e_aload_n dX12_text_143 rfl ?_
                  refine e_aload_n dX12_text_144 rfl ?_
                  refine e_get (.ref (m + 7)) dX12_text_145 tf_12_29 (rk_s k122) (congrArg va_rf (rk_r7 k122)) ?_
                  refine z_bipush (121) dX12_text_148 rfl ?_
                  refine e_iload_n dX12_text_150 rfl ?_
                  refine e_callV [.ref _, .int _, .int _] dX12_text_151 tm_12_260 rfl (Nat.le_of_ble_eq_true rfl) (rk_s k122) (Nat.le_of_ble_eq_true rfl) (Nat.le_refl _) (Nat.le_refl _) rfl (zp_X12_store_1 k122 H124 b ⟨by omega, by omega⟩ (by omega) (fun  h128 f129 p130 => ?_))
                  have k131 := rk_q (frm_s f129) k122
                  have H132 := rfT_c f129 (fun a k q => by omega) H123
                  have H133 := rfC_c f129 (fun a k q => by omega) H124
                  have FR134 := frm_t FR125 (frm_m (S' := (fun a j => a = m ∨ a = m + 9 ∨ a = m + 10 ∨ ((a = m + 2 ∨ a = m + 3 ∨ a = m + 4) ∧ j = 0) ∨ (a = m + 5 ∧ j < 3) ∨ (a = m + 6 ∧ j < 162) ∨ (a = m + 7 ∧ j < 242) ∨ (a = m + 8 ∧ j < 50))) f129 (fun a k q => by omega))
                  skip
                  refine e_goto 168 dX12_text_154 rfl ?_
                  refine e_iload_n dX12_text_168 rfl ?_
                  refine z_iret dX12_text_169 rfl ⟨rfl, ?_⟩
                  have EX : b = ixC (cn σ 1) b := by omega
                  have FA : frm (fun a k => (a = m + 7 ∧ 121 * ixC (cn σ 1) b ≤ (k : Int) ∧ (k : Int) < 121 * ixC (cn σ 1) b + 121) ∨ (a = m + 5 ∧ k = 1)) h110 h128 := frm_t (frm_m f121 (fun a k q => by omega)) (frm_m f129 (fun a k q => by omega))
                  have W9 := fe_w1 O1 O5
                  have ST := p130
                  rw [EX] at ST
                  have e5 : rI h128 (m + 5) 1 = max (cn (sgA σ 0 (-1)) 1) (ixC (cn σ 1) b + 1) := by rw [sgA_cn (by omega)]; exact (((frm_r f129 (by omega)).trans (rI_eq e120 ⟨by omega, by omega⟩))).trans (by omega)
                  exact kq _ trivial _ FR134 ⟨_, refT_k1 RA FA ST e5 W9 ixb.1 (by rw [sgA_cn (by omega)]; exact ixb.2.1), Or.inr ⟨GD, Or.inr (Or.inr ⟨EX, n, O1, O2, O5, by rw [keS_1, ← EX]⟩)⟩⟩
              · exfalso; omega
            · skip
              refine z_iconst (1) dX12_text_113 rfl ?_
              refine e_goto 118 dX12_text_114 rfl ?_
              refine z_iadd dX12_text_118 ?_
              refine z_ist dX12_text_119 (rk_a5 k113) (by decide) (by omega) (by omega) (fun h135 e136 => ?_)
              have f137 := frm_1 e136
              have k138 := rk_q (frm_s f137) k113
              have H139 := rfT_c f137 (fun a k q => by omega) H114
              have H140 := rfC_c f137 (fun a k q => by omega) C9
              have FR141 := frm_t FR115 (frm_m (S' := (fun a j => a = m ∨ a = m + 9 ∨ a = m + 10 ∨ ((a = m + 2 ∨ a = m + 3 ∨ a = m + 4) ∧ j = 0) ∨ (a = m + 5 ∧ j < 3) ∨ (a = m + 6 ∧ j < 162) ∨ (a = m + 7 ∧ j < 242) ∨ (a = m + 8 ∧ j < 50))) f137 (fun a k q => by omega))
              refine e_iload_n dX12_text_120 rfl ?_
              refine z_if_ne 138 dX12_text_121 rfl ⟨by omega, by omega⟩ (fun c142 => ?_) (fun c142 => ?_)
              · skip
                refine e_iload_n dX12_text_138 rfl ?_
                refine z_iconst (1) dX12_text_139 rfl ?_
                refine z_icmp_ne 157 dX12_text_140 rfl ⟨by omega, by omega⟩ ⟨by omega, by omega⟩ (fun c143 => ?_) (fun c143 => ?_)
                · exfalso; omega
                · skip
                  refine e_aload_n dX12_text_143 rfl ?_
                  refine e_aload_n dX12_text_144 rfl ?_
                  refine e_get (.ref (m + 7)) dX12_text_145 tf_12_29 (rk_s k138) (congrArg va_rf (rk_r7 k138)) ?_
                  refine z_bipush (121) dX12_text_148 rfl ?_
                  refine e_iload_n dX12_text_150 rfl ?_
                  refine e_callV [.ref _, .int _, .int _] dX12_text_151 tm_12_260 rfl (Nat.le_of_ble_eq_true rfl) (rk_s k138) (Nat.le_of_ble_eq_true rfl) (Nat.le_refl _) (Nat.le_refl _) rfl (zp_X12_store_1 k138 H140 b ⟨by omega, by omega⟩ (by omega) (fun  h144 f145 p146 => ?_))
                  have k147 := rk_q (frm_s f145) k138
                  have H148 := rfT_c f145 (fun a k q => by omega) H139
                  have H149 := rfC_c f145 (fun a k q => by omega) H140
                  have FR150 := frm_t FR141 (frm_m (S' := (fun a j => a = m ∨ a = m + 9 ∨ a = m + 10 ∨ ((a = m + 2 ∨ a = m + 3 ∨ a = m + 4) ∧ j = 0) ∨ (a = m + 5 ∧ j < 3) ∨ (a = m + 6 ∧ j < 162) ∨ (a = m + 7 ∧ j < 242) ∨ (a = m + 8 ∧ j < 50))) f145 (fun a k q => by omega))
                  skip
                  refine e_goto 168 dX12_text_154 rfl ?_
                  refine e_iload_n dX12_text_168 rfl ?_
                  refine z_iret dX12_text_169 rfl ⟨rfl, ?_⟩
                  have EX : b = ixC (cn σ 1) b := by omega
                  have FA : frm (fun a k => (a = m + 7 ∧ 121 * ixC (cn σ 1) b ≤ (k : Int) ∧ (k : Int) < 121 * ixC (cn σ 1) b + 121) ∨ (a = m + 5 ∧ k = 1)) h110 h144 := frm_t (frm_m f137 (fun a k q => by omega)) (frm_m f145 (fun a k q => by omega))
                  have W9 := fe_w1 O1 O5
                  have ST := p146
                  rw [EX] at ST
                  have e5 : rI h144 (m + 5) 1 = max (cn (sgA σ 0 (-1)) 1) (ixC (cn σ 1) b + 1) := by rw [sgA_cn (by omega)]; exact (((frm_r f145 (by omega)).trans (rI_eq e136 ⟨by omega, by omega⟩))).trans (by omega)
                  exact kq _ trivial _ FR150 ⟨_, refT_k1 RA FA ST e5 W9 ixb.1 (by rw [sgA_cn (by omega)]; exact ixb.2.1), Or.inr ⟨GD, Or.inr (Or.inr ⟨EX, n, O1, O2, O5, by rw [keS_1, ← EX]⟩)⟩⟩
              · exfalso; omega
          · skip
            refine e_aload_n dX12_text_90 rfl ?_
            refine e_get (.ref (m + 5)) dX12_text_91 tf_12_23 (rk_s k113) (congrArg va_rf (rk_r5 k113)) ?_
            refine e_iload_n dX12_text_94 rfl ?_
            refine z_ild (cn σ 1) dX12_text_95 (rk_a5 k113) (by decide) (by omega) (by omega) ((((frm_r f111 (by omega)).trans ((frm_r f25 (by omega)).trans ((frm_r f20 (by omega)).trans ((frm_r f15 (by omega)).trans ((frm_r f9 (by omega)).trans (frm_r f3 (by omega)))))))).trans (refT_cn HR (by omega) (by omega))) ?_
            refine e_goto 100 dX12_text_96 rfl ?_
            refine e_istore_n (L' := [_, _, _, _]) dX12_text_100 (Nat.le_of_ble_eq_true rfl) rfl ?_
            refine e_aload_n dX12_text_101 rfl ?_
            refine e_get (.ref (m + 5)) dX12_text_102 tf_12_23 (rk_s k113) (congrArg va_rf (rk_r5 k113)) ?_
            refine e_iload_n dX12_text_105 rfl ?_
            refine e_dup2 dX12_text_106 rfl rfl ?_
            refine z_ild (cn σ 1) dX12_text_107 (rk_a5 k113) (by decide) (by omega) (by omega) ((((frm_r f111 (by omega)).trans ((frm_r f25 (by omega)).trans ((frm_r f20 (by omega)).trans ((frm_r f15 (by omega)).trans ((frm_r f9 (by omega)).trans (frm_r f3 (by omega)))))))).trans (refT_cn HR (by omega) (by omega))) ?_
            refine e_iload_n dX12_text_108 rfl ?_
            refine z_iconst (-1) dX12_text_109 rfl ?_
            refine z_icmp_ne 117 dX12_text_110 rfl ⟨by omega, by omega⟩ ⟨by omega, by omega⟩ (fun c151 => ?_) (fun c151 => ?_)
            · skip
              refine z_iconst (0) dX12_text_117 rfl ?_
              refine z_iadd dX12_text_118 ?_
              refine z_ist dX12_text_119 (rk_a5 k113) (by decide) (by omega) (by omega) (fun h152 e153 => ?_)
              have f154 := frm_1 e153
              have k155 := rk_q (frm_s f154) k113
              have H156 := rfT_c f154 (fun a k q => by omega) H114
              have H157 := rfC_c f154 (fun a k q => by omega) C9
              have FR158 := frm_t FR115 (frm_m (S' := (fun a j => a = m ∨ a = m + 9 ∨ a = m + 10 ∨ ((a = m + 2 ∨ a = m + 3 ∨ a = m + 4) ∧ j = 0) ∨ (a = m + 5 ∧ j < 3) ∨ (a = m + 6 ∧ j < 162) ∨ (a = m + 7 ∧ j < 242) ∨ (a = m + 8 ∧ j < 50))) f154 (fun a k q => by omega))
              refine e_iload_n dX12_text_120 rfl ?_
              refine z_if_ne 138 dX12_text_121 rfl ⟨by omega, by omega⟩ (fun c159 => ?_) (fun c159 => ?_)
              · skip
                refine e_iload_n dX12_text_138 rfl ?_
                refine z_iconst (1) dX12_text_139 rfl ?_
                refine z_icmp_ne 157 dX12_text_140 rfl ⟨by omega, by omega⟩ ⟨by omega, by omega⟩ (fun c160 => ?_) (fun c160 => ?_)
                · exfalso; omega
                · skip
                  refine e_aload_n dX12_text_143 rfl ?_
                  refine e_aload_n dX12_text_144 rfl ?_
                  refine e_get (.ref (m + 7)) dX12_text_145 tf_12_29 (rk_s k155) (congrArg va_rf (rk_r7 k155)) ?_
                  refine z_bipush (121) dX12_text_148 rfl ?_
                  refine e_iload_n dX12_text_150 rfl ?_
                  refine e_callV [.ref _, .int _, .int _] dX12_text_151 tm_12_260 rfl (Nat.le_of_ble_eq_true rfl) (rk_s k155) (Nat.le_of_ble_eq_true rfl) (Nat.le_refl _) (Nat.le_refl _) rfl (zp_X12_store_1 k155 H157 (cn σ 1) ⟨by omega, by omega⟩ (by omega) (fun  h161 f162 p163 => ?_))
                  have k164 := rk_q (frm_s f162) k155
                  have H165 := rfT_c f162 (fun a k q => by omega) H156
                  have H166 := rfC_c f162 (fun a k q => by omega) H157
                  have FR167 := frm_t FR158 (frm_m (S' := (fun a j => a = m ∨ a = m + 9 ∨ a = m + 10 ∨ ((a = m + 2 ∨ a = m + 3 ∨ a = m + 4) ∧ j = 0) ∨ (a = m + 5 ∧ j < 3) ∨ (a = m + 6 ∧ j < 162) ∨ (a = m + 7 ∧ j < 242) ∨ (a = m + 8 ∧ j < 50))) f162 (fun a k q => by omega))
                  skip
                  refine e_goto 168 dX12_text_154 rfl ?_
                  refine e_iload_n dX12_text_168 rfl ?_
                  refine z_iret dX12_text_169 rfl ⟨rfl, ?_⟩
                  have EX : (cn σ 1) = ixC (cn σ 1) b := by omega
                  have FA : frm (fun a k => (a = m + 7 ∧ 121 * ixC (cn σ 1) b ≤ (k : Int) ∧ (k : Int) < 121 * ixC (cn σ 1) b + 121) ∨ (a = m + 5 ∧ k = 1)) h110 h161 := frm_t (frm_m f154 (fun a k q => by omega)) (frm_m f162 (fun a k q => by omega))
                  have W9 := fe_w1 O1 O5
                  have ST := p163
                  rw [EX] at ST
                  have e5 : rI h161 (m + 5) 1 = max (cn (sgA σ 0 (-1)) 1) (ixC (cn σ 1) b + 1) := by rw [sgA_cn (by omega)]; exact (((frm_r f162 (by omega)).trans (rI_eq e153 ⟨by omega, by omega⟩))).trans (by omega)
                  exact kq _ trivial _ FR167 ⟨_, refT_k1 RA FA ST e5 W9 ixb.1 (by rw [sgA_cn (by omega)]; exact ixb.2.1), Or.inr ⟨GD, Or.inr (Or.inr ⟨EX, n, O1, O2, O5, by rw [keS_1, ← EX]⟩)⟩⟩
              · exfalso; omega
            · skip
              refine z_iconst (1) dX12_text_113 rfl ?_
              refine e_goto 118 dX12_text_114 rfl ?_
              refine z_iadd dX12_text_118 ?_
              refine z_ist dX12_text_119 (rk_a5 k113) (by decide) (by omega) (by omega) (fun h168 e169 => ?_)
              have f170 := frm_1 e169
              have k171 := rk_q (frm_s f170) k113
              have H172 := rfT_c f170 (fun a k q => by omega) H114
              have H173 := rfC_c f170 (fun a k q => by omega) C9
              have FR174 := frm_t FR115 (frm_m (S' := (fun a j => a = m ∨ a = m + 9 ∨ a = m + 10 ∨ ((a = m + 2 ∨ a = m + 3 ∨ a = m + 4) ∧ j = 0) ∨ (a = m + 5 ∧ j < 3) ∨ (a = m + 6 ∧ j < 162) ∨ (a = m + 7 ∧ j < 242) ∨ (a = m + 8 ∧ j < 50))) f170 (fun a k q => by omega))
              refine e_iload_n dX12_text_120 rfl ?_
              refine z_if_ne 138 dX12_text_121 rfl ⟨by omega, by omega⟩ (fun c175 => ?_) (fun c175 => ?_)
              · skip
                refine e_iload_n dX12_text_138 rfl ?_
                refine z_iconst (1) dX12_text_139 rfl ?_
                refine z_icmp_ne 157 dX12_text_140 rfl ⟨by omega, by omega⟩ ⟨by omega, by omega⟩ (fun c176 => ?_) (fun c176 => ?_)
                · exfalso; omega
                · skip
                  refine e_aload_n dX12_text_143 rfl ?_
                  refine e_aload_n dX12_text_144 rfl ?_
                  refine e_get (.ref (m + 7)) dX12_text_145 tf_12_29 (rk_s k171) (congrArg va_rf (rk_r7 k171)) ?_
                  refine z_bipush (121) dX12_text_148 rfl ?_
                  refine e_iload_n dX12_text_150 rfl ?_
                  refine e_callV [.ref _, .int _, .int _] dX12_text_151 tm_12_260 rfl (Nat.le_of_ble_eq_true rfl) (rk_s k171) (Nat.le_of_ble_eq_true rfl) (Nat.le_refl _) (Nat.le_refl _) rfl (zp_X12_store_1 k171 H173 (cn σ 1) ⟨by omega, by omega⟩ (by omega) (fun  h177 f178 p179 => ?_))
                  have k180 := rk_q (frm_s f178) k171
                  have H181 := rfT_c f178 (fun a k q => by omega) H172
                  have H182 := rfC_c f178 (fun a k q => by omega) H173
                  have FR183 := frm_t FR174 (frm_m (S' := (fun a j => a = m ∨ a = m + 9 ∨ a = m + 10 ∨ ((a = m + 2 ∨ a = m + 3 ∨ a = m + 4) ∧ j = 0) ∨ (a = m + 5 ∧ j < 3) ∨ (a = m + 6 ∧ j < 162) ∨ (a = m + 7 ∧ j < 242) ∨ (a = m + 8 ∧ j < 50))) f178 (fun a k q => by omega))
                  skip
                  refine e_goto 168 dX12_text_154 rfl ?_
                  refine e_iload_n dX12_text_168 rfl ?_
                  refine z_iret dX12_text_169 rfl ⟨rfl, ?_⟩
                  have EX : (cn σ 1) = ixC (cn σ 1) b := by omega
                  have FA : frm (fun a k => (a = m + 7 ∧ 121 * ixC (cn σ 1) b ≤ (k : Int) ∧ (k : Int) < 121 * ixC (cn σ 1) b + 121) ∨ (a = m + 5 ∧ k = 1)) h110 h177 := frm_t (frm_m f170 (fun a k q => by omega)) (frm_m f178 (fun a k q => by omega))
                  have W9 := fe_w1 O1 O5
                  have ST := p179
                  rw [EX] at ST
                  have e5 : rI h177 (m + 5) 1 = max (cn (sgA σ 0 (-1)) 1) (ixC (cn σ 1) b + 1) := by rw [sgA_cn (by omega)]; exact (((frm_r f178 (by omega)).trans (rI_eq e169 ⟨by omega, by omega⟩))).trans (by omega)
                  exact kq _ trivial _ FR183 ⟨_, refT_k1 RA FA ST e5 W9 ixb.1 (by rw [sgA_cn (by omega)]; exact ixb.2.1), Or.inr ⟨GD, Or.inr (Or.inr ⟨EX, n, O1, O2, O5, by rw [keS_1, ← EX]⟩)⟩⟩
              · exfalso; omega
        · skip
          skip
          refine z_iconst (-1) dX12_text_83 rfl ?_
          refine z_iret dX12_text_84 rfl ⟨rfl, ?_⟩
          rcases p112 with ⟨n, o1, o2, t1, o4, o5⟩ | ⟨z, n, o1, o2, o3, t1, t2⟩
          · have fb := fe_b (rn_nq (by omega) n o1) (by omega)
            exact kq _ trivial _ FR115 ⟨_, refT_a HR (fun a u v z n => ((frm_r f111 (by omega)).trans ((frm_r f25 (by omega)).trans ((frm_r f20 (by omega)).trans ((frm_r f15 (by omega)).trans ((frm_r f9 (by omega)).trans (frm_r f3 (by omega)))))))) (((frm_r f111 (by omega)).trans ((frm_r f25 (by omega)).trans (frm_r f20 (by omega)))).trans (rI_eq e14 ⟨by omega, by omega⟩)) t1.1 t1.2 fb.1 fb.2, Or.inr ⟨GD, Or.inl ⟨rfl, n, o1, o2, by omega, rfl⟩⟩⟩
          · have ob := okN_b (by omega) n o1
            have lb := lx_b (s := 1) (T := sT σ) (L := cn σ 3) ⟨ob.1, ob.2.1⟩
            exact kq _ trivial _ FR115 ⟨_, refT_a HR (fun a u v z n => ((frm_r f111 (by omega)).trans ((frm_r f25 (by omega)).trans ((frm_r f20 (by omega)).trans ((frm_r f15 (by omega)).trans ((frm_r f9 (by omega)).trans (frm_r f3 (by omega)))))))) (((frm_r f111 (by omega)).trans ((frm_r f25 (by omega)).trans (frm_r f20 (by omega)))).trans (rI_eq e14 ⟨by omega, by omega⟩)) t1 t2 ⟨by omega, by omega⟩ ⟨by omega, by omega⟩, Or.inr ⟨GD, Or.inr (Or.inl ⟨rfl, n, o1, o2, o3, rfl⟩)⟩⟩
      · skip
        refine e_goto 72 dX12_text_60 rfl ?_
        refine z_bipush (-2) dX12_text_72 rfl ?_
        refine z_iret dX12_text_74 rfl ⟨rfl, ?_⟩
        exact kq _ trivial _ FR27 ⟨_, refT_a HR (fun a u v z n => ((frm_r f25 (by omega)).trans ((frm_r f20 (by omega)).trans ((frm_r f15 (by omega)).trans ((frm_r f9 (by omega)).trans (frm_r f3 (by omega))))))) (((frm_r f25 (by omega)).trans (frm_r f20 (by omega))).trans (rI_eq e14 ⟨by omega, by omega⟩)) ((frm_r f25 (by omega)).trans (rI_eq e19 ⟨by omega, by omega⟩)) (rI_eq e24 ⟨by omega, by omega⟩) (by omega) (by omega), Or.inl ⟨fun z => by have z2 := z.2; unfold gdC at z2; omega, rfl, rfl⟩⟩
set_option maxHeartbeats 4000000 in
theorem zp_X12_text_2 {ad : mA} {dd : Nat} {h : mH} {Q : mQ} {m : Nat} {σ : Sg} (hk : rk h m) (HR : refT h m 0 σ)  (b : Int) (b_r : -2147483648 ≤ b ∧ b < 2147483648)  (kq : ∀ v : Int, True → ∀ h1, frm (fun a j => a = m ∨ a = m + 9 ∨ a = m + 10 ∨ ((a = m + 2 ∨ a = m + 3 ∨ a = m + 4) ∧ j = 0) ∨ (a = m + 5 ∧ j < 3) ∨ (a = m + 6 ∧ j < 162) ∨ (a = m + 7 ∧ j < 242) ∨ (a = m + 8 ∧ j < 50)) h h1 → (∃ σ1, refT h1 m 0 σ1 ∧ txR σ 2 b σ1 v) → Q (some (.int (zI v))) h1) : mCal TB0 ad (dd + 9) M_X12_text [.ref m, .int (zI 2), .int (zI b)] h 0 0 Q := by
  refine ⟨Nat.le_of_ble_eq_true rfl, ?_⟩
  show mEv TB0 ad M_X12_text (dd + 9) (0, 0) (mCal TB0 ad (dd + 8)) (fun v h' z => z.1 = 0 ∧ Q v h') 0 [some (.ref m), some (.int (zI 2)), some (.int (zI b)), none] [] h (0, 0)
  have FR0 : frm (fun a j => a = m ∨ a = m + 9 ∨ a = m + 10 ∨ ((a = m + 2 ∨ a = m + 3 ∨ a = m + 4) ∧ j = 0) ∨ (a = m + 5 ∧ j < 3) ∨ (a = m + 6 ∧ j < 162) ∨ (a = m + 7 ∧ j < 242) ∨ (a = m + 8 ∧ j < 50)) h h := frm_0 h
  have w1 := wS_n (refT_w HR)
  refine e_aload_n dX12_text_0 rfl ?_
  refine z_iconst (0) dX12_text_1 rfl ?_
  refine z_put dX12_text_2 tf_12_103 (rk_s hk) rfl (Or.inl rfl) (fun h1 e2 => ?_)
  have f3 := frm_1 e2
  have k4 := rk_q (frm_s f3) hk
  have H5 := refT_c f3 (fun a k q1 q2 => by omega) HR
  have FR6 := frm_t FR0 (frm_m (S' := (fun a j => a = m ∨ a = m + 9 ∨ a = m + 10 ∨ ((a = m + 2 ∨ a = m + 3 ∨ a = m + 4) ∧ j = 0) ∨ (a = m + 5 ∧ j < 3) ∨ (a = m + 6 ∧ j < 162) ∨ (a = m + 7 ∧ j < 242) ∨ (a = m + 8 ∧ j < 50))) f3 (fun a k q => by omega))
  refine e_aload_n dX12_text_5 rfl ?_
  refine e_aload_n dX12_text_6 rfl ?_
  refine e_get (.ref (m + 2)) dX12_text_7 tf_12_13 (rk_s k4) (congrArg va_rf (rk_r2 k4)) ?_
  refine z_iconst (0) dX12_text_10 rfl ?_
  refine z_ild (cn σ 3) dX12_text_11 (rk_a2 k4) (by decide) (by omega) (by omega) (((frm_r f3 (by omega))).trans (refT_3 HR)) ?_
  refine z_put dX12_text_12 tf_12_126 (rk_s k4) rfl (Or.inl rfl) (fun h7 e8 => ?_)
  have f9 := frm_1 e8
  have k10 := rk_q (frm_s f9) k4
  have H11 := refT_c f9 (fun a k q1 q2 => by omega) H5
  have FR12 := frm_t FR6 (frm_m (S' := (fun a j => a = m ∨ a = m + 9 ∨ a = m + 10 ∨ ((a = m + 2 ∨ a = m + 3 ∨ a = m + 4) ∧ j = 0) ∨ (a = m + 5 ∧ j < 3) ∨ (a = m + 6 ∧ j < 162) ∨ (a = m + 7 ∧ j < 242) ∨ (a = m + 8 ∧ j < 50))) f9 (fun a k q => by omega))
  refine e_aload_n dX12_text_15 rfl ?_
  refine e_get (.ref (m + 2)) dX12_text_16 tf_12_13 (rk_s k10) (congrArg va_rf (rk_r2 k10)) ?_
  refine z_iconst (0) dX12_text_19 rfl ?_
  refine z_iconst (0) dX12_text_20 rfl ?_
  refine z_ist dX12_text_21 (rk_a2 k10) (by decide) (by omega) (by omega) (fun h13 e14 => ?_)
  have f15 := frm_1 e14
  have k16 := rk_q (frm_s f15) k10
  have FR17 := frm_t FR12 (frm_m (S' := (fun a j => a = m ∨ a = m + 9 ∨ a = m + 10 ∨ ((a = m + 2 ∨ a = m + 3 ∨ a = m + 4) ∧ j = 0) ∨ (a = m + 5 ∧ j < 3) ∨ (a = m + 6 ∧ j < 162) ∨ (a = m + 7 ∧ j < 242) ∨ (a = m + 8 ∧ j < 50))) f15 (fun a k q => by omega))
  refine e_aload_n dX12_text_22 rfl ?_
  refine e_get (.ref (m + 3)) dX12_text_23 tf_12_17 (rk_s k16) (congrArg va_rf (rk_r3 k16)) ?_
  refine z_iconst (0) dX12_text_26 rfl ?_
  refine z_iconst (0) dX12_text_27 rfl ?_
  refine z_ist dX12_text_28 (rk_a3 k16) (by decide) (by omega) (by omega) (fun h18 e19 => ?_)
  have f20 := frm_1 e19
  have k21 := rk_q (frm_s f20) k16
  have FR22 := frm_t FR17 (frm_m (S' := (fun a j => a = m ∨ a = m + 9 ∨ a = m + 10 ∨ ((a = m + 2 ∨ a = m + 3 ∨ a = m + 4) ∧ j = 0) ∨ (a = m + 5 ∧ j < 3) ∨ (a = m + 6 ∧ j < 162) ∨ (a = m + 7 ∧ j < 242) ∨ (a = m + 8 ∧ j < 50))) f20 (fun a k q => by omega))
  refine e_aload_n dX12_text_29 rfl ?_
  refine e_get (.ref (m + 4)) dX12_text_30 tf_12_20 (rk_s k21) (congrArg va_rf (rk_r4 k21)) ?_
  refine z_iconst (0) dX12_text_33 rfl ?_
  refine z_iconst (-1) dX12_text_34 rfl ?_
  refine z_ist dX12_text_35 (rk_a4 k21) (by decide) (by omega) (by omega) (fun h23 e24 => ?_)
  have f25 := frm_1 e24
  have k26 := rk_q (frm_s f25) k21
  have FR27 := frm_t FR22 (frm_m (S' := (fun a j => a = m ∨ a = m + 9 ∨ a = m + 10 ∨ ((a = m + 2 ∨ a = m + 3 ∨ a = m + 4) ∧ j = 0) ∨ (a = m + 5 ∧ j < 3) ∨ (a = m + 6 ∧ j < 162) ∨ (a = m + 7 ∧ j < 242) ∨ (a = m + 8 ∧ j < 50))) f25 (fun a k q => by omega))
  refine e_iload_n dX12_text_36 rfl ?_
  refine z_iconst (0) dX12_text_37 rfl ?_
  refine z_iconst (2) dX12_text_38 rfl ?_
  refine e_callS [.int _, .int _, .int _] dX12_text_39 tm_12_115 rfl (Nat.le_of_ble_eq_true rfl) (Nat.le_refl _) (Nat.le_refl _) rfl (zp_X12_in 2 ⟨by omega, by omega⟩ 0 ⟨by omega, by omega⟩ 2 ⟨by omega, by omega⟩ ?_)
  refine z_ifb_eq 72 dX12_text_42 rfl (fun c28 => ?_) (fun c28 => ?_)
  · exfalso; omega
  · skip
    refine e_iload_n dX12_text_45 rfl ?_
    refine z_iconst (-1) dX12_text_46 rfl ?_
    refine z_icmp_ne 63 dX12_text_47 rfl ⟨by omega, by omega⟩ ⟨by omega, by omega⟩ (fun c29 => ?_) (fun c29 => ?_)
    · skip
      refine e_aload_n dX12_text_63 rfl ?_
      refine e_iload_n dX12_text_64 rfl ?_
      refine e_iload_n dX12_text_65 rfl ?_
      have CQ : rI h23 (m + 5) 2 = cn σ 2 := (((frm_r f25 (by omega)).trans ((frm_r f20 (by omega)).trans ((frm_r f15 (by omega)).trans ((frm_r f9 (by omega)).trans (frm_r f3 (by omega))))))).trans (refT_cn HR (by omega) (by omega))
      refine e_callV [.int _, .int _] dX12_text_66 tm_12_254 rfl (Nat.le_of_ble_eq_true rfl) (rk_s k26) (Nat.le_of_ble_eq_true rfl) (Nat.le_refl _) (Nat.le_refl _) rfl (zp_X12_is k26 2 ⟨by omega, by omega⟩ b ⟨by omega, by omega⟩ (by omega) (by omega) (by omega) ?_)
      refine z_ifb_ne 75 dX12_text_69 rfl (fun c30 => ?_) (fun c30 => ?_)
      · skip
        have RT : rfT h23 m (sT σ) (cn σ 3) := ⟨by omega, (((frm_r f25 (by omega)).trans ((frm_r f20 (by omega)).trans (frm_r f15 (by omega)))).trans (rI_eq e8 ⟨by omega, by omega⟩)), fun k a z => (((frm_r f25 (by omega)).trans ((frm_r f20 (by omega)).trans ((frm_r f15 (by omega)).trans ((frm_r f9 (by omega)).trans (frm_r f3 (by omega))))))).trans (refT_t HR a (by omega)), fun k a z => wS_t (refT_w HR) a (by omega)⟩
        have GD : (0 ≤ (2 : Int) ∧ (2 : Int) ≤ 2) ∧ gdC (cn σ 2) b := ⟨by omega, by unfold gdC; omega⟩
        have ixb := ix_b GD.2 (by omega)
        refine e_aload_n dX12_text_75 rfl ?_
        refine e_iload_n dX12_text_76 rfl ?_
        refine e_callV [.int _] dX12_text_77 tm_12_257 rfl (Nat.le_of_ble_eq_true rfl) (rk_s k26) (Nat.le_of_ble_eq_true rfl) (Nat.le_refl _) (Nat.le_refl _) rfl (zp_X12_readText_2 k26 RT (fun v31 p32 h33 f34 p35 => ?_))
        have k36 := rk_q (frm_s f34) k26
        have H37 := rfT_c f34 (fun a k q => by omega) RT
        have FR38 := frm_t FR27 (frm_m (S' := (fun a j => a = m ∨ a = m + 9 ∨ a = m + 10 ∨ ((a = m + 2 ∨ a = m + 3 ∨ a = m + 4) ∧ j = 0) ∨ (a = m + 5 ∧ j < 3) ∨ (a = m + 6 ∧ j < 162) ∨ (a = m + 7 ∧ j < 242) ∨ (a = m + 8 ∧ j < 50))) f34 (fun a k q => by omega))
        skip
        refine z_if_ne 85 dX12_text_80 rfl ⟨by omega, by omega⟩ (fun c39 => ?_) (fun c39 => ?_)
        · skip
          obtain ⟨n, O1, O2, ⟨t1, t2⟩, C9, O5⟩ : ∃ n, okN 2 (sT σ) (cn σ 3) n ∧ tkK (sT σ) (cn σ 3) (runP 2 (sT σ) (cn σ 3) n) = 3 ∧ (rI h33 (m + 3) 0 = 0 ∧ rI h33 (m + 4) 0 = -1) ∧ rfC h33 m (runC 2 (sT σ) (cn σ 3) n) ∧ feF 2 (sT σ) (cn σ 3) n = 0 := by
            rcases p35 with ⟨n, o1, o2, o3, o4, o5⟩ | ⟨z, _⟩
            · have e0 : feF 2 (sT σ) (cn σ 3) n = 0 := by omega
              exact ⟨n, o1, o2, ⟨o3.1.trans e0, o3.2.trans (fe_0 e0).2.2⟩, o4, e0⟩
            · omega
          have RA : refT h33 m 0 (sgA σ 0 (-1)) := refT_a HR (fun a u v z n => ((frm_r f34 (by omega)).trans ((frm_r f25 (by omega)).trans ((frm_r f20 (by omega)).trans ((frm_r f15 (by omega)).trans ((frm_r f9 (by omega)).trans (frm_r f3 (by omega)))))))) (((frm_r f34 (by omega)).trans ((frm_r f25 (by omega)).trans (frm_r f20 (by omega)))).trans (rI_eq e14 ⟨by omega, by omega⟩)) t1 t2 (by omega) (by omega)
          refine e_iload_n dX12_text_85 rfl ?_
          refine z_iconst (-1) dX12_text_86 rfl ?_
          refine z_icmp_ne 99 dX12_text_87 rfl ⟨by omega, by omega⟩ ⟨by omega, by omega⟩ (fun c40 => ?_) (fun c40 => ?_)
          · skip
            refine e_iload_n dX12_text_99 rfl ?_
            refine e_istore_n (L' := [_, _, _, _]) dX12_text_100 (Nat.le_of_ble_eq_true rfl) rfl ?_
            refine e_aload_n dX12_text_101 rfl ?_
            refine e_get (.ref (m + 5)) dX12_text_102 tf_12_23 (rk_s k36) (congrArg va_rf (rk_r5 k36)) ?_
            refine e_iload_n dX12_text_105 rfl ?_
            refine e_dup2 dX12_text_106 rfl rfl ?_
            refine z_ild (cn σ 2) dX12_text_107 (rk_a5 k36) (by decide) (by omega) (by omega) ((((frm_r f34 (by omega)).trans ((frm_r f25 (by omega)).trans ((frm_r f20 (by omega)).trans ((frm_r f15 (by omega)).trans ((frm_r f9 (by omega)).trans (frm_r f3 (by omega)))))))).trans (refT_cn HR (by omega) (by omega))) ?_
            refine e_iload_n dX12_text_108 rfl ?_
            refine z_iconst (-1) dX12_text_109 rfl ?_
            refine z_icmp_ne 117 dX12_text_110 rfl ⟨by omega, by omega⟩ ⟨by omega, by omega⟩ (fun c41 => ?_) (fun c41 => ?_)
            · skip
              refine z_iconst (0) dX12_text_117 rfl ?_
              refine z_iadd dX12_text_118 ?_
              refine z_ist dX12_text_119 (rk_a5 k36) (by decide) (by omega) (by omega) (fun h42 e43 => ?_)
              have f44 := frm_1 e43
              have k45 := rk_q (frm_s f44) k36
              have H46 := rfT_c f44 (fun a k q => by omega) H37
              have H47 := rfC_c f44 (fun a k q => by omega) C9
              have FR48 := frm_t FR38 (frm_m (S' := (fun a j => a = m ∨ a = m + 9 ∨ a = m + 10 ∨ ((a = m + 2 ∨ a = m + 3 ∨ a = m + 4) ∧ j = 0) ∨ (a = m + 5 ∧ j < 3) ∨ (a = m + 6 ∧ j < 162) ∨ (a = m + 7 ∧ j < 242) ∨ (a = m + 8 ∧ j < 50))) f44 (fun a k q => by omega))
              refine e_iload_n dX12_text_120 rfl ?_
              refine z_if_ne 138 dX12_text_121 rfl ⟨by omega, by omega⟩ (fun c49 => ?_) (fun c49 => ?_)
              · skip
                refine e_iload_n dX12_text_138 rfl ?_
                refine z_iconst (1) dX12_text_139 rfl ?_
                refine z_icmp_ne 157 dX12_text_140 rfl ⟨by omega, by omega⟩ ⟨by omega, by omega⟩ (fun c50 => ?_) (fun c50 => ?_)
                · skip
                  refine e_aload_n dX12_text_157 rfl ?_
                  refine e_aload_n dX12_text_158 rfl ?_
                  refine e_get (.ref (m + 8)) dX12_text_159 tf_12_32 (rk_s k45) (congrArg va_rf (rk_r8 k45)) ?_
                  refine z_bipush (25) dX12_text_162 rfl ?_
                  refine e_iload_n dX12_text_164 rfl ?_
                  refine e_callV [.ref _, .int _, .int _] dX12_text_165 tm_12_260 rfl (Nat.le_of_ble_eq_true rfl) (rk_s k45) (Nat.le_of_ble_eq_true rfl) (Nat.le_refl _) (Nat.le_refl _) rfl (zp_X12_store_2 k45 H47 b ⟨by omega, by omega⟩ (by omega) (fun  h51 f52 p53 => ?_))
                  have k54 := rk_q (frm_s f52) k45
                  have H55 := rfT_c f52 (fun a k q => by omega) H46
                  have H56 := rfC_c f52 (fun a k q => by omega) H47
                  have FR57 := frm_t FR48 (frm_m (S' := (fun a j => a = m ∨ a = m + 9 ∨ a = m + 10 ∨ ((a = m + 2 ∨ a = m + 3 ∨ a = m + 4) ∧ j = 0) ∨ (a = m + 5 ∧ j < 3) ∨ (a = m + 6 ∧ j < 162) ∨ (a = m + 7 ∧ j < 242) ∨ (a = m + 8 ∧ j < 50))) f52 (fun a k q => by omega))
                  skip
                  refine e_iload_n dX12_text_168 rfl ?_
                  refine z_iret dX12_text_169 rfl ⟨rfl, ?_⟩
                  have EX : b = ixC (cn σ 2) b := by omega
                  have FA : frm (fun a k => (a = m + 8 ∧ 25 * ixC (cn σ 2) b ≤ (k : Int) ∧ (k : Int) < 25 * ixC (cn σ 2) b + 25) ∨ (a = m + 5 ∧ k = 2)) h33 h51 := frm_t (frm_m f44 (fun a k q => by omega)) (frm_m f52 (fun a k q => by omega))
                  have W9 := fe_w2 O1 O5
                  have ST := p53
                  rw [EX] at ST
                  have e5 : rI h51 (m + 5) 2 = max (cn (sgA σ 0 (-1)) 2) (ixC (cn σ 2) b + 1) := by rw [sgA_cn (by omega)]; exact (((frm_r f52 (by omega)).trans (rI_eq e43 ⟨by omega, by omega⟩))).trans (by omega)
                  exact kq _ trivial _ FR57 ⟨_, refT_k2 RA FA ST e5 W9 ixb.1 (by rw [sgA_cn (by omega)]; exact ixb.2.1), Or.inr ⟨GD, Or.inr (Or.inr ⟨EX, n, O1, O2, O5, by rw [keS_2, ← EX]⟩)⟩⟩
                · exfalso; omega
              · exfalso; omega
            · skip
              refine z_iconst (1) dX12_text_113 rfl ?_
              refine e_goto 118 dX12_text_114 rfl ?_
              refine z_iadd dX12_text_118 ?_
              refine z_ist dX12_text_119 (rk_a5 k36) (by decide) (by omega) (by omega) (fun h58 e59 => ?_)
              have f60 := frm_1 e59
              have k61 := rk_q (frm_s f60) k36
              have H62 := rfT_c f60 (fun a k q => by omega) H37
              have H63 := rfC_c f60 (fun a k q => by omega) C9
              have FR64 := frm_t FR38 (frm_m (S' := (fun a j => a = m ∨ a = m + 9 ∨ a = m + 10 ∨ ((a = m + 2 ∨ a = m + 3 ∨ a = m + 4) ∧ j = 0) ∨ (a = m + 5 ∧ j < 3) ∨ (a = m + 6 ∧ j < 162) ∨ (a = m + 7 ∧ j < 242) ∨ (a = m + 8 ∧ j < 50))) f60 (fun a k q => by omega))
              refine e_iload_n dX12_text_120 rfl ?_
              refine z_if_ne 138 dX12_text_121 rfl ⟨by omega, by omega⟩ (fun c65 => ?_) (fun c65 => ?_)
              · skip
                refine e_iload_n dX12_text_138 rfl ?_
                refine z_iconst (1) dX12_text_139 rfl ?_
                refine z_icmp_ne 157 dX12_text_140 rfl ⟨by omega, by omega⟩ ⟨by omega, by omega⟩ (fun c66 => ?_) (fun c66 => ?_)
                · skip
                  refine e_aload_n dX12_text_157 rfl ?_
                  refine e_aload_n dX12_text_158 rfl ?_
                  refine e_get (.ref (m + 8)) dX12_text_159 tf_12_32 (rk_s k61) (congrArg va_rf (rk_r8 k61)) ?_
                  refine z_bipush (25) dX12_text_162 rfl ?_
                  refine e_iload_n dX12_text_164 rfl ?_
                  refine e_callV [.ref _, .int _, .int _] dX12_text_165 tm_12_260 rfl (Nat.le_of_ble_eq_true rfl) (rk_s k61) (Nat.le_of_ble_eq_true rfl) (Nat.le_refl _) (Nat.le_refl _) rfl (zp_X12_store_2 k61 H63 b ⟨by omega, by omega⟩ (by omega) (fun  h67 f68 p69 => ?_))
                  have k70 := rk_q (frm_s f68) k61
                  have H71 := rfT_c f68 (fun a k q => by omega) H62
                  have H72 := rfC_c f68 (fun a k q => by omega) H63
                  have FR73 := frm_t FR64 (frm_m (S' := (fun a j => a = m ∨ a = m + 9 ∨ a = m + 10 ∨ ((a = m + 2 ∨ a = m + 3 ∨ a = m + 4) ∧ j = 0) ∨ (a = m + 5 ∧ j < 3) ∨ (a = m + 6 ∧ j < 162) ∨ (a = m + 7 ∧ j < 242) ∨ (a = m + 8 ∧ j < 50))) f68 (fun a k q => by omega))
                  skip
                  refine e_iload_n dX12_text_168 rfl ?_
                  refine z_iret dX12_text_169 rfl ⟨rfl, ?_⟩
                  have EX : b = ixC (cn σ 2) b := by omega
                  have FA : frm (fun a k => (a = m + 8 ∧ 25 * ixC (cn σ 2) b ≤ (k : Int) ∧ (k : Int) < 25 * ixC (cn σ 2) b + 25) ∨ (a = m + 5 ∧ k = 2)) h33 h67 := frm_t (frm_m f60 (fun a k q => by omega)) (frm_m f68 (fun a k q => by omega))
                  have W9 := fe_w2 O1 O5
                  have ST := p69
                  rw [EX] at ST
                  have e5 : rI h67 (m + 5) 2 = max (cn (sgA σ 0 (-1)) 2) (ixC (cn σ 2) b + 1) := by rw [sgA_cn (by omega)]; exact (((frm_r f68 (by omega)).trans (rI_eq e59 ⟨by omega, by omega⟩))).trans (by omega)
                  exact kq _ trivial _ FR73 ⟨_, refT_k2 RA FA ST e5 W9 ixb.1 (by rw [sgA_cn (by omega)]; exact ixb.2.1), Or.inr ⟨GD, Or.inr (Or.inr ⟨EX, n, O1, O2, O5, by rw [keS_2, ← EX]⟩)⟩⟩
                · exfalso; omega
              · exfalso; omega
          · skip
            refine e_aload_n dX12_text_90 rfl ?_
            refine e_get (.ref (m + 5)) dX12_text_91 tf_12_23 (rk_s k36) (congrArg va_rf (rk_r5 k36)) ?_
            refine e_iload_n dX12_text_94 rfl ?_
            refine z_ild (cn σ 2) dX12_text_95 (rk_a5 k36) (by decide) (by omega) (by omega) ((((frm_r f34 (by omega)).trans ((frm_r f25 (by omega)).trans ((frm_r f20 (by omega)).trans ((frm_r f15 (by omega)).trans ((frm_r f9 (by omega)).trans (frm_r f3 (by omega)))))))).trans (refT_cn HR (by omega) (by omega))) ?_
            refine e_goto 100 dX12_text_96 rfl ?_
            refine e_istore_n (L' := [_, _, _, _]) dX12_text_100 (Nat.le_of_ble_eq_true rfl) rfl ?_
            refine e_aload_n dX12_text_101 rfl ?_
            refine e_get (.ref (m + 5)) dX12_text_102 tf_12_23 (rk_s k36) (congrArg va_rf (rk_r5 k36)) ?_
            refine e_iload_n dX12_text_105 rfl ?_
            refine e_dup2 dX12_text_106 rfl rfl ?_
            refine z_ild (cn σ 2) dX12_text_107 (rk_a5 k36) (by decide) (by omega) (by omega) ((((frm_r f34 (by omega)).trans ((frm_r f25 (by omega)).trans ((frm_r f20 (by omega)).trans ((frm_r f15 (by omega)).trans ((frm_r f9 (by omega)).trans (frm_r f3 (by omega)))))))).trans (refT_cn HR (by omega) (by omega))) ?_
            refine e_iload_n dX12_text_108 rfl ?_
            refine z_iconst (-1) dX12_text_109 rfl ?_
            refine z_icmp_ne 117 dX12_text_110 rfl ⟨by omega, by omega⟩ ⟨by omega, by omega⟩ (fun c74 => ?_) (fun c74 => ?_)
            · skip
              refine z_iconst (0) dX12_text_117 rfl ?_
              refine z_iadd dX12_text_118 ?_
              refine z_ist dX12_text_119 (rk_a5 k36) (by decide) (by omega) (by omega) (fun h75 e76 => ?_)
              have f77 := frm_1 e76
              have k78 := rk_q (frm_s f77) k36
              have H79 := rfT_c f77 (fun a k q => by omega) H37
              have H80 := rfC_c f77 (fun a k q => by omega) C9
              have FR81 := frm_t FR38 (frm_m (S' := (fun a j => a = m ∨ a = m + 9 ∨ a = m + 10 ∨ ((a = m + 2 ∨ a = m + 3 ∨ a = m + 4) ∧ j = 0) ∨ (a = m + 5 ∧ j < 3) ∨ (a = m + 6 ∧ j < 162) ∨ (a = m + 7 ∧ j < 242) ∨ (a = m + 8 ∧ j < 50))) f77 (fun a k q => by omega))
              refine e_iload_n dX12_text_120 rfl ?_
              refine z_if_ne 138 dX12_text_121 rfl ⟨by omega, by omega⟩ (fun c82 => ?_) (fun c82 => ?_)
              · skip
                refine e_iload_n dX12_text_138 rfl ?_
                refine z_iconst (1) dX12_text_139 rfl ?_
                refine z_icmp_ne 157 dX12_text_140 rfl ⟨by omega, by omega⟩ ⟨by omega, by omega⟩ (fun c83 => ?_) (fun c83 => ?_)
                · skip
                  refine e_aload_n dX12_text_157 rfl ?_
                  refine e_aload_n dX12_text_158 rfl ?_
                  refine e_get (.ref (m + 8)) dX12_text_159 tf_12_32 (rk_s k78) (congrArg va_rf (rk_r8 k78)) ?_
                  refine z_bipush (25) dX12_text_162 rfl ?_
                  refine e_iload_n dX12_text_164 rfl ?_
                  refine e_callV [.ref _, .int _, .int _] dX12_text_165 tm_12_260 rfl (Nat.le_of_ble_eq_true rfl) (rk_s k78) (Nat.le_of_ble_eq_true rfl) (Nat.le_refl _) (Nat.le_refl _) rfl (zp_X12_store_2 k78 H80 (cn σ 2) ⟨by omega, by omega⟩ (by omega) (fun  h84 f85 p86 => ?_))
                  have k87 := rk_q (frm_s f85) k78
                  have H88 := rfT_c f85 (fun a k q => by omega) H79
                  have H89 := rfC_c f85 (fun a k q => by omega) H80
                  have FR90 := frm_t FR81 (frm_m (S' := (fun a j => a = m ∨ a = m + 9 ∨ a = m + 10 ∨ ((a = m + 2 ∨ a = m + 3 ∨ a = m + 4) ∧ j = 0) ∨ (a = m + 5 ∧ j < 3) ∨ (a = m + 6 ∧ j < 162) ∨ (a = m + 7 ∧ j < 242) ∨ (a = m + 8 ∧ j < 50))) f85 (fun a k q => by omega))
                  skip
                  refine e_iload_n dX12_text_168 rfl ?_
                  refine z_iret dX12_text_169 rfl ⟨rfl, ?_⟩
                  have EX : (cn σ 2) = ixC (cn σ 2) b := by omega
                  have FA : frm (fun a k => (a = m + 8 ∧ 25 * ixC (cn σ 2) b ≤ (k : Int) ∧ (k : Int) < 25 * ixC (cn σ 2) b + 25) ∨ (a = m + 5 ∧ k = 2)) h33 h84 := frm_t (frm_m f77 (fun a k q => by omega)) (frm_m f85 (fun a k q => by omega))
                  have W9 := fe_w2 O1 O5
                  have ST := p86
                  rw [EX] at ST
                  have e5 : rI h84 (m + 5) 2 = max (cn (sgA σ 0 (-1)) 2) (ixC (cn σ 2) b + 1) := by rw [sgA_cn (by omega)]; exact (((frm_r f85 (by omega)).trans (rI_eq e76 ⟨by omega, by omega⟩))).trans (by omega)
                  exact kq _ trivial _ FR90 ⟨_, refT_k2 RA FA ST e5 W9 ixb.1 (by rw [sgA_cn (by omega)]; exact ixb.2.1), Or.inr ⟨GD, Or.inr (Or.inr ⟨EX, n, O1, O2, O5, by rw [keS_2, ← EX]⟩)⟩⟩
                · exfalso; omega
              · exfalso; omega
            · skip
              refine z_iconst (1) dX12_text_113 rfl ?_
              refine e_goto 118 dX12_text_114 rfl ?_
              refine z_iadd dX12_text_118 ?_
              refine z_ist dX12_text_119 (rk_a5 k36) (by decide) (by omega) (by omega) (fun h91 e92 => ?_)
              have f93 := frm_1 e92
              have k94 := rk_q (frm_s f93) k36
              have H95 := rfT_c f93 (fun a k q => by omega) H37
              have H96 := rfC_c f93 (fun a k q => by omega) C9
              have FR97 := frm_t FR38 (frm_m (S' := (fun a j => a = m ∨ a = m + 9 ∨ a = m + 10 ∨ ((a = m + 2 ∨ a = m + 3 ∨ a = m + 4) ∧ j = 0) ∨ (a = m + 5 ∧ j < 3) ∨ (a = m + 6 ∧ j < 162) ∨ (a = m + 7 ∧ j < 242) ∨ (a = m + 8 ∧ j < 50))) f93 (fun a k q => by omega))
              refine e_iload_n dX12_text_120 rfl ?_
              refine z_if_ne 138 dX12_text_121 rfl ⟨by omega, by omega⟩ (fun c98 => ?_) (fun c98 => ?_)
              · skip
                refine e_iload_n dX12_text_138 rfl ?_
                refine z_iconst (1) dX12_text_139 rfl ?_
                refine z_icmp_ne 157 dX12_text_140 rfl ⟨by omega, by omega⟩ ⟨by omega, by omega⟩ (fun c99 => ?_) (fun c99 => ?_)
                · skip
                  refine e_aload_n dX12_text_157 rfl ?_
                  refine e_aload_n dX12_text_158 rfl ?_
                  refine e_get (.ref (m + 8)) dX12_text_159 tf_12_32 (rk_s k94) (congrArg va_rf (rk_r8 k94)) ?_
                  refine z_bipush (25) dX12_text_162 rfl ?_
                  refine e_iload_n dX12_text_164 rfl ?_
                  refine e_callV [.ref _, .int _, .int _] dX12_text_165 tm_12_260 rfl (Nat.le_of_ble_eq_true rfl) (rk_s k94) (Nat.le_of_ble_eq_true rfl) (Nat.le_refl _) (Nat.le_refl _) rfl (zp_X12_store_2 k94 H96 (cn σ 2) ⟨by omega, by omega⟩ (by omega) (fun  h100 f101 p102 => ?_))
                  have k103 := rk_q (frm_s f101) k94
                  have H104 := rfT_c f101 (fun a k q => by omega) H95
                  have H105 := rfC_c f101 (fun a k q => by omega) H96
                  have FR106 := frm_t FR97 (frm_m (S' := (fun a j => a = m ∨ a = m + 9 ∨ a = m + 10 ∨ ((a = m + 2 ∨ a = m + 3 ∨ a = m + 4) ∧ j = 0) ∨ (a = m + 5 ∧ j < 3) ∨ (a = m + 6 ∧ j < 162) ∨ (a = m + 7 ∧ j < 242) ∨ (a = m + 8 ∧ j < 50))) f101 (fun a k q => by omega))
                  skip
                  refine e_iload_n dX12_text_168 rfl ?_
                  refine z_iret dX12_text_169 rfl ⟨rfl, ?_⟩
                  have EX : (cn σ 2) = ixC (cn σ 2) b := by omega
                  have FA : frm (fun a k => (a = m + 8 ∧ 25 * ixC (cn σ 2) b ≤ (k : Int) ∧ (k : Int) < 25 * ixC (cn σ 2) b + 25) ∨ (a = m + 5 ∧ k = 2)) h33 h100 := frm_t (frm_m f93 (fun a k q => by omega)) (frm_m f101 (fun a k q => by omega))
                  have W9 := fe_w2 O1 O5
                  have ST := p102
                  rw [EX] at ST
                  have e5 : rI h100 (m + 5) 2 = max (cn (sgA σ 0 (-1)) 2) (ixC (cn σ 2) b + 1) := by rw [sgA_cn (by omega)]; exact (((frm_r f101 (by omega)).trans (rI_eq e92 ⟨by omega, by omega⟩))).trans (by omega)
                  exact kq _ trivial _ FR106 ⟨_, refT_k2 RA FA ST e5 W9 ixb.1 (by rw [sgA_cn (by omega)]; exact ixb.2.1), Or.inr ⟨GD, Or.inr (Or.inr ⟨EX, n, O1, O2, O5, by rw [keS_2, ← EX]⟩)⟩⟩
                · exfalso; omega
              · exfalso; omega
        · skip
          skip
          refine z_iconst (-1) dX12_text_83 rfl ?_
          refine z_iret dX12_text_84 rfl ⟨rfl, ?_⟩
          rcases p35 with ⟨n, o1, o2, t1, o4, o5⟩ | ⟨z, n, o1, o2, o3, t1, t2⟩
          · have fb := fe_b (rn_nq (by omega) n o1) (by omega)
            exact kq _ trivial _ FR38 ⟨_, refT_a HR (fun a u v z n => ((frm_r f34 (by omega)).trans ((frm_r f25 (by omega)).trans ((frm_r f20 (by omega)).trans ((frm_r f15 (by omega)).trans ((frm_r f9 (by omega)).trans (frm_r f3 (by omega)))))))) (((frm_r f34 (by omega)).trans ((frm_r f25 (by omega)).trans (frm_r f20 (by omega)))).trans (rI_eq e14 ⟨by omega, by omega⟩)) t1.1 t1.2 fb.1 fb.2, Or.inr ⟨GD, Or.inl ⟨rfl, n, o1, o2, by omega, rfl⟩⟩⟩
          · have ob := okN_b (by omega) n o1
            have lb := lx_b (s := 2) (T := sT σ) (L := cn σ 3) ⟨ob.1, ob.2.1⟩
            exact kq _ trivial _ FR38 ⟨_, refT_a HR (fun a u v z n => ((frm_r f34 (by omega)).trans ((frm_r f25 (by omega)).trans ((frm_r f20 (by omega)).trans ((frm_r f15 (by omega)).trans ((frm_r f9 (by omega)).trans (frm_r f3 (by omega)))))))) (((frm_r f34 (by omega)).trans ((frm_r f25 (by omega)).trans (frm_r f20 (by omega)))).trans (rI_eq e14 ⟨by omega, by omega⟩)) t1 t2 ⟨by omega, by omega⟩ ⟨by omega, by omega⟩, Or.inr ⟨GD, Or.inr (Or.inl ⟨rfl, n, o1, o2, o3, rfl⟩)⟩⟩
      · skip
        refine z_bipush (-2) dX12_text_72 rfl ?_
        refine z_iret dX12_text_74 rfl ⟨rfl, ?_⟩
        exact kq _ trivial _ FR27 ⟨_, refT_a HR (fun a u v z n => ((frm_r f25 (by omega)).trans ((frm_r f20 (by omega)).trans ((frm_r f15 (by omega)).trans ((frm_r f9 (by omega)).trans (frm_r f3 (by omega))))))) (((frm_r f25 (by omega)).trans (frm_r f20 (by omega))).trans (rI_eq e14 ⟨by omega, by omega⟩)) ((frm_r f25 (by omega)).trans (rI_eq e19 ⟨by omega, by omega⟩)) (rI_eq e24 ⟨by omega, by omega⟩) (by omega) (by omega), Or.inl ⟨fun z => by have z2 := z.2; unfold gdC at z2; omega, rfl, rfl⟩⟩
    · skip
      refine e_aload_n dX12_text_50 rfl ?_
      refine e_get (.ref (m + 5)) dX12_text_51 tf_12_23 (rk_s k26) (congrArg va_rf (rk_r5 k26)) ?_
      refine e_iload_n dX12_text_54 rfl ?_
      refine z_ild (cn σ 2) dX12_text_55 (rk_a5 k26) (by decide) (by omega) (by omega) ((((frm_r f25 (by omega)).trans ((frm_r f20 (by omega)).trans ((frm_r f15 (by omega)).trans ((frm_r f9 (by omega)).trans (frm_r f3 (by omega))))))).trans (refT_cn HR (by omega) (by omega))) ?_
      refine z_iconst (2) dX12_text_56 rfl ?_
      refine z_icmp_ne 75 dX12_text_57 rfl ⟨by omega, by omega⟩ ⟨by omega, by omega⟩ (fun c107 => ?_) (fun c107 => ?_)
      · skip
        have RT : rfT h23 m (sT σ) (cn σ 3) := ⟨by omega, (((frm_r f25 (by omega)).trans ((frm_r f20 (by omega)).trans (frm_r f15 (by omega)))).trans (rI_eq e8 ⟨by omega, by omega⟩)), fun k a z => (((frm_r f25 (by omega)).trans ((frm_r f20 (by omega)).trans ((frm_r f15 (by omega)).trans ((frm_r f9 (by omega)).trans (frm_r f3 (by omega))))))).trans (refT_t HR a (by omega)), fun k a z => wS_t (refT_w HR) a (by omega)⟩
        have GD : (0 ≤ (2 : Int) ∧ (2 : Int) ≤ 2) ∧ gdC (cn σ 2) b := ⟨by omega, by unfold gdC; omega⟩
        have ixb := ix_b GD.2 (by omega)
        refine e_aload_n dX12_text_75 rfl ?_
        refine e_iload_n dX12_text_76 rfl ?_
        refine e_callV [.int _] dX12_text_77 tm_12_257 rfl (Nat.le_of_ble_eq_true rfl) (rk_s k26) (Nat.le_of_ble_eq_true rfl) (Nat.le_refl _) (Nat.le_refl _) rfl (zp_X12_readText_2 k26 RT (fun v108 p109 h110 f111 p112 => ?_))
        have k113 := rk_q (frm_s f111) k26
        have H114 := rfT_c f111 (fun a k q => by omega) RT
        have FR115 := frm_t FR27 (frm_m (S' := (fun a j => a = m ∨ a = m + 9 ∨ a = m + 10 ∨ ((a = m + 2 ∨ a = m + 3 ∨ a = m + 4) ∧ j = 0) ∨ (a = m + 5 ∧ j < 3) ∨ (a = m + 6 ∧ j < 162) ∨ (a = m + 7 ∧ j < 242) ∨ (a = m + 8 ∧ j < 50))) f111 (fun a k q => by omega))
        skip
        refine z_if_ne 85 dX12_text_80 rfl ⟨by omega, by omega⟩ (fun c116 => ?_) (fun c116 => ?_)
        · skip
          obtain ⟨n, O1, O2, ⟨t1, t2⟩, C9, O5⟩ : ∃ n, okN 2 (sT σ) (cn σ 3) n ∧ tkK (sT σ) (cn σ 3) (runP 2 (sT σ) (cn σ 3) n) = 3 ∧ (rI h110 (m + 3) 0 = 0 ∧ rI h110 (m + 4) 0 = -1) ∧ rfC h110 m (runC 2 (sT σ) (cn σ 3) n) ∧ feF 2 (sT σ) (cn σ 3) n = 0 := by
            rcases p112 with ⟨n, o1, o2, o3, o4, o5⟩ | ⟨z, _⟩
            · have e0 : feF 2 (sT σ) (cn σ 3) n = 0 := by omega
              exact ⟨n, o1, o2, ⟨o3.1.trans e0, o3.2.trans (fe_0 e0).2.2⟩, o4, e0⟩
            · omega
          have RA : refT h110 m 0 (sgA σ 0 (-1)) := refT_a HR (fun a u v z n => ((frm_r f111 (by omega)).trans ((frm_r f25 (by omega)).trans ((frm_r f20 (by omega)).trans ((frm_r f15 (by omega)).trans ((frm_r f9 (by omega)).trans (frm_r f3 (by omega)))))))) (((frm_r f111 (by omega)).trans ((frm_r f25 (by omega)).trans (frm_r f20 (by omega)))).trans (rI_eq e14 ⟨by omega, by omega⟩)) t1 t2 (by omega) (by omega)
          refine e_iload_n dX12_text_85 rfl ?_
          refine z_iconst (-1) dX12_text_86 rfl ?_
          refine z_icmp_ne 99 dX12_text_87 rfl ⟨by omega, by omega⟩ ⟨by omega, by omega⟩ (fun c117 => ?_) (fun c117 => ?_)
          · skip
            refine e_iload_n dX12_text_99 rfl ?_
            refine e_istore_n (L' := [_, _, _, _]) dX12_text_100 (Nat.le_of_ble_eq_true rfl) rfl ?_
            refine e_aload_n dX12_text_101 rfl ?_
            refine e_get (.ref (m + 5)) dX12_text_102 tf_12_23 (rk_s k113) (congrArg va_rf (rk_r5 k113)) ?_
            refine e_iload_n dX12_text_105 rfl ?_
            refine e_dup2 dX12_text_106 rfl rfl ?_
            refine z_ild (cn σ 2) dX12_text_107 (rk_a5 k113) (by decide) (by omega) (by omega) ((((frm_r f111 (by omega)).trans ((frm_r f25 (by omega)).trans ((frm_r f20 (by omega)).trans ((frm_r f15 (by omega)).trans ((frm_r f9 (by omega)).trans (frm_r f3 (by omega)))))))).trans (refT_cn HR (by omega) (by omega))) ?_
            refine e_iload_n dX12_text_108 rfl ?_
            refine z_iconst (-1) dX12_text_109 rfl ?_
            refine z_icmp_ne 117 dX12_text_110 rfl ⟨by omega, by omega⟩ ⟨by omega, by omega⟩ (fun c118 => ?_) (fun c118 => ?_)
            · skip
              refine z_iconst (0) dX12_text_117 rfl ?_
              refine z_iadd dX12_text_118 ?_
              refine z_ist dX12_text_119 (rk_a5 k113) (by decide) (by omega) (by omega) (fun h119 e120 => ?_)
              have f121 := frm_1 e120
              have k122 := rk_q (frm_s f121) k113
              have H123 := rfT_c f121 (fun a k q => by omega) H114
              have H124 := rfC_c f121 (fun a k q => by omega) C9
              have FR125 := frm_t FR115 (frm_m (S' := (fun a j => a = m ∨ a = m + 9 ∨ a = m + 10 ∨ ((a = m + 2 ∨ a = m + 3 ∨ a = m + 4) ∧ j = 0) ∨ (a = m + 5 ∧ j < 3) ∨ (a = m + 6 ∧ j < 162) ∨ (a = m + 7 ∧ j < 242) ∨ (a = m + 8 ∧ j < 50))) f121 (fun a k q => by omega))
              refine e_iload_n dX12_text_120 rfl ?_
              refine z_if_ne 138 dX12_text_121 rfl ⟨by omega, by omega⟩ (fun c126 => ?_) (fun c126 => ?_)
              · skip
                refine e_iload_n dX12_text_138 rfl ?_
                refine z_iconst (1) dX12_text_139 rfl ?_
                refine z_icmp_ne 157 dX12_text_140 rfl ⟨by omega, by omega⟩ ⟨by omega, by omega⟩ (fun c127 => ?_) (fun c127 => ?_)
                · skip
                  refine e_aload_n dX12_text_157 rfl ?_
                  refine e_aload_n dX12_text_158 rfl ?_
                  refine e_get (.ref (m + 8)) dX12_text_159 tf_12_32 (rk_s k122) (congrArg va_rf (rk_r8 k122)) ?_
                  refine z_bipush (25) dX12_text_162 rfl ?_
                  refine e_iload_n dX12_text_164 rfl ?_
                  refine e_callV [.ref _, .int _, .int _] dX12_text_165 tm_12_260 rfl (Nat.le_of_ble_eq_true rfl) (rk_s k122) (Nat.le_of_ble_eq_true rfl) (Nat.le_refl _) (Nat.le_refl _) rfl (zp_X12_store_2 k122 H124 b ⟨by omega, by omega⟩ (by omega) (fun  h128 f129 p130 => ?_))
                  have k131 := rk_q (frm_s f129) k122
                  have H132 := rfT_c f129 (fun a k q => by omega) H123
                  have H133 := rfC_c f129 (fun a k q => by omega) H124
                  have FR134 := frm_t FR125 (frm_m (S' := (fun a j => a = m ∨ a = m + 9 ∨ a = m + 10 ∨ ((a = m + 2 ∨ a = m + 3 ∨ a = m + 4) ∧ j = 0) ∨ (a = m + 5 ∧ j < 3) ∨ (a = m + 6 ∧ j < 162) ∨ (a = m + 7 ∧ j < 242) ∨ (a = m + 8 ∧ j < 50))) f129 (fun a k q => by omega))
                  skip
                  refine e_iload_n dX12_text_168 rfl ?_
                  refine z_iret dX12_text_169 rfl ⟨rfl, ?_⟩
                  have EX : b = ixC (cn σ 2) b := by omega
                  have FA : frm (fun a k => (a = m + 8 ∧ 25 * ixC (cn σ 2) b ≤ (k : Int) ∧ (k : Int) < 25 * ixC (cn σ 2) b + 25) ∨ (a = m + 5 ∧ k = 2)) h110 h128 := frm_t (frm_m f121 (fun a k q => by omega)) (frm_m f129 (fun a k q => by omega))
                  have W9 := fe_w2 O1 O5
                  have ST := p130
                  rw [EX] at ST
                  have e5 : rI h128 (m + 5) 2 = max (cn (sgA σ 0 (-1)) 2) (ixC (cn σ 2) b + 1) := by rw [sgA_cn (by omega)]; exact (((frm_r f129 (by omega)).trans (rI_eq e120 ⟨by omega, by omega⟩))).trans (by omega)
                  exact kq _ trivial _ FR134 ⟨_, refT_k2 RA FA ST e5 W9 ixb.1 (by rw [sgA_cn (by omega)]; exact ixb.2.1), Or.inr ⟨GD, Or.inr (Or.inr ⟨EX, n, O1, O2, O5, by rw [keS_2, ← EX]⟩)⟩⟩
                · exfalso; omega
              · exfalso; omega
            · skip
              refine z_iconst (1) dX12_text_113 rfl ?_
              refine e_goto 118 dX12_text_114 rfl ?_
              refine z_iadd dX12_text_118 ?_
              refine z_ist dX12_text_119 (rk_a5 k113) (by decide) (by omega) (by omega) (fun h135 e136 => ?_)
              have f137 := frm_1 e136
              have k138 := rk_q (frm_s f137) k113
              have H139 := rfT_c f137 (fun a k q => by omega) H114
              have H140 := rfC_c f137 (fun a k q => by omega) C9
              have FR141 := frm_t FR115 (frm_m (S' := (fun a j => a = m ∨ a = m + 9 ∨ a = m + 10 ∨ ((a = m + 2 ∨ a = m + 3 ∨ a = m + 4) ∧ j = 0) ∨ (a = m + 5 ∧ j < 3) ∨ (a = m + 6 ∧ j < 162) ∨ (a = m + 7 ∧ j < 242) ∨ (a = m + 8 ∧ j < 50))) f137 (fun a k q => by omega))
              refine e_iload_n dX12_text_120 rfl ?_
              refine z_if_ne 138 dX12_text_121 rfl ⟨by omega, by omega⟩ (fun c142 => ?_) (fun c142 => ?_)
              · skip
                refine e_iload_n dX12_text_138 rfl ?_
                refine z_iconst (1) dX12_text_139 rfl ?_
                refine z_icmp_ne 157 dX12_text_140 rfl ⟨by omega, by omega⟩ ⟨by omega, by omega⟩ (fun c143 => ?_) (fun c143 => ?_)
                · skip
                  refine e_aload_n dX12_text_157 rfl ?_
                  refine e_aload_n dX12_text_158 rfl ?_
                  refine e_get (.ref (m + 8)) dX12_text_159 tf_12_32 (rk_s k138) (congrArg va_rf (rk_r8 k138)) ?_
                  refine z_bipush (25) dX12_text_162 rfl ?_
                  refine e_iload_n dX12_text_164 rfl ?_
                  refine e_callV [.ref _, .int _, .int _] dX12_text_165 tm_12_260 rfl (Nat.le_of_ble_eq_true rfl) (rk_s k138) (Nat.le_of_ble_eq_true rfl) (Nat.le_refl _) (Nat.le_refl _) rfl (zp_X12_store_2 k138 H140 b ⟨by omega, by omega⟩ (by omega) (fun  h144 f145 p146 => ?_))
                  have k147 := rk_q (frm_s f145) k138
                  have H148 := rfT_c f145 (fun a k q => by omega) H139
                  have H149 := rfC_c f145 (fun a k q => by omega) H140
                  have FR150 := frm_t FR141 (frm_m (S' := (fun a j => a = m ∨ a = m + 9 ∨ a = m + 10 ∨ ((a = m + 2 ∨ a = m + 3 ∨ a = m + 4) ∧ j = 0) ∨ (a = m + 5 ∧ j < 3) ∨ (a = m + 6 ∧ j < 162) ∨ (a = m + 7 ∧ j < 242) ∨ (a = m + 8 ∧ j < 50))) f145 (fun a k q => by omega))
                  skip
                  refine e_iload_n dX12_text_168 rfl ?_
                  refine z_iret dX12_text_169 rfl ⟨rfl, ?_⟩
                  have EX : b = ixC (cn σ 2) b := by omega
                  have FA : frm (fun a k => (a = m + 8 ∧ 25 * ixC (cn σ 2) b ≤ (k : Int) ∧ (k : Int) < 25 * ixC (cn σ 2) b + 25) ∨ (a = m + 5 ∧ k = 2)) h110 h144 := frm_t (frm_m f137 (fun a k q => by omega)) (frm_m f145 (fun a k q => by omega))
                  have W9 := fe_w2 O1 O5
                  have ST := p146
                  rw [EX] at ST
                  have e5 : rI h144 (m + 5) 2 = max (cn (sgA σ 0 (-1)) 2) (ixC (cn σ 2) b + 1) := by rw [sgA_cn (by omega)]; exact (((frm_r f145 (by omega)).trans (rI_eq e136 ⟨by omega, by omega⟩))).trans (by omega)
                  exact kq _ trivial _ FR150 ⟨_, refT_k2 RA FA ST e5 W9 ixb.1 (by rw [sgA_cn (by omega)]; exact ixb.2.1), Or.inr ⟨GD, Or.inr (Or.inr ⟨EX, n, O1, O2, O5, by rw [keS_2, ← EX]⟩)⟩⟩
                · exfalso; omega
              · exfalso; omega
          · skip
            refine e_aload_n dX12_text_90 rfl ?_
            refine e_get (.ref (m + 5)) dX12_text_91 tf_12_23 (rk_s k113) (congrArg va_rf (rk_r5 k113)) ?_
            refine e_iload_n dX12_text_94 rfl ?_
            refine z_ild (cn σ 2) dX12_text_95 (rk_a5 k113) (by decide) (by omega) (by omega) ((((frm_r f111 (by omega)).trans ((frm_r f25 (by omega)).trans ((frm_r f20 (by omega)).trans ((frm_r f15 (by omega)).trans ((frm_r f9 (by omega)).trans (frm_r f3 (by omega)))))))).trans (refT_cn HR (by omega) (by omega))) ?_
            refine e_goto 100 dX12_text_96 rfl ?_
            refine e_istore_n (L' := [_, _, _, _]) dX12_text_100 (Nat.le_of_ble_eq_true rfl) rfl ?_
            refine e_aload_n dX12_text_101 rfl ?_
            refine e_get (.ref (m + 5)) dX12_text_102 tf_12_23 (rk_s k113) (congrArg va_rf (rk_r5 k113)) ?_
            refine e_iload_n dX12_text_105 rfl ?_
            refine e_dup2 dX12_text_106 rfl rfl ?_
            refine z_ild (cn σ 2) dX12_text_107 (rk_a5 k113) (by decide) (by omega) (by omega) ((((frm_r f111 (by omega)).trans ((frm_r f25 (by omega)).trans ((frm_r f20 (by omega)).trans ((frm_r f15 (by omega)).trans ((frm_r f9 (by omega)).trans (frm_r f3 (by omega)))))))).trans (refT_cn HR (by omega) (by omega))) ?_
            refine e_iload_n dX12_text_108 rfl ?_
            refine z_iconst (-1) dX12_text_109 rfl ?_
            refine z_icmp_ne 117 dX12_text_110 rfl ⟨by omega, by omega⟩ ⟨by omega, by omega⟩ (fun c151 => ?_) (fun c151 => ?_)
            · skip
              refine z_iconst (0) dX12_text_117 rfl ?_
              refine z_iadd dX12_text_118 ?_
              refine z_ist dX12_text_119 (rk_a5 k113) (by decide) (by omega) (by omega) (fun h152 e153 => ?_)
              have f154 := frm_1 e153
              have k155 := rk_q (frm_s f154) k113
              have H156 := rfT_c f154 (fun a k q => by omega) H114
              have H157 := rfC_c f154 (fun a k q => by omega) C9
              have FR158 := frm_t FR115 (frm_m (S' := (fun a j => a = m ∨ a = m + 9 ∨ a = m + 10 ∨ ((a = m + 2 ∨ a = m + 3 ∨ a = m + 4) ∧ j = 0) ∨ (a = m + 5 ∧ j < 3) ∨ (a = m + 6 ∧ j < 162) ∨ (a = m + 7 ∧ j < 242) ∨ (a = m + 8 ∧ j < 50))) f154 (fun a k q => by omega))
              refine e_iload_n dX12_text_120 rfl ?_
              refine z_if_ne 138 dX12_text_121 rfl ⟨by omega, by omega⟩ (fun c159 => ?_) (fun c159 => ?_)
              · skip
                refine e_iload_n dX12_text_138 rfl ?_
                refine z_iconst (1) dX12_text_139 rfl ?_
                refine z_icmp_ne 157 dX12_text_140 rfl ⟨by omega, by omega⟩ ⟨by omega, by omega⟩ (fun c160 => ?_) (fun c160 => ?_)
                · skip
                  refine e_aload_n dX12_text_157 rfl ?_
                  refine e_aload_n dX12_text_158 rfl ?_
                  refine e_get (.ref (m + 8)) dX12_text_159 tf_12_32 (rk_s k155) (congrArg va_rf (rk_r8 k155)) ?_
                  refine z_bipush (25) dX12_text_162 rfl ?_
                  refine e_iload_n dX12_text_164 rfl ?_
                  refine e_callV [.ref _, .int _, .int _] dX12_text_165 tm_12_260 rfl (Nat.le_of_ble_eq_true rfl) (rk_s k155) (Nat.le_of_ble_eq_true rfl) (Nat.le_refl _) (Nat.le_refl _) rfl (zp_X12_store_2 k155 H157 (cn σ 2) ⟨by omega, by omega⟩ (by omega) (fun  h161 f162 p163 => ?_))
                  have k164 := rk_q (frm_s f162) k155
                  have H165 := rfT_c f162 (fun a k q => by omega) H156
                  have H166 := rfC_c f162 (fun a k q => by omega) H157
                  have FR167 := frm_t FR158 (frm_m (S' := (fun a j => a = m ∨ a = m + 9 ∨ a = m + 10 ∨ ((a = m + 2 ∨ a = m + 3 ∨ a = m + 4) ∧ j = 0) ∨ (a = m + 5 ∧ j < 3) ∨ (a = m + 6 ∧ j < 162) ∨ (a = m + 7 ∧ j < 242) ∨ (a = m + 8 ∧ j < 50))) f162 (fun a k q => by omega))
                  skip
                  refine e_iload_n dX12_text_168 rfl ?_
                  refine z_iret dX12_text_169 rfl ⟨rfl, ?_⟩
                  have EX : (cn σ 2) = ixC (cn σ 2) b := by omega
                  have FA : frm (fun a k => (a = m + 8 ∧ 25 * ixC (cn σ 2) b ≤ (k : Int) ∧ (k : Int) < 25 * ixC (cn σ 2) b + 25) ∨ (a = m + 5 ∧ k = 2)) h110 h161 := frm_t (frm_m f154 (fun a k q => by omega)) (frm_m f162 (fun a k q => by omega))
                  have W9 := fe_w2 O1 O5
                  have ST := p163
                  rw [EX] at ST
                  have e5 : rI h161 (m + 5) 2 = max (cn (sgA σ 0 (-1)) 2) (ixC (cn σ 2) b + 1) := by rw [sgA_cn (by omega)]; exact (((frm_r f162 (by omega)).trans (rI_eq e153 ⟨by omega, by omega⟩))).trans (by omega)
                  exact kq _ trivial _ FR167 ⟨_, refT_k2 RA FA ST e5 W9 ixb.1 (by rw [sgA_cn (by omega)]; exact ixb.2.1), Or.inr ⟨GD, Or.inr (Or.inr ⟨EX, n, O1, O2, O5, by rw [keS_2, ← EX]⟩)⟩⟩
                · exfalso; omega
              · exfalso; omega
            · skip
              refine z_iconst (1) dX12_text_113 rfl ?_
              refine e_goto 118 dX12_text_114 rfl ?_
              refine z_iadd dX12_text_118 ?_
              refine z_ist dX12_text_119 (rk_a5 k113) (by decide) (by omega) (by omega) (fun h168 e169 => ?_)
              have f170 := frm_1 e169
              have k171 := rk_q (frm_s f170) k113
              have H172 := rfT_c f170 (fun a k q => by omega) H114
              have H173 := rfC_c f170 (fun a k q => by omega) C9
              have FR174 := frm_t FR115 (frm_m (S' := (fun a j => a = m ∨ a = m + 9 ∨ a = m + 10 ∨ ((a = m + 2 ∨ a = m + 3 ∨ a = m + 4) ∧ j = 0) ∨ (a = m + 5 ∧ j < 3) ∨ (a = m + 6 ∧ j < 162) ∨ (a = m + 7 ∧ j < 242) ∨ (a = m + 8 ∧ j < 50))) f170 (fun a k q => by omega))
              refine e_iload_n dX12_text_120 rfl ?_
              refine z_if_ne 138 dX12_text_121 rfl ⟨by omega, by omega⟩ (fun c175 => ?_) (fun c175 => ?_)
              · skip
                refine e_iload_n dX12_text_138 rfl ?_
                refine z_iconst (1) dX12_text_139 rfl ?_
                refine z_icmp_ne 157 dX12_text_140 rfl ⟨by omega, by omega⟩ ⟨by omega, by omega⟩ (fun c176 => ?_) (fun c176 => ?_)
                · skip
                  refine e_aload_n dX12_text_157 rfl ?_
                  refine e_aload_n dX12_text_158 rfl ?_
                  refine e_get (.ref (m + 8)) dX12_text_159 tf_12_32 (rk_s k171) (congrArg va_rf (rk_r8 k171)) ?_
                  refine z_bipush (25) dX12_text_162 rfl ?_
                  refine e_iload_n dX12_text_164 rfl ?_
                  refine e_callV [.ref _, .int _, .int _] dX12_text_165 tm_12_260 rfl (Nat.le_of_ble_eq_true rfl) (rk_s k171) (Nat.le_of_ble_eq_true rfl) (Nat.le_refl _) (Nat.le_refl _) rfl (zp_X12_store_2 k171 H173 (cn σ 2) ⟨by omega, by omega⟩ (by omega) (fun  h177 f178 p179 => ?_))
                  have k180 := rk_q (frm_s f178) k171
                  have H181 := rfT_c f178 (fun a k q => by omega) H172
                  have H182 := rfC_c f178 (fun a k q => by omega) H173
                  have FR183 := frm_t FR174 (frm_m (S' := (fun a j => a = m ∨ a = m + 9 ∨ a = m + 10 ∨ ((a = m + 2 ∨ a = m + 3 ∨ a = m + 4) ∧ j = 0) ∨ (a = m + 5 ∧ j < 3) ∨ (a = m + 6 ∧ j < 162) ∨ (a = m + 7 ∧ j < 242) ∨ (a = m + 8 ∧ j < 50))) f178 (fun a k q => by omega))
                  skip
                  refine e_iload_n dX12_text_168 rfl ?_
                  refine z_iret dX12_text_169 rfl ⟨rfl, ?_⟩
                  have EX : (cn σ 2) = ixC (cn σ 2) b := by omega
                  have FA : frm (fun a k => (a = m + 8 ∧ 25 * ixC (cn σ 2) b ≤ (k : Int) ∧ (k : Int) < 25 * ixC (cn σ 2) b + 25) ∨ (a = m + 5 ∧ k = 2)) h110 h177 := frm_t (frm_m f170 (fun a k q => by omega)) (frm_m f178 (fun a k q => by omega))
                  have W9 := fe_w2 O1 O5
                  have ST := p179
                  rw [EX] at ST
                  have e5 : rI h177 (m + 5) 2 = max (cn (sgA σ 0 (-1)) 2) (ixC (cn σ 2) b + 1) := by rw [sgA_cn (by omega)]; exact (((frm_r f178 (by omega)).trans (rI_eq e169 ⟨by omega, by omega⟩))).trans (by omega)
                  exact kq _ trivial _ FR183 ⟨_, refT_k2 RA FA ST e5 W9 ixb.1 (by rw [sgA_cn (by omega)]; exact ixb.2.1), Or.inr ⟨GD, Or.inr (Or.inr ⟨EX, n, O1, O2, O5, by rw [keS_2, ← EX]⟩)⟩⟩
                · exfalso; omega
              · exfalso; omega
        · skip
          skip
          refine z_iconst (-1) dX12_text_83 rfl ?_
          refine z_iret dX12_text_84 rfl ⟨rfl, ?_⟩
          rcases p112 with ⟨n, o1, o2, t1, o4, o5⟩ | ⟨z, n, o1, o2, o3, t1, t2⟩
          · have fb := fe_b (rn_nq (by omega) n o1) (by omega)
            exact kq _ trivial _ FR115 ⟨_, refT_a HR (fun a u v z n => ((frm_r f111 (by omega)).trans ((frm_r f25 (by omega)).trans ((frm_r f20 (by omega)).trans ((frm_r f15 (by omega)).trans ((frm_r f9 (by omega)).trans (frm_r f3 (by omega)))))))) (((frm_r f111 (by omega)).trans ((frm_r f25 (by omega)).trans (frm_r f20 (by omega)))).trans (rI_eq e14 ⟨by omega, by omega⟩)) t1.1 t1.2 fb.1 fb.2, Or.inr ⟨GD, Or.inl ⟨rfl, n, o1, o2, by omega, rfl⟩⟩⟩
          · have ob := okN_b (by omega) n o1
            have lb := lx_b (s := 2) (T := sT σ) (L := cn σ 3) ⟨ob.1, ob.2.1⟩
            exact kq _ trivial _ FR115 ⟨_, refT_a HR (fun a u v z n => ((frm_r f111 (by omega)).trans ((frm_r f25 (by omega)).trans ((frm_r f20 (by omega)).trans ((frm_r f15 (by omega)).trans ((frm_r f9 (by omega)).trans (frm_r f3 (by omega)))))))) (((frm_r f111 (by omega)).trans ((frm_r f25 (by omega)).trans (frm_r f20 (by omega)))).trans (rI_eq e14 ⟨by omega, by omega⟩)) t1 t2 ⟨by omega, by omega⟩ ⟨by omega, by omega⟩, Or.inr ⟨GD, Or.inr (Or.inl ⟨rfl, n, o1, o2, o3, rfl⟩)⟩⟩
      · skip
        refine e_goto 72 dX12_text_60 rfl ?_
        refine z_bipush (-2) dX12_text_72 rfl ?_
        refine z_iret dX12_text_74 rfl ⟨rfl, ?_⟩
        exact kq _ trivial _ FR27 ⟨_, refT_a HR (fun a u v z n => ((frm_r f25 (by omega)).trans ((frm_r f20 (by omega)).trans ((frm_r f15 (by omega)).trans ((frm_r f9 (by omega)).trans (frm_r f3 (by omega))))))) (((frm_r f25 (by omega)).trans (frm_r f20 (by omega))).trans (rI_eq e14 ⟨by omega, by omega⟩)) ((frm_r f25 (by omega)).trans (rI_eq e19 ⟨by omega, by omega⟩)) (rI_eq e24 ⟨by omega, by omega⟩) (by omega) (by omega), Or.inl ⟨fun z => by have z2 := z.2; unfold gdC at z2; omega, rfl, rfl⟩⟩
set_option maxHeartbeats 1000000 in
theorem zp_X12_text_x {ad : mA} {dd : Nat} {h : mH} {Q : mQ} {m : Nat} {σ : Sg} (hk : rk h m) (HR : refT h m 0 σ)  (c : Int) (c_r : -2147483648 ≤ c ∧ c < 2147483648) (b : Int) (b_r : -2147483648 ≤ b ∧ b < 2147483648) (pa : ¬ (0 ≤ c ∧ c ≤ 2)) (kq : ∀ v : Int, True → ∀ h1, frm (fun a j => a = m ∨ a = m + 9 ∨ a = m + 10 ∨ ((a = m + 2 ∨ a = m + 3 ∨ a = m + 4) ∧ j = 0) ∨ (a = m + 5 ∧ j < 3) ∨ (a = m + 6 ∧ j < 162) ∨ (a = m + 7 ∧ j < 242) ∨ (a = m + 8 ∧ j < 50)) h h1 → (∃ σ1, refT h1 m 0 σ1 ∧ txR σ c b σ1 v) → Q (some (.int (zI v))) h1) : mCal TB0 ad (dd + 9) M_X12_text [.ref m, .int (zI c), .int (zI b)] h 0 0 Q := by
  refine ⟨Nat.le_of_ble_eq_true rfl, ?_⟩
  show mEv TB0 ad M_X12_text (dd + 9) (0, 0) (mCal TB0 ad (dd + 8)) (fun v h' z => z.1 = 0 ∧ Q v h') 0 [some (.ref m), some (.int (zI c)), some (.int (zI b)), none] [] h (0, 0)
  have FR0 : frm (fun a j => a = m ∨ a = m + 9 ∨ a = m + 10 ∨ ((a = m + 2 ∨ a = m + 3 ∨ a = m + 4) ∧ j = 0) ∨ (a = m + 5 ∧ j < 3) ∨ (a = m + 6 ∧ j < 162) ∨ (a = m + 7 ∧ j < 242) ∨ (a = m + 8 ∧ j < 50)) h h := frm_0 h
  have w1 := wS_n (refT_w HR)
  refine e_aload_n dX12_text_0 rfl ?_
  refine z_iconst (0) dX12_text_1 rfl ?_
  refine z_put dX12_text_2 tf_12_103 (rk_s hk) rfl (Or.inl rfl) (fun h1 e2 => ?_)
  have f3 := frm_1 e2
  have k4 := rk_q (frm_s f3) hk
  have H5 := refT_c f3 (fun a k q1 q2 => by omega) HR
  have FR6 := frm_t FR0 (frm_m (S' := (fun a j => a = m ∨ a = m + 9 ∨ a = m + 10 ∨ ((a = m + 2 ∨ a = m + 3 ∨ a = m + 4) ∧ j = 0) ∨ (a = m + 5 ∧ j < 3) ∨ (a = m + 6 ∧ j < 162) ∨ (a = m + 7 ∧ j < 242) ∨ (a = m + 8 ∧ j < 50))) f3 (fun a k q => by omega))
  refine e_aload_n dX12_text_5 rfl ?_
  refine e_aload_n dX12_text_6 rfl ?_
  refine e_get (.ref (m + 2)) dX12_text_7 tf_12_13 (rk_s k4) (congrArg va_rf (rk_r2 k4)) ?_
  refine z_iconst (0) dX12_text_10 rfl ?_
  refine z_ild (cn σ 3) dX12_text_11 (rk_a2 k4) (by decide) (by omega) (by omega) (((frm_r f3 (by omega))).trans (refT_3 HR)) ?_
  refine z_put dX12_text_12 tf_12_126 (rk_s k4) rfl (Or.inl rfl) (fun h7 e8 => ?_)
  have f9 := frm_1 e8
  have k10 := rk_q (frm_s f9) k4
  have H11 := refT_c f9 (fun a k q1 q2 => by omega) H5
  have FR12 := frm_t FR6 (frm_m (S' := (fun a j => a = m ∨ a = m + 9 ∨ a = m + 10 ∨ ((a = m + 2 ∨ a = m + 3 ∨ a = m + 4) ∧ j = 0) ∨ (a = m + 5 ∧ j < 3) ∨ (a = m + 6 ∧ j < 162) ∨ (a = m + 7 ∧ j < 242) ∨ (a = m + 8 ∧ j < 50))) f9 (fun a k q => by omega))
  refine e_aload_n dX12_text_15 rfl ?_
  refine e_get (.ref (m + 2)) dX12_text_16 tf_12_13 (rk_s k10) (congrArg va_rf (rk_r2 k10)) ?_
  refine z_iconst (0) dX12_text_19 rfl ?_
  refine z_iconst (0) dX12_text_20 rfl ?_
  refine z_ist dX12_text_21 (rk_a2 k10) (by decide) (by omega) (by omega) (fun h13 e14 => ?_)
  have f15 := frm_1 e14
  have k16 := rk_q (frm_s f15) k10
  have FR17 := frm_t FR12 (frm_m (S' := (fun a j => a = m ∨ a = m + 9 ∨ a = m + 10 ∨ ((a = m + 2 ∨ a = m + 3 ∨ a = m + 4) ∧ j = 0) ∨ (a = m + 5 ∧ j < 3) ∨ (a = m + 6 ∧ j < 162) ∨ (a = m + 7 ∧ j < 242) ∨ (a = m + 8 ∧ j < 50))) f15 (fun a k q => by omega))
  refine e_aload_n dX12_text_22 rfl ?_
  refine e_get (.ref (m + 3)) dX12_text_23 tf_12_17 (rk_s k16) (congrArg va_rf (rk_r3 k16)) ?_
  refine z_iconst (0) dX12_text_26 rfl ?_
  refine z_iconst (0) dX12_text_27 rfl ?_
  refine z_ist dX12_text_28 (rk_a3 k16) (by decide) (by omega) (by omega) (fun h18 e19 => ?_)
  have f20 := frm_1 e19
  have k21 := rk_q (frm_s f20) k16
  have FR22 := frm_t FR17 (frm_m (S' := (fun a j => a = m ∨ a = m + 9 ∨ a = m + 10 ∨ ((a = m + 2 ∨ a = m + 3 ∨ a = m + 4) ∧ j = 0) ∨ (a = m + 5 ∧ j < 3) ∨ (a = m + 6 ∧ j < 162) ∨ (a = m + 7 ∧ j < 242) ∨ (a = m + 8 ∧ j < 50))) f20 (fun a k q => by omega))
  refine e_aload_n dX12_text_29 rfl ?_
  refine e_get (.ref (m + 4)) dX12_text_30 tf_12_20 (rk_s k21) (congrArg va_rf (rk_r4 k21)) ?_
  refine z_iconst (0) dX12_text_33 rfl ?_
  refine z_iconst (-1) dX12_text_34 rfl ?_
  refine z_ist dX12_text_35 (rk_a4 k21) (by decide) (by omega) (by omega) (fun h23 e24 => ?_)
  have f25 := frm_1 e24
  have k26 := rk_q (frm_s f25) k21
  have FR27 := frm_t FR22 (frm_m (S' := (fun a j => a = m ∨ a = m + 9 ∨ a = m + 10 ∨ ((a = m + 2 ∨ a = m + 3 ∨ a = m + 4) ∧ j = 0) ∨ (a = m + 5 ∧ j < 3) ∨ (a = m + 6 ∧ j < 162) ∨ (a = m + 7 ∧ j < 242) ∨ (a = m + 8 ∧ j < 50))) f25 (fun a k q => by omega))
  refine e_iload_n dX12_text_36 rfl ?_
  refine z_iconst (0) dX12_text_37 rfl ?_
  refine z_iconst (2) dX12_text_38 rfl ?_
  refine e_callS [.int _, .int _, .int _] dX12_text_39 tm_12_115 rfl (Nat.le_of_ble_eq_true rfl) (Nat.le_refl _) (Nat.le_refl _) rfl (zp_X12_in c ⟨by omega, by omega⟩ 0 ⟨by omega, by omega⟩ 2 ⟨by omega, by omega⟩ ?_)
  refine z_ifb_eq 72 dX12_text_42 rfl (fun c28 => ?_) (fun c28 => ?_)
  · skip
    refine z_bipush (-2) dX12_text_72 rfl ?_
    refine z_iret dX12_text_74 rfl ⟨rfl, ?_⟩
    exact kq _ trivial _ FR27 ⟨_, refT_a HR (fun a u v z n => ((frm_r f25 (by omega)).trans ((frm_r f20 (by omega)).trans ((frm_r f15 (by omega)).trans ((frm_r f9 (by omega)).trans (frm_r f3 (by omega))))))) (((frm_r f25 (by omega)).trans (frm_r f20 (by omega))).trans (rI_eq e14 ⟨by omega, by omega⟩)) ((frm_r f25 (by omega)).trans (rI_eq e19 ⟨by omega, by omega⟩)) (rI_eq e24 ⟨by omega, by omega⟩) (by omega) (by omega), Or.inl ⟨fun z => pa z.1, rfl, rfl⟩⟩
  · exfalso; omega
